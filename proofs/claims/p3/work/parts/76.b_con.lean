def ws_mb_X12_operand : List Cond := .code yX12_operand cX12_operand 4 (some .boolean) :: WX
set_option maxHeartbeats 4000000 in
set_option maxRecDepth 100000 in
theorem mb_X12_operand (l : Launch) (dC : Nat → ClassId) (dI : Nat → Nat → Nat) (cB cI cJ cZ cQ : ClassId) (q : Nat → Nat) (A : St) (hI : IM A) (hp0 : RI 0 A) (hp1 : A 0 8 = 0) (hp2 : PR A) (hp3 : SP A) (hcCI : CI A) : XMi l yX12_operand ws_mb_X12_operand ({ frames := 3, cells := 0, slots := 0, locals := 68 } : Room) (dC, dI) (tyA cB cI cJ cZ cQ) (WM cI cJ cZ q) A [.ref (q 0)] (fun z u => IM u ∧ fr [33, 34, 35, 36, 37, 38, 39, 40] [3, 4, 5, 6, 7, 8, 9, 46, 53, 54, 56] A u ∧ CI u ∧ ((0 ≤ z ∧ z ≤ 1) ∧ (Hd (u 0 8 = 0 → RI z u ∧ (PR u ∧ SP u) ∧ A 0 4 + 1 ≤ u 0 4)))) := by
  refine x_metz (cc := cX12_operand) (maxL := 4) WM_adr (by decide +kernel) rfl (Nat.le_of_ble_eq_true rfl) (fun z u h => h.2.2.2.1) (fun p e s m below meth c Q AS ls hx hb hml hown hts hK hDD hA0 hP hS hl RET => ?_)
  have hown : s.vm.findClass RX12 = some m.cls := hown
  have hl : lv_has ls 4 [(0, .ref (q 0))] := hl
  have hiX12 : ∀ w ∈ u_ws RX12 TX12 85, w ∈ ws_mb_X12_operand := fun w h => List.mem_cons_of_mem _ (wx_lay w h)
  obtain ⟨H, hHe⟩ : ∃ H : Heap, H = s.heap := ⟨_, rfl⟩
  rw [← hHe] at hP
  have hS : va_S AS s.heap H [] := by rw [hHe]; exact hS
  suffices hgo : ∀ locs : List Loc, va_S AS s.heap H locs → W p l e (headSpec ws_mb_X12_operand ({ frames := 3, cells := 0, slots := 0, locals := 68 } : Room)).room s m [.ref (q 0)].toArray below meth c H locs 0 0 Q (F0 m 0 ls []) by
    have := hgo [] hS
    rw [hHe] at this
    exact this
  clear hS hHe
  intro locs hS
  have hI0 := hI
  have hdp := RI.deep hp0 hI0
  have hrm := RI.room hp0 hI0
  have r_A_0_3 : (0 : Int) ≤ (A 0 3) ∧ (A 0 3) ≤ 3 := hI 0 3
  have r_A_0_4 : (0 : Int) ≤ (A 0 4) ∧ (A 0 4) ≤ 1600 := hI 0 4
  have r_A_0_5 : (0 : Int) ≤ (A 0 5) ∧ (A 0 5) ≤ 1600 := hI 0 5
  have r_A_0_7 : (-9223372036854775808 : Int) ≤ (A 0 7) ∧ (A 0 7) ≤ 9223372036854775807 := hI 0 7
  have r_A_0_8 : (0 : Int) ≤ (A 0 8) ∧ (A 0 8) ≤ 5 := hI 0 8
  have r_A_0_46 : (0 : Int) ≤ (A 0 46) ∧ (A 0 46) ≤ 1600 := hI 0 46
  have r_A_0_47 : (0 : Int) ≤ (A 0 47) ∧ (A 0 47) ≤ 1 := hI 0 47
  have r_A_0_53 : (0 : Int) ≤ (A 0 53) ∧ (A 0 53) ≤ 20 := hI 0 53
  have r_A_0_54 : (0 : Int) ≤ (A 0 54) ∧ (A 0 54) ≤ 8 := hI 0 54
  have r_A_0_56 : (0 : Int) ≤ (A 0 56) ∧ (A 0 56) ≤ 500 := hI 0 56
  refine lv_aload_n hx hb dX12_operand_0 rfl (lv_at hl 0 rfl) ?_
  refine va_get (D := (dC, dI)) (ci := 12) (v := .int (iI (A 0 53))) (C := RX12) (T := TX12) (N := 85) hx hb hts hiX12 hown hK hP 0 wm0 rfl 53 (by decide) (hts _ (List.mem_cons_of_mem _ (wl_in_1 _ (List.mem_of_getElem? (i := 37) rfl)))) (fun _ h9 => h9) rfl dX12_operand_1 ?_
  refine lv_iconst (v := iI 1) hx hb dX12_operand_4 (by decide +kernel) ?_
  refine x_subv (v := (A 0 53) - 1) hx hb dX12_operand_5 (by omega) ?_
  refine lv_istore_n (lv' := [(1, .int (iI ((A 0 53) - 1))), (0, .ref (q 0))]) hx hb dX12_operand_6 rfl hl (by decide) rfl (fun ls hl => ?_)
  refine lv_aload_n hx hb dX12_operand_7 rfl (lv_at hl 1 rfl) ?_
  refine va_get (D := (dC, dI)) (ci := 12) (v := .ref (q 35)) (C := RX12) (T := TX12) (N := 85) hx hb hts hiX12 hown hK hP 0 wm0 rfl 48 (by decide) (hts _ (List.mem_cons_of_mem _ (wl_in_1 _ (List.mem_of_getElem? (i := 46) rfl)))) (fun _ h9 => h9) rfl dX12_operand_8 ?_
  refine lv_iload_n hx hb dX12_operand_11 rfl (lv_at hl 0 rfl) ?_
  refine x_iald hx hb hK hP 35 1 wm35 rfl (by omega) (by decide) dX12_operand_12 (fun z1 hz1 => ?_)
  have rz1 : (0 : Int) ≤ z1 ∧ z1 ≤ 5 := by rw [hz1]; exact hI 35 _
  have hz1 : z1 = A 35 ((A 0 53) - 1).toNat := hz1
  refine x_callSi (As := [.int (iI z1)]) (rest := []) ⟨hx, hb, hml, hown, hts⟩ (mc_X12_isTest l dC dI cB cI cJ cZ cQ q _ z1 hI (rb rz1 (by decide) (by decide))) (va_cwS 1 hts (goodS (wl_in_1 _ (List.mem_of_getElem? (i := 57) rfl)) (wl_in_1 _ (List.mem_of_getElem? (i := 58) rfl)) (wl_in_0 _ (List.mem_of_getElem? (i := 8) rfl)) (wl_in_1 _ (List.mem_of_getElem? (i := 54) rfl))) rfl rfl rfl (by decide +kernel) ⟨Nat.le_of_ble_eq_true rfl, Nat.le_of_ble_eq_true rfl⟩) hK hDD hA0 hP hS rfl hl.1 (Nat.le_of_ble_eq_true rfl) dX12_operand_13 (fun z2 A3 H locs hw4 hP hS => ?_)
  obtain ⟨rfl, hw4⟩ := hw4
  have J33_7 : ∀ (z11 : Int) (H : Heap) (locs : List Loc) (ls : Array Slot), (0 ≤ z11 ∧ z11 ≤ 1) → ((z11 = 1 ∧ ¬ z2 = 0) ∨ (z11 = 0)) → (Hd (z11 = 1 → A 37 (A 0 53 - 1).toNat = 1)) → va_P (dC, dI) vwCl (WM cI cJ cZ q A) H → va_S AS s.heap H locs → lv_has ls 4 [(1, .int (iI ((A 0 53) - 1))), (0, .ref (q 0))] → W p l e (headSpec ws_mb_X12_operand ({ frames := 3, cells := 0, slots := 0, locals := 68 } : Room)).room s m [.ref (q 0)].toArray below meth c H locs 0 0 Q (F0 m 33 ls [.int (iI z11)]) := by
    intro z11 H locs ls f13 f14 f15 hP hS hl
    refine lv_istore_n (lv' := [(2, .int (iI z11)), (1, .int (iI ((A 0 53) - 1))), (0, .ref (q 0))]) hx hb dX12_operand_33 rfl hl (by decide) rfl (fun ls hl => ?_)
    refine lv_iload_n hx hb dX12_operand_34 rfl (lv_at hl 0 rfl) ?_
    have J60_17 : ∀ (H : Heap) (locs : List Loc) (ls : Array Slot), va_P (dC, dI) vwCl (WM cI cJ cZ q A) H → va_S AS s.heap H locs → lv_has ls 4 [(2, .int (iI z11)), (1, .int (iI ((A 0 53) - 1))), (0, .ref (q 0))] → W p l e (headSpec ws_mb_X12_operand ({ frames := 3, cells := 0, slots := 0, locals := 68 } : Room)).room s m [.ref (q 0)].toArray below meth c H locs 0 0 Q (F0 m 60 ls []) := by
      intro H locs ls hP hS hl
      refine lv_aload_n hx hb dX12_operand_60 rfl (lv_at hl 2 rfl) ?_
      refine va_get (D := (dC, dI)) (ci := 12) (v := .ref (q 37)) (C := RX12) (T := TX12) (N := 85) hx hb hts hiX12 hown hK hP 0 wm0 rfl 50 (by decide) (hts _ (List.mem_cons_of_mem _ (wl_in_1 _ (List.mem_of_getElem? (i := 48) rfl)))) (fun _ h9 => h9) rfl dX12_operand_61 ?_
      refine lv_iload_n hx hb dX12_operand_64 rfl (lv_at hl 1 rfl) ?_
      refine lv_iconst (v := iI 0) hx hb dX12_operand_65 (by decide +kernel) ?_
      refine x_zast hx hb hK hP hDD hS 37 3 wm37 rfl (by omega) (by decide) dX12_operand_66 (by omega) ws37 (fun H locs hP hS => ?_)
      have hI := hI.st (j := 37) (i := ((A 0 53) - 1).toNat) (v := 0) (show (0 : Int) ≤ 0 ∧ 0 ≤ 1 from (by omega))
      obtain ⟨A49, hA49⟩ : ∃ A49 : St, A49 = (stA A 37 ((A 0 53) - 1).toNat 0) := ⟨_, rfl⟩
      rw [← hA49] at hP hI
      have e37 : A49 37 = up (A 37) (A 0 53 - 1).toNat 0 := by rw [hA49]; rfl
      have e_A49_3 : A49 0 3 = (A 0 3) := by rw [hA49]; exact rfl
      have e_A49_4 : A49 0 4 = (A 0 4) := by rw [hA49]; exact rfl
      have e_A49_5 : A49 0 5 = (A 0 5) := by rw [hA49]; exact rfl
      have e_A49_7 : A49 0 7 = (A 0 7) := by rw [hA49]; exact rfl
      have e_A49_8 : A49 0 8 = (A 0 8) := by rw [hA49]; exact rfl
      have e_A49_46 : A49 0 46 = (A 0 46) := by rw [hA49]; exact rfl
      have e_A49_47 : A49 0 47 = (A 0 47) := by rw [hA49]; exact rfl
      have e_A49_53 : A49 0 53 = (A 0 53) := by rw [hA49]; exact rfl
      have e_A49_54 : A49 0 54 = (A 0 54) := by rw [hA49]; exact rfl
      have e_A49_56 : A49 0 56 = (A 0 56) := by rw [hA49]; exact rfl
      have ca50 : A49 29 = A 29 := by rw [hA49]; exact rfl
      have ca51 : A49 31 = A 31 := by rw [hA49]; exact rfl
      have ca52 : A49 33 = A 33 := by rw [hA49]; exact rfl
      have ca53 : A49 35 = A 35 := by rw [hA49]; exact rfl
      have ca54 : A49 39 = A 39 := by rw [hA49]; exact rfl
      have ca55 : A49 40 = A 40 := by rw [hA49]; exact rfl
      have ca56 : A49 1 = A 1 := by rw [hA49]; exact rfl
      have hri1 : RI 0 A49 := RI.beg hp0 hI0 ⟨ca50, ca51, ca52, ca53, e37, ca54, ca55, e_A49_46, e_A49_47, e_A49_53, e_A49_54, e_A49_56⟩ ca56 (by omega) (by omega) (by omega) (by omega)
      have hb1 : A49 37 (A49 0 53 - 1).toNat = 0 := by rw [show A49 0 53 = A 0 53 by omega, e37, up_same]
      have hI1 := hI
      refine lv_iload_n hx hb dX12_operand_67 rfl (lv_at hl 0 rfl) ?_
      have J87_58 : ∀ (H : Heap) (locs : List Loc) (ls : Array Slot), va_P (dC, dI) vwCl (WM cI cJ cZ q A49) H → va_S AS s.heap H locs → lv_has ls 4 [(2, .int (iI z11)), (1, .int (iI ((A 0 53) - 1))), (0, .ref (q 0))] → W p l e (headSpec ws_mb_X12_operand ({ frames := 3, cells := 0, slots := 0, locals := 68 } : Room)).room s m [.ref (q 0)].toArray below meth c H locs 0 0 Q (F0 m 87 ls []) := by
        intro H locs ls hP hS hl
        refine lv_iload_n hx hb dX12_operand_87 rfl (lv_at hl 0 rfl) ?_
        have J121_75 : ∀ (H : Heap) (locs : List Loc) (ls : Array Slot), va_P (dC, dI) vwCl (WM cI cJ cZ q A49) H → va_S AS s.heap H locs → lv_has ls 4 [(2, .int (iI z11)), (1, .int (iI ((A 0 53) - 1))), (0, .ref (q 0))] → W p l e (headSpec ws_mb_X12_operand ({ frames := 3, cells := 0, slots := 0, locals := 68 } : Room)).room s m [.ref (q 0)].toArray below meth c H locs 0 0 Q (F0 m 121 ls []) := by
          intro H locs ls hP hS hl
          refine lv_aload_n hx hb dX12_operand_121 rfl (lv_at hl 2 rfl) ?_
          refine lv_bipush (v := iI 40) hx hb dX12_operand_122 (by decide +kernel) ?_
          have e_A49_6 : A49 0 6 = (A 0 6) := by rw [hA49]; exact rfl
          have r_A_0_6 : (-2147483648 : Int) ≤ (A 0 6) ∧ (A 0 6) ≤ 2147483647 := by rw [← e_A49_6]; exact hI 0 6
          refine x_calli (As := [.int (iI 40)]) (rest := []) ⟨hx, hb, hml, hown, hts⟩ (mb_X12_isSign l dC dI cB cI cJ cZ cQ q _ 40 hI ⟨by decide, by decide⟩) (cwV 1 hts (goodV (wl_in_0 _ (List.mem_of_getElem? (i := 37) rfl)) (wl_in_0 _ (List.mem_of_getElem? (i := 38) rfl)) (wl_in_0 _ (List.mem_of_getElem? (i := 39) rfl)) (wl_in_0 _ (List.mem_of_getElem? (i := 8) rfl)) (wl_in_0 _ (List.mem_of_getElem? (i := 34) rfl))) rfl rfl rfl (by decide +kernel) ⟨Nat.le_of_ble_eq_true rfl, Nat.le_of_ble_eq_true rfl⟩) hK hDD hA0 hP hS 0 12 wm0 rfl rfl hl.1 (Nat.le_of_ble_eq_true rfl) dX12_operand_124 (fun z120 A121 H locs hw122 hP hS => ?_)
          obtain ⟨rfl, hw122⟩ := hw122
          have rz120 : 0 ≤ z120 ∧ z120 ≤ 1 := hw122.1
          replace hw122 := Hd.mk hw122.2
          refine lv_if_eq (tgt := 137) hx hb dX12_operand_127 (by decide) (fun c123 => ?_) (fun c123 => ?_)
          · have c123 : z120 = 0 := (i_eq0 (rb rz120 (by decide) (by decide))).mp c123
            refine lv_aload_n hx hb dX12_operand_137 rfl (lv_at hl 2 rfl) ?_
            refine lv_ldc2 (v := 7170414) hx hb hown (hts _ (List.mem_cons_of_mem _ (wl_in_1 _ (List.mem_of_getElem? (i := 8) rfl)))) dX12_operand_138 ?_
            refine tp_l (y := jI 7170414) (by decide +kernel) ?_
            refine x_calli (As := [.long (jI 7170414)]) (rest := []) ⟨hx, hb, hml, hown, hts⟩ (mb_X12_isWord l dC dI cB cI cJ cZ cQ q _ 7170414 hI ⟨by decide, by decide⟩) (cwV 1 hts (goodV (wl_in_1 _ (List.mem_of_getElem? (i := 59) rfl)) (wl_in_2 _ (List.mem_of_getElem? (i := 0) rfl)) (wl_in_2 _ (List.mem_of_getElem? (i := 1) rfl)) (wl_in_0 _ (List.mem_of_getElem? (i := 8) rfl)) (wl_in_0 _ (List.mem_of_getElem? (i := 35) rfl))) rfl rfl rfl (by decide +kernel) ⟨Nat.le_of_ble_eq_true rfl, Nat.le_of_ble_eq_true rfl⟩) hK hDD hA0 hP hS 0 12 wm0 rfl rfl hl.1 (Nat.le_of_ble_eq_true rfl) dX12_operand_141 (fun z124 A125 H locs hw126 hP hS => ?_)
            obtain ⟨rfl, hw126⟩ := hw126
            have rz124 : 0 ≤ z124 ∧ z124 ≤ 1 := hw126.1
            replace hw126 := Hd.mk hw126.2
            have J157_128 : ∀ (H : Heap) (locs : List Loc) (ls : Array Slot), ((A49 0 3) = 1) → va_P (dC, dI) vwCl (WM cI cJ cZ q A49) H → va_S AS s.heap H locs → lv_has ls 4 [(2, .int (iI z11)), (1, .int (iI ((A 0 53) - 1))), (0, .ref (q 0))] → W p l e (headSpec ws_mb_X12_operand ({ frames := 3, cells := 0, slots := 0, locals := 68 } : Room)).room s m [.ref (q 0)].toArray below meth c H locs 0 0 Q (F0 m 157 ls []) := by
              intro H locs ls f193 hP hS hl
              refine lv_aload_n hx hb dX12_operand_157 rfl (lv_at hl 2 rfl) ?_
              refine lv_ldc2 (v := 7170414) hx hb hown (hts _ (List.mem_cons_of_mem _ (wl_in_1 _ (List.mem_of_getElem? (i := 8) rfl)))) dX12_operand_158 ?_
              refine tp_l (y := jI 7170414) (by decide +kernel) ?_
              refine x_calli (As := [.long (jI 7170414)]) (rest := []) ⟨hx, hb, hml, hown, hts⟩ (mb_X12_isWord l dC dI cB cI cJ cZ cQ q _ 7170414 hI ⟨by decide, by decide⟩) (cwV 1 hts (goodV (wl_in_1 _ (List.mem_of_getElem? (i := 59) rfl)) (wl_in_2 _ (List.mem_of_getElem? (i := 0) rfl)) (wl_in_2 _ (List.mem_of_getElem? (i := 1) rfl)) (wl_in_0 _ (List.mem_of_getElem? (i := 8) rfl)) (wl_in_0 _ (List.mem_of_getElem? (i := 35) rfl))) rfl rfl rfl (by decide +kernel) ⟨Nat.le_of_ble_eq_true rfl, Nat.le_of_ble_eq_true rfl⟩) hK hDD hA0 hP hS 0 12 wm0 rfl rfl hl.1 (Nat.le_of_ble_eq_true rfl) dX12_operand_161 (fun z194 A195 H locs hw196 hP hS => ?_)
              obtain ⟨rfl, hw196⟩ := hw196
              have rz194 : 0 ≤ z194 ∧ z194 ≤ 1 := hw196.1
              replace hw196 := Hd.mk hw196.2
              have ez194 : z194 = z124 := by have a := hw126.out; have b := hw196.out; omega
              have J174_198 : ∀ (z199 : Int) (H : Heap) (locs : List Loc) (ls : Array Slot), (15 ≤ z199 ∧ z199 ≤ 16) → ((z199 = 16 ∧ z194 = 0) ∨ (z199 = 15 ∧ ¬ z194 = 0)) → va_P (dC, dI) vwCl (WM cI cJ cZ q A49) H → va_S AS s.heap H locs → lv_has ls 4 [(2, .int (iI z11)), (1, .int (iI ((A 0 53) - 1))), (0, .ref (q 0))] → W p l e (headSpec ws_mb_X12_operand ({ frames := 3, cells := 0, slots := 0, locals := 68 } : Room)).room s m [.ref (q 0)].toArray below meth c H locs 0 0 Q (F0 m 174 ls [.int (iI z199)]) := by
                intro z199 H locs ls f201 f202 hP hS hl
                refine lv_istore_n (lv' := [(3, .int (iI z199)), (2, .int (iI z11)), (1, .int (iI ((A 0 53) - 1))), (0, .ref (q 0))]) hx hb dX12_operand_174 rfl hl (by decide) rfl (fun ls hl => ?_)
                refine lv_aload_n hx hb dX12_operand_175 rfl (lv_at hl 3 rfl) ?_
                refine x_callv (As := []) (rest := []) ⟨hx, hb, hml, hown, hts⟩ (mb_X12_ahead l dC dI cB cI cJ cZ cQ q _ hI) (cwV 0 hts (goodV (wl_in_0 _ (List.mem_of_getElem? (i := 40) rfl)) (wl_in_0 _ (List.mem_of_getElem? (i := 41) rfl)) (wl_in_0 _ (List.mem_of_getElem? (i := 42) rfl)) (wl_in_0 _ (List.mem_of_getElem? (i := 8) rfl)) (wl_in_0 _ (List.mem_of_getElem? (i := 20) rfl))) rfl rfl rfl (by decide +kernel) ⟨Nat.le_of_ble_eq_true rfl, Nat.le_of_ble_eq_true rfl⟩) hK hDD hA0 hP hS 0 12 wm0 rfl rfl hl.1 (Nat.le_of_ble_eq_true rfl) dX12_operand_176 (fun A203 H locs hw204 hP hS => ?_)
                obtain ⟨hI, hf205, hw204⟩ := hw204
                have r_A203_0_3 : (0 : Int) ≤ (A203 0 3) ∧ (A203 0 3) ≤ 3 := hI 0 3
                have r_A203_0_4 : (0 : Int) ≤ (A203 0 4) ∧ (A203 0 4) ≤ 1600 := hI 0 4
                have r_A203_0_5 : (0 : Int) ≤ (A203 0 5) ∧ (A203 0 5) ≤ 1600 := hI 0 5
                have r_A203_0_8 : (0 : Int) ≤ (A203 0 8) ∧ (A203 0 8) ≤ 5 := hI 0 8
                have e_A203_46 : A203 0 46 = (A 0 46) := (hf205.2 46 rfl).trans e_A49_46
                have e_A203_47 : A203 0 47 = (A 0 47) := (hf205.2 47 rfl).trans e_A49_47
                have e_A203_53 : A203 0 53 = (A 0 53) := (hf205.2 53 rfl).trans e_A49_53
                have e_A203_54 : A203 0 54 = (A 0 54) := (hf205.2 54 rfl).trans e_A49_54
                have e_A203_56 : A203 0 56 = (A 0 56) := (hf205.2 56 rfl).trans e_A49_56
                have r_A203_0_7 : (-9223372036854775808 : Int) ≤ (A203 0 7) ∧ (A203 0 7) ≤ 9223372036854775807 := hI 0 7
                have ca206 : A203 29 = A49 29 := (hf205.1 29 (by decide) rfl)
                have ca207 : A203 31 = A49 31 := (hf205.1 31 (by decide) rfl)
                have ca208 : A203 33 = A49 33 := (hf205.1 33 (by decide) rfl)
                have ca209 : A203 35 = A49 35 := (hf205.1 35 (by decide) rfl)
                have ca210 : A203 37 = A49 37 := (hf205.1 37 (by decide) rfl)
                have ca211 : A203 39 = A49 39 := (hf205.1 39 (by decide) rfl)
                have ca212 : A203 40 = A49 40 := (hf205.1 40 (by decide) rfl)
                have hri2 : RI 0 A203 := RI.skip hri1 (by omega) ⟨ca206, ca207, ca208, ca209, ca210, ca211, ca212, (e_A203_46.trans e_A49_46.symm), (e_A203_47.trans e_A49_47.symm), (e_A203_53.trans e_A49_53.symm), (e_A203_54.trans e_A49_54.symm), (e_A203_56.trans e_A49_56.symm)⟩ (by omega) hw204.2.1 hw204.2.2.1
                have ca213 : A203 37 = A49 37 := (hf205.1 37 (by decide) rfl)
                have hb2 : A203 37 (A203 0 53 - 1).toNat = 0 := by rw [show A203 0 53 = A49 0 53 by omega, ca213]; exact hb1
                refine lv_aload_n hx hb dX12_operand_179 rfl (lv_at hl 3 rfl) ?_
                refine lv_bipush (v := iI 40) hx hb dX12_operand_180 (by decide +kernel) ?_
                have r_A203_0_6 : (-2147483648 : Int) ≤ (A203 0 6) ∧ (A203 0 6) ≤ 2147483647 := hI 0 6
                refine x_calli (As := [.int (iI 40)]) (rest := []) ⟨hx, hb, hml, hown, hts⟩ (mb_X12_isSign l dC dI cB cI cJ cZ cQ q _ 40 hI ⟨by decide, by decide⟩) (cwV 1 hts (goodV (wl_in_0 _ (List.mem_of_getElem? (i := 37) rfl)) (wl_in_0 _ (List.mem_of_getElem? (i := 38) rfl)) (wl_in_0 _ (List.mem_of_getElem? (i := 39) rfl)) (wl_in_0 _ (List.mem_of_getElem? (i := 8) rfl)) (wl_in_0 _ (List.mem_of_getElem? (i := 34) rfl))) rfl rfl rfl (by decide +kernel) ⟨Nat.le_of_ble_eq_true rfl, Nat.le_of_ble_eq_true rfl⟩) hK hDD hA0 hP hS 0 12 wm0 rfl rfl hl.1 (Nat.le_of_ble_eq_true rfl) dX12_operand_182 (fun z214 A215 H locs hw216 hP hS => ?_)
                obtain ⟨rfl, hw216⟩ := hw216
                have rz214 : 0 ≤ z214 ∧ z214 ≤ 1 := hw216.1
                replace hw216 := Hd.mk hw216.2
                have J197_218 : ∀ (A223 : St) (H : Heap) (locs : List Loc) (ls : Array Slot), (Hd ((A223 0 8) = 0 → (RI 0 A223 ∧ A223 0 3 ≠ 0 ∧ A223 37 (A223 0 53 - 1).toNat = 0) ∧ A203 0 8 = 0)) → IM A223 → fr [] [8, 9] A203 A223 → va_P (dC, dI) vwCl (WM cI cJ cZ q A223) H → va_S AS s.heap H locs → lv_has ls 4 [(3, .int (iI z199)), (2, .int (iI z11)), (1, .int (iI ((A 0 53) - 1))), (0, .ref (q 0))] → W p l e (headSpec ws_mb_X12_operand ({ frames := 3, cells := 0, slots := 0, locals := 68 } : Room)).room s m [.ref (q 0)].toArray below meth c H locs 0 0 Q (F0 m 197 ls []) := by
                  intro A223 H locs ls f224 hI hj222 hP hS hl
                  refine lv_aload_n hx hb dX12_operand_197 rfl (lv_at hl 3 rfl) ?_
                  refine lv_iconst (v := iI 3) hx hb dX12_operand_198 (by decide +kernel) ?_
                  have e_A223_3 : A223 0 3 = (A203 0 3) := (hj222.2 3 rfl)
                  have r_A223_0_8 : (0 : Int) ≤ (A223 0 8) ∧ (A223 0 8) ≤ 5 := hI 0 8
                  have e_A223_53 : A223 0 53 = (A 0 53) := (hj222.2 53 rfl).trans e_A203_53
                  have e_A223_5 : A223 0 5 = (A203 0 5) := (hj222.2 5 rfl)
                  have e_A223_56 : A223 0 56 = (A 0 56) := (hj222.2 56 rfl).trans e_A203_56
                  refine x_callv (As := [.int (iI 3)]) (rest := []) ⟨hx, hb, hml, hown, hts⟩ (mb_X12_opens l dC dI cB cI cJ cZ cQ q _ 3 hI ⟨by decide, by decide⟩ (by exact Hd.mk (fun h => (f224.out h).1)) (by omega)) (cwV 1 hts (goodV (wl_in_2 _ (List.mem_of_getElem? (i := 5) rfl)) (wl_in_2 _ (List.mem_of_getElem? (i := 6) rfl)) (wl_in_2 _ (List.mem_of_getElem? (i := 7) rfl)) (wl_in_0 _ (List.mem_of_getElem? (i := 8) rfl)) (wl_in_1 _ (List.mem_of_getElem? (i := 49) rfl))) rfl rfl rfl (by decide +kernel) ⟨Nat.le_of_ble_eq_true rfl, Nat.le_of_ble_eq_true rfl⟩) hK hDD hA0 hP hS 0 12 wm0 rfl rfl hl.1 (Nat.le_of_ble_eq_true rfl) dX12_operand_199 (fun A225 H locs hw226 hP hS => ?_)
                  obtain ⟨hI, hf227, hw226⟩ := hw226
                  have r_A225_0_4 : (0 : Int) ≤ (A225 0 4) ∧ (A225 0 4) ≤ 1600 := hI 0 4
                  have r_A225_0_8 : (0 : Int) ≤ (A225 0 8) ∧ (A225 0 8) ≤ 5 := hI 0 8
                  have r_A225_0_53 : (0 : Int) ≤ (A225 0 53) ∧ (A225 0 53) ≤ 20 := hI 0 53
                  refine lv_aload_n hx hb dX12_operand_202 rfl (lv_at hl 3 rfl) ?_
                  refine va_get (D := (dC, dI)) (ci := 12) (v := .int (iI (A225 0 8))) (C := RX12) (T := TX12) (N := 85) hx hb hts hiX12 hown hK hP 0 wm0 rfl 8 (by decide) (hts _ (List.mem_cons_of_mem _ (wl_in_0 _ (List.mem_of_getElem? (i := 16) rfl)))) (fun _ h9 => h9) rfl dX12_operand_203 ?_
                  refine lv_if_ne (tgt := 221) hx hb dX12_operand_206 (by decide) (fun c228 => ?_) (fun c228 => ?_)
                  · have c228 : ¬ (A225 0 8) = 0 := mt (i_eq0 (rb r_A225_0_8 (by decide) (by decide))).mpr c228
                    refine lv_iconst (v := iI 0) hx hb dX12_operand_221 (by decide +kernel) ?_
                    have r_A225_0_5 : (0 : Int) ≤ (A225 0 5) ∧ (A225 0 5) ≤ 1600 := hI 0 5
                    exact RET 0 _ _ _ _ _ ⟨hI, fr.trans (fr.trans (fr.trans (fr_def hA49 (fr.st (fr.rf) (by decide) rfl)) hf205 rfl rfl) hj222 rfl rfl) hf227 rfl rfl, (CI.fr (CI.fr (CI.fr (CI.fr hcCI (fr_def hA49 (fr.st (fr.rf (M := [37]) (N := [])) (by decide) rfl)) rfl rfl) hf205 rfl rfl) hj222 rfl rfl) hf227 rfl rfl), ⟨by decide, Hd.mk (fun h => absurd h (by omega))⟩⟩ hP hS dX12_operand_222
                  · have c228 : (A225 0 8) = 0 := (i_eq0 (rb r_A225_0_8 (by decide) (by decide))).mp c228
                    have hlt := RI.lt hri1 (by omega)
                    have go := hw226.out (by omega)
                    have gm := f224.out go.2.2.1
                    have hdq := RI.deep go.1 hI
                    have e_A223_46 : A223 0 46 = (A 0 46) := (hj222.2 46 rfl).trans e_A203_46
                    have e_A225_46 : A225 0 46 = (A 0 46) := (hf227.2 46 rfl).trans e_A223_46
                    have e_A223_47 : A223 0 47 = (A 0 47) := (hj222.2 47 rfl).trans e_A203_47
                    have e_A225_47 : A225 0 47 = (A 0 47) := (hf227.2 47 rfl).trans e_A223_47
                    have e_A225_56 : A225 0 56 = (A 0 56) := (hf227.2 56 rfl).trans e_A223_56
                    have r_A225_0_3 : (0 : Int) ≤ (A225 0 3) ∧ (A225 0 3) ≤ 3 := hI 0 3
                    have r_A225_0_5 : (0 : Int) ≤ (A225 0 5) ∧ (A225 0 5) ≤ 1600 := hI 0 5
                    have r_A225_0_7 : (-9223372036854775808 : Int) ≤ (A225 0 7) ∧ (A225 0 7) ≤ 9223372036854775807 := hI 0 7
                    have r_A225_0_54 : (0 : Int) ≤ (A225 0 54) ∧ (A225 0 54) ≤ 8 := hI 0 54
                    refine lv_aload_n hx hb dX12_operand_209 rfl (lv_at hl 3 rfl) ?_
                    refine va_get (D := (dC, dI)) (ci := 12) (v := .ref (q 38)) (C := RX12) (T := TX12) (N := 85) hx hb hts hiX12 hown hK hP 0 wm0 rfl 51 (by decide) (hts _ (List.mem_cons_of_mem _ (wl_in_1 _ (List.mem_of_getElem? (i := 56) rfl)))) (fun _ h9 => h9) rfl dX12_operand_210 ?_
                    refine lv_aload_n hx hb dX12_operand_213 rfl (lv_at hl 3 rfl) ?_
                    refine va_get (D := (dC, dI)) (ci := 12) (v := .int (iI (A225 0 53))) (C := RX12) (T := TX12) (N := 85) hx hb hts hiX12 hown hK hP 0 wm0 rfl 53 (by decide) (hts _ (List.mem_cons_of_mem _ (wl_in_1 _ (List.mem_of_getElem? (i := 37) rfl)))) (fun _ h9 => h9) rfl dX12_operand_214 ?_
                    refine lv_iconst (v := iI 1) hx hb dX12_operand_217 (by decide +kernel) ?_
                    refine x_subv (v := (A225 0 53) - 1) hx hb dX12_operand_218 (by omega) ?_
                    refine lv_iload_n hx hb dX12_operand_219 rfl (lv_at hl 0 rfl) ?_
                    refine x_iast hx hb hK hP hDD hS 38 1 wm38 rfl (by omega) (by decide) dX12_operand_220 ws38 (fun H locs hP hS => ?_)
                    have hI := hI.st (j := 38) (i := ((A225 0 53) - 1).toNat) (v := z199) (show (0 : Int) ≤ z199 ∧ z199 ≤ 16 from (by omega))
                    refine lv_iconst (v := iI 0) hx hb dX12_operand_221 (by decide +kernel) ?_
                    obtain ⟨A229, hA229⟩ : ∃ A229 : St, A229 = (stA A225 38 ((A225 0 53) - 1).toNat z199) := ⟨_, rfl⟩
                    rw [← hA229] at hP hI
                    have e_A229_4 : A229 0 4 = (A225 0 4) := by rw [hA229]; exact rfl
                    have e_A229_5 : A229 0 5 = (A225 0 5) := by rw [hA229]; exact rfl
                    have e_A229_8 : A229 0 8 = (A225 0 8) := by rw [hA229]; exact rfl
                    have ca230 : A49 35 = A 35 := by rw [hA49]; exact rfl
                    have ca231 : A203 35 = A 35 := (hf205.1 35 (by decide) rfl).trans ca230
                    have ca232 : A223 35 = A 35 := (hj222.1 35 (by decide) rfl).trans ca231
                    have ca233 : A49 38 = A 38 := by rw [hA49]; exact rfl
                    have ca234 : A203 38 = A 38 := (hf205.1 38 (by decide) rfl).trans ca233
                    have ca235 : A223 38 = A 38 := (hj222.1 38 (by decide) rfl).trans ca234
                    have ca236 : A225 38 = A 38 := (hf227.1 38 (by decide) rfl).trans ca235
                    have ca237 : A229 35 = A225 35 := by rw [hA229]; exact rfl
                    have e_A223_4 : A223 0 4 = (A203 0 4) := (hj222.2 4 rfl)
                    have e_A223_7 : A223 0 7 = (A203 0 7) := (hj222.2 7 rfl)
                    have e_A223_54 : A223 0 54 = (A 0 54) := (hj222.2 54 rfl).trans e_A203_54
                    have e_A229_3 : A229 0 3 = (A225 0 3) := by rw [hA229]; exact rfl
                    have e_A229_7 : A229 0 7 = (A225 0 7) := by rw [hA229]; exact rfl
                    have e_A229_46 : A229 0 46 = (A 0 46) := by rw [hA229]; exact e_A225_46
                    have e_A229_47 : A229 0 47 = (A 0 47) := by rw [hA229]; exact e_A225_47
                    have e_A229_53 : A229 0 53 = (A225 0 53) := by rw [hA229]; exact rfl
                    have e_A229_54 : A229 0 54 = (A225 0 54) := by rw [hA229]; exact rfl
                    have e_A229_56 : A229 0 56 = (A 0 56) := by rw [hA229]; exact e_A225_56
                    have ca238 : A229 36 = A225 36 := by rw [hA229]; exact rfl
                    have ca239 : A49 36 = A 36 := by rw [hA49]; exact rfl
                    have ca240 : A203 36 = A 36 := (hf205.1 36 (by decide) rfl).trans ca239
                    have ca241 : A223 36 = A 36 := (hj222.1 36 (by decide) rfl).trans ca240
                    have ca242 : A229 39 = A225 39 := by rw [hA229]; exact rfl
                    have ca243 : A49 39 = A 39 := by rw [hA49]; exact rfl
                    have ca244 : A203 39 = A 39 := (hf205.1 39 (by decide) rfl).trans ca243
                    have ca245 : A223 39 = A 39 := (hj222.1 39 (by decide) rfl).trans ca244
                    have ca246 : A49 40 = A 40 := by rw [hA49]; exact rfl
                    have ca247 : A203 40 = A 40 := (hf205.1 40 (by decide) rfl).trans ca246
                    have ca248 : A223 40 = A 40 := (hj222.1 40 (by decide) rfl).trans ca247
                    have ca249 : A225 40 = A 40 := (hf227.1 40 (by decide) rfl).trans ca248
                    have ca250 : A229 40 = A 40 := by rw [hA229]; exact ca249
                    exact RET 0 _ _ _ _ _ ⟨hI, fr_def hA229 (fr.st (fr.trans (fr.trans (fr.trans (fr_def hA49 (fr.st (fr.rf) (by decide) rfl)) hf205 rfl rfl) hj222 rfl rfl) hf227 rfl rfl) (by decide) rfl), (CI.fr (CI.fr (CI.fr (CI.fr (CI.fr hcCI (fr_def hA49 (fr.st (fr.rf (M := [37]) (N := [])) (by decide) rfl)) rfl rfl) hf205 rfl rfl) hj222 rfl rfl) hf227 rfl rfl) (fr_def hA229 (fr.st (fr.rf (M := [38]) (N := [])) (by decide) rfl)) rfl rfl), ⟨by decide, Hd.mk (fun h0 => ⟨(RI0.fr go.1 (fr_def hA229 (fr.st (fr.rf (M := [38]) (N := [])) (by decide) rfl)) rfl rfl), ⟨PR.pushp (w := z199) hp2 (by omega) (ca237.trans (go.2.2.2.1.trans (by rw [ca232, show A223 0 53 = A 0 53 by omega]))) (by have := go.2.2.2.2.1; omega) (by rw [hA229]; show up (A225 38) _ _ = _; rw [ca236, show A225 0 53 - 1 = A 0 53 by omega]) (by omega), SP.opn hp3 hI0 (by omega) (ca238.trans (go.2.2.2.2.2.1.trans (by rw [ca241, show A223 0 53 = A 0 53 by omega]))) (ca242.trans (go.2.2.2.2.2.2.trans (by rw [ca245, show A223 0 53 = A 0 53 by omega, show A223 0 56 = A 0 56 by omega]))) ca250 (by have := go.2.2.2.2.1; omega) e_A229_56⟩, by have := go.2.1; omega⟩)⟩⟩ hP hS dX12_operand_222
                refine lv_if_ne (tgt := 197) hx hb dX12_operand_185 (by decide) (fun c217 => ?_) (fun c217 => ?_)
                · have c217 : ¬ z214 = 0 := mt (i_eq0 (rb rz214 (by decide) (by decide))).mpr c217
                  have hw216b := hw216.out.mp (by omega)
                  exact J197_218 _ _ _ _ (by exact Hd.mk (fun _ => ⟨⟨hri2, by omega, hb2⟩, by omega⟩)) hI (fr.rf) hP hS (lv_sub hl [0, 1, 2, 3] rfl)
                · have c217 : z214 = 0 := (i_eq0 (rb rz214 (by decide) (by decide))).mp c217
                  refine lv_aload_n hx hb dX12_operand_188 rfl (lv_at hl 3 rfl) ?_
                  refine lv_iconst (v := iI 1) hx hb dX12_operand_189 (by decide +kernel) ?_
                  refine lv_aload_n hx hb dX12_operand_190 rfl (lv_at hl 3 rfl) ?_
                  refine va_get (D := (dC, dI)) (ci := 12) (v := .int (iI (A203 0 4))) (C := RX12) (T := TX12) (N := 85) hx hb hts hiX12 hown hK hP 0 wm0 rfl 4 (by decide) (hts _ (List.mem_cons_of_mem _ (wl_in_0 _ (List.mem_of_getElem? (i := 23) rfl)))) (fun _ h9 => h9) rfl dX12_operand_191 ?_
                  refine x_callv (As := [.int (iI 1), .int (iI (A203 0 4))]) (rest := []) ⟨hx, hb, hml, hown, hts⟩ (mc_X12_blame l dC dI cB cI cJ cZ cQ q _ 1 (A203 0 4) hI ⟨by decide, by decide⟩ r_A203_0_4) (cwV 2 hts (goodV (wl_in_0 _ (List.mem_of_getElem? (i := 31) rfl)) (wl_in_0 _ (List.mem_of_getElem? (i := 32) rfl)) (wl_in_0 _ (List.mem_of_getElem? (i := 33) rfl)) (wl_in_0 _ (List.mem_of_getElem? (i := 8) rfl)) (wl_in_0 _ (List.mem_of_getElem? (i := 15) rfl))) rfl rfl rfl (by decide +kernel) ⟨Nat.le_of_ble_eq_true rfl, Nat.le_of_ble_eq_true rfl⟩) hK hDD hA0 hP hS 0 12 wm0 rfl rfl hl.1 (Nat.le_of_ble_eq_true rfl) dX12_operand_194 (fun A219 H locs hw220 hP hS => ?_)
                  obtain ⟨hI, hf221, hw220⟩ := hw220
                  have r_A219_0_8 : (0 : Int) ≤ (A219 0 8) ∧ (A219 0 8) ≤ 5 := hI 0 8
                  exact J197_218 _ _ _ _ (by exact Hd.mk (fun h => absurd h (by omega))) hI (fr.trans (fr.rf) hf221 rfl rfl) hP hS (lv_sub hl [0, 1, 2, 3] rfl)
              refine lv_if_eq (tgt := 172) hx hb dX12_operand_164 (by decide) (fun c197 => ?_) (fun c197 => ?_)
              · have c197 : z194 = 0 := (i_eq0 (rb rz194 (by decide) (by decide))).mp c197
                refine lv_bipush (v := iI 16) hx hb dX12_operand_172 (by decide +kernel) ?_
                exact J174_198 16 _ _ _ (by omega) (by omega) hP hS (lv_sub hl [0, 1, 2] rfl)
              · have c197 : ¬ z194 = 0 := mt (i_eq0 (rb rz194 (by decide) (by decide))).mpr c197
                have hw196b := hw196.out.mp (by omega)
                refine lv_bipush (v := iI 15) hx hb dX12_operand_167 (by decide +kernel) ?_
                refine lv_goto (tgt := 174) hx hb dX12_operand_169 (by decide) ?_
                exact J174_198 15 _ _ _ (by omega) (by omega) hP hS (lv_sub hl [0, 1, 2] rfl)
            refine lv_if_ne (tgt := 157) hx hb dX12_operand_144 (by decide) (fun c127 => ?_) (fun c127 => ?_)
            · have c127 : ¬ z124 = 0 := mt (i_eq0 (rb rz124 (by decide) (by decide))).mpr c127
              have hw126b := hw126.out.mp (by omega)
              exact J157_128 _ _ _ (by omega) hP hS (lv_sub hl [0, 1, 2] rfl)
            · have c127 : z124 = 0 := (i_eq0 (rb rz124 (by decide) (by decide))).mp c127
              refine lv_aload_n hx hb dX12_operand_147 rfl (lv_at hl 2 rfl) ?_
              refine lv_ldc2 (v := 7168376) hx hb hown (hts _ (List.mem_cons_of_mem _ (wl_in_1 _ (List.mem_of_getElem? (i := 9) rfl)))) dX12_operand_148 ?_
              refine tp_l (y := jI 7168376) (by decide +kernel) ?_
              refine x_calli (As := [.long (jI 7168376)]) (rest := []) ⟨hx, hb, hml, hown, hts⟩ (mb_X12_isWord l dC dI cB cI cJ cZ cQ q _ 7168376 hI ⟨by decide, by decide⟩) (cwV 1 hts (goodV (wl_in_1 _ (List.mem_of_getElem? (i := 59) rfl)) (wl_in_2 _ (List.mem_of_getElem? (i := 0) rfl)) (wl_in_2 _ (List.mem_of_getElem? (i := 1) rfl)) (wl_in_0 _ (List.mem_of_getElem? (i := 8) rfl)) (wl_in_0 _ (List.mem_of_getElem? (i := 35) rfl))) rfl rfl rfl (by decide +kernel) ⟨Nat.le_of_ble_eq_true rfl, Nat.le_of_ble_eq_true rfl⟩) hK hDD hA0 hP hS 0 12 wm0 rfl rfl hl.1 (Nat.le_of_ble_eq_true rfl) dX12_operand_151 (fun z129 A130 H locs hw131 hP hS => ?_)
              obtain ⟨rfl, hw131⟩ := hw131
              have rz129 : 0 ≤ z129 ∧ z129 ≤ 1 := hw131.1
              replace hw131 := Hd.mk hw131.2
              refine lv_if_eq (tgt := 223) hx hb dX12_operand_154 (by decide) (fun c132 => ?_) (fun c132 => ?_)
              · have c132 : z129 = 0 := (i_eq0 (rb rz129 (by decide) (by decide))).mp c132
                refine lv_aload_n hx hb dX12_operand_223 rfl (lv_at hl 2 rfl) ?_
                refine va_get (D := (dC, dI)) (ci := 12) (v := .int (iI (A49 0 3))) (C := RX12) (T := TX12) (N := 85) hx hb hts hiX12 hown hK hP 0 wm0 rfl 3 (by decide) (hts _ (List.mem_cons_of_mem _ (wl_in_0 _ (List.mem_of_getElem? (i := 24) rfl)))) (fun _ h9 => h9) rfl dX12_operand_224 ?_
                refine tp_i (y := iI (A 0 3)) (congrArg iI e_A49_3) ?_
                refine lv_iconst (v := iI 2) hx hb dX12_operand_227 (by decide +kernel) ?_
                have J292_134 : ∀ (z151 : Int) (H : Heap) (locs : List Loc) (ls : Array Slot), (-1 ≤ z151 ∧ z151 ≤ 4) → ((z151 = (-1) ∧ ¬ (A 0 3) = 2) ∨ (z151 = 4 ∧ ¬ (A 0 3) = 2) ∨ (z151 = 3 ∧ ¬ (A 0 3) = 2) ∨ (z151 = 2 ∧ ¬ (A 0 3) = 2) ∨ (z151 = 1 ∧ ¬ (A 0 3) = 2) ∨ (z151 = 0 ∧ (A 0 3) = 2)) → (Hd (z151 = -1 ∨ ¬ (A49 0 3) = 0)) → va_P (dC, dI) vwCl (WM cI cJ cZ q A49) H → va_S AS s.heap H locs → lv_has ls 4 [(2, .int (iI z11)), (1, .int (iI ((A 0 53) - 1))), (0, .ref (q 0))] → W p l e (headSpec ws_mb_X12_operand ({ frames := 3, cells := 0, slots := 0, locals := 68 } : Room)).room s m [.ref (q 0)].toArray below meth c H locs 0 0 Q (F0 m 292 ls [.int (iI z151)]) := by
                  intro z151 H locs ls f153 f154 f155 hP hS hl
                  refine lv_istore_n (lv' := [(3, .int (iI z151)), (2, .int (iI z11)), (1, .int (iI ((A 0 53) - 1))), (0, .ref (q 0))]) hx hb dX12_operand_292 rfl hl (by decide) rfl (fun ls hl => ?_)
                  refine lv_iload_n hx hb dX12_operand_293 rfl (lv_at hl 0 rfl) ?_
                  refine lv_iconst (v := iI (-1)) hx hb dX12_operand_294 (by decide +kernel) ?_
                  have J307_157 : ∀ (A162 : St) (H : Heap) (locs : List Loc) (ls : Array Slot), (Hd ((A162 0 8) = 0 → ¬ z151 = -1)) → IM A162 → fr [] [8, 9] A49 A162 → va_P (dC, dI) vwCl (WM cI cJ cZ q A162) H → va_S AS s.heap H locs → lv_has ls 4 [(3, .int (iI z151)), (2, .int (iI z11)), (1, .int (iI ((A 0 53) - 1))), (0, .ref (q 0))] → W p l e (headSpec ws_mb_X12_operand ({ frames := 3, cells := 0, slots := 0, locals := 68 } : Room)).room s m [.ref (q 0)].toArray below meth c H locs 0 0 Q (F0 m 307 ls []) := by
                    intro A162 H locs ls f163 hI hj161 hP hS hl
                    refine lv_aload_n hx hb dX12_operand_307 rfl (lv_at hl 3 rfl) ?_
                    refine va_get (D := (dC, dI)) (ci := 12) (v := .int (iI (A162 0 8))) (C := RX12) (T := TX12) (N := 85) hx hb hts hiX12 hown hK hP 0 wm0 rfl 8 (by decide) (hts _ (List.mem_cons_of_mem _ (wl_in_0 _ (List.mem_of_getElem? (i := 16) rfl)))) (fun _ h9 => h9) rfl dX12_operand_308 ?_
                    have r_A162_0_8 : (0 : Int) ≤ (A162 0 8) ∧ (A162 0 8) ≤ 5 := hI 0 8
                    refine lv_if_le (tgt := 316) hx hb dX12_operand_311 (by decide) (fun c164 => ?_) (fun c164 => ?_)
                    · have c164 : (A162 0 8) ≤ 0 := (i_le0 (rb r_A162_0_8 (by decide) (by decide))).mp c164
                      have g3 := f163.out (by omega)
                      have g4 := f155.out
                      have hlt := RI.lt hri1 (by omega)
                      refine lv_aload_n hx hb dX12_operand_316 rfl (lv_at hl 3 rfl) ?_
                      refine lv_iload_n hx hb dX12_operand_317 rfl (lv_at hl 0 rfl) ?_
                      refine lv_aload_n hx hb dX12_operand_318 rfl (lv_at hl 3 rfl) ?_
                      have e_A162_6 : A162 0 6 = (A 0 6) := (hj161.2 6 rfl).trans e_A49_6
                      refine va_get (D := (dC, dI)) (ci := 12) (v := .int (iI (A162 0 6))) (C := RX12) (T := TX12) (N := 85) hx hb hts hiX12 hown hK hP 0 wm0 rfl 6 (by decide) (hts _ (List.mem_cons_of_mem _ (wl_in_0 _ (List.mem_of_getElem? (i := 25) rfl)))) (fun _ h9 => h9) rfl dX12_operand_319 ?_
                      refine tp_i (y := iI (A 0 6)) (congrArg iI e_A162_6) ?_
                      have e_A162_46 : A162 0 46 = (A 0 46) := (hj161.2 46 rfl).trans e_A49_46
                      have e_A162_47 : A162 0 47 = (A 0 47) := (hj161.2 47 rfl).trans e_A49_47
                      refine x_callv (As := [.int (iI z151), .int (iI (A 0 6))]) (rest := []) ⟨hx, hb, hml, hown, hts⟩ (mb_X12_add l dC dI cB cI cJ cZ cQ q _ z151 (A 0 6) hI (by omega) r_A_0_6 (by omega) (CI.fr (CI.fr hcCI (fr_def hA49 (fr.st (fr.rf (M := [37]) (N := [])) (by decide) rfl)) rfl rfl) hj161 rfl rfl)) (cwV 2 hts (goodV (wl_in_1 _ (List.mem_of_getElem? (i := 41) rfl)) (wl_in_1 _ (List.mem_of_getElem? (i := 42) rfl)) (wl_in_1 _ (List.mem_of_getElem? (i := 43) rfl)) (wl_in_0 _ (List.mem_of_getElem? (i := 8) rfl)) (wl_in_1 _ (List.mem_of_getElem? (i := 29) rfl))) rfl rfl rfl (by decide +kernel) ⟨Nat.le_of_ble_eq_true rfl, Nat.le_of_ble_eq_true rfl⟩) hK hDD hA0 hP hS 0 12 wm0 rfl rfl hl.1 (Nat.le_of_ble_eq_true rfl) dX12_operand_322 (fun A165 H locs hw166 hP hS => ?_)
                      obtain ⟨hI, hf167, hw166⟩ := hw166
                      obtain ⟨hc168, hw166⟩ := hw166
                      have r_A165_0_46 : (0 : Int) ≤ (A165 0 46) ∧ (A165 0 46) ≤ 1600 := hI 0 46
                      refine lv_aload_n hx hb dX12_operand_325 rfl (lv_at hl 3 rfl) ?_
                      have e_A162_4 : A162 0 4 = (A 0 4) := (hj161.2 4 rfl).trans e_A49_4
                      have e_A165_4 : A165 0 4 = (A 0 4) := (hf167.2 4 rfl).trans e_A162_4
                      have e_A162_5 : A162 0 5 = (A 0 5) := (hj161.2 5 rfl).trans e_A49_5
                      have e_A165_5 : A165 0 5 = (A 0 5) := (hf167.2 5 rfl).trans e_A162_5
                      have e_A165_8 : A165 0 8 = (A162 0 8) := (hf167.2 8 rfl)
                      refine x_callv (As := []) (rest := []) ⟨hx, hb, hml, hown, hts⟩ (mb_X12_ahead l dC dI cB cI cJ cZ cQ q _ hI) (cwV 0 hts (goodV (wl_in_0 _ (List.mem_of_getElem? (i := 40) rfl)) (wl_in_0 _ (List.mem_of_getElem? (i := 41) rfl)) (wl_in_0 _ (List.mem_of_getElem? (i := 42) rfl)) (wl_in_0 _ (List.mem_of_getElem? (i := 8) rfl)) (wl_in_0 _ (List.mem_of_getElem? (i := 20) rfl))) rfl rfl rfl (by decide +kernel) ⟨Nat.le_of_ble_eq_true rfl, Nat.le_of_ble_eq_true rfl⟩) hK hDD hA0 hP hS 0 12 wm0 rfl rfl hl.1 (Nat.le_of_ble_eq_true rfl) dX12_operand_326 (fun A169 H locs hw170 hP hS => ?_)
                      obtain ⟨hI, hf171, hw170⟩ := hw170
                      have r_A169_0_3 : (0 : Int) ≤ (A169 0 3) ∧ (A169 0 3) ≤ 3 := hI 0 3
                      have r_A169_0_4 : (0 : Int) ≤ (A169 0 4) ∧ (A169 0 4) ≤ 1600 := hI 0 4
                      have r_A169_0_5 : (0 : Int) ≤ (A169 0 5) ∧ (A169 0 5) ≤ 1600 := hI 0 5
                      have r_A169_0_8 : (0 : Int) ≤ (A169 0 8) ∧ (A169 0 8) ≤ 5 := hI 0 8
                      refine lv_iconst (v := iI 1) hx hb dX12_operand_329 (by decide +kernel) ?_
                      have e_A162_3 : A162 0 3 = (A 0 3) := (hj161.2 3 rfl).trans e_A49_3
                      have e_A162_7 : A162 0 7 = (A 0 7) := (hj161.2 7 rfl).trans e_A49_7
                      have e_A162_53 : A162 0 53 = (A 0 53) := (hj161.2 53 rfl).trans e_A49_53
                      have e_A162_54 : A162 0 54 = (A 0 54) := (hj161.2 54 rfl).trans e_A49_54
                      have e_A162_56 : A162 0 56 = (A 0 56) := (hj161.2 56 rfl).trans e_A49_56
                      have r_A169_0_7 : (-9223372036854775808 : Int) ≤ (A169 0 7) ∧ (A169 0 7) ≤ 9223372036854775807 := hI 0 7
                      have ca172 : A169 33 = A165 33 := (hf171.1 33 (by decide) rfl)
                      have ca173 : A162 33 = A49 33 := (hj161.1 33 (by decide) rfl)
                      have e_A169_46 : A169 0 46 = (A165 0 46) := (hf171.2 46 rfl)
                      have e_A165_47 : A165 0 47 = (A 0 47) := (hf167.2 47 rfl).trans e_A162_47
                      have e_A169_47 : A169 0 47 = (A 0 47) := (hf171.2 47 rfl).trans e_A165_47
                      have e_A165_53 : A165 0 53 = (A 0 53) := (hf167.2 53 rfl).trans e_A162_53
                      have e_A169_53 : A169 0 53 = (A 0 53) := (hf171.2 53 rfl).trans e_A165_53
                      have e_A165_54 : A165 0 54 = (A 0 54) := (hf167.2 54 rfl).trans e_A162_54
                      have e_A169_54 : A169 0 54 = (A 0 54) := (hf171.2 54 rfl).trans e_A165_54
                      have e_A165_56 : A165 0 56 = (A 0 56) := (hf167.2 56 rfl).trans e_A162_56
                      have e_A169_56 : A169 0 56 = (A 0 56) := (hf171.2 56 rfl).trans e_A165_56
                      have ca174 : A162 29 = A49 29 := (hj161.1 29 (by decide) rfl)
                      have ca175 : A165 29 = A49 29 := (hf167.1 29 (by decide) rfl).trans ca174
                      have ca176 : A169 29 = A49 29 := (hf171.1 29 (by decide) rfl).trans ca175
                      have ca177 : A162 31 = A49 31 := (hj161.1 31 (by decide) rfl)
                      have ca178 : A165 31 = A49 31 := (hf167.1 31 (by decide) rfl).trans ca177
                      have ca179 : A169 31 = A49 31 := (hf171.1 31 (by decide) rfl).trans ca178
                      have ca180 : A162 35 = A49 35 := (hj161.1 35 (by decide) rfl)
                      have ca181 : A165 35 = A49 35 := (hf167.1 35 (by decide) rfl).trans ca180
                      have ca182 : A169 35 = A49 35 := (hf171.1 35 (by decide) rfl).trans ca181
                      have ca183 : A162 37 = A49 37 := (hj161.1 37 (by decide) rfl)
                      have ca184 : A165 37 = A49 37 := (hf167.1 37 (by decide) rfl).trans ca183
                      have ca185 : A169 37 = A49 37 := (hf171.1 37 (by decide) rfl).trans ca184
                      have ca186 : A162 39 = A49 39 := (hj161.1 39 (by decide) rfl)
                      have ca187 : A165 39 = A49 39 := (hf167.1 39 (by decide) rfl).trans ca186
                      have ca188 : A169 39 = A49 39 := (hf171.1 39 (by decide) rfl).trans ca187
                      have ca189 : A162 40 = A49 40 := (hj161.1 40 (by decide) rfl)
                      have ca190 : A165 40 = A49 40 := (hf167.1 40 (by decide) rfl).trans ca189
                      have ca191 : A169 40 = A49 40 := (hf171.1 40 (by decide) rfl).trans ca190
                      exact RET 1 _ _ _ _ _ ⟨hI, fr.trans (fr.trans (fr.trans (fr_def hA49 (fr.st (fr.rf) (by decide) rfl)) hj161 rfl rfl) hf167 rfl rfl) hf171 rfl rfl, (CI.fr hc168 hf171 rfl rfl), ⟨by decide, Hd.mk (fun h0 => ⟨RI.val (r37 := A49 37) hri1 hI1 (by omega) (x := z151) (by omega) (fun _ _ => rfl) hb1 ⟨ca176, ca179, (ca172.trans (hw166.2.trans (by rw [ca173, show A162 0 47 = A49 0 47 by omega, show A162 0 46 = A49 0 46 by omega]))), ca182, ca185, ca188, ca191, (by omega), (e_A169_47.trans e_A49_47.symm), (e_A169_53.trans e_A49_53.symm), (e_A169_54.trans e_A49_54.symm), (e_A169_56.trans e_A49_56.symm)⟩ (by omega) (by omega) hw170.2.2.1, ⟨(PR.fr (PR.fr (PR.fr (PR.fr hp2 (fr_def hA49 (fr.st (fr.rf (M := [37]) (N := [])) (by decide) rfl)) rfl rfl) hj161 rfl rfl) hf167 rfl rfl) hf171 rfl rfl), (SP.fr (SP.fr (SP.fr (SP.fr hp3 (fr_def hA49 (fr.st (fr.rf (M := [37]) (N := [])) (by decide) rfl)) rfl rfl) hj161 rfl rfl) hf167 rfl rfl) hf171 rfl rfl)⟩, by omega⟩)⟩⟩ hP hS dX12_operand_330
                    · have c164 : ¬ (A162 0 8) ≤ 0 := mt (i_le0 (rb r_A162_0_8 (by decide) (by decide))).mpr c164
                      refine lv_iconst (v := iI 1) hx hb dX12_operand_314 (by decide +kernel) ?_
                      have e_A162_4 : A162 0 4 = (A 0 4) := (hj161.2 4 rfl).trans e_A49_4
                      have e_A162_5 : A162 0 5 = (A 0 5) := (hj161.2 5 rfl).trans e_A49_5
                      exact RET 1 _ _ _ _ _ ⟨hI, fr.trans (fr_def hA49 (fr.st (fr.rf) (by decide) rfl)) hj161 rfl rfl, (CI.fr (CI.fr hcCI (fr_def hA49 (fr.st (fr.rf (M := [37]) (N := [])) (by decide) rfl)) rfl rfl) hj161 rfl rfl), ⟨by decide, Hd.mk (fun h => absurd h (by omega))⟩⟩ hP hS dX12_operand_315
                  refine lv_icmp_ne (tgt := 307) hx hb dX12_operand_295 (by decide) (fun c156 => ?_) (fun c156 => ?_)
                  · have c156 : ¬ z151 = (-1) := mt (i_eq (rb f153 (by decide) (by decide)) ⟨by decide, by decide⟩).mpr c156
                    exact J307_157 _ _ _ _ (by exact Hd.mk (by  omega)) hI (fr.rf) hP hS (lv_sub hl [0, 1, 2, 3] rfl)
                  · have c156 : z151 = (-1) := (i_eq (rb f153 (by decide) (by decide)) ⟨by decide, by decide⟩).mp c156
                    refine lv_aload_n hx hb dX12_operand_298 rfl (lv_at hl 3 rfl) ?_
                    refine lv_iconst (v := iI 1) hx hb dX12_operand_299 (by decide +kernel) ?_
                    refine lv_aload_n hx hb dX12_operand_300 rfl (lv_at hl 3 rfl) ?_
                    refine va_get (D := (dC, dI)) (ci := 12) (v := .int (iI (A49 0 4))) (C := RX12) (T := TX12) (N := 85) hx hb hts hiX12 hown hK hP 0 wm0 rfl 4 (by decide) (hts _ (List.mem_cons_of_mem _ (wl_in_0 _ (List.mem_of_getElem? (i := 23) rfl)))) (fun _ h9 => h9) rfl dX12_operand_301 ?_
                    refine tp_i (y := iI (A 0 4)) (congrArg iI e_A49_4) ?_
                    refine x_callv (As := [.int (iI 1), .int (iI (A 0 4))]) (rest := []) ⟨hx, hb, hml, hown, hts⟩ (mc_X12_blame l dC dI cB cI cJ cZ cQ q _ 1 (A 0 4) hI ⟨by decide, by decide⟩ r_A_0_4) (cwV 2 hts (goodV (wl_in_0 _ (List.mem_of_getElem? (i := 31) rfl)) (wl_in_0 _ (List.mem_of_getElem? (i := 32) rfl)) (wl_in_0 _ (List.mem_of_getElem? (i := 33) rfl)) (wl_in_0 _ (List.mem_of_getElem? (i := 8) rfl)) (wl_in_0 _ (List.mem_of_getElem? (i := 15) rfl))) rfl rfl rfl (by decide +kernel) ⟨Nat.le_of_ble_eq_true rfl, Nat.le_of_ble_eq_true rfl⟩) hK hDD hA0 hP hS 0 12 wm0 rfl rfl hl.1 (Nat.le_of_ble_eq_true rfl) dX12_operand_304 (fun A158 H locs hw159 hP hS => ?_)
                    obtain ⟨hI, hf160, hw159⟩ := hw159
                    have r_A158_0_8 : (0 : Int) ≤ (A158 0 8) ∧ (A158 0 8) ≤ 5 := hI 0 8
                    exact J307_157 _ _ _ _ (by exact Hd.mk (by  omega)) hI (fr.trans (fr.rf) hf160 rfl rfl) hP hS (lv_sub hl [0, 1, 2, 3] rfl)
                refine lv_icmp_ne (tgt := 235) hx hb dX12_operand_228 (by decide) (fun c133 => ?_) (fun c133 => ?_)
                · have c133 : ¬ (A 0 3) = 2 := mt (i_eq (rb r_A_0_3 (by decide) (by decide)) ⟨by decide, by decide⟩).mpr c133
                  refine lv_aload_n hx hb dX12_operand_235 rfl (lv_at hl 2 rfl) ?_
                  refine lv_ldc2 (v := 7825519) hx hb hown (hts _ (List.mem_cons_of_mem _ (wl_in_1 _ (List.mem_of_getElem? (i := 4) rfl)))) dX12_operand_236 ?_
                  refine tp_l (y := jI 7825519) (by decide +kernel) ?_
                  refine x_calli (As := [.long (jI 7825519)]) (rest := []) ⟨hx, hb, hml, hown, hts⟩ (mb_X12_isWord l dC dI cB cI cJ cZ cQ q _ 7825519 hI ⟨by decide, by decide⟩) (cwV 1 hts (goodV (wl_in_1 _ (List.mem_of_getElem? (i := 59) rfl)) (wl_in_2 _ (List.mem_of_getElem? (i := 0) rfl)) (wl_in_2 _ (List.mem_of_getElem? (i := 1) rfl)) (wl_in_0 _ (List.mem_of_getElem? (i := 8) rfl)) (wl_in_0 _ (List.mem_of_getElem? (i := 35) rfl))) rfl rfl rfl (by decide +kernel) ⟨Nat.le_of_ble_eq_true rfl, Nat.le_of_ble_eq_true rfl⟩) hK hDD hA0 hP hS 0 12 wm0 rfl rfl hl.1 (Nat.le_of_ble_eq_true rfl) dX12_operand_239 (fun z135 A136 H locs hw137 hP hS => ?_)
                  obtain ⟨rfl, hw137⟩ := hw137
                  have rz135 : 0 ≤ z135 ∧ z135 ≤ 1 := hw137.1
                  replace hw137 := Hd.mk hw137.2
                  refine lv_if_eq (tgt := 249) hx hb dX12_operand_242 (by decide) (fun c138 => ?_) (fun c138 => ?_)
                  · have c138 : z135 = 0 := (i_eq0 (rb rz135 (by decide) (by decide))).mp c138
                    refine lv_aload_n hx hb dX12_operand_249 rfl (lv_at hl 2 rfl) ?_
                    refine lv_ldc2 (v := 1936748404) hx hb hown (hts _ (List.mem_cons_of_mem _ (wl_in_1 _ (List.mem_of_getElem? (i := 5) rfl)))) dX12_operand_250 ?_
                    refine tp_l (y := jI 1936748404) (by decide +kernel) ?_
                    refine x_calli (As := [.long (jI 1936748404)]) (rest := []) ⟨hx, hb, hml, hown, hts⟩ (mb_X12_isWord l dC dI cB cI cJ cZ cQ q _ 1936748404 hI ⟨by decide, by decide⟩) (cwV 1 hts (goodV (wl_in_1 _ (List.mem_of_getElem? (i := 59) rfl)) (wl_in_2 _ (List.mem_of_getElem? (i := 0) rfl)) (wl_in_2 _ (List.mem_of_getElem? (i := 1) rfl)) (wl_in_0 _ (List.mem_of_getElem? (i := 8) rfl)) (wl_in_0 _ (List.mem_of_getElem? (i := 35) rfl))) rfl rfl rfl (by decide +kernel) ⟨Nat.le_of_ble_eq_true rfl, Nat.le_of_ble_eq_true rfl⟩) hK hDD hA0 hP hS 0 12 wm0 rfl rfl hl.1 (Nat.le_of_ble_eq_true rfl) dX12_operand_253 (fun z139 A140 H locs hw141 hP hS => ?_)
                    obtain ⟨rfl, hw141⟩ := hw141
                    have rz139 : 0 ≤ z139 ∧ z139 ≤ 1 := hw141.1
                    replace hw141 := Hd.mk hw141.2
                    refine lv_if_eq (tgt := 263) hx hb dX12_operand_256 (by decide) (fun c142 => ?_) (fun c142 => ?_)
                    · have c142 : z139 = 0 := (i_eq0 (rb rz139 (by decide) (by decide))).mp c142
                      refine lv_aload_n hx hb dX12_operand_263 rfl (lv_at hl 2 rfl) ?_
                      refine lv_ldc2 (v := 1801812339) hx hb hown (hts _ (List.mem_cons_of_mem _ (wl_in_1 _ (List.mem_of_getElem? (i := 6) rfl)))) dX12_operand_264 ?_
                      refine tp_l (y := jI 1801812339) (by decide +kernel) ?_
                      refine x_calli (As := [.long (jI 1801812339)]) (rest := []) ⟨hx, hb, hml, hown, hts⟩ (mb_X12_isWord l dC dI cB cI cJ cZ cQ q _ 1801812339 hI ⟨by decide, by decide⟩) (cwV 1 hts (goodV (wl_in_1 _ (List.mem_of_getElem? (i := 59) rfl)) (wl_in_2 _ (List.mem_of_getElem? (i := 0) rfl)) (wl_in_2 _ (List.mem_of_getElem? (i := 1) rfl)) (wl_in_0 _ (List.mem_of_getElem? (i := 8) rfl)) (wl_in_0 _ (List.mem_of_getElem? (i := 35) rfl))) rfl rfl rfl (by decide +kernel) ⟨Nat.le_of_ble_eq_true rfl, Nat.le_of_ble_eq_true rfl⟩) hK hDD hA0 hP hS 0 12 wm0 rfl rfl hl.1 (Nat.le_of_ble_eq_true rfl) dX12_operand_267 (fun z143 A144 H locs hw145 hP hS => ?_)
                      obtain ⟨rfl, hw145⟩ := hw145
                      have rz143 : 0 ≤ z143 ∧ z143 ≤ 1 := hw145.1
                      replace hw145 := Hd.mk hw145.2
                      refine lv_if_eq (tgt := 277) hx hb dX12_operand_270 (by decide) (fun c146 => ?_) (fun c146 => ?_)
                      · have c146 : z143 = 0 := (i_eq0 (rb rz143 (by decide) (by decide))).mp c146
                        refine lv_aload_n hx hb dX12_operand_277 rfl (lv_at hl 2 rfl) ?_
                        refine lv_ldc2 (v := 109317377451364) hx hb hown (hts _ (List.mem_cons_of_mem _ (wl_in_1 _ (List.mem_of_getElem? (i := 7) rfl)))) dX12_operand_278 ?_
                        refine tp_l (y := jI 109317377451364) (by decide +kernel) ?_
                        refine x_calli (As := [.long (jI 109317377451364)]) (rest := []) ⟨hx, hb, hml, hown, hts⟩ (mb_X12_isWord l dC dI cB cI cJ cZ cQ q _ 109317377451364 hI ⟨by decide, by decide⟩) (cwV 1 hts (goodV (wl_in_1 _ (List.mem_of_getElem? (i := 59) rfl)) (wl_in_2 _ (List.mem_of_getElem? (i := 0) rfl)) (wl_in_2 _ (List.mem_of_getElem? (i := 1) rfl)) (wl_in_0 _ (List.mem_of_getElem? (i := 8) rfl)) (wl_in_0 _ (List.mem_of_getElem? (i := 35) rfl))) rfl rfl rfl (by decide +kernel) ⟨Nat.le_of_ble_eq_true rfl, Nat.le_of_ble_eq_true rfl⟩) hK hDD hA0 hP hS 0 12 wm0 rfl rfl hl.1 (Nat.le_of_ble_eq_true rfl) dX12_operand_281 (fun z147 A148 H locs hw149 hP hS => ?_)
                        obtain ⟨rfl, hw149⟩ := hw149
                        have rz147 : 0 ≤ z147 ∧ z147 ≤ 1 := hw149.1
                        replace hw149 := Hd.mk hw149.2
                        refine lv_if_eq (tgt := 291) hx hb dX12_operand_284 (by decide) (fun c150 => ?_) (fun c150 => ?_)
                        · have c150 : z147 = 0 := (i_eq0 (rb rz147 (by decide) (by decide))).mp c150
                          refine lv_iconst (v := iI (-1)) hx hb dX12_operand_291 (by decide +kernel) ?_
                          exact J292_134 (-1) _ _ _ (by omega) (by omega) (by exact Hd.mk (by  omega)) hP hS (lv_sub hl [0, 1, 2] rfl)
                        · have c150 : ¬ z147 = 0 := mt (i_eq0 (rb rz147 (by decide) (by decide))).mpr c150
                          have hw149b := hw149.out.mp (by omega)
                          refine lv_iconst (v := iI 4) hx hb dX12_operand_287 (by decide +kernel) ?_
                          refine lv_goto (tgt := 292) hx hb dX12_operand_288 (by decide) ?_
                          exact J292_134 4 _ _ _ (by omega) (by omega) (by exact Hd.mk (by  omega)) hP hS (lv_sub hl [0, 1, 2] rfl)
                      · have c146 : ¬ z143 = 0 := mt (i_eq0 (rb rz143 (by decide) (by decide))).mpr c146
                        have hw145b := hw145.out.mp (by omega)
                        refine lv_iconst (v := iI 3) hx hb dX12_operand_273 (by decide +kernel) ?_
                        refine lv_goto (tgt := 292) hx hb dX12_operand_274 (by decide) ?_
                        exact J292_134 3 _ _ _ (by omega) (by omega) (by exact Hd.mk (by  omega)) hP hS (lv_sub hl [0, 1, 2] rfl)
                    · have c142 : ¬ z139 = 0 := mt (i_eq0 (rb rz139 (by decide) (by decide))).mpr c142
                      have hw141b := hw141.out.mp (by omega)
                      refine lv_iconst (v := iI 2) hx hb dX12_operand_259 (by decide +kernel) ?_
                      refine lv_goto (tgt := 292) hx hb dX12_operand_260 (by decide) ?_
                      exact J292_134 2 _ _ _ (by omega) (by omega) (by exact Hd.mk (by  omega)) hP hS (lv_sub hl [0, 1, 2] rfl)
                  · have c138 : ¬ z135 = 0 := mt (i_eq0 (rb rz135 (by decide) (by decide))).mpr c138
                    have hw137b := hw137.out.mp (by omega)
                    refine lv_iconst (v := iI 1) hx hb dX12_operand_245 (by decide +kernel) ?_
                    refine lv_goto (tgt := 292) hx hb dX12_operand_246 (by decide) ?_
                    exact J292_134 1 _ _ _ (by omega) (by omega) (by exact Hd.mk (by  omega)) hP hS (lv_sub hl [0, 1, 2] rfl)
                · have c133 : (A 0 3) = 2 := (i_eq (rb r_A_0_3 (by decide) (by decide)) ⟨by decide, by decide⟩).mp c133
                  refine lv_iconst (v := iI 0) hx hb dX12_operand_231 (by decide +kernel) ?_
                  refine lv_goto (tgt := 292) hx hb dX12_operand_232 (by decide) ?_
                  exact J292_134 0 _ _ _ (by omega) (by omega) (by exact Hd.mk (by  omega)) hP hS (lv_sub hl [0, 1, 2] rfl)
              · have c132 : ¬ z129 = 0 := mt (i_eq0 (rb rz129 (by decide) (by decide))).mpr c132
                have hw131b := hw131.out.mp (by omega)
                exact J157_128 _ _ _ (by omega) hP hS (lv_sub hl [0, 1, 2] rfl)
          · have c123 : ¬ z120 = 0 := mt (i_eq0 (rb rz120 (by decide) (by decide))).mpr c123
            have hw122b := hw122.out.mp (by omega)
            refine lv_aload_n hx hb dX12_operand_130 rfl (lv_at hl 2 rfl) ?_
            refine lv_iconst (v := iI 2) hx hb dX12_operand_131 (by decide +kernel) ?_
            refine x_callv (As := [.int (iI 2)]) (rest := []) ⟨hx, hb, hml, hown, hts⟩ (mb_X12_opens l dC dI cB cI cJ cZ cQ q _ 2 hI ⟨by decide, by decide⟩ (by exact Hd.mk (fun _ => ⟨hri1, by omega, hb1⟩)) (by omega)) (cwV 1 hts (goodV (wl_in_2 _ (List.mem_of_getElem? (i := 5) rfl)) (wl_in_2 _ (List.mem_of_getElem? (i := 6) rfl)) (wl_in_2 _ (List.mem_of_getElem? (i := 7) rfl)) (wl_in_0 _ (List.mem_of_getElem? (i := 8) rfl)) (wl_in_1 _ (List.mem_of_getElem? (i := 49) rfl))) rfl rfl rfl (by decide +kernel) ⟨Nat.le_of_ble_eq_true rfl, Nat.le_of_ble_eq_true rfl⟩) hK hDD hA0 hP hS 0 12 wm0 rfl rfl hl.1 (Nat.le_of_ble_eq_true rfl) dX12_operand_132 (fun A251 H locs hw252 hP hS => ?_)
            obtain ⟨hI, hf253, hw252⟩ := hw252
            have r_A251_0_4 : (0 : Int) ≤ (A251 0 4) ∧ (A251 0 4) ≤ 1600 := hI 0 4
            have r_A251_0_8 : (0 : Int) ≤ (A251 0 8) ∧ (A251 0 8) ≤ 5 := hI 0 8
            have r_A251_0_53 : (0 : Int) ≤ (A251 0 53) ∧ (A251 0 53) ≤ 20 := hI 0 53
            refine lv_iconst (v := iI 0) hx hb dX12_operand_135 (by decide +kernel) ?_
            have r_A251_0_5 : (0 : Int) ≤ (A251 0 5) ∧ (A251 0 5) ≤ 1600 := hI 0 5
            have hlt := RI.lt hp0 (by omega)
            have ca254 : A49 35 = A 35 := by rw [hA49]; exact rfl
            have ca255 : A49 38 = A 38 := by rw [hA49]; exact rfl
            have ca256 : A251 38 = A 38 := (hf253.1 38 (by decide) rfl).trans ca255
            have e_A251_46 : A251 0 46 = (A 0 46) := (hf253.2 46 rfl).trans e_A49_46
            have e_A251_47 : A251 0 47 = (A 0 47) := (hf253.2 47 rfl).trans e_A49_47
            have e_A251_56 : A251 0 56 = (A 0 56) := (hf253.2 56 rfl).trans e_A49_56
            have r_A251_0_3 : (0 : Int) ≤ (A251 0 3) ∧ (A251 0 3) ≤ 3 := hI 0 3
            have r_A251_0_7 : (-9223372036854775808 : Int) ≤ (A251 0 7) ∧ (A251 0 7) ≤ 9223372036854775807 := hI 0 7
            have r_A251_0_54 : (0 : Int) ≤ (A251 0 54) ∧ (A251 0 54) ≤ 8 := hI 0 54
            have ca257 : A49 36 = A 36 := by rw [hA49]; exact rfl
            have ca258 : A49 39 = A 39 := by rw [hA49]; exact rfl
            have ca259 : A49 40 = A 40 := by rw [hA49]; exact rfl
            have ca260 : A251 40 = A 40 := (hf253.1 40 (by decide) rfl).trans ca259
            exact RET 0 _ _ _ _ _ ⟨hI, fr.trans (fr_def hA49 (fr.st (fr.rf) (by decide) rfl)) hf253 rfl rfl, (CI.fr (CI.fr hcCI (fr_def hA49 (fr.st (fr.rf (M := [37]) (N := [])) (by decide) rfl)) rfl rfl) hf253 rfl rfl), ⟨by decide, Hd.mk (fun h0 => by have g := hw252.out (by omega); exact ⟨g.1, ⟨PR.push hp2 (by omega) (g.2.2.2.1.trans (by rw [ca254, show A49 0 53 = A 0 53 by omega])) (by have := g.2.2.2.2.1; omega) ca256 (by decide), SP.opn hp3 hI0 (by omega) (g.2.2.2.2.2.1.trans (by rw [ca257, show A49 0 53 = A 0 53 by omega])) (g.2.2.2.2.2.2.trans (by rw [ca258, show A49 0 53 = A 0 53 by omega, show A49 0 56 = A 0 56 by omega])) ca260 (by have := g.2.2.2.2.1; omega) e_A251_56⟩, by have := g.2.1; omega⟩)⟩⟩ hP hS dX12_operand_136
        refine lv_if_eq (tgt := 121) hx hb dX12_operand_88 (by decide) (fun c74 => ?_) (fun c74 => ?_)
        · have c74 : z11 = 0 := (i_eq0 (rb f13 (by decide) (by decide))).mp c74
          exact J121_75 _ _ _ hP hS (lv_sub hl [0, 1, 2] rfl)
        · have c74 : ¬ z11 = 0 := mt (i_eq0 (rb f13 (by decide) (by decide))).mpr c74
          refine lv_aload_n hx hb dX12_operand_91 rfl (lv_at hl 2 rfl) ?_
          refine lv_ldc2 (v := 6384748) hx hb hown (hts _ (List.mem_cons_of_mem _ (wl_in_1 _ (List.mem_of_getElem? (i := 3) rfl)))) dX12_operand_92 ?_
          refine tp_l (y := jI 6384748) (by decide +kernel) ?_
          refine x_calli (As := [.long (jI 6384748)]) (rest := []) ⟨hx, hb, hml, hown, hts⟩ (mb_X12_isWord l dC dI cB cI cJ cZ cQ q _ 6384748 hI ⟨by decide, by decide⟩) (cwV 1 hts (goodV (wl_in_1 _ (List.mem_of_getElem? (i := 59) rfl)) (wl_in_2 _ (List.mem_of_getElem? (i := 0) rfl)) (wl_in_2 _ (List.mem_of_getElem? (i := 1) rfl)) (wl_in_0 _ (List.mem_of_getElem? (i := 8) rfl)) (wl_in_0 _ (List.mem_of_getElem? (i := 35) rfl))) rfl rfl rfl (by decide +kernel) ⟨Nat.le_of_ble_eq_true rfl, Nat.le_of_ble_eq_true rfl⟩) hK hDD hA0 hP hS 0 12 wm0 rfl rfl hl.1 (Nat.le_of_ble_eq_true rfl) dX12_operand_95 (fun z76 A77 H locs hw78 hP hS => ?_)
          obtain ⟨rfl, hw78⟩ := hw78
          have rz76 : 0 ≤ z76 ∧ z76 ≤ 1 := hw78.1
          replace hw78 := Hd.mk hw78.2
          refine lv_if_eq (tgt := 121) hx hb dX12_operand_98 (by decide) (fun c79 => ?_) (fun c79 => ?_)
          · have c79 : z76 = 0 := (i_eq0 (rb rz76 (by decide) (by decide))).mp c79
            exact J121_75 _ _ _ hP hS (lv_sub hl [0, 1, 2] rfl)
          · have c79 : ¬ z76 = 0 := mt (i_eq0 (rb rz76 (by decide) (by decide))).mpr c79
            have hw78b := hw78.out.mp (by omega)
            have hlt := RI.lt hri1 (by omega)
            refine lv_aload_n hx hb dX12_operand_101 rfl (lv_at hl 2 rfl) ?_
            refine lv_bipush (v := iI 9) hx hb dX12_operand_102 (by decide +kernel) ?_
            refine lv_iconst (v := iI 0) hx hb dX12_operand_104 (by decide +kernel) ?_
            refine x_callv (As := [.int (iI 9), .int (iI 0)]) (rest := []) ⟨hx, hb, hml, hown, hts⟩ (mb_X12_add l dC dI cB cI cJ cZ cQ q _ 9 0 hI ⟨by decide, by decide⟩ ⟨by decide, by decide⟩ (by omega) (CI.fr hcCI (fr_def hA49 (fr.st (fr.rf (M := [37]) (N := [])) (by decide) rfl)) rfl rfl)) (cwV 2 hts (goodV (wl_in_1 _ (List.mem_of_getElem? (i := 41) rfl)) (wl_in_1 _ (List.mem_of_getElem? (i := 42) rfl)) (wl_in_1 _ (List.mem_of_getElem? (i := 43) rfl)) (wl_in_0 _ (List.mem_of_getElem? (i := 8) rfl)) (wl_in_1 _ (List.mem_of_getElem? (i := 29) rfl))) rfl rfl rfl (by decide +kernel) ⟨Nat.le_of_ble_eq_true rfl, Nat.le_of_ble_eq_true rfl⟩) hK hDD hA0 hP hS 0 12 wm0 rfl rfl hl.1 (Nat.le_of_ble_eq_true rfl) dX12_operand_105 (fun A80 H locs hw81 hP hS => ?_)
            obtain ⟨hI, hf82, hw81⟩ := hw81
            obtain ⟨hc83, hw81⟩ := hw81
            have r_A80_0_46 : (0 : Int) ≤ (A80 0 46) ∧ (A80 0 46) ≤ 1600 := hI 0 46
            refine lv_aload_n hx hb dX12_operand_108 rfl (lv_at hl 2 rfl) ?_
            refine va_get (D := (dC, dI)) (ci := 12) (v := .ref (q 36)) (C := RX12) (T := TX12) (N := 85) hx hb hts hiX12 hown hK hP 0 wm0 rfl 49 (by decide) (hts _ (List.mem_cons_of_mem _ (wl_in_1 _ (List.mem_of_getElem? (i := 47) rfl)))) (fun _ h9 => h9) rfl dX12_operand_109 ?_
            refine lv_iload_n hx hb dX12_operand_112 rfl (lv_at hl 1 rfl) ?_
            refine lv_iconst (v := iI 2) hx hb dX12_operand_113 (by decide +kernel) ?_
            refine x_iast hx hb hK hP hDD hS 36 1 wm36 rfl (by omega) (by decide) dX12_operand_114 ws36 (fun H locs hP hS => ?_)
            have hI := hI.st (j := 36) (i := ((A 0 53) - 1).toNat) (v := 2) (show (0 : Int) ≤ 2 ∧ 2 ≤ 2 from (by omega))
            refine lv_aload_n hx hb dX12_operand_115 rfl (lv_at hl 2 rfl) ?_
            obtain ⟨A84, hA84⟩ : ∃ A84 : St, A84 = (stA A80 36 ((A 0 53) - 1).toNat 2) := ⟨_, rfl⟩
            rw [← hA84] at hP hI
            have e_A80_4 : A80 0 4 = (A 0 4) := (hf82.2 4 rfl).trans e_A49_4
            have e_A84_4 : A84 0 4 = (A 0 4) := by rw [hA84]; exact e_A80_4
            have e_A80_5 : A80 0 5 = (A 0 5) := (hf82.2 5 rfl).trans e_A49_5
            have e_A84_5 : A84 0 5 = (A 0 5) := by rw [hA84]; exact e_A80_5
            have e_A80_8 : A80 0 8 = (A 0 8) := (hf82.2 8 rfl).trans e_A49_8
            have e_A84_8 : A84 0 8 = (A 0 8) := by rw [hA84]; exact e_A80_8
            refine x_callv (As := []) (rest := []) ⟨hx, hb, hml, hown, hts⟩ (mb_X12_ahead l dC dI cB cI cJ cZ cQ q _ hI) (cwV 0 hts (goodV (wl_in_0 _ (List.mem_of_getElem? (i := 40) rfl)) (wl_in_0 _ (List.mem_of_getElem? (i := 41) rfl)) (wl_in_0 _ (List.mem_of_getElem? (i := 42) rfl)) (wl_in_0 _ (List.mem_of_getElem? (i := 8) rfl)) (wl_in_0 _ (List.mem_of_getElem? (i := 20) rfl))) rfl rfl rfl (by decide +kernel) ⟨Nat.le_of_ble_eq_true rfl, Nat.le_of_ble_eq_true rfl⟩) hK hDD hA0 hP hS 0 12 wm0 rfl rfl hl.1 (Nat.le_of_ble_eq_true rfl) dX12_operand_116 (fun A85 H locs hw86 hP hS => ?_)
            obtain ⟨hI, hf87, hw86⟩ := hw86
            have r_A85_0_3 : (0 : Int) ≤ (A85 0 3) ∧ (A85 0 3) ≤ 3 := hI 0 3
            have r_A85_0_4 : (0 : Int) ≤ (A85 0 4) ∧ (A85 0 4) ≤ 1600 := hI 0 4
            have r_A85_0_5 : (0 : Int) ≤ (A85 0 5) ∧ (A85 0 5) ≤ 1600 := hI 0 5
            have r_A85_0_8 : (0 : Int) ≤ (A85 0 8) ∧ (A85 0 8) ≤ 5 := hI 0 8
            refine lv_iconst (v := iI 1) hx hb dX12_operand_119 (by decide +kernel) ?_
            have ca88 : A49 36 = A 36 := by rw [hA49]; exact rfl
            have ca89 : A80 36 = A 36 := (hf82.1 36 (by decide) rfl).trans ca88
            have e36 : A84 36 = up (A 36) (A 0 53 - 1).toNat 2 := by rw [hA84]; show up (A80 36) _ _ = _; rw [ca89]
            have ca90 : A85 36 = A84 36 := (hf87.1 36 (by decide) rfl)
            have ca91 : A49 39 = A 39 := by rw [hA49]; exact rfl
            have ca92 : A80 39 = A 39 := (hf82.1 39 (by decide) rfl).trans ca91
            have ca93 : A84 39 = A 39 := by rw [hA84]; exact ca92
            have ca94 : A85 39 = A 39 := (hf87.1 39 (by decide) rfl).trans ca93
            have ca95 : A49 40 = A 40 := by rw [hA49]; exact rfl
            have ca96 : A80 40 = A 40 := (hf82.1 40 (by decide) rfl).trans ca95
            have ca97 : A84 40 = A 40 := by rw [hA84]; exact ca96
            have ca98 : A85 40 = A 40 := (hf87.1 40 (by decide) rfl).trans ca97
            have e_A80_53 : A80 0 53 = (A 0 53) := (hf82.2 53 rfl).trans e_A49_53
            have e_A84_53 : A84 0 53 = (A 0 53) := by rw [hA84]; exact e_A80_53
            have e_A85_53 : A85 0 53 = (A 0 53) := (hf87.2 53 rfl).trans e_A84_53
            have e_A80_56 : A80 0 56 = (A 0 56) := (hf82.2 56 rfl).trans e_A49_56
            have e_A84_56 : A84 0 56 = (A 0 56) := by rw [hA84]; exact e_A80_56
            have e_A85_56 : A85 0 56 = (A 0 56) := (hf87.2 56 rfl).trans e_A84_56
            have r_A85_0_7 : (-9223372036854775808 : Int) ≤ (A85 0 7) ∧ (A85 0 7) ≤ 9223372036854775807 := hI 0 7
            have ca99 : A84 33 = A80 33 := by rw [hA84]; exact rfl
            have ca100 : A85 33 = A80 33 := (hf87.1 33 (by decide) rfl).trans ca99
            have e_A84_46 : A84 0 46 = (A80 0 46) := by rw [hA84]; exact rfl
            have e_A85_46 : A85 0 46 = (A80 0 46) := (hf87.2 46 rfl).trans e_A84_46
            have e_A80_47 : A80 0 47 = (A 0 47) := (hf82.2 47 rfl).trans e_A49_47
            have e_A84_47 : A84 0 47 = (A 0 47) := by rw [hA84]; exact e_A80_47
            have e_A85_47 : A85 0 47 = (A 0 47) := (hf87.2 47 rfl).trans e_A84_47
            have e_A80_54 : A80 0 54 = (A 0 54) := (hf82.2 54 rfl).trans e_A49_54
            have e_A84_54 : A84 0 54 = (A 0 54) := by rw [hA84]; exact e_A80_54
            have e_A85_54 : A85 0 54 = (A 0 54) := (hf87.2 54 rfl).trans e_A84_54
            have ca101 : A80 29 = A49 29 := (hf82.1 29 (by decide) rfl)
            have ca102 : A84 29 = A49 29 := by rw [hA84]; exact ca101
            have ca103 : A85 29 = A49 29 := (hf87.1 29 (by decide) rfl).trans ca102
            have ca104 : A80 31 = A49 31 := (hf82.1 31 (by decide) rfl)
            have ca105 : A84 31 = A49 31 := by rw [hA84]; exact ca104
            have ca106 : A85 31 = A49 31 := (hf87.1 31 (by decide) rfl).trans ca105
            have ca107 : A80 35 = A49 35 := (hf82.1 35 (by decide) rfl)
            have ca108 : A84 35 = A49 35 := by rw [hA84]; exact ca107
            have ca109 : A85 35 = A49 35 := (hf87.1 35 (by decide) rfl).trans ca108
            have ca110 : A80 37 = A49 37 := (hf82.1 37 (by decide) rfl)
            have ca111 : A84 37 = A49 37 := by rw [hA84]; exact ca110
            have ca112 : A85 37 = A49 37 := (hf87.1 37 (by decide) rfl).trans ca111
            have ca113 : A80 39 = A49 39 := (hf82.1 39 (by decide) rfl)
            have ca114 : A84 39 = A49 39 := by rw [hA84]; exact ca113
            have ca115 : A85 39 = A49 39 := (hf87.1 39 (by decide) rfl).trans ca114
            have ca116 : A80 40 = A49 40 := (hf82.1 40 (by decide) rfl)
            have ca117 : A84 40 = A49 40 := by rw [hA84]; exact ca116
            have ca118 : A85 40 = A49 40 := (hf87.1 40 (by decide) rfl).trans ca117
            exact RET 1 _ _ _ _ _ ⟨hI, fr.trans (fr_def hA84 (fr.st (fr.trans (fr_def hA49 (fr.st (fr.rf) (by decide) rfl)) hf82 rfl rfl) (by decide) rfl)) hf87 rfl rfl, (CI.fr (CI.fr hc83 (fr_def hA84 (fr.st (fr.rf (M := [36]) (N := [])) (by decide) rfl)) rfl rfl) hf87 rfl rfl), ⟨by decide, Hd.mk (fun h0 => ⟨RI.val (r37 := A49 37) hri1 hI1 (by omega) (x := 9) (by omega) (fun _ _ => rfl) hb1 ⟨ca103, ca106, (ca100.trans (hw81.2.trans (by rw [show A49 0 47 = A49 0 47 by omega, show A49 0 46 = A49 0 46 by omega]))), ca109, ca112, ca115, ca118, (by omega), (e_A85_47.trans e_A49_47.symm), (e_A85_53.trans e_A49_53.symm), (e_A85_54.trans e_A49_54.symm), (e_A85_56.trans e_A49_56.symm)⟩ (by omega) (by omega) hw86.2.2.1, ⟨(PR.fr (PR.fr (PR.fr (PR.fr hp2 (fr_def hA49 (fr.st (fr.rf (M := [37]) (N := [])) (by decide) rfl)) rfl rfl) hf82 rfl rfl) (fr_def hA84 (fr.st (fr.rf (M := [36]) (N := [])) (by decide) rfl)) rfl rfl) hf87 rfl rfl), SP.two hp3 (by omega) (ca90.trans e36) ca94 ca98 e_A85_53 e_A85_56⟩, by omega⟩)⟩⟩ hP hS dX12_operand_120
      refine lv_if_eq (tgt := 87) hx hb dX12_operand_68 (by decide) (fun c57 => ?_) (fun c57 => ?_)
      · have c57 : z11 = 0 := (i_eq0 (rb f13 (by decide) (by decide))).mp c57
        exact J87_58 _ _ _ hP hS (lv_sub hl [0, 1, 2] rfl)
      · have c57 : ¬ z11 = 0 := mt (i_eq0 (rb f13 (by decide) (by decide))).mpr c57
        refine lv_aload_n hx hb dX12_operand_71 rfl (lv_at hl 2 rfl) ?_
        refine lv_bipush (v := iI 91) hx hb dX12_operand_72 (by decide +kernel) ?_
        have e_A49_6 : A49 0 6 = (A 0 6) := by rw [hA49]; exact rfl
        have r_A_0_6 : (-2147483648 : Int) ≤ (A 0 6) ∧ (A 0 6) ≤ 2147483647 := by rw [← e_A49_6]; exact hI 0 6
        refine x_calli (As := [.int (iI 91)]) (rest := []) ⟨hx, hb, hml, hown, hts⟩ (mb_X12_isSign l dC dI cB cI cJ cZ cQ q _ 91 hI ⟨by decide, by decide⟩) (cwV 1 hts (goodV (wl_in_0 _ (List.mem_of_getElem? (i := 37) rfl)) (wl_in_0 _ (List.mem_of_getElem? (i := 38) rfl)) (wl_in_0 _ (List.mem_of_getElem? (i := 39) rfl)) (wl_in_0 _ (List.mem_of_getElem? (i := 8) rfl)) (wl_in_0 _ (List.mem_of_getElem? (i := 34) rfl))) rfl rfl rfl (by decide +kernel) ⟨Nat.le_of_ble_eq_true rfl, Nat.le_of_ble_eq_true rfl⟩) hK hDD hA0 hP hS 0 12 wm0 rfl rfl hl.1 (Nat.le_of_ble_eq_true rfl) dX12_operand_74 (fun z59 A60 H locs hw61 hP hS => ?_)
        obtain ⟨rfl, hw61⟩ := hw61
        have rz59 : 0 ≤ z59 ∧ z59 ≤ 1 := hw61.1
        replace hw61 := Hd.mk hw61.2
        refine lv_if_eq (tgt := 87) hx hb dX12_operand_77 (by decide) (fun c62 => ?_) (fun c62 => ?_)
        · have c62 : z59 = 0 := (i_eq0 (rb rz59 (by decide) (by decide))).mp c62
          exact J87_58 _ _ _ hP hS (lv_sub hl [0, 1, 2] rfl)
        · have c62 : ¬ z59 = 0 := mt (i_eq0 (rb rz59 (by decide) (by decide))).mpr c62
          have hw61b := hw61.out.mp (by omega)
          refine lv_aload_n hx hb dX12_operand_80 rfl (lv_at hl 2 rfl) ?_
          refine lv_iconst (v := iI 5) hx hb dX12_operand_81 (by decide +kernel) ?_
          refine x_callv (As := [.int (iI 5)]) (rest := []) ⟨hx, hb, hml, hown, hts⟩ (mb_X12_opens l dC dI cB cI cJ cZ cQ q _ 5 hI ⟨by decide, by decide⟩ (by exact Hd.mk (fun _ => ⟨hri1, by omega, hb1⟩)) (by omega)) (cwV 1 hts (goodV (wl_in_2 _ (List.mem_of_getElem? (i := 5) rfl)) (wl_in_2 _ (List.mem_of_getElem? (i := 6) rfl)) (wl_in_2 _ (List.mem_of_getElem? (i := 7) rfl)) (wl_in_0 _ (List.mem_of_getElem? (i := 8) rfl)) (wl_in_1 _ (List.mem_of_getElem? (i := 49) rfl))) rfl rfl rfl (by decide +kernel) ⟨Nat.le_of_ble_eq_true rfl, Nat.le_of_ble_eq_true rfl⟩) hK hDD hA0 hP hS 0 12 wm0 rfl rfl hl.1 (Nat.le_of_ble_eq_true rfl) dX12_operand_82 (fun A63 H locs hw64 hP hS => ?_)
          obtain ⟨hI, hf65, hw64⟩ := hw64
          have r_A63_0_4 : (0 : Int) ≤ (A63 0 4) ∧ (A63 0 4) ≤ 1600 := hI 0 4
          have r_A63_0_8 : (0 : Int) ≤ (A63 0 8) ∧ (A63 0 8) ≤ 5 := hI 0 8
          have r_A63_0_53 : (0 : Int) ≤ (A63 0 53) ∧ (A63 0 53) ≤ 20 := hI 0 53
          refine lv_iconst (v := iI 0) hx hb dX12_operand_85 (by decide +kernel) ?_
          have r_A63_0_5 : (0 : Int) ≤ (A63 0 5) ∧ (A63 0 5) ≤ 1600 := hI 0 5
          have hlt := RI.lt hp0 (by omega)
          have ca66 : A49 35 = A 35 := by rw [hA49]; exact rfl
          have ca67 : A49 38 = A 38 := by rw [hA49]; exact rfl
          have ca68 : A63 38 = A 38 := (hf65.1 38 (by decide) rfl).trans ca67
          have e_A63_46 : A63 0 46 = (A 0 46) := (hf65.2 46 rfl).trans e_A49_46
          have e_A63_47 : A63 0 47 = (A 0 47) := (hf65.2 47 rfl).trans e_A49_47
          have e_A63_56 : A63 0 56 = (A 0 56) := (hf65.2 56 rfl).trans e_A49_56
          have r_A63_0_3 : (0 : Int) ≤ (A63 0 3) ∧ (A63 0 3) ≤ 3 := hI 0 3
          have r_A63_0_7 : (-9223372036854775808 : Int) ≤ (A63 0 7) ∧ (A63 0 7) ≤ 9223372036854775807 := hI 0 7
          have r_A63_0_54 : (0 : Int) ≤ (A63 0 54) ∧ (A63 0 54) ≤ 8 := hI 0 54
          have ca69 : A49 36 = A 36 := by rw [hA49]; exact rfl
          have ca70 : A49 39 = A 39 := by rw [hA49]; exact rfl
          have ca71 : A49 40 = A 40 := by rw [hA49]; exact rfl
          have ca72 : A63 40 = A 40 := (hf65.1 40 (by decide) rfl).trans ca71
          exact RET 0 _ _ _ _ _ ⟨hI, fr.trans (fr_def hA49 (fr.st (fr.rf) (by decide) rfl)) hf65 rfl rfl, (CI.fr (CI.fr hcCI (fr_def hA49 (fr.st (fr.rf (M := [37]) (N := [])) (by decide) rfl)) rfl rfl) hf65 rfl rfl), ⟨by decide, Hd.mk (fun h0 => by have g := hw64.out (by omega); exact ⟨g.1, ⟨PR.push hp2 (by omega) (g.2.2.2.1.trans (by rw [ca66, show A49 0 53 = A 0 53 by omega])) (by have := g.2.2.2.2.1; omega) ca68 (by decide), SP.opn hp3 hI0 (by omega) (g.2.2.2.2.2.1.trans (by rw [ca69, show A49 0 53 = A 0 53 by omega])) (g.2.2.2.2.2.2.trans (by rw [ca70, show A49 0 53 = A 0 53 by omega, show A49 0 56 = A 0 56 by omega])) ca72 (by have := g.2.2.2.2.1; omega) e_A63_56⟩, by have := g.2.1; omega⟩)⟩⟩ hP hS dX12_operand_86
    refine lv_if_eq (tgt := 60) hx hb dX12_operand_35 (by decide) (fun c16 => ?_) (fun c16 => ?_)
    · have c16 : z11 = 0 := (i_eq0 (rb f13 (by decide) (by decide))).mp c16
      exact J60_17 _ _ _ hP hS (lv_sub hl [0, 1, 2] rfl)
    · have c16 : ¬ z11 = 0 := mt (i_eq0 (rb f13 (by decide) (by decide))).mpr c16
      refine lv_aload_n hx hb dX12_operand_38 rfl (lv_at hl 2 rfl) ?_
      refine lv_ldc2 (v := 7237492) hx hb hown (hts _ (List.mem_cons_of_mem _ (wl_in_1 _ (List.mem_of_getElem? (i := 2) rfl)))) dX12_operand_39 ?_
      refine tp_l (y := jI 7237492) (by decide +kernel) ?_
      refine x_calli (As := [.long (jI 7237492)]) (rest := []) ⟨hx, hb, hml, hown, hts⟩ (mb_X12_isWord l dC dI cB cI cJ cZ cQ q _ 7237492 hI ⟨by decide, by decide⟩) (cwV 1 hts (goodV (wl_in_1 _ (List.mem_of_getElem? (i := 59) rfl)) (wl_in_2 _ (List.mem_of_getElem? (i := 0) rfl)) (wl_in_2 _ (List.mem_of_getElem? (i := 1) rfl)) (wl_in_0 _ (List.mem_of_getElem? (i := 8) rfl)) (wl_in_0 _ (List.mem_of_getElem? (i := 35) rfl))) rfl rfl rfl (by decide +kernel) ⟨Nat.le_of_ble_eq_true rfl, Nat.le_of_ble_eq_true rfl⟩) hK hDD hA0 hP hS 0 12 wm0 rfl rfl hl.1 (Nat.le_of_ble_eq_true rfl) dX12_operand_42 (fun z18 A19 H locs hw20 hP hS => ?_)
      obtain ⟨rfl, hw20⟩ := hw20
      have rz18 : 0 ≤ z18 ∧ z18 ≤ 1 := hw20.1
      replace hw20 := Hd.mk hw20.2
      refine lv_if_eq (tgt := 60) hx hb dX12_operand_45 (by decide) (fun c21 => ?_) (fun c21 => ?_)
      · have c21 : z18 = 0 := (i_eq0 (rb rz18 (by decide) (by decide))).mp c21
        exact J60_17 _ _ _ hP hS (lv_sub hl [0, 1, 2] rfl)
      · have c21 : ¬ z18 = 0 := mt (i_eq0 (rb rz18 (by decide) (by decide))).mpr c21
        have hw20b := hw20.out.mp (by omega)
        refine lv_aload_n hx hb dX12_operand_48 rfl (lv_at hl 2 rfl) ?_
        refine lv_bipush (v := iI 22) hx hb dX12_operand_49 (by decide +kernel) ?_
        refine x_callv (As := [.int (iI 22)]) (rest := []) ⟨hx, hb, hml, hown, hts⟩ (mb_X12_holdsBack l dC dI cB cI cJ cZ cQ q _ 22 hI ⟨by decide, by decide⟩ (by omega)) (cwV 1 hts (goodV (wl_in_2 _ (List.mem_of_getElem? (i := 2) rfl)) (wl_in_2 _ (List.mem_of_getElem? (i := 3) rfl)) (wl_in_2 _ (List.mem_of_getElem? (i := 4) rfl)) (wl_in_0 _ (List.mem_of_getElem? (i := 8) rfl)) (wl_in_1 _ (List.mem_of_getElem? (i := 44) rfl))) rfl rfl rfl (by decide +kernel) ⟨Nat.le_of_ble_eq_true rfl, Nat.le_of_ble_eq_true rfl⟩) hK hDD hA0 hP hS 0 12 wm0 rfl rfl hl.1 (Nat.le_of_ble_eq_true rfl) dX12_operand_51 (fun A22 H locs hw23 hP hS => ?_)
        obtain ⟨hI, hf24, hw23⟩ := hw23
        have r_A22_0_56 : (0 : Int) ≤ (A22 0 56) ∧ (A22 0 56) ≤ 500 := hI 0 56
        refine lv_aload_n hx hb dX12_operand_54 rfl (lv_at hl 2 rfl) ?_
        have e_A22_4 : A22 0 4 = (A 0 4) := (hf24.2 4 rfl)
        have e_A22_5 : A22 0 5 = (A 0 5) := (hf24.2 5 rfl)
        have e_A22_8 : A22 0 8 = (A 0 8) := (hf24.2 8 rfl)
        refine x_callv (As := []) (rest := []) ⟨hx, hb, hml, hown, hts⟩ (mb_X12_ahead l dC dI cB cI cJ cZ cQ q _ hI) (cwV 0 hts (goodV (wl_in_0 _ (List.mem_of_getElem? (i := 40) rfl)) (wl_in_0 _ (List.mem_of_getElem? (i := 41) rfl)) (wl_in_0 _ (List.mem_of_getElem? (i := 42) rfl)) (wl_in_0 _ (List.mem_of_getElem? (i := 8) rfl)) (wl_in_0 _ (List.mem_of_getElem? (i := 20) rfl))) rfl rfl rfl (by decide +kernel) ⟨Nat.le_of_ble_eq_true rfl, Nat.le_of_ble_eq_true rfl⟩) hK hDD hA0 hP hS 0 12 wm0 rfl rfl hl.1 (Nat.le_of_ble_eq_true rfl) dX12_operand_55 (fun A25 H locs hw26 hP hS => ?_)
        obtain ⟨hI, hf27, hw26⟩ := hw26
        have r_A25_0_3 : (0 : Int) ≤ (A25 0 3) ∧ (A25 0 3) ≤ 3 := hI 0 3
        have r_A25_0_4 : (0 : Int) ≤ (A25 0 4) ∧ (A25 0 4) ≤ 1600 := hI 0 4
        have r_A25_0_5 : (0 : Int) ≤ (A25 0 5) ∧ (A25 0 5) ≤ 1600 := hI 0 5
        have r_A25_0_8 : (0 : Int) ≤ (A25 0 8) ∧ (A25 0 8) ≤ 5 := hI 0 8
        refine lv_iconst (v := iI 0) hx hb dX12_operand_58 (by decide +kernel) ?_
        have hlt := RI.lt hp0 (by omega)
        have ca28 : A25 40 = A22 40 := (hf27.1 40 (by decide) rfl)
        have e_A22_46 : A22 0 46 = (A 0 46) := (hf24.2 46 rfl)
        have e_A25_46 : A25 0 46 = (A 0 46) := (hf27.2 46 rfl).trans e_A22_46
        have e_A22_47 : A22 0 47 = (A 0 47) := (hf24.2 47 rfl)
        have e_A25_47 : A25 0 47 = (A 0 47) := (hf27.2 47 rfl).trans e_A22_47
        have e_A22_53 : A22 0 53 = (A 0 53) := (hf24.2 53 rfl)
        have e_A25_53 : A25 0 53 = (A 0 53) := (hf27.2 53 rfl).trans e_A22_53
        have e_A22_54 : A22 0 54 = (A 0 54) := (hf24.2 54 rfl)
        have e_A25_54 : A25 0 54 = (A 0 54) := (hf27.2 54 rfl).trans e_A22_54
        have e_A25_56 : A25 0 56 = (A22 0 56) := (hf27.2 56 rfl)
        have r_A25_0_7 : (-9223372036854775808 : Int) ≤ (A25 0 7) ∧ (A25 0 7) ≤ 9223372036854775807 := hI 0 7
        have ca29 : A22 29 = A 29 := (hf24.1 29 (by decide) rfl)
        have ca30 : A25 29 = A 29 := (hf27.1 29 (by decide) rfl).trans ca29
        have ca31 : A22 31 = A 31 := (hf24.1 31 (by decide) rfl)
        have ca32 : A25 31 = A 31 := (hf27.1 31 (by decide) rfl).trans ca31
        have ca33 : A22 33 = A 33 := (hf24.1 33 (by decide) rfl)
        have ca34 : A25 33 = A 33 := (hf27.1 33 (by decide) rfl).trans ca33
        have ca35 : A22 35 = A 35 := (hf24.1 35 (by decide) rfl)
        have ca36 : A25 35 = A 35 := (hf27.1 35 (by decide) rfl).trans ca35
        have ca37 : A22 37 = A 37 := (hf24.1 37 (by decide) rfl)
        have ca38 : A25 37 = A 37 := (hf27.1 37 (by decide) rfl).trans ca37
        have ca39 : A22 39 = A 39 := (hf24.1 39 (by decide) rfl)
        have ca40 : A25 39 = A 39 := (hf27.1 39 (by decide) rfl).trans ca39
        have ca41 : A22 1 = A 1 := (hf24.1 1 (by decide) rfl)
        have ca42 : A22 1 = A 1 := (hf24.1 1 (by decide) rfl)
        have ca43 : A25 1 = A 1 := (hf27.1 1 (by decide) rfl).trans ca42
        have ca44 : A22 36 = A 36 := (hf24.1 36 (by decide) rfl)
        have ca45 : A25 36 = A 36 := (hf27.1 36 (by decide) rfl).trans ca44
        have ca46 : A22 39 = A 39 := (hf24.1 39 (by decide) rfl)
        have ca47 : A25 39 = A 39 := (hf27.1 39 (by decide) rfl).trans ca46
        exact RET 0 _ _ _ _ _ ⟨hI, fr.trans (fr.trans (fr.rf) hf24 rfl rfl) hf27 rfl rfl, (CI.fr (CI.fr hcCI hf24 rfl rfl) hf27 rfl rfl), ⟨by decide, Hd.mk (fun h0 => ⟨RI.nt hp0 hI0 (by omega) (by omega) (f15.out (by omega)) ⟨ca30, ca32, ca34, ca36, ca38, ca40, (ca28.trans hw23.2), e_A25_46, e_A25_47, e_A25_53, e_A25_54, (by omega)⟩ ca43 (by omega) (by omega) hw26.2.2.1 (fun a b => by have g := hw26.2.2.2.2 (by omega) a b; rw [ca41] at g; exact g), ⟨(PR.fr (PR.fr hp2 hf24 rfl rfl) hf27 rfl rfl), SP.push (r36 := A 36) (ph := A 36 (A 0 53 - 1).toNat) hp3 hI0 hp0.2.1 (by omega) ca45 (fun _ _ => rfl) rfl ca47 (ca28.trans hw23.2) (by omega) (by omega) (hp0.2.2.2.1.2.2 (f15.out (by omega))) (fun h => ⟨by decide, Or.inl h⟩)⟩, by omega⟩)⟩⟩ hP hS dX12_operand_59
  have J32_6 : ∀ (H : Heap) (locs : List Loc) (ls : Array Slot), va_P (dC, dI) vwCl (WM cI cJ cZ q A) H → va_S AS s.heap H locs → lv_has ls 4 [(1, .int (iI ((A 0 53) - 1))), (0, .ref (q 0))] → W p l e (headSpec ws_mb_X12_operand ({ frames := 3, cells := 0, slots := 0, locals := 68 } : Room)).room s m [.ref (q 0)].toArray below meth c H locs 0 0 Q (F0 m 32 ls []) := by
    intro H locs ls hP hS hl
    refine lv_iconst (v := iI 0) hx hb dX12_operand_32 (by decide +kernel) ?_
    exact J33_7 0 _ _ _ (by omega) (by omega) (by exact Hd.mk (by  omega)) hP hS (lv_sub hl [0, 1] rfl)
  refine lv_if_eq (tgt := 32) hx hb dX12_operand_16 (by decide) (fun c5 => ?_) (fun c5 => ?_)
  · have c5 : z2 = 0 := (i_eq0 (rb hw4 (by decide) (by decide))).mp c5
    exact J32_6 _ _ _ hP hS (lv_sub hl [0, 1] rfl)
  · have c5 : ¬ z2 = 0 := mt (i_eq0 (rb hw4 (by decide) (by decide))).mpr c5
    refine lv_aload_n hx hb dX12_operand_19 rfl (lv_at hl 1 rfl) ?_
    refine va_get (D := (dC, dI)) (ci := 12) (v := .ref (q 37)) (C := RX12) (T := TX12) (N := 85) hx hb hts hiX12 hown hK hP 0 wm0 rfl 50 (by decide) (hts _ (List.mem_cons_of_mem _ (wl_in_1 _ (List.mem_of_getElem? (i := 48) rfl)))) (fun _ h9 => h9) rfl dX12_operand_20 ?_
    refine lv_iload_n hx hb dX12_operand_23 rfl (lv_at hl 0 rfl) ?_
    refine x_zald hx hb hK hP 37 3 wm37 rfl (by omega) (by decide) dX12_operand_24 (fun z8 hz8 => ?_)
    have rz8 : (0 : Int) ≤ z8 ∧ z8 ≤ 1 := by rw [hz8]; exact hI 37 _
    have hz8 : z8 = A 37 ((A 0 53) - 1).toNat := hz8
    refine lv_if_eq (tgt := 32) hx hb dX12_operand_25 (by decide) (fun c9 => ?_) (fun c9 => ?_)
    · have c9 : z8 = 0 := (i_eq0 (rb rz8 (by decide) (by decide))).mp c9
      exact J32_6 _ _ _ hP hS (lv_sub hl [0, 1] rfl)
    · have c9 : ¬ z8 = 0 := mt (i_eq0 (rb rz8 (by decide) (by decide))).mpr c9
      refine lv_iconst (v := iI 1) hx hb dX12_operand_28 (by decide +kernel) ?_
      refine lv_goto (tgt := 33) hx hb dX12_operand_29 (by decide) ?_
      exact J33_7 1 _ _ _ (by omega) (by omega) (by exact Hd.mk (by  omega)) hP hS (lv_sub hl [0, 1] rfl)
