def ws_mb_X12_operand : List Cond := .code yX12_operand cX12_operand 4 (some .boolean) :: WX
set_option maxHeartbeats 4000000 in
set_option maxRecDepth 100000 in
theorem mb_X12_operand (l : Launch) (dC : Nat → ClassId) (dI : Nat → Nat → Nat) (cB cI cJ cZ cQ : ClassId) (q : Nat → Nat) (A : St) (hI : IM A) (hp0 : RI 0 A) (hp1 : A 0 8 = 0) (hp2 : PR A) (hcCI : CI A) : XMi l yX12_operand ws_mb_X12_operand ({ frames := 3, cells := 0, slots := 0, locals := 68 } : Room) (dC, dI) (tyA cB cI cJ cZ cQ) (WM cI cJ cZ q) A [.ref (q 0)] (fun z u => IM u ∧ fr [33, 34, 35, 36, 37, 38, 39, 40] [3, 4, 5, 6, 7, 8, 9, 46, 53, 54, 56] A u ∧ CI u ∧ ((0 ≤ z ∧ z ≤ 1) ∧ (Hd (u 0 8 = 0 → RI z u ∧ PR u ∧ A 0 4 + 1 ≤ u 0 4)))) := by
  refine x_metz (cc := cX12_operand) (maxL := 4) WM_adr (by decide +kernel) rfl (Nat.le_of_ble_eq_true rfl) (fun z u h => h.2.2.2.1) (fun p e s m below meth c Q AS ls hx hb hml hown hts hK hDD hA0 hP hS hl RET => ?_)
  have hown : s.vm.findClass RX12 = some m.cls := hown
  have hl : lv_has ls 4 [(0, .ref (q 0))] := hl
  have hiX12 : ∀ w ∈ u_ws RX12 TX12 85, w ∈ ws_mb_X12_operand := fun w h => List.mem_cons_of_mem _ (wx_lay w h)
  obtain ⟨H, hHe⟩ : ∃ H : Heap, H = s.heap := ⟨_, rfl⟩
  rw [← hHe] at hP
  have hS : va_S AS s.heap H [] := by rw [hHe]; exact hS
  suffices hgo : ∀ locs : List Loc, va_S AS s.heap H locs → W p l e (headSpec ws_mb_X12_operand ({ frames := 3, cells := 0, slots := 0, locals := 68 } : Room)).room s m [.ref (q 0)].toArray below meth c H locs 0 0 Q (F0 m 0 ls []) by
    have := hgo [] hS
    rw [hHe] at this
    exact this
  clear hS hHe
  intro locs hS
  have hI0 := hI
  have hdp := RI.deep hp0 hI0
  have hrm := RI.room hp0 hI0
  have r_A_0_3 : (0 : Int) ≤ (A 0 3) ∧ (A 0 3) ≤ 3 := hI 0 3
  have r_A_0_4 : (0 : Int) ≤ (A 0 4) ∧ (A 0 4) ≤ 1600 := hI 0 4
  have r_A_0_5 : (0 : Int) ≤ (A 0 5) ∧ (A 0 5) ≤ 1600 := hI 0 5
  have r_A_0_7 : (-9223372036854775808 : Int) ≤ (A 0 7) ∧ (A 0 7) ≤ 9223372036854775807 := hI 0 7
  have r_A_0_8 : (0 : Int) ≤ (A 0 8) ∧ (A 0 8) ≤ 5 := hI 0 8
  have r_A_0_46 : (0 : Int) ≤ (A 0 46) ∧ (A 0 46) ≤ 1600 := hI 0 46
  have r_A_0_47 : (0 : Int) ≤ (A 0 47) ∧ (A 0 47) ≤ 1 := hI 0 47
  have r_A_0_53 : (0 : Int) ≤ (A 0 53) ∧ (A 0 53) ≤ 20 := hI 0 53
  have r_A_0_54 : (0 : Int) ≤ (A 0 54) ∧ (A 0 54) ≤ 8 := hI 0 54
  have r_A_0_56 : (0 : Int) ≤ (A 0 56) ∧ (A 0 56) ≤ 500 := hI 0 56
  refine lv_aload_n hx hb dX12_operand_0 rfl (lv_at hl 0 rfl) ?_
  refine va_get (D := (dC, dI)) (ci := 12) (v := .int (iI (A 0 53))) (C := RX12) (T := TX12) (N := 85) hx hb hts hiX12 hown hK hP 0 wm0 rfl 53 (by decide) (hts _ (List.mem_cons_of_mem _ (wl_in_1 _ (List.mem_of_getElem? (i := 37) rfl)))) (fun _ h9 => h9) rfl dX12_operand_1 ?_
  refine lv_iconst (v := iI 1) hx hb dX12_operand_4 (by decide +kernel) ?_
  refine x_subv (v := (A 0 53) - 1) hx hb dX12_operand_5 (by omega) ?_
  refine lv_istore_n (lv' := [(1, .int (iI ((A 0 53) - 1))), (0, .ref (q 0))]) hx hb dX12_operand_6 rfl hl (by decide) rfl (fun ls hl => ?_)
  refine lv_aload_n hx hb dX12_operand_7 rfl (lv_at hl 1 rfl) ?_
  refine va_get (D := (dC, dI)) (ci := 12) (v := .ref (q 35)) (C := RX12) (T := TX12) (N := 85) hx hb hts hiX12 hown hK hP 0 wm0 rfl 48 (by decide) (hts _ (List.mem_cons_of_mem _ (wl_in_1 _ (List.mem_of_getElem? (i := 46) rfl)))) (fun _ h9 => h9) rfl dX12_operand_8 ?_
  refine lv_iload_n hx hb dX12_operand_11 rfl (lv_at hl 0 rfl) ?_
  refine x_iald hx hb hK hP 35 1 wm35 rfl (by omega) (by decide) dX12_operand_12 (fun z1 hz1 => ?_)
  have rz1 : (0 : Int) ≤ z1 ∧ z1 ≤ 5 := by rw [hz1]; exact hI 35 _
  have hz1 : z1 = A 35 ((A 0 53) - 1).toNat := hz1
  refine x_callSi (As := [.int (iI z1)]) (rest := []) ⟨hx, hb, hml, hown, hts⟩ (mc_X12_isTest l dC dI cB cI cJ cZ cQ q _ z1 hI (rb rz1 (by decide) (by decide))) (va_cwS 1 hts (goodS (wl_in_1 _ (List.mem_of_getElem? (i := 57) rfl)) (wl_in_1 _ (List.mem_of_getElem? (i := 58) rfl)) (wl_in_0 _ (List.mem_of_getElem? (i := 8) rfl)) (wl_in_1 _ (List.mem_of_getElem? (i := 54) rfl))) rfl rfl rfl (by decide +kernel) ⟨Nat.le_of_ble_eq_true rfl, Nat.le_of_ble_eq_true rfl⟩) hK hDD hA0 hP hS rfl hl.1 (Nat.le_of_ble_eq_true rfl) dX12_operand_13 (fun z2 A3 H locs hw4 hP hS => ?_)
  obtain ⟨rfl, hw4⟩ := hw4
  have J33_7 : ∀ (z11 : Int) (H : Heap) (locs : List Loc) (ls : Array Slot), (0 ≤ z11 ∧ z11 ≤ 1) → ((z11 = 1 ∧ ¬ z2 = 0) ∨ (z11 = 0)) → (Hd (z11 = 1 → A 37 (A 0 53 - 1).toNat = 1)) → va_P (dC, dI) vwCl (WM cI cJ cZ q A) H → va_S AS s.heap H locs → lv_has ls 4 [(1, .int (iI ((A 0 53) - 1))), (0, .ref (q 0))] → W p l e (headSpec ws_mb_X12_operand ({ frames := 3, cells := 0, slots := 0, locals := 68 } : Room)).room s m [.ref (q 0)].toArray below meth c H locs 0 0 Q (F0 m 33 ls [.int (iI z11)]) := by
    intro z11 H locs ls f13 f14 f15 hP hS hl
    refine lv_istore_n (lv' := [(2, .int (iI z11)), (1, .int (iI ((A 0 53) - 1))), (0, .ref (q 0))]) hx hb dX12_operand_33 rfl hl (by decide) rfl (fun ls hl => ?_)
    refine lv_iload_n hx hb dX12_operand_34 rfl (lv_at hl 0 rfl) ?_
    have J60_17 : ∀ (H : Heap) (locs : List Loc) (ls : Array Slot), va_P (dC, dI) vwCl (WM cI cJ cZ q A) H → va_S AS s.heap H locs → lv_has ls 4 [(2, .int (iI z11)), (1, .int (iI ((A 0 53) - 1))), (0, .ref (q 0))] → W p l e (headSpec ws_mb_X12_operand ({ frames := 3, cells := 0, slots := 0, locals := 68 } : Room)).room s m [.ref (q 0)].toArray below meth c H locs 0 0 Q (F0 m 60 ls []) := by
      intro H locs ls hP hS hl
      refine lv_aload_n hx hb dX12_operand_60 rfl (lv_at hl 2 rfl) ?_
      refine va_get (D := (dC, dI)) (ci := 12) (v := .ref (q 37)) (C := RX12) (T := TX12) (N := 85) hx hb hts hiX12 hown hK hP 0 wm0 rfl 50 (by decide) (hts _ (List.mem_cons_of_mem _ (wl_in_1 _ (List.mem_of_getElem? (i := 48) rfl)))) (fun _ h9 => h9) rfl dX12_operand_61 ?_
      refine lv_iload_n hx hb dX12_operand_64 rfl (lv_at hl 1 rfl) ?_
      refine lv_iconst (v := iI 0) hx hb dX12_operand_65 (by decide +kernel) ?_
      refine x_zast hx hb hK hP hDD hS 37 3 wm37 rfl (by omega) (by decide) dX12_operand_66 (by omega) ws37 (fun H locs hP hS => ?_)
      have hI := hI.st (j := 37) (i := ((A 0 53) - 1).toNat) (v := 0) (show (0 : Int) ≤ 0 ∧ 0 ≤ 1 from (by omega))
      obtain ⟨A45, hA45⟩ : ∃ A45 : St, A45 = (stA A 37 ((A 0 53) - 1).toNat 0) := ⟨_, rfl⟩
      rw [← hA45] at hP hI
      have e37 : A45 37 = up (A 37) (A 0 53 - 1).toNat 0 := by rw [hA45]; rfl
      have e_A45_3 : A45 0 3 = (A 0 3) := by rw [hA45]; exact rfl
      have e_A45_4 : A45 0 4 = (A 0 4) := by rw [hA45]; exact rfl
      have e_A45_5 : A45 0 5 = (A 0 5) := by rw [hA45]; exact rfl
      have e_A45_7 : A45 0 7 = (A 0 7) := by rw [hA45]; exact rfl
      have e_A45_8 : A45 0 8 = (A 0 8) := by rw [hA45]; exact rfl
      have e_A45_46 : A45 0 46 = (A 0 46) := by rw [hA45]; exact rfl
      have e_A45_47 : A45 0 47 = (A 0 47) := by rw [hA45]; exact rfl
      have e_A45_53 : A45 0 53 = (A 0 53) := by rw [hA45]; exact rfl
      have e_A45_54 : A45 0 54 = (A 0 54) := by rw [hA45]; exact rfl
      have e_A45_56 : A45 0 56 = (A 0 56) := by rw [hA45]; exact rfl
      have ca46 : A45 29 = A 29 := by rw [hA45]; exact rfl
      have ca47 : A45 31 = A 31 := by rw [hA45]; exact rfl
      have ca48 : A45 33 = A 33 := by rw [hA45]; exact rfl
      have ca49 : A45 35 = A 35 := by rw [hA45]; exact rfl
      have ca50 : A45 39 = A 39 := by rw [hA45]; exact rfl
      have ca51 : A45 40 = A 40 := by rw [hA45]; exact rfl
      have ca52 : A45 1 = A 1 := by rw [hA45]; exact rfl
      have hri1 : RI 0 A45 := RI.beg hp0 hI0 ⟨ca46, ca47, ca48, ca49, e37, ca50, ca51, e_A45_46, e_A45_47, e_A45_53, e_A45_54, e_A45_56⟩ ca52 (by omega) (by omega) (by omega) (by omega)
      have hb1 : A45 37 (A45 0 53 - 1).toNat = 0 := by rw [show A45 0 53 = A 0 53 by omega, e37, up_same]
      have hI1 := hI
      refine lv_iload_n hx hb dX12_operand_67 rfl (lv_at hl 0 rfl) ?_
      have J87_54 : ∀ (H : Heap) (locs : List Loc) (ls : Array Slot), va_P (dC, dI) vwCl (WM cI cJ cZ q A45) H → va_S AS s.heap H locs → lv_has ls 4 [(2, .int (iI z11)), (1, .int (iI ((A 0 53) - 1))), (0, .ref (q 0))] → W p l e (headSpec ws_mb_X12_operand ({ frames := 3, cells := 0, slots := 0, locals := 68 } : Room)).room s m [.ref (q 0)].toArray below meth c H locs 0 0 Q (F0 m 87 ls []) := by
        intro H locs ls hP hS hl
        refine lv_iload_n hx hb dX12_operand_87 rfl (lv_at hl 0 rfl) ?_
        have J121_67 : ∀ (H : Heap) (locs : List Loc) (ls : Array Slot), va_P (dC, dI) vwCl (WM cI cJ cZ q A45) H → va_S AS s.heap H locs → lv_has ls 4 [(2, .int (iI z11)), (1, .int (iI ((A 0 53) - 1))), (0, .ref (q 0))] → W p l e (headSpec ws_mb_X12_operand ({ frames := 3, cells := 0, slots := 0, locals := 68 } : Room)).room s m [.ref (q 0)].toArray below meth c H locs 0 0 Q (F0 m 121 ls []) := by
          intro H locs ls hP hS hl
          refine lv_aload_n hx hb dX12_operand_121 rfl (lv_at hl 2 rfl) ?_
          refine lv_bipush (v := iI 40) hx hb dX12_operand_122 (by decide +kernel) ?_
          have e_A45_6 : A45 0 6 = (A 0 6) := by rw [hA45]; exact rfl
          have r_A_0_6 : (-2147483648 : Int) ≤ (A 0 6) ∧ (A 0 6) ≤ 2147483647 := by rw [← e_A45_6]; exact hI 0 6
          refine x_calli (As := [.int (iI 40)]) (rest := []) ⟨hx, hb, hml, hown, hts⟩ (mb_X12_isSign l dC dI cB cI cJ cZ cQ q _ 40 hI ⟨by decide, by decide⟩) (cwV 1 hts (goodV (wl_in_0 _ (List.mem_of_getElem? (i := 37) rfl)) (wl_in_0 _ (List.mem_of_getElem? (i := 38) rfl)) (wl_in_0 _ (List.mem_of_getElem? (i := 39) rfl)) (wl_in_0 _ (List.mem_of_getElem? (i := 8) rfl)) (wl_in_0 _ (List.mem_of_getElem? (i := 34) rfl))) rfl rfl rfl (by decide +kernel) ⟨Nat.le_of_ble_eq_true rfl, Nat.le_of_ble_eq_true rfl⟩) hK hDD hA0 hP hS 0 12 wm0 rfl rfl hl.1 (Nat.le_of_ble_eq_true rfl) dX12_operand_124 (fun z101 A102 H locs hw103 hP hS => ?_)
          obtain ⟨rfl, hw103⟩ := hw103
          have rz101 : 0 ≤ z101 ∧ z101 ≤ 1 := hw103.1
          replace hw103 := Hd.mk hw103.2
          refine lv_if_eq (tgt := 137) hx hb dX12_operand_127 (by decide) (fun c104 => ?_) (fun c104 => ?_)
          · have c104 : z101 = 0 := (i_eq0 (rb rz101 (by decide) (by decide))).mp c104
            refine lv_aload_n hx hb dX12_operand_137 rfl (lv_at hl 2 rfl) ?_
            refine lv_ldc2 (v := 7170414) hx hb hown (hts _ (List.mem_cons_of_mem _ (wl_in_1 _ (List.mem_of_getElem? (i := 8) rfl)))) dX12_operand_138 ?_
            refine tp_l (y := jI 7170414) (by decide +kernel) ?_
            refine x_calli (As := [.long (jI 7170414)]) (rest := []) ⟨hx, hb, hml, hown, hts⟩ (mb_X12_isWord l dC dI cB cI cJ cZ cQ q _ 7170414 hI ⟨by decide, by decide⟩) (cwV 1 hts (goodV (wl_in_1 _ (List.mem_of_getElem? (i := 59) rfl)) (wl_in_2 _ (List.mem_of_getElem? (i := 0) rfl)) (wl_in_2 _ (List.mem_of_getElem? (i := 1) rfl)) (wl_in_0 _ (List.mem_of_getElem? (i := 8) rfl)) (wl_in_0 _ (List.mem_of_getElem? (i := 35) rfl))) rfl rfl rfl (by decide +kernel) ⟨Nat.le_of_ble_eq_true rfl, Nat.le_of_ble_eq_true rfl⟩) hK hDD hA0 hP hS 0 12 wm0 rfl rfl hl.1 (Nat.le_of_ble_eq_true rfl) dX12_operand_141 (fun z105 A106 H locs hw107 hP hS => ?_)
            obtain ⟨rfl, hw107⟩ := hw107
            have rz105 : 0 ≤ z105 ∧ z105 ≤ 1 := hw107.1
            replace hw107 := Hd.mk hw107.2
            have J157_109 : ∀ (H : Heap) (locs : List Loc) (ls : Array Slot), ((A45 0 3) = 1) → va_P (dC, dI) vwCl (WM cI cJ cZ q A45) H → va_S AS s.heap H locs → lv_has ls 4 [(2, .int (iI z11)), (1, .int (iI ((A 0 53) - 1))), (0, .ref (q 0))] → W p l e (headSpec ws_mb_X12_operand ({ frames := 3, cells := 0, slots := 0, locals := 68 } : Room)).room s m [.ref (q 0)].toArray below meth c H locs 0 0 Q (F0 m 157 ls []) := by
              intro H locs ls f174 hP hS hl
              refine lv_aload_n hx hb dX12_operand_157 rfl (lv_at hl 2 rfl) ?_
              refine lv_ldc2 (v := 7170414) hx hb hown (hts _ (List.mem_cons_of_mem _ (wl_in_1 _ (List.mem_of_getElem? (i := 8) rfl)))) dX12_operand_158 ?_
              refine tp_l (y := jI 7170414) (by decide +kernel) ?_
              refine x_calli (As := [.long (jI 7170414)]) (rest := []) ⟨hx, hb, hml, hown, hts⟩ (mb_X12_isWord l dC dI cB cI cJ cZ cQ q _ 7170414 hI ⟨by decide, by decide⟩) (cwV 1 hts (goodV (wl_in_1 _ (List.mem_of_getElem? (i := 59) rfl)) (wl_in_2 _ (List.mem_of_getElem? (i := 0) rfl)) (wl_in_2 _ (List.mem_of_getElem? (i := 1) rfl)) (wl_in_0 _ (List.mem_of_getElem? (i := 8) rfl)) (wl_in_0 _ (List.mem_of_getElem? (i := 35) rfl))) rfl rfl rfl (by decide +kernel) ⟨Nat.le_of_ble_eq_true rfl, Nat.le_of_ble_eq_true rfl⟩) hK hDD hA0 hP hS 0 12 wm0 rfl rfl hl.1 (Nat.le_of_ble_eq_true rfl) dX12_operand_161 (fun z175 A176 H locs hw177 hP hS => ?_)
              obtain ⟨rfl, hw177⟩ := hw177
              have rz175 : 0 ≤ z175 ∧ z175 ≤ 1 := hw177.1
              replace hw177 := Hd.mk hw177.2
              have ez175 : z175 = z105 := by have a := hw107.out; have b := hw177.out; omega
              have J174_179 : ∀ (z180 : Int) (H : Heap) (locs : List Loc) (ls : Array Slot), (15 ≤ z180 ∧ z180 ≤ 16) → ((z180 = 16 ∧ z175 = 0) ∨ (z180 = 15 ∧ ¬ z175 = 0)) → va_P (dC, dI) vwCl (WM cI cJ cZ q A45) H → va_S AS s.heap H locs → lv_has ls 4 [(2, .int (iI z11)), (1, .int (iI ((A 0 53) - 1))), (0, .ref (q 0))] → W p l e (headSpec ws_mb_X12_operand ({ frames := 3, cells := 0, slots := 0, locals := 68 } : Room)).room s m [.ref (q 0)].toArray below meth c H locs 0 0 Q (F0 m 174 ls [.int (iI z180)]) := by
                intro z180 H locs ls f182 f183 hP hS hl
                refine lv_istore_n (lv' := [(3, .int (iI z180)), (2, .int (iI z11)), (1, .int (iI ((A 0 53) - 1))), (0, .ref (q 0))]) hx hb dX12_operand_174 rfl hl (by decide) rfl (fun ls hl => ?_)
                refine lv_aload_n hx hb dX12_operand_175 rfl (lv_at hl 3 rfl) ?_
                refine x_callv (As := []) (rest := []) ⟨hx, hb, hml, hown, hts⟩ (mb_X12_ahead l dC dI cB cI cJ cZ cQ q _ hI) (cwV 0 hts (goodV (wl_in_0 _ (List.mem_of_getElem? (i := 40) rfl)) (wl_in_0 _ (List.mem_of_getElem? (i := 41) rfl)) (wl_in_0 _ (List.mem_of_getElem? (i := 42) rfl)) (wl_in_0 _ (List.mem_of_getElem? (i := 8) rfl)) (wl_in_0 _ (List.mem_of_getElem? (i := 20) rfl))) rfl rfl rfl (by decide +kernel) ⟨Nat.le_of_ble_eq_true rfl, Nat.le_of_ble_eq_true rfl⟩) hK hDD hA0 hP hS 0 12 wm0 rfl rfl hl.1 (Nat.le_of_ble_eq_true rfl) dX12_operand_176 (fun A184 H locs hw185 hP hS => ?_)
                obtain ⟨hI, hf186, hw185⟩ := hw185
                have r_A184_0_3 : (0 : Int) ≤ (A184 0 3) ∧ (A184 0 3) ≤ 3 := hI 0 3
                have r_A184_0_4 : (0 : Int) ≤ (A184 0 4) ∧ (A184 0 4) ≤ 1600 := hI 0 4
                have r_A184_0_5 : (0 : Int) ≤ (A184 0 5) ∧ (A184 0 5) ≤ 1600 := hI 0 5
                have r_A184_0_8 : (0 : Int) ≤ (A184 0 8) ∧ (A184 0 8) ≤ 5 := hI 0 8
                have e_A184_46 : A184 0 46 = (A 0 46) := (hf186.2 46 rfl).trans e_A45_46
                have e_A184_47 : A184 0 47 = (A 0 47) := (hf186.2 47 rfl).trans e_A45_47
                have e_A184_53 : A184 0 53 = (A 0 53) := (hf186.2 53 rfl).trans e_A45_53
                have e_A184_54 : A184 0 54 = (A 0 54) := (hf186.2 54 rfl).trans e_A45_54
                have e_A184_56 : A184 0 56 = (A 0 56) := (hf186.2 56 rfl).trans e_A45_56
                have r_A184_0_7 : (-9223372036854775808 : Int) ≤ (A184 0 7) ∧ (A184 0 7) ≤ 9223372036854775807 := hI 0 7
                have ca187 : A184 29 = A45 29 := (hf186.1 29 (by decide) rfl)
                have ca188 : A184 31 = A45 31 := (hf186.1 31 (by decide) rfl)
                have ca189 : A184 33 = A45 33 := (hf186.1 33 (by decide) rfl)
                have ca190 : A184 35 = A45 35 := (hf186.1 35 (by decide) rfl)
                have ca191 : A184 37 = A45 37 := (hf186.1 37 (by decide) rfl)
                have ca192 : A184 39 = A45 39 := (hf186.1 39 (by decide) rfl)
                have ca193 : A184 40 = A45 40 := (hf186.1 40 (by decide) rfl)
                have hri2 : RI 0 A184 := RI.skip hri1 (by omega) ⟨ca187, ca188, ca189, ca190, ca191, ca192, ca193, (e_A184_46.trans e_A45_46.symm), (e_A184_47.trans e_A45_47.symm), (e_A184_53.trans e_A45_53.symm), (e_A184_54.trans e_A45_54.symm), (e_A184_56.trans e_A45_56.symm)⟩ (by omega) hw185.2.1 hw185.2.2.1
                have ca194 : A184 37 = A45 37 := (hf186.1 37 (by decide) rfl)
                have hb2 : A184 37 (A184 0 53 - 1).toNat = 0 := by rw [show A184 0 53 = A45 0 53 by omega, ca194]; exact hb1
                refine lv_aload_n hx hb dX12_operand_179 rfl (lv_at hl 3 rfl) ?_
                refine lv_bipush (v := iI 40) hx hb dX12_operand_180 (by decide +kernel) ?_
                have r_A184_0_6 : (-2147483648 : Int) ≤ (A184 0 6) ∧ (A184 0 6) ≤ 2147483647 := hI 0 6
                refine x_calli (As := [.int (iI 40)]) (rest := []) ⟨hx, hb, hml, hown, hts⟩ (mb_X12_isSign l dC dI cB cI cJ cZ cQ q _ 40 hI ⟨by decide, by decide⟩) (cwV 1 hts (goodV (wl_in_0 _ (List.mem_of_getElem? (i := 37) rfl)) (wl_in_0 _ (List.mem_of_getElem? (i := 38) rfl)) (wl_in_0 _ (List.mem_of_getElem? (i := 39) rfl)) (wl_in_0 _ (List.mem_of_getElem? (i := 8) rfl)) (wl_in_0 _ (List.mem_of_getElem? (i := 34) rfl))) rfl rfl rfl (by decide +kernel) ⟨Nat.le_of_ble_eq_true rfl, Nat.le_of_ble_eq_true rfl⟩) hK hDD hA0 hP hS 0 12 wm0 rfl rfl hl.1 (Nat.le_of_ble_eq_true rfl) dX12_operand_182 (fun z195 A196 H locs hw197 hP hS => ?_)
                obtain ⟨rfl, hw197⟩ := hw197
                have rz195 : 0 ≤ z195 ∧ z195 ≤ 1 := hw197.1
                replace hw197 := Hd.mk hw197.2
                have J197_199 : ∀ (A204 : St) (H : Heap) (locs : List Loc) (ls : Array Slot), (Hd ((A204 0 8) = 0 → (RI 0 A204 ∧ A204 0 3 ≠ 0 ∧ A204 37 (A204 0 53 - 1).toNat = 0) ∧ A184 0 8 = 0)) → IM A204 → fr [] [8, 9] A184 A204 → va_P (dC, dI) vwCl (WM cI cJ cZ q A204) H → va_S AS s.heap H locs → lv_has ls 4 [(3, .int (iI z180)), (2, .int (iI z11)), (1, .int (iI ((A 0 53) - 1))), (0, .ref (q 0))] → W p l e (headSpec ws_mb_X12_operand ({ frames := 3, cells := 0, slots := 0, locals := 68 } : Room)).room s m [.ref (q 0)].toArray below meth c H locs 0 0 Q (F0 m 197 ls []) := by
                  intro A204 H locs ls f205 hI hj203 hP hS hl
                  refine lv_aload_n hx hb dX12_operand_197 rfl (lv_at hl 3 rfl) ?_
                  refine lv_iconst (v := iI 3) hx hb dX12_operand_198 (by decide +kernel) ?_
                  have e_A204_3 : A204 0 3 = (A184 0 3) := (hj203.2 3 rfl)
                  have r_A204_0_8 : (0 : Int) ≤ (A204 0 8) ∧ (A204 0 8) ≤ 5 := hI 0 8
                  have e_A204_53 : A204 0 53 = (A 0 53) := (hj203.2 53 rfl).trans e_A184_53
                  have e_A204_5 : A204 0 5 = (A184 0 5) := (hj203.2 5 rfl)
                  refine x_callv (As := [.int (iI 3)]) (rest := []) ⟨hx, hb, hml, hown, hts⟩ (mb_X12_opens l dC dI cB cI cJ cZ cQ q _ 3 hI ⟨by decide, by decide⟩ (by exact Hd.mk (fun h => (f205.out h).1)) (by omega)) (cwV 1 hts (goodV (wl_in_2 _ (List.mem_of_getElem? (i := 5) rfl)) (wl_in_2 _ (List.mem_of_getElem? (i := 6) rfl)) (wl_in_2 _ (List.mem_of_getElem? (i := 7) rfl)) (wl_in_0 _ (List.mem_of_getElem? (i := 8) rfl)) (wl_in_1 _ (List.mem_of_getElem? (i := 49) rfl))) rfl rfl rfl (by decide +kernel) ⟨Nat.le_of_ble_eq_true rfl, Nat.le_of_ble_eq_true rfl⟩) hK hDD hA0 hP hS 0 12 wm0 rfl rfl hl.1 (Nat.le_of_ble_eq_true rfl) dX12_operand_199 (fun A206 H locs hw207 hP hS => ?_)
                  obtain ⟨hI, hf208, hw207⟩ := hw207
                  have r_A206_0_4 : (0 : Int) ≤ (A206 0 4) ∧ (A206 0 4) ≤ 1600 := hI 0 4
                  have r_A206_0_8 : (0 : Int) ≤ (A206 0 8) ∧ (A206 0 8) ≤ 5 := hI 0 8
                  have r_A206_0_53 : (0 : Int) ≤ (A206 0 53) ∧ (A206 0 53) ≤ 20 := hI 0 53
                  refine lv_aload_n hx hb dX12_operand_202 rfl (lv_at hl 3 rfl) ?_
                  refine va_get (D := (dC, dI)) (ci := 12) (v := .int (iI (A206 0 8))) (C := RX12) (T := TX12) (N := 85) hx hb hts hiX12 hown hK hP 0 wm0 rfl 8 (by decide) (hts _ (List.mem_cons_of_mem _ (wl_in_0 _ (List.mem_of_getElem? (i := 16) rfl)))) (fun _ h9 => h9) rfl dX12_operand_203 ?_
                  refine lv_if_ne (tgt := 221) hx hb dX12_operand_206 (by decide) (fun c209 => ?_) (fun c209 => ?_)
                  · have c209 : ¬ (A206 0 8) = 0 := mt (i_eq0 (rb r_A206_0_8 (by decide) (by decide))).mpr c209
                    refine lv_iconst (v := iI 0) hx hb dX12_operand_221 (by decide +kernel) ?_
                    have r_A206_0_5 : (0 : Int) ≤ (A206 0 5) ∧ (A206 0 5) ≤ 1600 := hI 0 5
                    exact RET 0 _ _ _ _ _ ⟨hI, fr.trans (fr.trans (fr.trans (fr_def hA45 (fr.st (fr.rf) (by decide) rfl)) hf186 rfl rfl) hj203 rfl rfl) hf208 rfl rfl, (CI.fr (CI.fr (CI.fr (CI.fr hcCI (fr_def hA45 (fr.st (fr.rf (M := [37]) (N := [])) (by decide) rfl)) rfl rfl) hf186 rfl rfl) hj203 rfl rfl) hf208 rfl rfl), ⟨by decide, Hd.mk (fun h => absurd h (by omega))⟩⟩ hP hS dX12_operand_222
                  · have c209 : (A206 0 8) = 0 := (i_eq0 (rb r_A206_0_8 (by decide) (by decide))).mp c209
                    have hlt := RI.lt hri1 (by omega)
                    have go := hw207.out (by omega)
                    have gm := f205.out go.2.2.1
                    have hdq := RI.deep go.1 hI
                    have e_A204_46 : A204 0 46 = (A 0 46) := (hj203.2 46 rfl).trans e_A184_46
                    have e_A206_46 : A206 0 46 = (A 0 46) := (hf208.2 46 rfl).trans e_A204_46
                    have e_A204_47 : A204 0 47 = (A 0 47) := (hj203.2 47 rfl).trans e_A184_47
                    have e_A206_47 : A206 0 47 = (A 0 47) := (hf208.2 47 rfl).trans e_A204_47
                    have e_A204_56 : A204 0 56 = (A 0 56) := (hj203.2 56 rfl).trans e_A184_56
                    have e_A206_56 : A206 0 56 = (A 0 56) := (hf208.2 56 rfl).trans e_A204_56
                    have r_A206_0_3 : (0 : Int) ≤ (A206 0 3) ∧ (A206 0 3) ≤ 3 := hI 0 3
                    have r_A206_0_5 : (0 : Int) ≤ (A206 0 5) ∧ (A206 0 5) ≤ 1600 := hI 0 5
                    have r_A206_0_7 : (-9223372036854775808 : Int) ≤ (A206 0 7) ∧ (A206 0 7) ≤ 9223372036854775807 := hI 0 7
                    have r_A206_0_54 : (0 : Int) ≤ (A206 0 54) ∧ (A206 0 54) ≤ 8 := hI 0 54
                    refine lv_aload_n hx hb dX12_operand_209 rfl (lv_at hl 3 rfl) ?_
                    refine va_get (D := (dC, dI)) (ci := 12) (v := .ref (q 38)) (C := RX12) (T := TX12) (N := 85) hx hb hts hiX12 hown hK hP 0 wm0 rfl 51 (by decide) (hts _ (List.mem_cons_of_mem _ (wl_in_1 _ (List.mem_of_getElem? (i := 56) rfl)))) (fun _ h9 => h9) rfl dX12_operand_210 ?_
                    refine lv_aload_n hx hb dX12_operand_213 rfl (lv_at hl 3 rfl) ?_
                    refine va_get (D := (dC, dI)) (ci := 12) (v := .int (iI (A206 0 53))) (C := RX12) (T := TX12) (N := 85) hx hb hts hiX12 hown hK hP 0 wm0 rfl 53 (by decide) (hts _ (List.mem_cons_of_mem _ (wl_in_1 _ (List.mem_of_getElem? (i := 37) rfl)))) (fun _ h9 => h9) rfl dX12_operand_214 ?_
                    refine lv_iconst (v := iI 1) hx hb dX12_operand_217 (by decide +kernel) ?_
                    refine x_subv (v := (A206 0 53) - 1) hx hb dX12_operand_218 (by omega) ?_
                    refine lv_iload_n hx hb dX12_operand_219 rfl (lv_at hl 0 rfl) ?_
                    refine x_iast hx hb hK hP hDD hS 38 1 wm38 rfl (by omega) (by decide) dX12_operand_220 ws38 (fun H locs hP hS => ?_)
                    have hI := hI.st (j := 38) (i := ((A206 0 53) - 1).toNat) (v := z180) (show (0 : Int) ≤ z180 ∧ z180 ≤ 16 from (by omega))
                    refine lv_iconst (v := iI 0) hx hb dX12_operand_221 (by decide +kernel) ?_
                    obtain ⟨A210, hA210⟩ : ∃ A210 : St, A210 = (stA A206 38 ((A206 0 53) - 1).toNat z180) := ⟨_, rfl⟩
                    rw [← hA210] at hP hI
                    have e_A210_4 : A210 0 4 = (A206 0 4) := by rw [hA210]; exact rfl
                    have e_A210_5 : A210 0 5 = (A206 0 5) := by rw [hA210]; exact rfl
                    have e_A210_8 : A210 0 8 = (A206 0 8) := by rw [hA210]; exact rfl
                    have ca211 : A45 35 = A 35 := by rw [hA45]; exact rfl
                    have ca212 : A184 35 = A 35 := (hf186.1 35 (by decide) rfl).trans ca211
                    have ca213 : A204 35 = A 35 := (hj203.1 35 (by decide) rfl).trans ca212
                    have ca214 : A45 38 = A 38 := by rw [hA45]; exact rfl
                    have ca215 : A184 38 = A 38 := (hf186.1 38 (by decide) rfl).trans ca214
                    have ca216 : A204 38 = A 38 := (hj203.1 38 (by decide) rfl).trans ca215
                    have ca217 : A206 38 = A 38 := (hf208.1 38 (by decide) rfl).trans ca216
                    have ca218 : A210 35 = A206 35 := by rw [hA210]; exact rfl
                    have e_A204_4 : A204 0 4 = (A184 0 4) := (hj203.2 4 rfl)
                    have e_A204_7 : A204 0 7 = (A184 0 7) := (hj203.2 7 rfl)
                    have e_A204_54 : A204 0 54 = (A 0 54) := (hj203.2 54 rfl).trans e_A184_54
                    have e_A210_3 : A210 0 3 = (A206 0 3) := by rw [hA210]; exact rfl
                    have e_A210_7 : A210 0 7 = (A206 0 7) := by rw [hA210]; exact rfl
                    have e_A210_46 : A210 0 46 = (A 0 46) := by rw [hA210]; exact e_A206_46
                    have e_A210_47 : A210 0 47 = (A 0 47) := by rw [hA210]; exact e_A206_47
                    have e_A210_53 : A210 0 53 = (A206 0 53) := by rw [hA210]; exact rfl
                    have e_A210_54 : A210 0 54 = (A206 0 54) := by rw [hA210]; exact rfl
                    have e_A210_56 : A210 0 56 = (A 0 56) := by rw [hA210]; exact e_A206_56
                    exact RET 0 _ _ _ _ _ ⟨hI, fr_def hA210 (fr.st (fr.trans (fr.trans (fr.trans (fr_def hA45 (fr.st (fr.rf) (by decide) rfl)) hf186 rfl rfl) hj203 rfl rfl) hf208 rfl rfl) (by decide) rfl), (CI.fr (CI.fr (CI.fr (CI.fr (CI.fr hcCI (fr_def hA45 (fr.st (fr.rf (M := [37]) (N := [])) (by decide) rfl)) rfl rfl) hf186 rfl rfl) hj203 rfl rfl) hf208 rfl rfl) (fr_def hA210 (fr.st (fr.rf (M := [38]) (N := [])) (by decide) rfl)) rfl rfl), ⟨by decide, Hd.mk (fun h0 => ⟨(RI0.fr go.1 (fr_def hA210 (fr.st (fr.rf (M := [38]) (N := [])) (by decide) rfl)) rfl rfl), PR.pushp (w := z180) hp2 (by omega) (ca218.trans (go.2.2.2.1.trans (by rw [ca213, show A204 0 53 = A 0 53 by omega]))) (by have := go.2.2.2.2; omega) (by rw [hA210]; show up (A206 38) _ _ = _; rw [ca217, show A206 0 53 - 1 = A 0 53 by omega]) (by omega), by have := go.2.1; omega⟩)⟩⟩ hP hS dX12_operand_222
                refine lv_if_ne (tgt := 197) hx hb dX12_operand_185 (by decide) (fun c198 => ?_) (fun c198 => ?_)
                · have c198 : ¬ z195 = 0 := mt (i_eq0 (rb rz195 (by decide) (by decide))).mpr c198
                  have hw197b := hw197.out.mp (by omega)
                  exact J197_199 _ _ _ _ (by exact Hd.mk (fun _ => ⟨⟨hri2, by omega, hb2⟩, by omega⟩)) hI (fr.rf) hP hS (lv_sub hl [0, 1, 2, 3] rfl)
                · have c198 : z195 = 0 := (i_eq0 (rb rz195 (by decide) (by decide))).mp c198
                  refine lv_aload_n hx hb dX12_operand_188 rfl (lv_at hl 3 rfl) ?_
                  refine lv_iconst (v := iI 1) hx hb dX12_operand_189 (by decide +kernel) ?_
                  refine lv_aload_n hx hb dX12_operand_190 rfl (lv_at hl 3 rfl) ?_
                  refine va_get (D := (dC, dI)) (ci := 12) (v := .int (iI (A184 0 4))) (C := RX12) (T := TX12) (N := 85) hx hb hts hiX12 hown hK hP 0 wm0 rfl 4 (by decide) (hts _ (List.mem_cons_of_mem _ (wl_in_0 _ (List.mem_of_getElem? (i := 23) rfl)))) (fun _ h9 => h9) rfl dX12_operand_191 ?_
                  refine x_callv (As := [.int (iI 1), .int (iI (A184 0 4))]) (rest := []) ⟨hx, hb, hml, hown, hts⟩ (mc_X12_blame l dC dI cB cI cJ cZ cQ q _ 1 (A184 0 4) hI ⟨by decide, by decide⟩ r_A184_0_4) (cwV 2 hts (goodV (wl_in_0 _ (List.mem_of_getElem? (i := 31) rfl)) (wl_in_0 _ (List.mem_of_getElem? (i := 32) rfl)) (wl_in_0 _ (List.mem_of_getElem? (i := 33) rfl)) (wl_in_0 _ (List.mem_of_getElem? (i := 8) rfl)) (wl_in_0 _ (List.mem_of_getElem? (i := 15) rfl))) rfl rfl rfl (by decide +kernel) ⟨Nat.le_of_ble_eq_true rfl, Nat.le_of_ble_eq_true rfl⟩) hK hDD hA0 hP hS 0 12 wm0 rfl rfl hl.1 (Nat.le_of_ble_eq_true rfl) dX12_operand_194 (fun A200 H locs hw201 hP hS => ?_)
                  obtain ⟨hI, hf202, hw201⟩ := hw201
                  have r_A200_0_8 : (0 : Int) ≤ (A200 0 8) ∧ (A200 0 8) ≤ 5 := hI 0 8
                  exact J197_199 _ _ _ _ (by exact Hd.mk (fun h => absurd h (by omega))) hI (fr.trans (fr.rf) hf202 rfl rfl) hP hS (lv_sub hl [0, 1, 2, 3] rfl)
              refine lv_if_eq (tgt := 172) hx hb dX12_operand_164 (by decide) (fun c178 => ?_) (fun c178 => ?_)
              · have c178 : z175 = 0 := (i_eq0 (rb rz175 (by decide) (by decide))).mp c178
                refine lv_bipush (v := iI 16) hx hb dX12_operand_172 (by decide +kernel) ?_
                exact J174_179 16 _ _ _ (by omega) (by omega) hP hS (lv_sub hl [0, 1, 2] rfl)
              · have c178 : ¬ z175 = 0 := mt (i_eq0 (rb rz175 (by decide) (by decide))).mpr c178
                have hw177b := hw177.out.mp (by omega)
                refine lv_bipush (v := iI 15) hx hb dX12_operand_167 (by decide +kernel) ?_
                refine lv_goto (tgt := 174) hx hb dX12_operand_169 (by decide) ?_
                exact J174_179 15 _ _ _ (by omega) (by omega) hP hS (lv_sub hl [0, 1, 2] rfl)
            refine lv_if_ne (tgt := 157) hx hb dX12_operand_144 (by decide) (fun c108 => ?_) (fun c108 => ?_)
            · have c108 : ¬ z105 = 0 := mt (i_eq0 (rb rz105 (by decide) (by decide))).mpr c108
              have hw107b := hw107.out.mp (by omega)
              exact J157_109 _ _ _ (by omega) hP hS (lv_sub hl [0, 1, 2] rfl)
            · have c108 : z105 = 0 := (i_eq0 (rb rz105 (by decide) (by decide))).mp c108
              refine lv_aload_n hx hb dX12_operand_147 rfl (lv_at hl 2 rfl) ?_
              refine lv_ldc2 (v := 7168376) hx hb hown (hts _ (List.mem_cons_of_mem _ (wl_in_1 _ (List.mem_of_getElem? (i := 9) rfl)))) dX12_operand_148 ?_
              refine tp_l (y := jI 7168376) (by decide +kernel) ?_
              refine x_calli (As := [.long (jI 7168376)]) (rest := []) ⟨hx, hb, hml, hown, hts⟩ (mb_X12_isWord l dC dI cB cI cJ cZ cQ q _ 7168376 hI ⟨by decide, by decide⟩) (cwV 1 hts (goodV (wl_in_1 _ (List.mem_of_getElem? (i := 59) rfl)) (wl_in_2 _ (List.mem_of_getElem? (i := 0) rfl)) (wl_in_2 _ (List.mem_of_getElem? (i := 1) rfl)) (wl_in_0 _ (List.mem_of_getElem? (i := 8) rfl)) (wl_in_0 _ (List.mem_of_getElem? (i := 35) rfl))) rfl rfl rfl (by decide +kernel) ⟨Nat.le_of_ble_eq_true rfl, Nat.le_of_ble_eq_true rfl⟩) hK hDD hA0 hP hS 0 12 wm0 rfl rfl hl.1 (Nat.le_of_ble_eq_true rfl) dX12_operand_151 (fun z110 A111 H locs hw112 hP hS => ?_)
              obtain ⟨rfl, hw112⟩ := hw112
              have rz110 : 0 ≤ z110 ∧ z110 ≤ 1 := hw112.1
              replace hw112 := Hd.mk hw112.2
              refine lv_if_eq (tgt := 223) hx hb dX12_operand_154 (by decide) (fun c113 => ?_) (fun c113 => ?_)
              · have c113 : z110 = 0 := (i_eq0 (rb rz110 (by decide) (by decide))).mp c113
                refine lv_aload_n hx hb dX12_operand_223 rfl (lv_at hl 2 rfl) ?_
                refine va_get (D := (dC, dI)) (ci := 12) (v := .int (iI (A45 0 3))) (C := RX12) (T := TX12) (N := 85) hx hb hts hiX12 hown hK hP 0 wm0 rfl 3 (by decide) (hts _ (List.mem_cons_of_mem _ (wl_in_0 _ (List.mem_of_getElem? (i := 24) rfl)))) (fun _ h9 => h9) rfl dX12_operand_224 ?_
                refine tp_i (y := iI (A 0 3)) (congrArg iI e_A45_3) ?_
                refine lv_iconst (v := iI 2) hx hb dX12_operand_227 (by decide +kernel) ?_
                have J292_115 : ∀ (z132 : Int) (H : Heap) (locs : List Loc) (ls : Array Slot), (-1 ≤ z132 ∧ z132 ≤ 4) → ((z132 = (-1) ∧ ¬ (A 0 3) = 2) ∨ (z132 = 4 ∧ ¬ (A 0 3) = 2) ∨ (z132 = 3 ∧ ¬ (A 0 3) = 2) ∨ (z132 = 2 ∧ ¬ (A 0 3) = 2) ∨ (z132 = 1 ∧ ¬ (A 0 3) = 2) ∨ (z132 = 0 ∧ (A 0 3) = 2)) → (Hd (z132 = -1 ∨ ¬ (A45 0 3) = 0)) → va_P (dC, dI) vwCl (WM cI cJ cZ q A45) H → va_S AS s.heap H locs → lv_has ls 4 [(2, .int (iI z11)), (1, .int (iI ((A 0 53) - 1))), (0, .ref (q 0))] → W p l e (headSpec ws_mb_X12_operand ({ frames := 3, cells := 0, slots := 0, locals := 68 } : Room)).room s m [.ref (q 0)].toArray below meth c H locs 0 0 Q (F0 m 292 ls [.int (iI z132)]) := by
                  intro z132 H locs ls f134 f135 f136 hP hS hl
                  refine lv_istore_n (lv' := [(3, .int (iI z132)), (2, .int (iI z11)), (1, .int (iI ((A 0 53) - 1))), (0, .ref (q 0))]) hx hb dX12_operand_292 rfl hl (by decide) rfl (fun ls hl => ?_)
                  refine lv_iload_n hx hb dX12_operand_293 rfl (lv_at hl 0 rfl) ?_
                  refine lv_iconst (v := iI (-1)) hx hb dX12_operand_294 (by decide +kernel) ?_
                  have J307_138 : ∀ (A143 : St) (H : Heap) (locs : List Loc) (ls : Array Slot), (Hd ((A143 0 8) = 0 → ¬ z132 = -1)) → IM A143 → fr [] [8, 9] A45 A143 → va_P (dC, dI) vwCl (WM cI cJ cZ q A143) H → va_S AS s.heap H locs → lv_has ls 4 [(3, .int (iI z132)), (2, .int (iI z11)), (1, .int (iI ((A 0 53) - 1))), (0, .ref (q 0))] → W p l e (headSpec ws_mb_X12_operand ({ frames := 3, cells := 0, slots := 0, locals := 68 } : Room)).room s m [.ref (q 0)].toArray below meth c H locs 0 0 Q (F0 m 307 ls []) := by
                    intro A143 H locs ls f144 hI hj142 hP hS hl
                    refine lv_aload_n hx hb dX12_operand_307 rfl (lv_at hl 3 rfl) ?_
                    refine va_get (D := (dC, dI)) (ci := 12) (v := .int (iI (A143 0 8))) (C := RX12) (T := TX12) (N := 85) hx hb hts hiX12 hown hK hP 0 wm0 rfl 8 (by decide) (hts _ (List.mem_cons_of_mem _ (wl_in_0 _ (List.mem_of_getElem? (i := 16) rfl)))) (fun _ h9 => h9) rfl dX12_operand_308 ?_
                    have r_A143_0_8 : (0 : Int) ≤ (A143 0 8) ∧ (A143 0 8) ≤ 5 := hI 0 8
                    refine lv_if_le (tgt := 316) hx hb dX12_operand_311 (by decide) (fun c145 => ?_) (fun c145 => ?_)
                    · have c145 : (A143 0 8) ≤ 0 := (i_le0 (rb r_A143_0_8 (by decide) (by decide))).mp c145
                      have g3 := f144.out (by omega)
                      have g4 := f136.out
                      have hlt := RI.lt hri1 (by omega)
                      refine lv_aload_n hx hb dX12_operand_316 rfl (lv_at hl 3 rfl) ?_
                      refine lv_iload_n hx hb dX12_operand_317 rfl (lv_at hl 0 rfl) ?_
                      refine lv_aload_n hx hb dX12_operand_318 rfl (lv_at hl 3 rfl) ?_
                      have e_A143_6 : A143 0 6 = (A 0 6) := (hj142.2 6 rfl).trans e_A45_6
                      refine va_get (D := (dC, dI)) (ci := 12) (v := .int (iI (A143 0 6))) (C := RX12) (T := TX12) (N := 85) hx hb hts hiX12 hown hK hP 0 wm0 rfl 6 (by decide) (hts _ (List.mem_cons_of_mem _ (wl_in_0 _ (List.mem_of_getElem? (i := 25) rfl)))) (fun _ h9 => h9) rfl dX12_operand_319 ?_
                      refine tp_i (y := iI (A 0 6)) (congrArg iI e_A143_6) ?_
                      have e_A143_46 : A143 0 46 = (A 0 46) := (hj142.2 46 rfl).trans e_A45_46
                      have e_A143_47 : A143 0 47 = (A 0 47) := (hj142.2 47 rfl).trans e_A45_47
                      refine x_callv (As := [.int (iI z132), .int (iI (A 0 6))]) (rest := []) ⟨hx, hb, hml, hown, hts⟩ (mb_X12_add l dC dI cB cI cJ cZ cQ q _ z132 (A 0 6) hI (by omega) r_A_0_6 (by omega) (CI.fr (CI.fr hcCI (fr_def hA45 (fr.st (fr.rf (M := [37]) (N := [])) (by decide) rfl)) rfl rfl) hj142 rfl rfl)) (cwV 2 hts (goodV (wl_in_1 _ (List.mem_of_getElem? (i := 41) rfl)) (wl_in_1 _ (List.mem_of_getElem? (i := 42) rfl)) (wl_in_1 _ (List.mem_of_getElem? (i := 43) rfl)) (wl_in_0 _ (List.mem_of_getElem? (i := 8) rfl)) (wl_in_1 _ (List.mem_of_getElem? (i := 29) rfl))) rfl rfl rfl (by decide +kernel) ⟨Nat.le_of_ble_eq_true rfl, Nat.le_of_ble_eq_true rfl⟩) hK hDD hA0 hP hS 0 12 wm0 rfl rfl hl.1 (Nat.le_of_ble_eq_true rfl) dX12_operand_322 (fun A146 H locs hw147 hP hS => ?_)
                      obtain ⟨hI, hf148, hw147⟩ := hw147
                      obtain ⟨hc149, hw147⟩ := hw147
                      have r_A146_0_46 : (0 : Int) ≤ (A146 0 46) ∧ (A146 0 46) ≤ 1600 := hI 0 46
                      refine lv_aload_n hx hb dX12_operand_325 rfl (lv_at hl 3 rfl) ?_
                      have e_A143_4 : A143 0 4 = (A 0 4) := (hj142.2 4 rfl).trans e_A45_4
                      have e_A146_4 : A146 0 4 = (A 0 4) := (hf148.2 4 rfl).trans e_A143_4
                      have e_A143_5 : A143 0 5 = (A 0 5) := (hj142.2 5 rfl).trans e_A45_5
                      have e_A146_5 : A146 0 5 = (A 0 5) := (hf148.2 5 rfl).trans e_A143_5
                      have e_A146_8 : A146 0 8 = (A143 0 8) := (hf148.2 8 rfl)
                      refine x_callv (As := []) (rest := []) ⟨hx, hb, hml, hown, hts⟩ (mb_X12_ahead l dC dI cB cI cJ cZ cQ q _ hI) (cwV 0 hts (goodV (wl_in_0 _ (List.mem_of_getElem? (i := 40) rfl)) (wl_in_0 _ (List.mem_of_getElem? (i := 41) rfl)) (wl_in_0 _ (List.mem_of_getElem? (i := 42) rfl)) (wl_in_0 _ (List.mem_of_getElem? (i := 8) rfl)) (wl_in_0 _ (List.mem_of_getElem? (i := 20) rfl))) rfl rfl rfl (by decide +kernel) ⟨Nat.le_of_ble_eq_true rfl, Nat.le_of_ble_eq_true rfl⟩) hK hDD hA0 hP hS 0 12 wm0 rfl rfl hl.1 (Nat.le_of_ble_eq_true rfl) dX12_operand_326 (fun A150 H locs hw151 hP hS => ?_)
                      obtain ⟨hI, hf152, hw151⟩ := hw151
                      have r_A150_0_3 : (0 : Int) ≤ (A150 0 3) ∧ (A150 0 3) ≤ 3 := hI 0 3
                      have r_A150_0_4 : (0 : Int) ≤ (A150 0 4) ∧ (A150 0 4) ≤ 1600 := hI 0 4
                      have r_A150_0_5 : (0 : Int) ≤ (A150 0 5) ∧ (A150 0 5) ≤ 1600 := hI 0 5
                      have r_A150_0_8 : (0 : Int) ≤ (A150 0 8) ∧ (A150 0 8) ≤ 5 := hI 0 8
                      refine lv_iconst (v := iI 1) hx hb dX12_operand_329 (by decide +kernel) ?_
                      have e_A143_3 : A143 0 3 = (A 0 3) := (hj142.2 3 rfl).trans e_A45_3
                      have e_A143_7 : A143 0 7 = (A 0 7) := (hj142.2 7 rfl).trans e_A45_7
                      have e_A143_53 : A143 0 53 = (A 0 53) := (hj142.2 53 rfl).trans e_A45_53
                      have e_A143_54 : A143 0 54 = (A 0 54) := (hj142.2 54 rfl).trans e_A45_54
                      have e_A143_56 : A143 0 56 = (A 0 56) := (hj142.2 56 rfl).trans e_A45_56
                      have r_A150_0_7 : (-9223372036854775808 : Int) ≤ (A150 0 7) ∧ (A150 0 7) ≤ 9223372036854775807 := hI 0 7
                      have ca153 : A150 33 = A146 33 := (hf152.1 33 (by decide) rfl)
                      have ca154 : A143 33 = A45 33 := (hj142.1 33 (by decide) rfl)
                      have e_A150_46 : A150 0 46 = (A146 0 46) := (hf152.2 46 rfl)
                      have e_A146_47 : A146 0 47 = (A 0 47) := (hf148.2 47 rfl).trans e_A143_47
                      have e_A150_47 : A150 0 47 = (A 0 47) := (hf152.2 47 rfl).trans e_A146_47
                      have e_A146_53 : A146 0 53 = (A 0 53) := (hf148.2 53 rfl).trans e_A143_53
                      have e_A150_53 : A150 0 53 = (A 0 53) := (hf152.2 53 rfl).trans e_A146_53
                      have e_A146_54 : A146 0 54 = (A 0 54) := (hf148.2 54 rfl).trans e_A143_54
                      have e_A150_54 : A150 0 54 = (A 0 54) := (hf152.2 54 rfl).trans e_A146_54
                      have e_A146_56 : A146 0 56 = (A 0 56) := (hf148.2 56 rfl).trans e_A143_56
                      have e_A150_56 : A150 0 56 = (A 0 56) := (hf152.2 56 rfl).trans e_A146_56
                      have ca155 : A143 29 = A45 29 := (hj142.1 29 (by decide) rfl)
                      have ca156 : A146 29 = A45 29 := (hf148.1 29 (by decide) rfl).trans ca155
                      have ca157 : A150 29 = A45 29 := (hf152.1 29 (by decide) rfl).trans ca156
                      have ca158 : A143 31 = A45 31 := (hj142.1 31 (by decide) rfl)
                      have ca159 : A146 31 = A45 31 := (hf148.1 31 (by decide) rfl).trans ca158
                      have ca160 : A150 31 = A45 31 := (hf152.1 31 (by decide) rfl).trans ca159
                      have ca161 : A143 35 = A45 35 := (hj142.1 35 (by decide) rfl)
                      have ca162 : A146 35 = A45 35 := (hf148.1 35 (by decide) rfl).trans ca161
                      have ca163 : A150 35 = A45 35 := (hf152.1 35 (by decide) rfl).trans ca162
                      have ca164 : A143 37 = A45 37 := (hj142.1 37 (by decide) rfl)
                      have ca165 : A146 37 = A45 37 := (hf148.1 37 (by decide) rfl).trans ca164
                      have ca166 : A150 37 = A45 37 := (hf152.1 37 (by decide) rfl).trans ca165
                      have ca167 : A143 39 = A45 39 := (hj142.1 39 (by decide) rfl)
                      have ca168 : A146 39 = A45 39 := (hf148.1 39 (by decide) rfl).trans ca167
                      have ca169 : A150 39 = A45 39 := (hf152.1 39 (by decide) rfl).trans ca168
                      have ca170 : A143 40 = A45 40 := (hj142.1 40 (by decide) rfl)
                      have ca171 : A146 40 = A45 40 := (hf148.1 40 (by decide) rfl).trans ca170
                      have ca172 : A150 40 = A45 40 := (hf152.1 40 (by decide) rfl).trans ca171
                      exact RET 1 _ _ _ _ _ ⟨hI, fr.trans (fr.trans (fr.trans (fr_def hA45 (fr.st (fr.rf) (by decide) rfl)) hj142 rfl rfl) hf148 rfl rfl) hf152 rfl rfl, (CI.fr hc149 hf152 rfl rfl), ⟨by decide, Hd.mk (fun h0 => ⟨RI.val (r37 := A45 37) hri1 hI1 (by omega) (x := z132) (by omega) (fun _ _ => rfl) hb1 ⟨ca157, ca160, (ca153.trans (hw147.2.trans (by rw [ca154, show A143 0 47 = A45 0 47 by omega, show A143 0 46 = A45 0 46 by omega]))), ca163, ca166, ca169, ca172, (by omega), (e_A150_47.trans e_A45_47.symm), (e_A150_53.trans e_A45_53.symm), (e_A150_54.trans e_A45_54.symm), (e_A150_56.trans e_A45_56.symm)⟩ (by omega) (by omega) hw151.2.2.1, (PR.fr (PR.fr (PR.fr (PR.fr hp2 (fr_def hA45 (fr.st (fr.rf (M := [37]) (N := [])) (by decide) rfl)) rfl rfl) hj142 rfl rfl) hf148 rfl rfl) hf152 rfl rfl), by omega⟩)⟩⟩ hP hS dX12_operand_330
                    · have c145 : ¬ (A143 0 8) ≤ 0 := mt (i_le0 (rb r_A143_0_8 (by decide) (by decide))).mpr c145
                      refine lv_iconst (v := iI 1) hx hb dX12_operand_314 (by decide +kernel) ?_
                      have e_A143_4 : A143 0 4 = (A 0 4) := (hj142.2 4 rfl).trans e_A45_4
                      have e_A143_5 : A143 0 5 = (A 0 5) := (hj142.2 5 rfl).trans e_A45_5
                      exact RET 1 _ _ _ _ _ ⟨hI, fr.trans (fr_def hA45 (fr.st (fr.rf) (by decide) rfl)) hj142 rfl rfl, (CI.fr (CI.fr hcCI (fr_def hA45 (fr.st (fr.rf (M := [37]) (N := [])) (by decide) rfl)) rfl rfl) hj142 rfl rfl), ⟨by decide, Hd.mk (fun h => absurd h (by omega))⟩⟩ hP hS dX12_operand_315
                  refine lv_icmp_ne (tgt := 307) hx hb dX12_operand_295 (by decide) (fun c137 => ?_) (fun c137 => ?_)
                  · have c137 : ¬ z132 = (-1) := mt (i_eq (rb f134 (by decide) (by decide)) ⟨by decide, by decide⟩).mpr c137
                    exact J307_138 _ _ _ _ (by exact Hd.mk (by  omega)) hI (fr.rf) hP hS (lv_sub hl [0, 1, 2, 3] rfl)
                  · have c137 : z132 = (-1) := (i_eq (rb f134 (by decide) (by decide)) ⟨by decide, by decide⟩).mp c137
                    refine lv_aload_n hx hb dX12_operand_298 rfl (lv_at hl 3 rfl) ?_
                    refine lv_iconst (v := iI 1) hx hb dX12_operand_299 (by decide +kernel) ?_
                    refine lv_aload_n hx hb dX12_operand_300 rfl (lv_at hl 3 rfl) ?_
                    refine va_get (D := (dC, dI)) (ci := 12) (v := .int (iI (A45 0 4))) (C := RX12) (T := TX12) (N := 85) hx hb hts hiX12 hown hK hP 0 wm0 rfl 4 (by decide) (hts _ (List.mem_cons_of_mem _ (wl_in_0 _ (List.mem_of_getElem? (i := 23) rfl)))) (fun _ h9 => h9) rfl dX12_operand_301 ?_
                    refine tp_i (y := iI (A 0 4)) (congrArg iI e_A45_4) ?_
                    refine x_callv (As := [.int (iI 1), .int (iI (A 0 4))]) (rest := []) ⟨hx, hb, hml, hown, hts⟩ (mc_X12_blame l dC dI cB cI cJ cZ cQ q _ 1 (A 0 4) hI ⟨by decide, by decide⟩ r_A_0_4) (cwV 2 hts (goodV (wl_in_0 _ (List.mem_of_getElem? (i := 31) rfl)) (wl_in_0 _ (List.mem_of_getElem? (i := 32) rfl)) (wl_in_0 _ (List.mem_of_getElem? (i := 33) rfl)) (wl_in_0 _ (List.mem_of_getElem? (i := 8) rfl)) (wl_in_0 _ (List.mem_of_getElem? (i := 15) rfl))) rfl rfl rfl (by decide +kernel) ⟨Nat.le_of_ble_eq_true rfl, Nat.le_of_ble_eq_true rfl⟩) hK hDD hA0 hP hS 0 12 wm0 rfl rfl hl.1 (Nat.le_of_ble_eq_true rfl) dX12_operand_304 (fun A139 H locs hw140 hP hS => ?_)
                    obtain ⟨hI, hf141, hw140⟩ := hw140
                    have r_A139_0_8 : (0 : Int) ≤ (A139 0 8) ∧ (A139 0 8) ≤ 5 := hI 0 8
                    exact J307_138 _ _ _ _ (by exact Hd.mk (by  omega)) hI (fr.trans (fr.rf) hf141 rfl rfl) hP hS (lv_sub hl [0, 1, 2, 3] rfl)
                refine lv_icmp_ne (tgt := 235) hx hb dX12_operand_228 (by decide) (fun c114 => ?_) (fun c114 => ?_)
                · have c114 : ¬ (A 0 3) = 2 := mt (i_eq (rb r_A_0_3 (by decide) (by decide)) ⟨by decide, by decide⟩).mpr c114
                  refine lv_aload_n hx hb dX12_operand_235 rfl (lv_at hl 2 rfl) ?_
                  refine lv_ldc2 (v := 7825519) hx hb hown (hts _ (List.mem_cons_of_mem _ (wl_in_1 _ (List.mem_of_getElem? (i := 4) rfl)))) dX12_operand_236 ?_
                  refine tp_l (y := jI 7825519) (by decide +kernel) ?_
                  refine x_calli (As := [.long (jI 7825519)]) (rest := []) ⟨hx, hb, hml, hown, hts⟩ (mb_X12_isWord l dC dI cB cI cJ cZ cQ q _ 7825519 hI ⟨by decide, by decide⟩) (cwV 1 hts (goodV (wl_in_1 _ (List.mem_of_getElem? (i := 59) rfl)) (wl_in_2 _ (List.mem_of_getElem? (i := 0) rfl)) (wl_in_2 _ (List.mem_of_getElem? (i := 1) rfl)) (wl_in_0 _ (List.mem_of_getElem? (i := 8) rfl)) (wl_in_0 _ (List.mem_of_getElem? (i := 35) rfl))) rfl rfl rfl (by decide +kernel) ⟨Nat.le_of_ble_eq_true rfl, Nat.le_of_ble_eq_true rfl⟩) hK hDD hA0 hP hS 0 12 wm0 rfl rfl hl.1 (Nat.le_of_ble_eq_true rfl) dX12_operand_239 (fun z116 A117 H locs hw118 hP hS => ?_)
                  obtain ⟨rfl, hw118⟩ := hw118
                  have rz116 : 0 ≤ z116 ∧ z116 ≤ 1 := hw118.1
                  replace hw118 := Hd.mk hw118.2
                  refine lv_if_eq (tgt := 249) hx hb dX12_operand_242 (by decide) (fun c119 => ?_) (fun c119 => ?_)
                  · have c119 : z116 = 0 := (i_eq0 (rb rz116 (by decide) (by decide))).mp c119
                    refine lv_aload_n hx hb dX12_operand_249 rfl (lv_at hl 2 rfl) ?_
                    refine lv_ldc2 (v := 1936748404) hx hb hown (hts _ (List.mem_cons_of_mem _ (wl_in_1 _ (List.mem_of_getElem? (i := 5) rfl)))) dX12_operand_250 ?_
                    refine tp_l (y := jI 1936748404) (by decide +kernel) ?_
                    refine x_calli (As := [.long (jI 1936748404)]) (rest := []) ⟨hx, hb, hml, hown, hts⟩ (mb_X12_isWord l dC dI cB cI cJ cZ cQ q _ 1936748404 hI ⟨by decide, by decide⟩) (cwV 1 hts (goodV (wl_in_1 _ (List.mem_of_getElem? (i := 59) rfl)) (wl_in_2 _ (List.mem_of_getElem? (i := 0) rfl)) (wl_in_2 _ (List.mem_of_getElem? (i := 1) rfl)) (wl_in_0 _ (List.mem_of_getElem? (i := 8) rfl)) (wl_in_0 _ (List.mem_of_getElem? (i := 35) rfl))) rfl rfl rfl (by decide +kernel) ⟨Nat.le_of_ble_eq_true rfl, Nat.le_of_ble_eq_true rfl⟩) hK hDD hA0 hP hS 0 12 wm0 rfl rfl hl.1 (Nat.le_of_ble_eq_true rfl) dX12_operand_253 (fun z120 A121 H locs hw122 hP hS => ?_)
                    obtain ⟨rfl, hw122⟩ := hw122
                    have rz120 : 0 ≤ z120 ∧ z120 ≤ 1 := hw122.1
                    replace hw122 := Hd.mk hw122.2
                    refine lv_if_eq (tgt := 263) hx hb dX12_operand_256 (by decide) (fun c123 => ?_) (fun c123 => ?_)
                    · have c123 : z120 = 0 := (i_eq0 (rb rz120 (by decide) (by decide))).mp c123
                      refine lv_aload_n hx hb dX12_operand_263 rfl (lv_at hl 2 rfl) ?_
                      refine lv_ldc2 (v := 1801812339) hx hb hown (hts _ (List.mem_cons_of_mem _ (wl_in_1 _ (List.mem_of_getElem? (i := 6) rfl)))) dX12_operand_264 ?_
                      refine tp_l (y := jI 1801812339) (by decide +kernel) ?_
                      refine x_calli (As := [.long (jI 1801812339)]) (rest := []) ⟨hx, hb, hml, hown, hts⟩ (mb_X12_isWord l dC dI cB cI cJ cZ cQ q _ 1801812339 hI ⟨by decide, by decide⟩) (cwV 1 hts (goodV (wl_in_1 _ (List.mem_of_getElem? (i := 59) rfl)) (wl_in_2 _ (List.mem_of_getElem? (i := 0) rfl)) (wl_in_2 _ (List.mem_of_getElem? (i := 1) rfl)) (wl_in_0 _ (List.mem_of_getElem? (i := 8) rfl)) (wl_in_0 _ (List.mem_of_getElem? (i := 35) rfl))) rfl rfl rfl (by decide +kernel) ⟨Nat.le_of_ble_eq_true rfl, Nat.le_of_ble_eq_true rfl⟩) hK hDD hA0 hP hS 0 12 wm0 rfl rfl hl.1 (Nat.le_of_ble_eq_true rfl) dX12_operand_267 (fun z124 A125 H locs hw126 hP hS => ?_)
                      obtain ⟨rfl, hw126⟩ := hw126
                      have rz124 : 0 ≤ z124 ∧ z124 ≤ 1 := hw126.1
                      replace hw126 := Hd.mk hw126.2
                      refine lv_if_eq (tgt := 277) hx hb dX12_operand_270 (by decide) (fun c127 => ?_) (fun c127 => ?_)
                      · have c127 : z124 = 0 := (i_eq0 (rb rz124 (by decide) (by decide))).mp c127
                        refine lv_aload_n hx hb dX12_operand_277 rfl (lv_at hl 2 rfl) ?_
                        refine lv_ldc2 (v := 109317377451364) hx hb hown (hts _ (List.mem_cons_of_mem _ (wl_in_1 _ (List.mem_of_getElem? (i := 7) rfl)))) dX12_operand_278 ?_
                        refine tp_l (y := jI 109317377451364) (by decide +kernel) ?_
                        refine x_calli (As := [.long (jI 109317377451364)]) (rest := []) ⟨hx, hb, hml, hown, hts⟩ (mb_X12_isWord l dC dI cB cI cJ cZ cQ q _ 109317377451364 hI ⟨by decide, by decide⟩) (cwV 1 hts (goodV (wl_in_1 _ (List.mem_of_getElem? (i := 59) rfl)) (wl_in_2 _ (List.mem_of_getElem? (i := 0) rfl)) (wl_in_2 _ (List.mem_of_getElem? (i := 1) rfl)) (wl_in_0 _ (List.mem_of_getElem? (i := 8) rfl)) (wl_in_0 _ (List.mem_of_getElem? (i := 35) rfl))) rfl rfl rfl (by decide +kernel) ⟨Nat.le_of_ble_eq_true rfl, Nat.le_of_ble_eq_true rfl⟩) hK hDD hA0 hP hS 0 12 wm0 rfl rfl hl.1 (Nat.le_of_ble_eq_true rfl) dX12_operand_281 (fun z128 A129 H locs hw130 hP hS => ?_)
                        obtain ⟨rfl, hw130⟩ := hw130
                        have rz128 : 0 ≤ z128 ∧ z128 ≤ 1 := hw130.1
                        replace hw130 := Hd.mk hw130.2
                        refine lv_if_eq (tgt := 291) hx hb dX12_operand_284 (by decide) (fun c131 => ?_) (fun c131 => ?_)
                        · have c131 : z128 = 0 := (i_eq0 (rb rz128 (by decide) (by decide))).mp c131
                          refine lv_iconst (v := iI (-1)) hx hb dX12_operand_291 (by decide +kernel) ?_
                          exact J292_115 (-1) _ _ _ (by omega) (by omega) (by exact Hd.mk (by  omega)) hP hS (lv_sub hl [0, 1, 2] rfl)
                        · have c131 : ¬ z128 = 0 := mt (i_eq0 (rb rz128 (by decide) (by decide))).mpr c131
                          have hw130b := hw130.out.mp (by omega)
                          refine lv_iconst (v := iI 4) hx hb dX12_operand_287 (by decide +kernel) ?_
                          refine lv_goto (tgt := 292) hx hb dX12_operand_288 (by decide) ?_
                          exact J292_115 4 _ _ _ (by omega) (by omega) (by exact Hd.mk (by  omega)) hP hS (lv_sub hl [0, 1, 2] rfl)
                      · have c127 : ¬ z124 = 0 := mt (i_eq0 (rb rz124 (by decide) (by decide))).mpr c127
                        have hw126b := hw126.out.mp (by omega)
                        refine lv_iconst (v := iI 3) hx hb dX12_operand_273 (by decide +kernel) ?_
                        refine lv_goto (tgt := 292) hx hb dX12_operand_274 (by decide) ?_
                        exact J292_115 3 _ _ _ (by omega) (by omega) (by exact Hd.mk (by  omega)) hP hS (lv_sub hl [0, 1, 2] rfl)
                    · have c123 : ¬ z120 = 0 := mt (i_eq0 (rb rz120 (by decide) (by decide))).mpr c123
                      have hw122b := hw122.out.mp (by omega)
                      refine lv_iconst (v := iI 2) hx hb dX12_operand_259 (by decide +kernel) ?_
                      refine lv_goto (tgt := 292) hx hb dX12_operand_260 (by decide) ?_
                      exact J292_115 2 _ _ _ (by omega) (by omega) (by exact Hd.mk (by  omega)) hP hS (lv_sub hl [0, 1, 2] rfl)
                  · have c119 : ¬ z116 = 0 := mt (i_eq0 (rb rz116 (by decide) (by decide))).mpr c119
                    have hw118b := hw118.out.mp (by omega)
                    refine lv_iconst (v := iI 1) hx hb dX12_operand_245 (by decide +kernel) ?_
                    refine lv_goto (tgt := 292) hx hb dX12_operand_246 (by decide) ?_
                    exact J292_115 1 _ _ _ (by omega) (by omega) (by exact Hd.mk (by  omega)) hP hS (lv_sub hl [0, 1, 2] rfl)
                · have c114 : (A 0 3) = 2 := (i_eq (rb r_A_0_3 (by decide) (by decide)) ⟨by decide, by decide⟩).mp c114
                  refine lv_iconst (v := iI 0) hx hb dX12_operand_231 (by decide +kernel) ?_
                  refine lv_goto (tgt := 292) hx hb dX12_operand_232 (by decide) ?_
                  exact J292_115 0 _ _ _ (by omega) (by omega) (by exact Hd.mk (by  omega)) hP hS (lv_sub hl [0, 1, 2] rfl)
              · have c113 : ¬ z110 = 0 := mt (i_eq0 (rb rz110 (by decide) (by decide))).mpr c113
                have hw112b := hw112.out.mp (by omega)
                exact J157_109 _ _ _ (by omega) hP hS (lv_sub hl [0, 1, 2] rfl)
          · have c104 : ¬ z101 = 0 := mt (i_eq0 (rb rz101 (by decide) (by decide))).mpr c104
            have hw103b := hw103.out.mp (by omega)
            refine lv_aload_n hx hb dX12_operand_130 rfl (lv_at hl 2 rfl) ?_
            refine lv_iconst (v := iI 2) hx hb dX12_operand_131 (by decide +kernel) ?_
            refine x_callv (As := [.int (iI 2)]) (rest := []) ⟨hx, hb, hml, hown, hts⟩ (mb_X12_opens l dC dI cB cI cJ cZ cQ q _ 2 hI ⟨by decide, by decide⟩ (by exact Hd.mk (fun _ => ⟨hri1, by omega, hb1⟩)) (by omega)) (cwV 1 hts (goodV (wl_in_2 _ (List.mem_of_getElem? (i := 5) rfl)) (wl_in_2 _ (List.mem_of_getElem? (i := 6) rfl)) (wl_in_2 _ (List.mem_of_getElem? (i := 7) rfl)) (wl_in_0 _ (List.mem_of_getElem? (i := 8) rfl)) (wl_in_1 _ (List.mem_of_getElem? (i := 49) rfl))) rfl rfl rfl (by decide +kernel) ⟨Nat.le_of_ble_eq_true rfl, Nat.le_of_ble_eq_true rfl⟩) hK hDD hA0 hP hS 0 12 wm0 rfl rfl hl.1 (Nat.le_of_ble_eq_true rfl) dX12_operand_132 (fun A219 H locs hw220 hP hS => ?_)
            obtain ⟨hI, hf221, hw220⟩ := hw220
            have r_A219_0_4 : (0 : Int) ≤ (A219 0 4) ∧ (A219 0 4) ≤ 1600 := hI 0 4
            have r_A219_0_8 : (0 : Int) ≤ (A219 0 8) ∧ (A219 0 8) ≤ 5 := hI 0 8
            have r_A219_0_53 : (0 : Int) ≤ (A219 0 53) ∧ (A219 0 53) ≤ 20 := hI 0 53
            refine lv_iconst (v := iI 0) hx hb dX12_operand_135 (by decide +kernel) ?_
            have r_A219_0_5 : (0 : Int) ≤ (A219 0 5) ∧ (A219 0 5) ≤ 1600 := hI 0 5
            have hlt := RI.lt hp0 (by omega)
            have ca222 : A45 35 = A 35 := by rw [hA45]; exact rfl
            have ca223 : A45 38 = A 38 := by rw [hA45]; exact rfl
            have ca224 : A219 38 = A 38 := (hf221.1 38 (by decide) rfl).trans ca223
            have e_A219_46 : A219 0 46 = (A 0 46) := (hf221.2 46 rfl).trans e_A45_46
            have e_A219_47 : A219 0 47 = (A 0 47) := (hf221.2 47 rfl).trans e_A45_47
            have e_A219_56 : A219 0 56 = (A 0 56) := (hf221.2 56 rfl).trans e_A45_56
            have r_A219_0_3 : (0 : Int) ≤ (A219 0 3) ∧ (A219 0 3) ≤ 3 := hI 0 3
            have r_A219_0_7 : (-9223372036854775808 : Int) ≤ (A219 0 7) ∧ (A219 0 7) ≤ 9223372036854775807 := hI 0 7
            have r_A219_0_54 : (0 : Int) ≤ (A219 0 54) ∧ (A219 0 54) ≤ 8 := hI 0 54
            exact RET 0 _ _ _ _ _ ⟨hI, fr.trans (fr_def hA45 (fr.st (fr.rf) (by decide) rfl)) hf221 rfl rfl, (CI.fr (CI.fr hcCI (fr_def hA45 (fr.st (fr.rf (M := [37]) (N := [])) (by decide) rfl)) rfl rfl) hf221 rfl rfl), ⟨by decide, Hd.mk (fun h0 => by have g := hw220.out (by omega); exact ⟨g.1, PR.push hp2 (by omega) (g.2.2.2.1.trans (by rw [ca222, show A45 0 53 = A 0 53 by omega])) (by have := g.2.2.2.2; omega) ca224 (by decide), by have := g.2.1; omega⟩)⟩⟩ hP hS dX12_operand_136
        refine lv_if_eq (tgt := 121) hx hb dX12_operand_88 (by decide) (fun c66 => ?_) (fun c66 => ?_)
        · have c66 : z11 = 0 := (i_eq0 (rb f13 (by decide) (by decide))).mp c66
          exact J121_67 _ _ _ hP hS (lv_sub hl [0, 1, 2] rfl)
        · have c66 : ¬ z11 = 0 := mt (i_eq0 (rb f13 (by decide) (by decide))).mpr c66
          refine lv_aload_n hx hb dX12_operand_91 rfl (lv_at hl 2 rfl) ?_
          refine lv_ldc2 (v := 6384748) hx hb hown (hts _ (List.mem_cons_of_mem _ (wl_in_1 _ (List.mem_of_getElem? (i := 3) rfl)))) dX12_operand_92 ?_
          refine tp_l (y := jI 6384748) (by decide +kernel) ?_
          refine x_calli (As := [.long (jI 6384748)]) (rest := []) ⟨hx, hb, hml, hown, hts⟩ (mb_X12_isWord l dC dI cB cI cJ cZ cQ q _ 6384748 hI ⟨by decide, by decide⟩) (cwV 1 hts (goodV (wl_in_1 _ (List.mem_of_getElem? (i := 59) rfl)) (wl_in_2 _ (List.mem_of_getElem? (i := 0) rfl)) (wl_in_2 _ (List.mem_of_getElem? (i := 1) rfl)) (wl_in_0 _ (List.mem_of_getElem? (i := 8) rfl)) (wl_in_0 _ (List.mem_of_getElem? (i := 35) rfl))) rfl rfl rfl (by decide +kernel) ⟨Nat.le_of_ble_eq_true rfl, Nat.le_of_ble_eq_true rfl⟩) hK hDD hA0 hP hS 0 12 wm0 rfl rfl hl.1 (Nat.le_of_ble_eq_true rfl) dX12_operand_95 (fun z68 A69 H locs hw70 hP hS => ?_)
          obtain ⟨rfl, hw70⟩ := hw70
          have rz68 : 0 ≤ z68 ∧ z68 ≤ 1 := hw70.1
          replace hw70 := Hd.mk hw70.2
          refine lv_if_eq (tgt := 121) hx hb dX12_operand_98 (by decide) (fun c71 => ?_) (fun c71 => ?_)
          · have c71 : z68 = 0 := (i_eq0 (rb rz68 (by decide) (by decide))).mp c71
            exact J121_67 _ _ _ hP hS (lv_sub hl [0, 1, 2] rfl)
          · have c71 : ¬ z68 = 0 := mt (i_eq0 (rb rz68 (by decide) (by decide))).mpr c71
            have hw70b := hw70.out.mp (by omega)
            have hlt := RI.lt hri1 (by omega)
            refine lv_aload_n hx hb dX12_operand_101 rfl (lv_at hl 2 rfl) ?_
            refine lv_bipush (v := iI 9) hx hb dX12_operand_102 (by decide +kernel) ?_
            refine lv_iconst (v := iI 0) hx hb dX12_operand_104 (by decide +kernel) ?_
            refine x_callv (As := [.int (iI 9), .int (iI 0)]) (rest := []) ⟨hx, hb, hml, hown, hts⟩ (mb_X12_add l dC dI cB cI cJ cZ cQ q _ 9 0 hI ⟨by decide, by decide⟩ ⟨by decide, by decide⟩ (by omega) (CI.fr hcCI (fr_def hA45 (fr.st (fr.rf (M := [37]) (N := [])) (by decide) rfl)) rfl rfl)) (cwV 2 hts (goodV (wl_in_1 _ (List.mem_of_getElem? (i := 41) rfl)) (wl_in_1 _ (List.mem_of_getElem? (i := 42) rfl)) (wl_in_1 _ (List.mem_of_getElem? (i := 43) rfl)) (wl_in_0 _ (List.mem_of_getElem? (i := 8) rfl)) (wl_in_1 _ (List.mem_of_getElem? (i := 29) rfl))) rfl rfl rfl (by decide +kernel) ⟨Nat.le_of_ble_eq_true rfl, Nat.le_of_ble_eq_true rfl⟩) hK hDD hA0 hP hS 0 12 wm0 rfl rfl hl.1 (Nat.le_of_ble_eq_true rfl) dX12_operand_105 (fun A72 H locs hw73 hP hS => ?_)
            obtain ⟨hI, hf74, hw73⟩ := hw73
            obtain ⟨hc75, hw73⟩ := hw73
            have r_A72_0_46 : (0 : Int) ≤ (A72 0 46) ∧ (A72 0 46) ≤ 1600 := hI 0 46
            refine lv_aload_n hx hb dX12_operand_108 rfl (lv_at hl 2 rfl) ?_
            refine va_get (D := (dC, dI)) (ci := 12) (v := .ref (q 36)) (C := RX12) (T := TX12) (N := 85) hx hb hts hiX12 hown hK hP 0 wm0 rfl 49 (by decide) (hts _ (List.mem_cons_of_mem _ (wl_in_1 _ (List.mem_of_getElem? (i := 47) rfl)))) (fun _ h9 => h9) rfl dX12_operand_109 ?_
            refine lv_iload_n hx hb dX12_operand_112 rfl (lv_at hl 1 rfl) ?_
            refine lv_iconst (v := iI 2) hx hb dX12_operand_113 (by decide +kernel) ?_
            refine x_iast hx hb hK hP hDD hS 36 1 wm36 rfl (by omega) (by decide) dX12_operand_114 ws36 (fun H locs hP hS => ?_)
            have hI := hI.st (j := 36) (i := ((A 0 53) - 1).toNat) (v := 2) (show (0 : Int) ≤ 2 ∧ 2 ≤ 2 from (by omega))
            refine lv_aload_n hx hb dX12_operand_115 rfl (lv_at hl 2 rfl) ?_
            obtain ⟨A76, hA76⟩ : ∃ A76 : St, A76 = (stA A72 36 ((A 0 53) - 1).toNat 2) := ⟨_, rfl⟩
            rw [← hA76] at hP hI
            have e_A72_4 : A72 0 4 = (A 0 4) := (hf74.2 4 rfl).trans e_A45_4
            have e_A76_4 : A76 0 4 = (A 0 4) := by rw [hA76]; exact e_A72_4
            have e_A72_5 : A72 0 5 = (A 0 5) := (hf74.2 5 rfl).trans e_A45_5
            have e_A76_5 : A76 0 5 = (A 0 5) := by rw [hA76]; exact e_A72_5
            have e_A72_8 : A72 0 8 = (A 0 8) := (hf74.2 8 rfl).trans e_A45_8
            have e_A76_8 : A76 0 8 = (A 0 8) := by rw [hA76]; exact e_A72_8
            refine x_callv (As := []) (rest := []) ⟨hx, hb, hml, hown, hts⟩ (mb_X12_ahead l dC dI cB cI cJ cZ cQ q _ hI) (cwV 0 hts (goodV (wl_in_0 _ (List.mem_of_getElem? (i := 40) rfl)) (wl_in_0 _ (List.mem_of_getElem? (i := 41) rfl)) (wl_in_0 _ (List.mem_of_getElem? (i := 42) rfl)) (wl_in_0 _ (List.mem_of_getElem? (i := 8) rfl)) (wl_in_0 _ (List.mem_of_getElem? (i := 20) rfl))) rfl rfl rfl (by decide +kernel) ⟨Nat.le_of_ble_eq_true rfl, Nat.le_of_ble_eq_true rfl⟩) hK hDD hA0 hP hS 0 12 wm0 rfl rfl hl.1 (Nat.le_of_ble_eq_true rfl) dX12_operand_116 (fun A77 H locs hw78 hP hS => ?_)
            obtain ⟨hI, hf79, hw78⟩ := hw78
            have r_A77_0_3 : (0 : Int) ≤ (A77 0 3) ∧ (A77 0 3) ≤ 3 := hI 0 3
            have r_A77_0_4 : (0 : Int) ≤ (A77 0 4) ∧ (A77 0 4) ≤ 1600 := hI 0 4
            have r_A77_0_5 : (0 : Int) ≤ (A77 0 5) ∧ (A77 0 5) ≤ 1600 := hI 0 5
            have r_A77_0_8 : (0 : Int) ≤ (A77 0 8) ∧ (A77 0 8) ≤ 5 := hI 0 8
            refine lv_iconst (v := iI 1) hx hb dX12_operand_119 (by decide +kernel) ?_
            have r_A77_0_7 : (-9223372036854775808 : Int) ≤ (A77 0 7) ∧ (A77 0 7) ≤ 9223372036854775807 := hI 0 7
            have ca80 : A76 33 = A72 33 := by rw [hA76]; exact rfl
            have ca81 : A77 33 = A72 33 := (hf79.1 33 (by decide) rfl).trans ca80
            have e_A76_46 : A76 0 46 = (A72 0 46) := by rw [hA76]; exact rfl
            have e_A77_46 : A77 0 46 = (A72 0 46) := (hf79.2 46 rfl).trans e_A76_46
            have e_A72_47 : A72 0 47 = (A 0 47) := (hf74.2 47 rfl).trans e_A45_47
            have e_A76_47 : A76 0 47 = (A 0 47) := by rw [hA76]; exact e_A72_47
            have e_A77_47 : A77 0 47 = (A 0 47) := (hf79.2 47 rfl).trans e_A76_47
            have e_A72_53 : A72 0 53 = (A 0 53) := (hf74.2 53 rfl).trans e_A45_53
            have e_A76_53 : A76 0 53 = (A 0 53) := by rw [hA76]; exact e_A72_53
            have e_A77_53 : A77 0 53 = (A 0 53) := (hf79.2 53 rfl).trans e_A76_53
            have e_A72_54 : A72 0 54 = (A 0 54) := (hf74.2 54 rfl).trans e_A45_54
            have e_A76_54 : A76 0 54 = (A 0 54) := by rw [hA76]; exact e_A72_54
            have e_A77_54 : A77 0 54 = (A 0 54) := (hf79.2 54 rfl).trans e_A76_54
            have e_A72_56 : A72 0 56 = (A 0 56) := (hf74.2 56 rfl).trans e_A45_56
            have e_A76_56 : A76 0 56 = (A 0 56) := by rw [hA76]; exact e_A72_56
            have e_A77_56 : A77 0 56 = (A 0 56) := (hf79.2 56 rfl).trans e_A76_56
            have ca82 : A72 29 = A45 29 := (hf74.1 29 (by decide) rfl)
            have ca83 : A76 29 = A45 29 := by rw [hA76]; exact ca82
            have ca84 : A77 29 = A45 29 := (hf79.1 29 (by decide) rfl).trans ca83
            have ca85 : A72 31 = A45 31 := (hf74.1 31 (by decide) rfl)
            have ca86 : A76 31 = A45 31 := by rw [hA76]; exact ca85
            have ca87 : A77 31 = A45 31 := (hf79.1 31 (by decide) rfl).trans ca86
            have ca88 : A72 35 = A45 35 := (hf74.1 35 (by decide) rfl)
            have ca89 : A76 35 = A45 35 := by rw [hA76]; exact ca88
            have ca90 : A77 35 = A45 35 := (hf79.1 35 (by decide) rfl).trans ca89
            have ca91 : A72 37 = A45 37 := (hf74.1 37 (by decide) rfl)
            have ca92 : A76 37 = A45 37 := by rw [hA76]; exact ca91
            have ca93 : A77 37 = A45 37 := (hf79.1 37 (by decide) rfl).trans ca92
            have ca94 : A72 39 = A45 39 := (hf74.1 39 (by decide) rfl)
            have ca95 : A76 39 = A45 39 := by rw [hA76]; exact ca94
            have ca96 : A77 39 = A45 39 := (hf79.1 39 (by decide) rfl).trans ca95
            have ca97 : A72 40 = A45 40 := (hf74.1 40 (by decide) rfl)
            have ca98 : A76 40 = A45 40 := by rw [hA76]; exact ca97
            have ca99 : A77 40 = A45 40 := (hf79.1 40 (by decide) rfl).trans ca98
            exact RET 1 _ _ _ _ _ ⟨hI, fr.trans (fr_def hA76 (fr.st (fr.trans (fr_def hA45 (fr.st (fr.rf) (by decide) rfl)) hf74 rfl rfl) (by decide) rfl)) hf79 rfl rfl, (CI.fr (CI.fr hc75 (fr_def hA76 (fr.st (fr.rf (M := [36]) (N := [])) (by decide) rfl)) rfl rfl) hf79 rfl rfl), ⟨by decide, Hd.mk (fun h0 => ⟨RI.val (r37 := A45 37) hri1 hI1 (by omega) (x := 9) (by omega) (fun _ _ => rfl) hb1 ⟨ca84, ca87, (ca81.trans (hw73.2.trans (by rw [show A45 0 47 = A45 0 47 by omega, show A45 0 46 = A45 0 46 by omega]))), ca90, ca93, ca96, ca99, (by omega), (e_A77_47.trans e_A45_47.symm), (e_A77_53.trans e_A45_53.symm), (e_A77_54.trans e_A45_54.symm), (e_A77_56.trans e_A45_56.symm)⟩ (by omega) (by omega) hw78.2.2.1, (PR.fr (PR.fr (PR.fr (PR.fr hp2 (fr_def hA45 (fr.st (fr.rf (M := [37]) (N := [])) (by decide) rfl)) rfl rfl) hf74 rfl rfl) (fr_def hA76 (fr.st (fr.rf (M := [36]) (N := [])) (by decide) rfl)) rfl rfl) hf79 rfl rfl), by omega⟩)⟩⟩ hP hS dX12_operand_120
      refine lv_if_eq (tgt := 87) hx hb dX12_operand_68 (by decide) (fun c53 => ?_) (fun c53 => ?_)
      · have c53 : z11 = 0 := (i_eq0 (rb f13 (by decide) (by decide))).mp c53
        exact J87_54 _ _ _ hP hS (lv_sub hl [0, 1, 2] rfl)
      · have c53 : ¬ z11 = 0 := mt (i_eq0 (rb f13 (by decide) (by decide))).mpr c53
        refine lv_aload_n hx hb dX12_operand_71 rfl (lv_at hl 2 rfl) ?_
        refine lv_bipush (v := iI 91) hx hb dX12_operand_72 (by decide +kernel) ?_
        have e_A45_6 : A45 0 6 = (A 0 6) := by rw [hA45]; exact rfl
        have r_A_0_6 : (-2147483648 : Int) ≤ (A 0 6) ∧ (A 0 6) ≤ 2147483647 := by rw [← e_A45_6]; exact hI 0 6
        refine x_calli (As := [.int (iI 91)]) (rest := []) ⟨hx, hb, hml, hown, hts⟩ (mb_X12_isSign l dC dI cB cI cJ cZ cQ q _ 91 hI ⟨by decide, by decide⟩) (cwV 1 hts (goodV (wl_in_0 _ (List.mem_of_getElem? (i := 37) rfl)) (wl_in_0 _ (List.mem_of_getElem? (i := 38) rfl)) (wl_in_0 _ (List.mem_of_getElem? (i := 39) rfl)) (wl_in_0 _ (List.mem_of_getElem? (i := 8) rfl)) (wl_in_0 _ (List.mem_of_getElem? (i := 34) rfl))) rfl rfl rfl (by decide +kernel) ⟨Nat.le_of_ble_eq_true rfl, Nat.le_of_ble_eq_true rfl⟩) hK hDD hA0 hP hS 0 12 wm0 rfl rfl hl.1 (Nat.le_of_ble_eq_true rfl) dX12_operand_74 (fun z55 A56 H locs hw57 hP hS => ?_)
        obtain ⟨rfl, hw57⟩ := hw57
        have rz55 : 0 ≤ z55 ∧ z55 ≤ 1 := hw57.1
        replace hw57 := Hd.mk hw57.2
        refine lv_if_eq (tgt := 87) hx hb dX12_operand_77 (by decide) (fun c58 => ?_) (fun c58 => ?_)
        · have c58 : z55 = 0 := (i_eq0 (rb rz55 (by decide) (by decide))).mp c58
          exact J87_54 _ _ _ hP hS (lv_sub hl [0, 1, 2] rfl)
        · have c58 : ¬ z55 = 0 := mt (i_eq0 (rb rz55 (by decide) (by decide))).mpr c58
          have hw57b := hw57.out.mp (by omega)
          refine lv_aload_n hx hb dX12_operand_80 rfl (lv_at hl 2 rfl) ?_
          refine lv_iconst (v := iI 5) hx hb dX12_operand_81 (by decide +kernel) ?_
          refine x_callv (As := [.int (iI 5)]) (rest := []) ⟨hx, hb, hml, hown, hts⟩ (mb_X12_opens l dC dI cB cI cJ cZ cQ q _ 5 hI ⟨by decide, by decide⟩ (by exact Hd.mk (fun _ => ⟨hri1, by omega, hb1⟩)) (by omega)) (cwV 1 hts (goodV (wl_in_2 _ (List.mem_of_getElem? (i := 5) rfl)) (wl_in_2 _ (List.mem_of_getElem? (i := 6) rfl)) (wl_in_2 _ (List.mem_of_getElem? (i := 7) rfl)) (wl_in_0 _ (List.mem_of_getElem? (i := 8) rfl)) (wl_in_1 _ (List.mem_of_getElem? (i := 49) rfl))) rfl rfl rfl (by decide +kernel) ⟨Nat.le_of_ble_eq_true rfl, Nat.le_of_ble_eq_true rfl⟩) hK hDD hA0 hP hS 0 12 wm0 rfl rfl hl.1 (Nat.le_of_ble_eq_true rfl) dX12_operand_82 (fun A59 H locs hw60 hP hS => ?_)
          obtain ⟨hI, hf61, hw60⟩ := hw60
          have r_A59_0_4 : (0 : Int) ≤ (A59 0 4) ∧ (A59 0 4) ≤ 1600 := hI 0 4
          have r_A59_0_8 : (0 : Int) ≤ (A59 0 8) ∧ (A59 0 8) ≤ 5 := hI 0 8
          have r_A59_0_53 : (0 : Int) ≤ (A59 0 53) ∧ (A59 0 53) ≤ 20 := hI 0 53
          refine lv_iconst (v := iI 0) hx hb dX12_operand_85 (by decide +kernel) ?_
          have r_A59_0_5 : (0 : Int) ≤ (A59 0 5) ∧ (A59 0 5) ≤ 1600 := hI 0 5
          have hlt := RI.lt hp0 (by omega)
          have ca62 : A45 35 = A 35 := by rw [hA45]; exact rfl
          have ca63 : A45 38 = A 38 := by rw [hA45]; exact rfl
          have ca64 : A59 38 = A 38 := (hf61.1 38 (by decide) rfl).trans ca63
          have e_A59_46 : A59 0 46 = (A 0 46) := (hf61.2 46 rfl).trans e_A45_46
          have e_A59_47 : A59 0 47 = (A 0 47) := (hf61.2 47 rfl).trans e_A45_47
          have e_A59_56 : A59 0 56 = (A 0 56) := (hf61.2 56 rfl).trans e_A45_56
          have r_A59_0_3 : (0 : Int) ≤ (A59 0 3) ∧ (A59 0 3) ≤ 3 := hI 0 3
          have r_A59_0_7 : (-9223372036854775808 : Int) ≤ (A59 0 7) ∧ (A59 0 7) ≤ 9223372036854775807 := hI 0 7
          have r_A59_0_54 : (0 : Int) ≤ (A59 0 54) ∧ (A59 0 54) ≤ 8 := hI 0 54
          exact RET 0 _ _ _ _ _ ⟨hI, fr.trans (fr_def hA45 (fr.st (fr.rf) (by decide) rfl)) hf61 rfl rfl, (CI.fr (CI.fr hcCI (fr_def hA45 (fr.st (fr.rf (M := [37]) (N := [])) (by decide) rfl)) rfl rfl) hf61 rfl rfl), ⟨by decide, Hd.mk (fun h0 => by have g := hw60.out (by omega); exact ⟨g.1, PR.push hp2 (by omega) (g.2.2.2.1.trans (by rw [ca62, show A45 0 53 = A 0 53 by omega])) (by have := g.2.2.2.2; omega) ca64 (by decide), by have := g.2.1; omega⟩)⟩⟩ hP hS dX12_operand_86
    refine lv_if_eq (tgt := 60) hx hb dX12_operand_35 (by decide) (fun c16 => ?_) (fun c16 => ?_)
    · have c16 : z11 = 0 := (i_eq0 (rb f13 (by decide) (by decide))).mp c16
      exact J60_17 _ _ _ hP hS (lv_sub hl [0, 1, 2] rfl)
    · have c16 : ¬ z11 = 0 := mt (i_eq0 (rb f13 (by decide) (by decide))).mpr c16
      refine lv_aload_n hx hb dX12_operand_38 rfl (lv_at hl 2 rfl) ?_
      refine lv_ldc2 (v := 7237492) hx hb hown (hts _ (List.mem_cons_of_mem _ (wl_in_1 _ (List.mem_of_getElem? (i := 2) rfl)))) dX12_operand_39 ?_
      refine tp_l (y := jI 7237492) (by decide +kernel) ?_
      refine x_calli (As := [.long (jI 7237492)]) (rest := []) ⟨hx, hb, hml, hown, hts⟩ (mb_X12_isWord l dC dI cB cI cJ cZ cQ q _ 7237492 hI ⟨by decide, by decide⟩) (cwV 1 hts (goodV (wl_in_1 _ (List.mem_of_getElem? (i := 59) rfl)) (wl_in_2 _ (List.mem_of_getElem? (i := 0) rfl)) (wl_in_2 _ (List.mem_of_getElem? (i := 1) rfl)) (wl_in_0 _ (List.mem_of_getElem? (i := 8) rfl)) (wl_in_0 _ (List.mem_of_getElem? (i := 35) rfl))) rfl rfl rfl (by decide +kernel) ⟨Nat.le_of_ble_eq_true rfl, Nat.le_of_ble_eq_true rfl⟩) hK hDD hA0 hP hS 0 12 wm0 rfl rfl hl.1 (Nat.le_of_ble_eq_true rfl) dX12_operand_42 (fun z18 A19 H locs hw20 hP hS => ?_)
      obtain ⟨rfl, hw20⟩ := hw20
      have rz18 : 0 ≤ z18 ∧ z18 ≤ 1 := hw20.1
      replace hw20 := Hd.mk hw20.2
      refine lv_if_eq (tgt := 60) hx hb dX12_operand_45 (by decide) (fun c21 => ?_) (fun c21 => ?_)
      · have c21 : z18 = 0 := (i_eq0 (rb rz18 (by decide) (by decide))).mp c21
        exact J60_17 _ _ _ hP hS (lv_sub hl [0, 1, 2] rfl)
      · have c21 : ¬ z18 = 0 := mt (i_eq0 (rb rz18 (by decide) (by decide))).mpr c21
        have hw20b := hw20.out.mp (by omega)
        refine lv_aload_n hx hb dX12_operand_48 rfl (lv_at hl 2 rfl) ?_
        refine lv_bipush (v := iI 22) hx hb dX12_operand_49 (by decide +kernel) ?_
        refine x_callv (As := [.int (iI 22)]) (rest := []) ⟨hx, hb, hml, hown, hts⟩ (mb_X12_holdsBack l dC dI cB cI cJ cZ cQ q _ 22 hI ⟨by decide, by decide⟩ (by omega)) (cwV 1 hts (goodV (wl_in_2 _ (List.mem_of_getElem? (i := 2) rfl)) (wl_in_2 _ (List.mem_of_getElem? (i := 3) rfl)) (wl_in_2 _ (List.mem_of_getElem? (i := 4) rfl)) (wl_in_0 _ (List.mem_of_getElem? (i := 8) rfl)) (wl_in_1 _ (List.mem_of_getElem? (i := 44) rfl))) rfl rfl rfl (by decide +kernel) ⟨Nat.le_of_ble_eq_true rfl, Nat.le_of_ble_eq_true rfl⟩) hK hDD hA0 hP hS 0 12 wm0 rfl rfl hl.1 (Nat.le_of_ble_eq_true rfl) dX12_operand_51 (fun A22 H locs hw23 hP hS => ?_)
        obtain ⟨hI, hf24, hw23⟩ := hw23
        have r_A22_0_56 : (0 : Int) ≤ (A22 0 56) ∧ (A22 0 56) ≤ 500 := hI 0 56
        refine lv_aload_n hx hb dX12_operand_54 rfl (lv_at hl 2 rfl) ?_
        have e_A22_4 : A22 0 4 = (A 0 4) := (hf24.2 4 rfl)
        have e_A22_5 : A22 0 5 = (A 0 5) := (hf24.2 5 rfl)
        have e_A22_8 : A22 0 8 = (A 0 8) := (hf24.2 8 rfl)
        refine x_callv (As := []) (rest := []) ⟨hx, hb, hml, hown, hts⟩ (mb_X12_ahead l dC dI cB cI cJ cZ cQ q _ hI) (cwV 0 hts (goodV (wl_in_0 _ (List.mem_of_getElem? (i := 40) rfl)) (wl_in_0 _ (List.mem_of_getElem? (i := 41) rfl)) (wl_in_0 _ (List.mem_of_getElem? (i := 42) rfl)) (wl_in_0 _ (List.mem_of_getElem? (i := 8) rfl)) (wl_in_0 _ (List.mem_of_getElem? (i := 20) rfl))) rfl rfl rfl (by decide +kernel) ⟨Nat.le_of_ble_eq_true rfl, Nat.le_of_ble_eq_true rfl⟩) hK hDD hA0 hP hS 0 12 wm0 rfl rfl hl.1 (Nat.le_of_ble_eq_true rfl) dX12_operand_55 (fun A25 H locs hw26 hP hS => ?_)
        obtain ⟨hI, hf27, hw26⟩ := hw26
        have r_A25_0_3 : (0 : Int) ≤ (A25 0 3) ∧ (A25 0 3) ≤ 3 := hI 0 3
        have r_A25_0_4 : (0 : Int) ≤ (A25 0 4) ∧ (A25 0 4) ≤ 1600 := hI 0 4
        have r_A25_0_5 : (0 : Int) ≤ (A25 0 5) ∧ (A25 0 5) ≤ 1600 := hI 0 5
        have r_A25_0_8 : (0 : Int) ≤ (A25 0 8) ∧ (A25 0 8) ≤ 5 := hI 0 8
        refine lv_iconst (v := iI 0) hx hb dX12_operand_58 (by decide +kernel) ?_
        have hlt := RI.lt hp0 (by omega)
        have ca28 : A25 40 = A22 40 := (hf27.1 40 (by decide) rfl)
        have e_A22_46 : A22 0 46 = (A 0 46) := (hf24.2 46 rfl)
        have e_A25_46 : A25 0 46 = (A 0 46) := (hf27.2 46 rfl).trans e_A22_46
        have e_A22_47 : A22 0 47 = (A 0 47) := (hf24.2 47 rfl)
        have e_A25_47 : A25 0 47 = (A 0 47) := (hf27.2 47 rfl).trans e_A22_47
        have e_A22_53 : A22 0 53 = (A 0 53) := (hf24.2 53 rfl)
        have e_A25_53 : A25 0 53 = (A 0 53) := (hf27.2 53 rfl).trans e_A22_53
        have e_A22_54 : A22 0 54 = (A 0 54) := (hf24.2 54 rfl)
        have e_A25_54 : A25 0 54 = (A 0 54) := (hf27.2 54 rfl).trans e_A22_54
        have e_A25_56 : A25 0 56 = (A22 0 56) := (hf27.2 56 rfl)
        have r_A25_0_7 : (-9223372036854775808 : Int) ≤ (A25 0 7) ∧ (A25 0 7) ≤ 9223372036854775807 := hI 0 7
        have ca29 : A22 29 = A 29 := (hf24.1 29 (by decide) rfl)
        have ca30 : A25 29 = A 29 := (hf27.1 29 (by decide) rfl).trans ca29
        have ca31 : A22 31 = A 31 := (hf24.1 31 (by decide) rfl)
        have ca32 : A25 31 = A 31 := (hf27.1 31 (by decide) rfl).trans ca31
        have ca33 : A22 33 = A 33 := (hf24.1 33 (by decide) rfl)
        have ca34 : A25 33 = A 33 := (hf27.1 33 (by decide) rfl).trans ca33
        have ca35 : A22 35 = A 35 := (hf24.1 35 (by decide) rfl)
        have ca36 : A25 35 = A 35 := (hf27.1 35 (by decide) rfl).trans ca35
        have ca37 : A22 37 = A 37 := (hf24.1 37 (by decide) rfl)
        have ca38 : A25 37 = A 37 := (hf27.1 37 (by decide) rfl).trans ca37
        have ca39 : A22 39 = A 39 := (hf24.1 39 (by decide) rfl)
        have ca40 : A25 39 = A 39 := (hf27.1 39 (by decide) rfl).trans ca39
        have ca41 : A22 1 = A 1 := (hf24.1 1 (by decide) rfl)
        have ca42 : A22 1 = A 1 := (hf24.1 1 (by decide) rfl)
        have ca43 : A25 1 = A 1 := (hf27.1 1 (by decide) rfl).trans ca42
        exact RET 0 _ _ _ _ _ ⟨hI, fr.trans (fr.trans (fr.rf) hf24 rfl rfl) hf27 rfl rfl, (CI.fr (CI.fr hcCI hf24 rfl rfl) hf27 rfl rfl), ⟨by decide, Hd.mk (fun h0 => ⟨RI.nt hp0 hI0 (by omega) (by omega) (f15.out (by omega)) ⟨ca30, ca32, ca34, ca36, ca38, ca40, (ca28.trans hw23.2), e_A25_46, e_A25_47, e_A25_53, e_A25_54, (by omega)⟩ ca43 (by omega) (by omega) hw26.2.2.1 (fun a b => by have g := hw26.2.2.2.2 (by omega) a b; rw [ca41] at g; exact g), (PR.fr (PR.fr hp2 hf24 rfl rfl) hf27 rfl rfl), by omega⟩)⟩⟩ hP hS dX12_operand_59
  have J32_6 : ∀ (H : Heap) (locs : List Loc) (ls : Array Slot), va_P (dC, dI) vwCl (WM cI cJ cZ q A) H → va_S AS s.heap H locs → lv_has ls 4 [(1, .int (iI ((A 0 53) - 1))), (0, .ref (q 0))] → W p l e (headSpec ws_mb_X12_operand ({ frames := 3, cells := 0, slots := 0, locals := 68 } : Room)).room s m [.ref (q 0)].toArray below meth c H locs 0 0 Q (F0 m 32 ls []) := by
    intro H locs ls hP hS hl
    refine lv_iconst (v := iI 0) hx hb dX12_operand_32 (by decide +kernel) ?_
    exact J33_7 0 _ _ _ (by omega) (by omega) (by exact Hd.mk (by  omega)) hP hS (lv_sub hl [0, 1] rfl)
  refine lv_if_eq (tgt := 32) hx hb dX12_operand_16 (by decide) (fun c5 => ?_) (fun c5 => ?_)
  · have c5 : z2 = 0 := (i_eq0 (rb hw4 (by decide) (by decide))).mp c5
    exact J32_6 _ _ _ hP hS (lv_sub hl [0, 1] rfl)
  · have c5 : ¬ z2 = 0 := mt (i_eq0 (rb hw4 (by decide) (by decide))).mpr c5
    refine lv_aload_n hx hb dX12_operand_19 rfl (lv_at hl 1 rfl) ?_
    refine va_get (D := (dC, dI)) (ci := 12) (v := .ref (q 37)) (C := RX12) (T := TX12) (N := 85) hx hb hts hiX12 hown hK hP 0 wm0 rfl 50 (by decide) (hts _ (List.mem_cons_of_mem _ (wl_in_1 _ (List.mem_of_getElem? (i := 48) rfl)))) (fun _ h9 => h9) rfl dX12_operand_20 ?_
    refine lv_iload_n hx hb dX12_operand_23 rfl (lv_at hl 0 rfl) ?_
    refine x_zald hx hb hK hP 37 3 wm37 rfl (by omega) (by decide) dX12_operand_24 (fun z8 hz8 => ?_)
    have rz8 : (0 : Int) ≤ z8 ∧ z8 ≤ 1 := by rw [hz8]; exact hI 37 _
    have hz8 : z8 = A 37 ((A 0 53) - 1).toNat := hz8
    refine lv_if_eq (tgt := 32) hx hb dX12_operand_25 (by decide) (fun c9 => ?_) (fun c9 => ?_)
    · have c9 : z8 = 0 := (i_eq0 (rb rz8 (by decide) (by decide))).mp c9
      exact J32_6 _ _ _ hP hS (lv_sub hl [0, 1] rfl)
    · have c9 : ¬ z8 = 0 := mt (i_eq0 (rb rz8 (by decide) (by decide))).mpr c9
      refine lv_iconst (v := iI 1) hx hb dX12_operand_28 (by decide +kernel) ?_
      refine lv_goto (tgt := 33) hx hb dX12_operand_29 (by decide) ?_
      exact J33_7 1 _ _ _ (by omega) (by omega) (by exact Hd.mk (by  omega)) hP hS (lv_sub hl [0, 1] rfl)
