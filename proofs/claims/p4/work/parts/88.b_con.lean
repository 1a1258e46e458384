def ws_mb_X12_may : List Cond := .code yX12_may cX12_may 3 (some .boolean) :: WX
set_option maxHeartbeats 4000000 in
set_option maxRecDepth 100000 in
theorem mb_X12_may (l : Launch) (dC : Nat → ClassId) (dI : Nat → Nat → Nat) (cB cI cJ cZ cQ : ClassId) (q : Nat → Nat) (A : St) (x1 : Int) (hI : IM A) (hx1 : (0 : Int) ≤ x1 ∧ x1 ≤ 7) : XMi l yX12_may ws_mb_X12_may ({ frames := 1, cells := 0, slots := 0, locals := 27 } : Room) (dC, dI) (tyA cB cI cJ cZ cQ) (WM cI cJ cZ q) A [.ref (q 0), .int (iI x1)] (fun z u => A = u ∧ ((0 ≤ z ∧ z ≤ 1) ∧ (Hd (z = 0 → ∃ o : Nat, (o : Int) < x1 ∧ A 51 o = A 51 x1.toNat)))) := by
  refine x_metz (cc := cX12_may) (maxL := 3) WM_adr (by decide +kernel) rfl (Nat.le_of_ble_eq_true rfl) (fun z u h => h.2.1) (fun p e s m below meth c Q AS ls hx hb hml hown hts hK hDD hA0 hP hS hl RET => ?_)
  have hown : s.vm.findClass RX12 = some m.cls := hown
  have hl : lv_has ls 3 [(0, .ref (q 0)), (1, .int (iI x1))] := hl
  have hiX12 : ∀ w ∈ u_ws RX12 TX12 85, w ∈ ws_mb_X12_may := fun w h => List.mem_cons_of_mem _ (wx_lay w h)
  obtain ⟨H, hHe⟩ : ∃ H : Heap, H = s.heap := ⟨_, rfl⟩
  rw [← hHe] at hP
  have hS : va_S AS s.heap H [] := by rw [hHe]; exact hS
  suffices hgo : ∀ locs : List Loc, va_S AS s.heap H locs → W p l e (headSpec ws_mb_X12_may ({ frames := 1, cells := 0, slots := 0, locals := 27 } : Room)).room s m [.ref (q 0), .int (iI x1)].toArray below meth c H locs 0 0 Q (F0 m 0 ls []) by
    have := hgo [] hS
    rw [hHe] at this
    exact this
  clear hS hHe
  intro locs hS
  refine lv_iconst (v := iI 0) hx hb dX12_may_0 (by decide +kernel) ?_
  refine lv_istore_n (lv' := [(2, .int (iI 0)), (0, .ref (q 0)), (1, .int (iI x1))]) hx hb dX12_may_1 rfl hl (by decide) rfl (fun ls hl => ?_)
  have L2_3 : ∀ (n5 : Nat) (z1 : Int) (H : Heap) (locs : List Loc) (ls : Array Slot), (0 ≤ z1) → (0 ≤ z1 ∧ z1 ≤ 2147483647) → ((x1 - z1 + 1).toNat = n5) → va_P (dC, dI) vwCl (WM cI cJ cZ q A) H → va_S AS s.heap H locs → lv_has ls 3 [(2, .int (iI z1)), (0, .ref (q 0)), (1, .int (iI x1))] → W p l e (headSpec ws_mb_X12_may ({ frames := 1, cells := 0, slots := 0, locals := 27 } : Room)).room s m [.ref (q 0), .int (iI x1)].toArray below meth c H locs 0 0 Q (F0 m 2 ls []) := by
    intro n5
    induction n5 using Nat.strongRecOn with
    | ind n5 ih4 =>
      intro z1 H locs ls f6 f7 hn5 hP hS hl
      refine lv_iload_n hx hb dX12_may_2 rfl (lv_at hl 0 rfl) ?_
      refine lv_iload_n hx hb dX12_may_3 rfl (lv_at hl 2 rfl) ?_
      refine lv_icmp_ge (tgt := 39) hx hb dX12_may_4 (by decide) (fun c8 => ?_) (fun c8 => ?_)
      · have c8 : x1 ≤ z1 := (i_le (rb hx1 (by decide) (by decide)) (rb f7 (by decide) (by decide))).mp c8
        refine lv_iconst (v := iI 1) hx hb dX12_may_39 (by decide +kernel) ?_
        exact RET 1 _ _ _ _ _ ⟨rfl, ⟨by decide, Hd.mk (fun h => absurd h (by decide))⟩⟩ hP hS dX12_may_40
      · have c8 : ¬ x1 ≤ z1 := mt (i_le (rb hx1 (by decide) (by decide)) (rb f7 (by decide) (by decide))).mpr c8
        refine lv_aload_n hx hb dX12_may_7 rfl (lv_at hl 1 rfl) ?_
        refine va_get (D := (dC, dI)) (ci := 12) (v := .ref (q 51)) (C := RX12) (T := TX12) (N := 85) hx hb hts hiX12 hown hK hP 0 wm0 rfl 74 (by decide) (hts _ (List.mem_cons_of_mem _ (wl_in_7 _ (List.mem_of_getElem? (i := 53) rfl)))) (fun _ h9 => h9) rfl dX12_may_8 ?_
        refine lv_iload_n hx hb dX12_may_11 rfl (lv_at hl 0 rfl) ?_
        refine x_iald hx hb hK hP 51 1 wm51 rfl (by omega) (by decide) dX12_may_12 (fun z9 hz9 => ?_)
        have rz9 : (-1 : Int) ≤ z9 ∧ z9 ≤ 8 := by rw [hz9]; exact hI 51 _
        have hz9 : z9 = A 51 (z1).toNat := hz9
        refine lv_aload_n hx hb dX12_may_13 rfl (lv_at hl 1 rfl) ?_
        refine va_get (D := (dC, dI)) (ci := 12) (v := .ref (q 51)) (C := RX12) (T := TX12) (N := 85) hx hb hts hiX12 hown hK hP 0 wm0 rfl 74 (by decide) (hts _ (List.mem_cons_of_mem _ (wl_in_7 _ (List.mem_of_getElem? (i := 53) rfl)))) (fun _ h9 => h9) rfl dX12_may_14 ?_
        refine lv_iload_n hx hb dX12_may_17 rfl (lv_at hl 2 rfl) ?_
        refine x_iald hx hb hK hP 51 1 wm51 rfl (by omega) (by decide) dX12_may_18 (fun z10 hz10 => ?_)
        have rz10 : (-1 : Int) ≤ z10 ∧ z10 ≤ 8 := by rw [hz10]; exact hI 51 _
        have hz10 : z10 = A 51 (x1).toNat := hz10
        have J33_12 : ∀ (H : Heap) (locs : List Loc) (ls : Array Slot), va_P (dC, dI) vwCl (WM cI cJ cZ q A) H → va_S AS s.heap H locs → lv_has ls 3 [(2, .int (iI z1)), (0, .ref (q 0)), (1, .int (iI x1))] → W p l e (headSpec ws_mb_X12_may ({ frames := 1, cells := 0, slots := 0, locals := 27 } : Room)).room s m [.ref (q 0), .int (iI x1)].toArray below meth c H locs 0 0 Q (F0 m 33 ls []) := by
          intro H locs ls hP hS hl
          refine lv_iinc (v := iI (z1 + 1)) (lv' := [(2, .int (iI (z1 + 1))), (0, .ref (q 0)), (1, .int (iI x1))]) hx hb dX12_may_33 hl (k := 0) rfl (i_inc (by omega)) (by decide) rfl (fun ls hl => ?_)
          refine lv_goto (tgt := 2) hx hb dX12_may_36 (by decide) ?_
          exact ih4 _ (by omega) (z1 + 1) _ _ _ (by omega) (by omega) rfl hP hS (lv_sub hl [0, 1, 2] rfl)
        refine lv_icmp_ne (tgt := 33) hx hb dX12_may_19 (by decide) (fun c11 => ?_) (fun c11 => ?_)
        · have c11 : ¬ z9 = z10 := mt (i_eq (rb rz9 (by decide) (by decide)) (rb rz10 (by decide) (by decide))).mpr c11
          exact J33_12 _ _ _ hP hS (lv_sub hl [0, 1, 2] rfl)
        · have c11 : z9 = z10 := (i_eq (rb rz9 (by decide) (by decide)) (rb rz10 (by decide) (by decide))).mp c11
          refine lv_aload_n hx hb dX12_may_22 rfl (lv_at hl 1 rfl) ?_
          refine lv_iload_n hx hb dX12_may_23 rfl (lv_at hl 0 rfl) ?_
          refine lv_iload_n hx hb dX12_may_24 rfl (lv_at hl 2 rfl) ?_
          refine x_calli (As := [.int (iI z1), .int (iI x1)]) (rest := []) ⟨hx, hb, hml, hown, hts⟩ (mc_X12_crosses l dC dI cB cI cJ cZ cQ q _ z1 x1 hI (by omega) hx1) (cwV 2 hts (goodV (wl_in_7 _ (List.mem_of_getElem? (i := 49) rfl)) (wl_in_7 _ (List.mem_of_getElem? (i := 50) rfl)) (wl_in_7 _ (List.mem_of_getElem? (i := 51) rfl)) (wl_in_0 _ (List.mem_of_getElem? (i := 8) rfl)) (wl_in_7 _ (List.mem_of_getElem? (i := 47) rfl))) rfl rfl rfl (by decide +kernel) ⟨Nat.le_of_ble_eq_true rfl, Nat.le_of_ble_eq_true rfl⟩) hK hDD hA0 hP hS 0 12 wm0 rfl rfl hl.1 (Nat.le_of_ble_eq_true rfl) dX12_may_25 (fun z13 A14 H locs hw15 hP hS => ?_)
          obtain ⟨rfl, hw15⟩ := hw15
          refine lv_if_eq (tgt := 33) hx hb dX12_may_28 (by decide) (fun c16 => ?_) (fun c16 => ?_)
          · have c16 : z13 = 0 := (i_eq0 (rb hw15 (by decide) (by decide))).mp c16
            exact J33_12 _ _ _ hP hS (lv_sub hl [0, 1, 2] rfl)
          · have c16 : ¬ z13 = 0 := mt (i_eq0 (rb hw15 (by decide) (by decide))).mpr c16
            refine lv_iconst (v := iI 0) hx hb dX12_may_31 (by decide +kernel) ?_
            exact RET 0 _ _ _ _ _ ⟨rfl, ⟨by decide, Hd.mk (fun _ => ⟨(z1).toNat, by omega, by rw [← hz9, ← hz10]; omega⟩)⟩⟩ hP hS dX12_may_32
  exact L2_3 _ 0 _ _ _ (by omega) (by omega) rfl hP hS (lv_sub hl [0, 1, 2] rfl)

def ws_mb_X12_fits8 : List Cond := .code yX12_fits8 cX12_fits8 3 (some .boolean) :: WX
set_option maxHeartbeats 4000000 in
set_option maxRecDepth 100000 in
theorem mb_X12_fits8 (l : Launch) (dC : Nat → ClassId) (dI : Nat → Nat → Nat) (cB cI cJ cZ cQ : ClassId) (q : Nat → Nat) (A : St) (x1 : Int) (hI : IM A) (hx1 : (0 : Int) ≤ x1 ∧ x1 ≤ 6) : XMi l yX12_fits8 ws_mb_X12_fits8 ({ frames := 2, cells := 0, slots := 0, locals := 49 } : Room) (dC, dI) (tyA cB cI cJ cZ cQ) (WM cI cJ cZ q) A [.ref (q 0), .int (iI x1)] (fun z u => IM u ∧ fr [51] [] A u ∧ ((0 ≤ z ∧ z ≤ 1) ∧ (Hd (A 25 (A 0 12).toNat ≤ x1 → z = 1)))) := by
  refine x_metz (cc := cX12_fits8) (maxL := 3) WM_adr (by decide +kernel) rfl (Nat.le_of_ble_eq_true rfl) (fun z u h => h.2.2.1) (fun p e s m below meth c Q AS ls hx hb hml hown hts hK hDD hA0 hP hS hl RET => ?_)
  have hown : s.vm.findClass RX12 = some m.cls := hown
  have hl : lv_has ls 3 [(0, .ref (q 0)), (1, .int (iI x1))] := hl
  have hiX12 : ∀ w ∈ u_ws RX12 TX12 85, w ∈ ws_mb_X12_fits8 := fun w h => List.mem_cons_of_mem _ (wx_lay w h)
  obtain ⟨H, hHe⟩ : ∃ H : Heap, H = s.heap := ⟨_, rfl⟩
  rw [← hHe] at hP
  have hS : va_S AS s.heap H [] := by rw [hHe]; exact hS
  suffices hgo : ∀ locs : List Loc, va_S AS s.heap H locs → W p l e (headSpec ws_mb_X12_fits8 ({ frames := 2, cells := 0, slots := 0, locals := 49 } : Room)).room s m [.ref (q 0), .int (iI x1)].toArray below meth c H locs 0 0 Q (F0 m 0 ls []) by
    have := hgo [] hS
    rw [hHe] at this
    exact this
  clear hS hHe
  intro locs hS
  refine lv_iconst (v := iI 0) hx hb dX12_fits8_0 (by decide +kernel) ?_
  refine lv_istore_n (lv' := [(2, .int (iI 0)), (0, .ref (q 0)), (1, .int (iI x1))]) hx hb dX12_fits8_1 rfl hl (by decide) rfl (fun ls hl => ?_)
  refine lv_aload_n hx hb dX12_fits8_2 rfl (lv_at hl 1 rfl) ?_
  refine va_get (D := (dC, dI)) (ci := 12) (v := .ref (q 51)) (C := RX12) (T := TX12) (N := 85) hx hb hts hiX12 hown hK hP 0 wm0 rfl 74 (by decide) (hts _ (List.mem_cons_of_mem _ (wl_in_7 _ (List.mem_of_getElem? (i := 53) rfl)))) (fun _ h9 => h9) rfl dX12_fits8_3 ?_
  refine lv_iconst (v := iI 0) hx hb dX12_fits8_6 (by decide +kernel) ?_
  refine lv_iconst (v := iI (-1)) hx hb dX12_fits8_7 (by decide +kernel) ?_
  refine x_iast hx hb hK hP hDD hS 51 1 wm51 rfl (by omega) (by decide) dX12_fits8_8 ws51 (fun H locs hP hS => ?_)
  have hI := hI.st (j := 51) (i := (0 : Int).toNat) (v := (-1)) (show (-1 : Int) ≤ (-1) ∧ (-1) ≤ 8 from (by omega))
  obtain ⟨A1, hA1⟩ : ∃ A1 : St, A1 = (stA A 51 (0 : Int).toNat (-1)) := ⟨_, rfl⟩
  rw [← hA1] at hP hI
  have L9_5 : ∀ (n7 : Nat) (z2 : Int) (A4 : St) (H : Heap) (locs : List Loc) (ls : Array Slot), (-1 ≤ z2 ∧ z2 ≤ 6) → (Hd (∀ i : Nat, (i : Int) ≤ z2 → A4 51 i < x1)) → (Hd (A 25 (A 0 12).toNat ≤ x1 → 0 ≤ z2 ∧ A4 51 z2.toNat = -1)) → (fmz (A4 51) z2 = n7) → IM A4 → fr [51] [] A1 A4 → va_P (dC, dI) vwCl (WM cI cJ cZ q A4) H → va_S AS s.heap H locs → lv_has ls 3 [(2, .int (iI z2)), (0, .ref (q 0)), (1, .int (iI x1))] → W p l e (headSpec ws_mb_X12_fits8 ({ frames := 2, cells := 0, slots := 0, locals := 49 } : Room)).room s m [.ref (q 0), .int (iI x1)].toArray below meth c H locs 0 0 Q (F0 m 9 ls []) := by
    intro n7
    induction n7 using Nat.strongRecOn with
    | ind n7 ih6 =>
      intro z2 A4 H locs ls f8 f9 f10 hn7 hI hj3 hP hS hl
      have hIb := hI
      refine lv_iload_n hx hb dX12_fits8_9 rfl (lv_at hl 0 rfl) ?_
      refine lv_if_lt (tgt := 96) hx hb dX12_fits8_10 (by decide) (fun c11 => ?_) (fun c11 => ?_)
      · have c11 : z2 < 0 := (i_lt0 (rb f8 (by decide) (by decide))).mp c11
        refine lv_iload_n hx hb dX12_fits8_96 rfl (lv_at hl 0 rfl) ?_
        refine lv_if_lt (tgt := 104) hx hb dX12_fits8_97 (by decide) (fun _ => ?_) (fun c12 => False.elim (by have c12 : ¬ z2 < 0 := mt (i_lt0 (rb f8 (by decide) (by decide))).mpr c12; omega))
        refine lv_iconst (v := iI 0) hx hb dX12_fits8_104 (by decide +kernel) ?_
        exact RET 0 _ _ _ _ _ ⟨hI, fr.trans (fr_def hA1 (fr.st (fr.rf) (by decide) rfl)) hj3 rfl rfl, ⟨by decide, Hd.mk (fun h => absurd (f10.out h).1 (by omega))⟩⟩ hP hS dX12_fits8_105
      · have c11 : ¬ z2 < 0 := mt (i_lt0 (rb f8 (by decide) (by decide))).mpr c11
        refine lv_iload_n hx hb dX12_fits8_13 rfl (lv_at hl 0 rfl) ?_
        refine lv_aload_n hx hb dX12_fits8_14 rfl (lv_at hl 1 rfl) ?_
        refine va_get (D := (dC, dI)) (ci := 12) (v := .ref (q 25)) (C := RX12) (T := TX12) (N := 85) hx hb hts hiX12 hown hK hP 0 wm0 rfl 36 (by decide) (hts _ (List.mem_cons_of_mem _ (wl_in_3 _ (List.mem_of_getElem? (i := 20) rfl)))) (fun _ h9 => h9) rfl dX12_fits8_15 ?_
        refine lv_aload_n hx hb dX12_fits8_18 rfl (lv_at hl 1 rfl) ?_
        have e_A1_12 : A1 0 12 = (A 0 12) := by rw [hA1]; exact rfl
        have e_A4_12 : A4 0 12 = (A 0 12) := (hj3.2 12 rfl).trans e_A1_12
        refine va_get (D := (dC, dI)) (ci := 12) (v := .int (iI (A4 0 12))) (C := RX12) (T := TX12) (N := 85) hx hb hts hiX12 hown hK hP 0 wm0 rfl 12 (by decide) (hts _ (List.mem_cons_of_mem _ (wl_in_4 _ (List.mem_of_getElem? (i := 14) rfl)))) (fun _ h9 => h9) rfl dX12_fits8_19 ?_
        refine tp_i (y := iI (A 0 12)) (congrArg iI e_A4_12) ?_
        have r_A_0_12 : (0 : Int) ≤ (A 0 12) ∧ (A 0 12) ≤ 1 := by rw [← e_A4_12]; exact hI 0 12
        have a_A1_25 : A1 25 = A 25 := by rw [hA1]; exact rfl
        have a_A4_25 : A4 25 = A 25 := (hj3.1 25 (by decide) rfl).trans a_A1_25
        refine x_iald hx hb hK hP 25 1 wm25 rfl (by omega) (by decide) dX12_fits8_22 (fun z13 hz13 => ?_)
        have rz13 : (0 : Int) ≤ z13 ∧ z13 ≤ 6 := by rw [hz13]; exact hI 25 _
        have hz13 : z13 = A 25 ((A 0 12)).toNat := hz13.trans (congrFun a_A4_25 _)
        refine lv_icmp_ge (tgt := 96) hx hb dX12_fits8_23 (by decide) (fun c14 => ?_) (fun c14 => ?_)
        · have c14 : z13 ≤ z2 := (i_le (rb rz13 (by decide) (by decide)) (rb f8 (by decide) (by decide))).mp c14
          refine lv_iload_n hx hb dX12_fits8_96 rfl (lv_at hl 0 rfl) ?_
          refine lv_if_lt (tgt := 104) hx hb dX12_fits8_97 (by decide) (fun c15 => False.elim (by have c15 : z2 < 0 := (i_lt0 (rb f8 (by decide) (by decide))).mp c15; omega)) (fun _ => ?_)
          refine lv_iconst (v := iI 1) hx hb dX12_fits8_100 (by decide +kernel) ?_
          refine lv_goto (tgt := 105) hx hb dX12_fits8_101 (by decide) ?_
          exact RET 1 _ _ _ _ _ ⟨hI, fr.trans (fr_def hA1 (fr.st (fr.rf) (by decide) rfl)) hj3 rfl rfl, ⟨by decide, Hd.mk (fun _ => rfl)⟩⟩ hP hS dX12_fits8_105
        · have c14 : ¬ z13 ≤ z2 := mt (i_le (rb rz13 (by decide) (by decide)) (rb f8 (by decide) (by decide))).mpr c14
          refine lv_aload_n hx hb dX12_fits8_26 rfl (lv_at hl 1 rfl) ?_
          refine va_get (D := (dC, dI)) (ci := 12) (v := .ref (q 51)) (C := RX12) (T := TX12) (N := 85) hx hb hts hiX12 hown hK hP 0 wm0 rfl 74 (by decide) (hts _ (List.mem_cons_of_mem _ (wl_in_7 _ (List.mem_of_getElem? (i := 53) rfl)))) (fun _ h9 => h9) rfl dX12_fits8_27 ?_
          refine lv_iload_n hx hb dX12_fits8_30 rfl (lv_at hl 0 rfl) ?_
          refine lv_dup2_11 hx hb dX12_fits8_31 rfl rfl ?_
          refine x_iald hx hb hK hP 51 1 wm51 rfl (by omega) (by decide) dX12_fits8_32 (fun z16 hz16 => ?_)
          have rz16 : (-1 : Int) ≤ z16 ∧ z16 ≤ 8 := by rw [hz16]; exact hI 51 _
          have hz16 : z16 = A4 51 (z2).toNat := hz16
          have ga := f9.out (z2).toNat (by omega)
          rw [← hz16] at ga
          refine lv_iconst (v := iI 1) hx hb dX12_fits8_33 (by decide +kernel) ?_
          refine x_addv (v := z16 + 1) hx hb dX12_fits8_34 (by omega) ?_
          refine x_iast hx hb hK hP hDD hS 51 1 wm51 rfl (by omega) (by decide) dX12_fits8_35 ws51 (fun H locs hP hS => ?_)
          have hI := hI.st (j := 51) (i := (z2).toNat) (v := z16 + 1) (show (-1 : Int) ≤ z16 + 1 ∧ z16 + 1 ≤ 8 from (by omega))
          obtain ⟨A17, hA17⟩ : ∃ A17 : St, A17 = (stA A4 51 (z2).toNat (z16 + 1)) := ⟨_, rfl⟩
          rw [← hA17] at hP hI
          have L36_20 : ∀ (n22 : Nat) (A19 : St) (H : Heap) (locs : List Loc) (ls : Array Slot), (Hd (A19 51 = up (A17 51) z2.toNat (A19 51 z2.toNat))) → (A17 51 z2.toNat ≤ A19 51 z2.toNat ∧ A19 51 z2.toNat ≤ x1) → (Hd (A 25 (A 0 12).toNat ≤ x1 → used (A19 51) z2 (A19 51 z2.toNat))) → ((x1 - A19 51 z2.toNat + 1).toNat = n22) → IM A19 → fr [51] [] A17 A19 → va_P (dC, dI) vwCl (WM cI cJ cZ q A19) H → va_S AS s.heap H locs → lv_has ls 3 [(2, .int (iI z2)), (0, .ref (q 0)), (1, .int (iI x1))] → W p l e (headSpec ws_mb_X12_fits8 ({ frames := 2, cells := 0, slots := 0, locals := 49 } : Room)).room s m [.ref (q 0), .int (iI x1)].toArray below meth c H locs 0 0 Q (F0 m 36 ls []) := by
            intro n22
            induction n22 using Nat.strongRecOn with
            | ind n22 ih21 =>
              intro A19 H locs ls f23 f24 f25 hn22 hI hj18 hP hS hl
              refine lv_aload_n hx hb dX12_fits8_36 rfl (lv_at hl 1 rfl) ?_
              refine va_get (D := (dC, dI)) (ci := 12) (v := .ref (q 51)) (C := RX12) (T := TX12) (N := 85) hx hb hts hiX12 hown hK hP 0 wm0 rfl 74 (by decide) (hts _ (List.mem_cons_of_mem _ (wl_in_7 _ (List.mem_of_getElem? (i := 53) rfl)))) (fun _ h9 => h9) rfl dX12_fits8_37 ?_
              refine lv_iload_n hx hb dX12_fits8_40 rfl (lv_at hl 0 rfl) ?_
              refine x_iald hx hb hK hP 51 1 wm51 rfl (by omega) (by decide) dX12_fits8_41 (fun z26 hz26 => ?_)
              have rz26 : (-1 : Int) ≤ z26 ∧ z26 ≤ 8 := by rw [hz26]; exact hI 51 _
              have hz26 : z26 = A19 51 (z2).toNat := hz26
              refine lv_iload_n hx hb dX12_fits8_42 rfl (lv_at hl 2 rfl) ?_
              have J67_28 : ∀ (H : Heap) (locs : List Loc) (ls : Array Slot), va_P (dC, dI) vwCl (WM cI cJ cZ q A19) H → va_S AS s.heap H locs → lv_has ls 3 [(2, .int (iI z2)), (0, .ref (q 0)), (1, .int (iI x1))] → W p l e (headSpec ws_mb_X12_fits8 ({ frames := 2, cells := 0, slots := 0, locals := 49 } : Room)).room s m [.ref (q 0), .int (iI x1)].toArray below meth c H locs 0 0 Q (F0 m 67 ls []) := by
                intro H locs ls hP hS hl
                refine lv_aload_n hx hb dX12_fits8_67 rfl (lv_at hl 1 rfl) ?_
                refine va_get (D := (dC, dI)) (ci := 12) (v := .ref (q 51)) (C := RX12) (T := TX12) (N := 85) hx hb hts hiX12 hown hK hP 0 wm0 rfl 74 (by decide) (hts _ (List.mem_cons_of_mem _ (wl_in_7 _ (List.mem_of_getElem? (i := 53) rfl)))) (fun _ h9 => h9) rfl dX12_fits8_68 ?_
                refine lv_iload_n hx hb dX12_fits8_71 rfl (lv_at hl 0 rfl) ?_
                refine x_iald hx hb hK hP 51 1 wm51 rfl (by omega) (by decide) dX12_fits8_72 (fun z36 hz36 => ?_)
                have rz36 : (-1 : Int) ≤ z36 ∧ z36 ≤ 8 := by rw [hz36]; exact hI 51 _
                have hz36 : z36 = A19 51 (z2).toNat := hz36
                have ez36 : z36 = z26 := hz36.trans hz26.symm
                refine lv_iload_n hx hb dX12_fits8_73 rfl (lv_at hl 2 rfl) ?_
                refine lv_icmp_ge (tgt := 90) hx hb dX12_fits8_74 (by decide) (fun c37 => ?_) (fun c37 => ?_)
                · have c37 : x1 ≤ z36 := (i_le (rb hx1 (by decide) (by decide)) (rb rz36 (by decide) (by decide))).mp c37
                  refine lv_iinc (v := iI (z2 - 1)) (lv' := [(2, .int (iI (z2 - 1))), (0, .ref (q 0)), (1, .int (iI x1))]) hx hb dX12_fits8_90 hl (k := 0) rfl (i_inc (by omega)) (by decide) rfl (fun ls hl => ?_)
                  refine lv_goto (tgt := 9) hx hb dX12_fits8_93 (by decide) ?_
                  have eP : A19 51 = up (A4 51) (z2).toNat (A19 51 (z2).toNat) := (f23.out).trans (by rw [hA17, stA_same, up_up])
                  have e0 : A17 51 (z2).toNat = z16 + 1 := by rw [hA17, stA_same, up_same]
                  have ezb : z16 = A4 51 (z2).toNat := hz16
                  have gm := fm_bwd (f := A4 51) (m := z2) (by omega) (fun i hi => ⟨(hIb 51 i).1, by have := f9.out i (by omega); omega⟩) eP
                  exact ih6 _ (by omega) (z2 - 1) _ _ _ _ (by omega) (by exact Hd.mk (kr_bwd f9.out eP (by omega))) (by exact Hd.mk (fun h => absurd h (by have gu := f25.out; intro h; have g2 := used_le (by omega) (by omega) (gu h); omega))) rfl hI (fr.trans (fr_def hA17 (fr.st (fr.trans (fr.rf) hj3 rfl rfl) (by decide) rfl)) hj18 rfl rfl) hP hS (lv_sub hl [0, 1, 2] rfl)
                · have c37 : ¬ x1 ≤ z36 := mt (i_le (rb hx1 (by decide) (by decide)) (rb rz36 (by decide) (by decide))).mpr c37
                  refine lv_iinc (v := iI (z2 + 1)) (lv' := [(2, .int (iI (z2 + 1))), (0, .ref (q 0)), (1, .int (iI x1))]) hx hb dX12_fits8_77 hl (k := 0) rfl (i_inc (by omega)) (by decide) rfl (fun ls hl => ?_)
                  refine lv_aload_n hx hb dX12_fits8_80 rfl (lv_at hl 1 rfl) ?_
                  refine va_get (D := (dC, dI)) (ci := 12) (v := .ref (q 51)) (C := RX12) (T := TX12) (N := 85) hx hb hts hiX12 hown hK hP 0 wm0 rfl 74 (by decide) (hts _ (List.mem_cons_of_mem _ (wl_in_7 _ (List.mem_of_getElem? (i := 53) rfl)))) (fun _ h9 => h9) rfl dX12_fits8_81 ?_
                  refine lv_iload_n hx hb dX12_fits8_84 rfl (lv_at hl 0 rfl) ?_
                  refine lv_iconst (v := iI (-1)) hx hb dX12_fits8_85 (by decide +kernel) ?_
                  refine x_iast hx hb hK hP hDD hS 51 1 wm51 rfl (by omega) (by decide) dX12_fits8_86 ws51 (fun H locs hP hS => ?_)
                  have hI := hI.st (j := 51) (i := (z2 + 1).toNat) (v := (-1)) (show (-1 : Int) ≤ (-1) ∧ (-1) ≤ 8 from (by omega))
                  refine lv_goto (tgt := 9) hx hb dX12_fits8_87 (by decide) ?_
                  obtain ⟨A38, hA38⟩ : ∃ A38 : St, A38 = (stA A19 51 (z2 + 1).toNat (-1)) := ⟨_, rfl⟩
                  rw [← hA38] at hP hI
                  have eP : A19 51 = up (A4 51) (z2).toNat (A19 51 (z2).toNat) := (f23.out).trans (by rw [hA17, stA_same, up_up])
                  have e0 : A17 51 (z2).toNat = z16 + 1 := by rw [hA17, stA_same, up_same]
                  have ezb : z16 = A4 51 (z2).toNat := hz16
                  have eV : A38 51 = up (up (A4 51) (z2).toNat (A19 51 (z2).toNat)) (z2 + 1).toNat (-1) := by rw [hA38, stA_same, ← eP]
                  have gm := fm_fwd (f := A4 51) (m := z2) (by omega) (fun i hi => by have := f9.out i (by omega); omega) (by omega) eV
                  exact ih6 _ (by omega) (z2 + 1) _ _ _ _ (by omega) (by exact Hd.mk (kr_fwd (by omega) f9.out (w := A19 51 (z2).toNat) (by omega) (by omega) eV)) (by exact Hd.mk (fun _ => ⟨by omega, by rw [eV, up_same]⟩)) rfl hI (fr_def hA38 (fr.st (fr.trans (fr_def hA17 (fr.st (fr.trans (fr.rf) hj3 rfl rfl) (by decide) rfl)) hj18 rfl rfl) (by decide) rfl)) hP hS (lv_sub hl [0, 1, 2] rfl)
              refine lv_icmp_ge (tgt := 67) hx hb dX12_fits8_43 (by decide) (fun c27 => ?_) (fun c27 => ?_)
              · have c27 : x1 ≤ z26 := (i_le (rb hx1 (by decide) (by decide)) (rb rz26 (by decide) (by decide))).mp c27
                exact J67_28 _ _ _ hP hS (lv_sub hl [0, 1, 2] rfl)
              · have c27 : ¬ x1 ≤ z26 := mt (i_le (rb hx1 (by decide) (by decide)) (rb rz26 (by decide) (by decide))).mpr c27
                refine lv_aload_n hx hb dX12_fits8_46 rfl (lv_at hl 1 rfl) ?_
                refine lv_iload_n hx hb dX12_fits8_47 rfl (lv_at hl 0 rfl) ?_
                refine x_calli (As := [.int (iI z2)]) (rest := []) ⟨hx, hb, hml, hown, hts⟩ (mb_X12_may l dC dI cB cI cJ cZ cQ q _ z2 hI (by omega)) (cwV 1 hts (goodV (wl_in_7 _ (List.mem_of_getElem? (i := 55) rfl)) (wl_in_7 _ (List.mem_of_getElem? (i := 56) rfl)) (wl_in_7 _ (List.mem_of_getElem? (i := 57) rfl)) (wl_in_0 _ (List.mem_of_getElem? (i := 8) rfl)) (wl_in_7 _ (List.mem_of_getElem? (i := 52) rfl))) rfl rfl rfl (by decide +kernel) ⟨Nat.le_of_ble_eq_true rfl, Nat.le_of_ble_eq_true rfl⟩) hK hDD hA0 hP hS 0 12 wm0 rfl rfl hl.1 (Nat.le_of_ble_eq_true rfl) dX12_fits8_48 (fun z29 A30 H locs hw31 hP hS => ?_)
                obtain ⟨rfl, hw31⟩ := hw31
                have rz29 : 0 ≤ z29 ∧ z29 ≤ 1 := hw31.1
                refine lv_if_ne (tgt := 67) hx hb dX12_fits8_51 (by decide) (fun c32 => ?_) (fun c32 => ?_)
                · have c32 : ¬ z29 = 0 := mt (i_eq0 (rb rz29 (by decide) (by decide))).mpr c32
                  exact J67_28 _ _ _ hP hS (lv_sub hl [0, 1, 2] rfl)
                · have c32 : z29 = 0 := (i_eq0 (rb rz29 (by decide) (by decide))).mp c32
                  refine lv_aload_n hx hb dX12_fits8_54 rfl (lv_at hl 1 rfl) ?_
                  refine va_get (D := (dC, dI)) (ci := 12) (v := .ref (q 51)) (C := RX12) (T := TX12) (N := 85) hx hb hts hiX12 hown hK hP 0 wm0 rfl 74 (by decide) (hts _ (List.mem_cons_of_mem _ (wl_in_7 _ (List.mem_of_getElem? (i := 53) rfl)))) (fun _ h9 => h9) rfl dX12_fits8_55 ?_
                  refine lv_iload_n hx hb dX12_fits8_58 rfl (lv_at hl 0 rfl) ?_
                  refine lv_dup2_11 hx hb dX12_fits8_59 rfl rfl ?_
                  refine x_iald hx hb hK hP 51 1 wm51 rfl (by omega) (by decide) dX12_fits8_60 (fun z33 hz33 => ?_)
                  have rz33 : (-1 : Int) ≤ z33 ∧ z33 ≤ 8 := by rw [hz33]; exact hI 51 _
                  have hz33 : z33 = A19 51 (z2).toNat := hz33
                  have ez33 : z33 = z26 := hz33.trans hz26.symm
                  refine lv_iconst (v := iI 1) hx hb dX12_fits8_61 (by decide +kernel) ?_
                  refine x_addv (v := z33 + 1) hx hb dX12_fits8_62 (by omega) ?_
                  refine x_iast hx hb hK hP hDD hS 51 1 wm51 rfl (by omega) (by decide) dX12_fits8_63 ws51 (fun H locs hP hS => ?_)
                  have hI := hI.st (j := 51) (i := (z2).toNat) (v := z33 + 1) (show (-1 : Int) ≤ z33 + 1 ∧ z33 + 1 ≤ 8 from (by omega))
                  refine lv_goto (tgt := 36) hx hb dX12_fits8_64 (by decide) ?_
                  obtain ⟨A34, hA34⟩ : ∃ A34 : St, A34 = (stA A19 51 (z2).toNat (z33 + 1)) := ⟨_, rfl⟩
                  rw [← hA34] at hP hI
                  have ezw : z33 = A19 51 (z2).toNat := by omega
                  have eW : A34 51 = up (A19 51) (z2).toNat (A19 51 (z2).toNat + 1) := by rw [hA34, stA_same, ← ezw]
                  have e1 : A34 51 (z2).toNat = A19 51 (z2).toNat + 1 := by rw [eW, up_same]
                  exact ih21 _ (by omega) _ _ _ _ (by exact Hd.mk (by rw [hA34, stA_same, up_same, f23.out, up_up])) (by omega) (by exact Hd.mk (fun h => by rw [e1]; exact used_step (by omega) (f25.out h) (hw31.2.out (by omega)) eW)) rfl hI (fr_def hA34 (fr.st (fr.trans (fr.rf) hj18 rfl rfl) (by decide) rfl)) hP hS (lv_sub hl [0, 1, 2] rfl)
          have e0 : A17 51 (z2).toNat = z16 + 1 := by rw [hA17, stA_same, up_same]
          exact L36_20 _ _ _ _ _ (by exact Hd.mk up_id) (by omega) (by exact Hd.mk (fun h => by have g := f10.out h; rw [← hz16] at g; intro c hc; omega)) rfl hI (fr.rf) hP hS (lv_sub hl [0, 1, 2] rfl)
  exact L9_5 _ 0 _ _ _ _ (by omega) (by exact Hd.mk (fun i hi => by have hi2 : (i : Int) ≤ 0 := hi; have e : i = 0 := (by omega); rw [e, hA1]; show (-1 : Int) < x1; omega)) (by exact Hd.mk (fun _ => ⟨by omega, by rw [hA1]; rfl⟩)) rfl hI (fr.rf) hP hS (lv_sub hl [0, 1, 2] rfl)

def ws_mb_X12_fewest : List Cond := .code yX12_fewest cX12_fewest 3 (some .int) :: WX
set_option maxHeartbeats 4000000 in
set_option maxRecDepth 100000 in
theorem mb_X12_fewest (l : Launch) (dC : Nat → ClassId) (dI : Nat → Nat → Nat) (cB cI cJ cZ cQ : ClassId) (q : Nat → Nat) (A : St) (x1 : Int) (hI : IM A) (hx1 : (-2147483648 : Int) ≤ x1 ∧ x1 ≤ 2147483647) : XMi l yX12_fewest ws_mb_X12_fewest ({ frames := 3, cells := 0, slots := 0, locals := 71 } : Room) (dC, dI) (tyA cB cI cJ cZ cQ) (WM cI cJ cZ q) A [.ref (q 0), .int (iI x1)] (fun z u => IM u ∧ fr [51] [] A u ∧ (-2147483648 ≤ z ∧ z ≤ 2147483647)) := by
  refine x_meti (cc := cX12_fewest) (maxL := 3) WM_adr (by decide +kernel) rfl (Nat.le_of_ble_eq_true rfl) (fun p e s m below meth c Q AS ls hx hb hml hown hts hK hDD hA0 hP hS hl RET => ?_)
  have hown : s.vm.findClass RX12 = some m.cls := hown
  have hl : lv_has ls 3 [(0, .ref (q 0)), (1, .int (iI x1))] := hl
  have hiX12 : ∀ w ∈ u_ws RX12 TX12 85, w ∈ ws_mb_X12_fewest := fun w h => List.mem_cons_of_mem _ (wx_lay w h)
  obtain ⟨H, hHe⟩ : ∃ H : Heap, H = s.heap := ⟨_, rfl⟩
  rw [← hHe] at hP
  have hS : va_S AS s.heap H [] := by rw [hHe]; exact hS
  suffices hgo : ∀ locs : List Loc, va_S AS s.heap H locs → W p l e (headSpec ws_mb_X12_fewest ({ frames := 3, cells := 0, slots := 0, locals := 71 } : Room)).room s m [.ref (q 0), .int (iI x1)].toArray below meth c H locs 0 0 Q (F0 m 0 ls []) by
    have := hgo [] hS
    rw [hHe] at this
    exact this
  clear hS hHe
  intro locs hS
  refine lv_iload_n hx hb dX12_fewest_0 rfl (lv_at hl 1 rfl) ?_
  refine lv_iconst (v := iI (-1)) hx hb dX12_fewest_1 (by decide +kernel) ?_
  have J26_2 : ∀ (H : Heap) (locs : List Loc) (ls : Array Slot), (x1 = -1 ∨ (0 ≤ x1 ∧ x1 ≤ 5)) → va_P (dC, dI) vwCl (WM cI cJ cZ q A) H → va_S AS s.heap H locs → lv_has ls 3 [(0, .ref (q 0)), (1, .int (iI x1))] → W p l e (headSpec ws_mb_X12_fewest ({ frames := 3, cells := 0, slots := 0, locals := 71 } : Room)).room s m [.ref (q 0), .int (iI x1)].toArray below meth c H locs 0 0 Q (F0 m 26 ls []) := by
    intro H locs ls f9 hP hS hl
    refine lv_iconst (v := iI 0) hx hb dX12_fewest_26 (by decide +kernel) ?_
    refine lv_istore_n (lv' := [(2, .int (iI 0)), (0, .ref (q 0)), (1, .int (iI x1))]) hx hb dX12_fewest_27 rfl hl (by decide) rfl (fun ls hl => ?_)
    have L28_13 : ∀ (n15 : Nat) (z10 : Int) (A12 : St) (H : Heap) (locs : List Loc) (ls : Array Slot), (0 ≤ z10 ∧ z10 ≤ 6) → (z10 ≤ A 25 (A 0 12).toNat) → ((A 25 (A 0 12).toNat - z10).toNat = n15) → IM A12 → fr [51] [] A A12 → va_P (dC, dI) vwCl (WM cI cJ cZ q A12) H → va_S AS s.heap H locs → lv_has ls 3 [(2, .int (iI z10)), (0, .ref (q 0)), (1, .int (iI x1))] → W p l e (headSpec ws_mb_X12_fewest ({ frames := 3, cells := 0, slots := 0, locals := 71 } : Room)).room s m [.ref (q 0), .int (iI x1)].toArray below meth c H locs 0 0 Q (F0 m 28 ls []) := by
      intro n15
      induction n15 using Nat.strongRecOn with
      | ind n15 ih14 =>
        intro z10 A12 H locs ls f16 f17 hn15 hI hj11 hP hS hl
        have hIb := hI
        refine lv_aload_n hx hb dX12_fewest_28 rfl (lv_at hl 1 rfl) ?_
        refine lv_iload_n hx hb dX12_fewest_29 rfl (lv_at hl 0 rfl) ?_
        have e_A12_12 : A12 0 12 = (A 0 12) := (hj11.2 12 rfl)
        have r_A_0_12 : (0 : Int) ≤ (A 0 12) ∧ (A 0 12) ≤ 1 := by rw [← e_A12_12]; exact hI 0 12
        refine x_calli (As := [.int (iI z10)]) (rest := []) ⟨hx, hb, hml, hown, hts⟩ (mb_X12_fits8 l dC dI cB cI cJ cZ cQ q _ z10 hI f16) (cwV 1 hts (goodV (wl_in_7 _ (List.mem_of_getElem? (i := 59) rfl)) (wl_in_8 _ (List.mem_of_getElem? (i := 0) rfl)) (wl_in_8 _ (List.mem_of_getElem? (i := 1) rfl)) (wl_in_0 _ (List.mem_of_getElem? (i := 8) rfl)) (wl_in_7 _ (List.mem_of_getElem? (i := 54) rfl))) rfl rfl rfl (by decide +kernel) ⟨Nat.le_of_ble_eq_true rfl, Nat.le_of_ble_eq_true rfl⟩) hK hDD hA0 hP hS 0 12 wm0 rfl rfl hl.1 (Nat.le_of_ble_eq_true rfl) dX12_fewest_30 (fun z18 A19 H locs hw20 hP hS => ?_)
        obtain ⟨hI, hf21, hw20⟩ := hw20
        have rz18 : 0 ≤ z18 ∧ z18 ≤ 1 := hw20.1
        refine lv_if_ne (tgt := 42) hx hb dX12_fewest_33 (by decide) (fun c22 => ?_) (fun c22 => ?_)
        · have c22 : ¬ z18 = 0 := mt (i_eq0 (rb rz18 (by decide) (by decide))).mpr c22
          refine lv_iload_n hx hb dX12_fewest_42 rfl (lv_at hl 2 rfl) ?_
          refine lv_iconst (v := iI (-1)) hx hb dX12_fewest_43 (by decide +kernel) ?_
          refine lv_icmp_ne (tgt := 51) hx hb dX12_fewest_44 (by decide) (fun c23 => ?_) (fun c23 => ?_)
          · have c23 : ¬ x1 = (-1) := mt (i_eq hx1 ⟨by decide, by decide⟩).mpr c23
            refine lv_aload_n hx hb dX12_fewest_51 rfl (lv_at hl 1 rfl) ?_
            refine va_get (D := (dC, dI)) (ci := 12) (v := .ref (q 51)) (C := RX12) (T := TX12) (N := 85) hx hb hts hiX12 hown hK hP 0 wm0 rfl 74 (by decide) (hts _ (List.mem_cons_of_mem _ (wl_in_7 _ (List.mem_of_getElem? (i := 53) rfl)))) (fun _ h9 => h9) rfl dX12_fewest_52 ?_
            refine lv_iload_n hx hb dX12_fewest_55 rfl (lv_at hl 2 rfl) ?_
            refine x_iald hx hb hK hP 51 1 wm51 rfl (by omega) (by decide) dX12_fewest_56 (fun z24 hz24 => ?_)
            have rz24 : (-1 : Int) ≤ z24 ∧ z24 ≤ 8 := by rw [hz24]; exact hI 51 _
            have hz24 : z24 = A19 51 (x1).toNat := hz24
            exact RET z24 _ _ _ _ _ ⟨hI, fr.trans (fr.trans (fr.rf) hj11 rfl rfl) hf21 rfl rfl, by omega⟩ hP hS dX12_fewest_57
          · have c23 : x1 = (-1) := (i_eq hx1 ⟨by decide, by decide⟩).mp c23
            refine lv_iload_n hx hb dX12_fewest_47 rfl (lv_at hl 0 rfl) ?_
            refine lv_goto (tgt := 57) hx hb dX12_fewest_48 (by decide) ?_
            exact RET z10 _ _ _ _ _ ⟨hI, fr.trans (fr.trans (fr.rf) hj11 rfl rfl) hf21 rfl rfl, by omega⟩ hP hS dX12_fewest_57
        · have c22 : z18 = 0 := (i_eq0 (rb rz18 (by decide) (by decide))).mp c22
          refine lv_iinc (v := iI (z10 + 1)) (lv' := [(2, .int (iI (z10 + 1))), (0, .ref (q 0)), (1, .int (iI x1))]) hx hb dX12_fewest_36 hl (k := 0) rfl (i_inc (by omega)) (by decide) rfl (fun ls hl => ?_)
          refine lv_goto (tgt := 28) hx hb dX12_fewest_39 (by decide) ?_
          have gf := hw20.2.out
          have ca25 : A12 25 = A 25 := (hj11.1 25 (by decide) rfl)
          rw [e_A12_12, ca25] at gf
          have rmu : (0 : Int) ≤ A 25 (A 0 12).toNat ∧ A 25 (A 0 12).toNat ≤ 6 := by rw [← ca25]; exact hIb 25 _
          exact ih14 _ (by omega) (z10 + 1) _ _ _ _ (by omega) (by omega) rfl hI (fr.trans (fr.trans (fr.rf) hj11 rfl rfl) hf21 rfl rfl) hP hS (lv_sub hl [0, 1, 2] rfl)
    have rmu : (0 : Int) ≤ A 25 (A 0 12).toNat ∧ A 25 (A 0 12).toNat ≤ 6 := hI 25 _
    exact L28_13 _ 0 _ _ _ _ (by omega) (by omega) rfl hI (fr.rf) hP hS (lv_sub hl [0, 1, 2] rfl)
  refine lv_icmp_eq (tgt := 26) hx hb dX12_fewest_2 (by decide) (fun c1 => ?_) (fun c1 => ?_)
  · have c1 : x1 = (-1) := (i_eq hx1 ⟨by decide, by decide⟩).mp c1
    exact J26_2 _ _ _ (by omega) hP hS (lv_sub hl [0, 1] rfl)
  · have c1 : ¬ x1 = (-1) := mt (i_eq hx1 ⟨by decide, by decide⟩).mpr c1
    refine lv_iload_n hx hb dX12_fewest_5 rfl (lv_at hl 1 rfl) ?_
    refine lv_iconst (v := iI 0) hx hb dX12_fewest_6 (by decide +kernel) ?_
    refine lv_aload_n hx hb dX12_fewest_7 rfl (lv_at hl 0 rfl) ?_
    refine va_get (D := (dC, dI)) (ci := 12) (v := .ref (q 25)) (C := RX12) (T := TX12) (N := 85) hx hb hts hiX12 hown hK hP 0 wm0 rfl 36 (by decide) (hts _ (List.mem_cons_of_mem _ (wl_in_3 _ (List.mem_of_getElem? (i := 20) rfl)))) (fun _ h9 => h9) rfl dX12_fewest_8 ?_
    refine lv_aload_n hx hb dX12_fewest_11 rfl (lv_at hl 0 rfl) ?_
    refine va_get (D := (dC, dI)) (ci := 12) (v := .int (iI (A 0 12))) (C := RX12) (T := TX12) (N := 85) hx hb hts hiX12 hown hK hP 0 wm0 rfl 12 (by decide) (hts _ (List.mem_cons_of_mem _ (wl_in_4 _ (List.mem_of_getElem? (i := 14) rfl)))) (fun _ h9 => h9) rfl dX12_fewest_12 ?_
    have r_A_0_12 : (0 : Int) ≤ (A 0 12) ∧ (A 0 12) ≤ 1 := hI 0 12
    refine x_iald hx hb hK hP 25 1 wm25 rfl (by omega) (by decide) dX12_fewest_15 (fun z3 hz3 => ?_)
    have rz3 : (0 : Int) ≤ z3 ∧ z3 ≤ 6 := by rw [hz3]; exact hI 25 _
    have hz3 : z3 = A 25 ((A 0 12)).toNat := hz3
    refine lv_iconst (v := iI 1) hx hb dX12_fewest_16 (by decide +kernel) ?_
    refine x_subv (v := z3 - 1) hx hb dX12_fewest_17 (by omega) ?_
    refine x_callSi (As := [.int (iI x1), .int (iI 0), .int (iI (z3 - 1))]) (rest := []) ⟨hx, hb, hml, hown, hts⟩ (mc_X12_is l dC dI cB cI cJ cZ cQ q _ x1 0 (z3 - 1) hI hx1 ⟨by decide, by decide⟩ (by omega)) (va_cwS 3 hts (goodS (wl_in_1 _ (List.mem_of_getElem? (i := 27) rfl)) (wl_in_1 _ (List.mem_of_getElem? (i := 28) rfl)) (wl_in_0 _ (List.mem_of_getElem? (i := 8) rfl)) (wl_in_0 _ (List.mem_of_getElem? (i := 0) rfl))) rfl rfl rfl (by decide +kernel) ⟨Nat.le_of_ble_eq_true rfl, Nat.le_of_ble_eq_true rfl⟩) hK hDD hA0 hP hS rfl hl.1 (Nat.le_of_ble_eq_true rfl) dX12_fewest_18 (fun z4 A5 H locs hw6 hP hS => ?_)
    obtain ⟨rfl, hw6⟩ := hw6
    have hw6 := hw6.2
    have rz4 : 0 ≤ z4 ∧ z4 ≤ 1 := hw6.1
    refine lv_if_ne (tgt := 26) hx hb dX12_fewest_21 (by decide) (fun c7 => ?_) (fun c7 => ?_)
    · have c7 : ¬ z4 = 0 := mt (i_eq0 (rb rz4 (by decide) (by decide))).mpr c7
      have hw6b := hw6.2.mp (by omega)
      clear hw6
      exact J26_2 _ _ _ (by omega) hP hS (lv_sub hl [0, 1] rfl)
    · have c7 : z4 = 0 := (i_eq0 (rb rz4 (by decide) (by decide))).mp c7
      have hw6b := mt hw6.2.mpr (by omega)
      clear hw6
      refine lv_iconst (v := iI (-1)) hx hb dX12_fewest_24 (by decide +kernel) ?_
      exact RET (-1) _ _ _ _ _ ⟨hI, fr.rf, by omega⟩ hP hS dX12_fewest_25
