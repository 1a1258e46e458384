def ws_mc_X12_must : List Cond := .code yX12_must cX12_must 2 none :: WX
set_option maxHeartbeats 4000000 in
set_option maxRecDepth 100000 in
theorem mc_X12_must (l : Launch) (dC : Nat → ClassId) (dI : Nat → Nat → Nat) (cB cI cJ cZ cQ : ClassId) (q : Nat → Nat) (A : St) (x1 : Int) (hI : IM A) (hx1 : (-2147483648 : Int) ≤ x1 ∧ x1 ≤ 2147483647) : XMv l yX12_must ws_mc_X12_must ({ frames := 2, cells := 0, slots := 0, locals := 47 } : Room) (dC, dI) (tyA cB cI cJ cZ cQ) (WM cI cJ cZ q) A [.ref (q 0), .int (iI x1)] (fun u => IM u ∧ fr [] [3, 4, 5, 6, 7, 8, 9] A u ∧ (True)) := by
  refine x_metv (cc := cX12_must) (maxL := 2) WM_adr (by decide +kernel) rfl (Nat.le_of_ble_eq_true rfl) (fun p e s m below meth c Q AS ls hx hb hml hown hts hK hDD hA0 hP hS hl RET => ?_)
  have hown : s.vm.findClass RX12 = some m.cls := hown
  have hl : lv_has ls 2 [(0, .ref (q 0)), (1, .int (iI x1))] := hl
  have hiX12 : ∀ w ∈ u_ws RX12 TX12 85, w ∈ ws_mc_X12_must := fun w h => List.mem_cons_of_mem _ (wx_lay w h)
  obtain ⟨H, hHe⟩ : ∃ H : Heap, H = s.heap := ⟨_, rfl⟩
  rw [← hHe] at hP
  have hS : va_S AS s.heap H [] := by rw [hHe]; exact hS
  suffices hgo : ∀ locs : List Loc, va_S AS s.heap H locs → W p l e (headSpec ws_mc_X12_must ({ frames := 2, cells := 0, slots := 0, locals := 47 } : Room)).room s m [.ref (q 0), .int (iI x1)].toArray below meth c H locs 0 0 Q (F0 m 0 ls []) by
    have := hgo [] hS
    rw [hHe] at this
    exact this
  clear hS hHe
  intro locs hS
  refine lv_aload_n hx hb dX12_must_0 rfl (lv_at hl 0 rfl) ?_
  refine lv_iload_n hx hb dX12_must_1 rfl (lv_at hl 1 rfl) ?_
  refine x_calli (As := [.int (iI x1)]) (rest := []) ⟨hx, hb, hml, hown, hts⟩ (mc_X12_isSign l dC dI cB cI cJ cZ cQ q _ x1 hI hx1) (cwV 1 hts (goodV (wl_in_0 _ (List.mem_of_getElem? (i := 37) rfl)) (wl_in_0 _ (List.mem_of_getElem? (i := 38) rfl)) (wl_in_0 _ (List.mem_of_getElem? (i := 39) rfl)) (wl_in_0 _ (List.mem_of_getElem? (i := 8) rfl)) (wl_in_0 _ (List.mem_of_getElem? (i := 34) rfl))) rfl rfl rfl (by decide +kernel) ⟨Nat.le_of_ble_eq_true rfl, Nat.le_of_ble_eq_true rfl⟩) hK hDD hA0 hP hS 0 12 wm0 rfl rfl hl.1 (Nat.le_of_ble_eq_true rfl) dX12_must_2 (fun z1 A2 H locs hw3 hP hS => ?_)
  obtain ⟨rfl, hw3⟩ := hw3
  have J17_5 : ∀ (A10 : St) (H : Heap) (locs : List Loc) (ls : Array Slot), IM A10 → fr [] [8, 9] A A10 → va_P (dC, dI) vwCl (WM cI cJ cZ q A10) H → va_S AS s.heap H locs → lv_has ls 2 [(0, .ref (q 0)), (1, .int (iI x1))] → W p l e (headSpec ws_mc_X12_must ({ frames := 2, cells := 0, slots := 0, locals := 47 } : Room)).room s m [.ref (q 0), .int (iI x1)].toArray below meth c H locs 0 0 Q (F0 m 17 ls []) := by
    intro A10 H locs ls hI hj9 hP hS hl
    refine lv_aload_n hx hb dX12_must_17 rfl (lv_at hl 0 rfl) ?_
    refine va_get (D := (dC, dI)) (ci := 12) (v := .int (iI (A10 0 8))) (C := RX12) (T := TX12) (N := 85) hx hb hts hiX12 hown hK hP 0 wm0 rfl 8 (by decide) (hts _ (List.mem_cons_of_mem _ (wl_in_0 _ (List.mem_of_getElem? (i := 16) rfl)))) (fun _ h9 => h9) rfl dX12_must_18 ?_
    have r_A10_0_8 : (0 : Int) ≤ (A10 0 8) ∧ (A10 0 8) ≤ 5 := hI 0 8
    refine lv_if_ne (tgt := 28) hx hb dX12_must_21 (by decide) (fun c11 => ?_) (fun c11 => ?_)
    · have c11 : ¬ (A10 0 8) = 0 := mt (i_eq0 (rb r_A10_0_8 (by decide) (by decide))).mpr c11
      exact RET _ _ _ _ _ ⟨hI, fr.trans (fr.rf) hj9 rfl rfl, trivial⟩ hP hS dX12_must_28
    · have c11 : (A10 0 8) = 0 := (i_eq0 (rb r_A10_0_8 (by decide) (by decide))).mp c11
      refine lv_aload_n hx hb dX12_must_24 rfl (lv_at hl 0 rfl) ?_
      refine x_callv (As := []) (rest := []) ⟨hx, hb, hml, hown, hts⟩ (mc_X12_ahead l dC dI cB cI cJ cZ cQ q _ hI) (cwV 0 hts (goodV (wl_in_0 _ (List.mem_of_getElem? (i := 40) rfl)) (wl_in_0 _ (List.mem_of_getElem? (i := 41) rfl)) (wl_in_0 _ (List.mem_of_getElem? (i := 42) rfl)) (wl_in_0 _ (List.mem_of_getElem? (i := 8) rfl)) (wl_in_0 _ (List.mem_of_getElem? (i := 20) rfl))) rfl rfl rfl (by decide +kernel) ⟨Nat.le_of_ble_eq_true rfl, Nat.le_of_ble_eq_true rfl⟩) hK hDD hA0 hP hS 0 12 wm0 rfl rfl hl.1 (Nat.le_of_ble_eq_true rfl) dX12_must_25 (fun A12 H locs hw13 hP hS => ?_)
      obtain ⟨hI, hf14, hw13⟩ := hw13
      clear hw13
      exact RET _ _ _ _ _ ⟨hI, fr.trans (fr.trans (fr.rf) hj9 rfl rfl) hf14 rfl rfl, trivial⟩ hP hS dX12_must_28
  refine lv_if_ne (tgt := 17) hx hb dX12_must_5 (by decide) (fun c4 => ?_) (fun c4 => ?_)
  · have c4 : ¬ z1 = 0 := mt (i_eq0 (rb hw3 (by decide) (by decide))).mpr c4
    exact J17_5 _ _ _ _ hI (fr.rf) hP hS (lv_sub hl [0, 1] rfl)
  · have c4 : z1 = 0 := (i_eq0 (rb hw3 (by decide) (by decide))).mp c4
    refine lv_aload_n hx hb dX12_must_8 rfl (lv_at hl 0 rfl) ?_
    refine lv_iconst (v := iI 1) hx hb dX12_must_9 (by decide +kernel) ?_
    refine lv_aload_n hx hb dX12_must_10 rfl (lv_at hl 0 rfl) ?_
    refine va_get (D := (dC, dI)) (ci := 12) (v := .int (iI (A 0 4))) (C := RX12) (T := TX12) (N := 85) hx hb hts hiX12 hown hK hP 0 wm0 rfl 4 (by decide) (hts _ (List.mem_cons_of_mem _ (wl_in_0 _ (List.mem_of_getElem? (i := 23) rfl)))) (fun _ h9 => h9) rfl dX12_must_11 ?_
    have r_A_0_4 : (0 : Int) ≤ (A 0 4) ∧ (A 0 4) ≤ 1600 := hI 0 4
    refine x_callv (As := [.int (iI 1), .int (iI (A 0 4))]) (rest := []) ⟨hx, hb, hml, hown, hts⟩ (mc_X12_blame l dC dI cB cI cJ cZ cQ q _ 1 (A 0 4) hI ⟨by decide, by decide⟩ r_A_0_4) (cwV 2 hts (goodV (wl_in_0 _ (List.mem_of_getElem? (i := 31) rfl)) (wl_in_0 _ (List.mem_of_getElem? (i := 32) rfl)) (wl_in_0 _ (List.mem_of_getElem? (i := 33) rfl)) (wl_in_0 _ (List.mem_of_getElem? (i := 8) rfl)) (wl_in_0 _ (List.mem_of_getElem? (i := 15) rfl))) rfl rfl rfl (by decide +kernel) ⟨Nat.le_of_ble_eq_true rfl, Nat.le_of_ble_eq_true rfl⟩) hK hDD hA0 hP hS 0 12 wm0 rfl rfl hl.1 (Nat.le_of_ble_eq_true rfl) dX12_must_14 (fun A6 H locs hw7 hP hS => ?_)
    obtain ⟨_, hI, hf8, hw7⟩ := hw7
    have r_A6_0_8 : (0 : Int) ≤ (A6 0 8) ∧ (A6 0 8) ≤ 5 := hI 0 8
    exact J17_5 _ _ _ _ hI (fr.trans (fr.rf) hf8 rfl rfl) hP hS (lv_sub hl [0, 1] rfl)

def ws_mc_X12_must_ : List Cond := .code yX12_must_ cX12_must_ 3 none :: WX
set_option maxHeartbeats 4000000 in
set_option maxRecDepth 100000 in
theorem mc_X12_must_ (l : Launch) (dC : Nat → ClassId) (dI : Nat → Nat → Nat) (cB cI cJ cZ cQ : ClassId) (q : Nat → Nat) (A : St) (x1 : Int) (hI : IM A) (hx1 : (-9223372036854775808 : Int) ≤ x1 ∧ x1 ≤ 9223372036854775807) : XMv l yX12_must_ ws_mc_X12_must_ ({ frames := 2, cells := 0, slots := 0, locals := 47 } : Room) (dC, dI) (tyA cB cI cJ cZ cQ) (WM cI cJ cZ q) A [.ref (q 0), .long (jI x1)] (fun u => IM u ∧ fr [] [3, 4, 5, 6, 7, 8, 9] A u ∧ (True)) := by
  refine x_metv (cc := cX12_must_) (maxL := 3) WM_adr (by decide +kernel) rfl (Nat.le_of_ble_eq_true rfl) (fun p e s m below meth c Q AS ls hx hb hml hown hts hK hDD hA0 hP hS hl RET => ?_)
  have hown : s.vm.findClass RX12 = some m.cls := hown
  have hl : lv_has ls 3 [(0, .ref (q 0)), (1, .long (jI x1))] := hl
  have hiX12 : ∀ w ∈ u_ws RX12 TX12 85, w ∈ ws_mc_X12_must_ := fun w h => List.mem_cons_of_mem _ (wx_lay w h)
  obtain ⟨H, hHe⟩ : ∃ H : Heap, H = s.heap := ⟨_, rfl⟩
  rw [← hHe] at hP
  have hS : va_S AS s.heap H [] := by rw [hHe]; exact hS
  suffices hgo : ∀ locs : List Loc, va_S AS s.heap H locs → W p l e (headSpec ws_mc_X12_must_ ({ frames := 2, cells := 0, slots := 0, locals := 47 } : Room)).room s m [.ref (q 0), .long (jI x1)].toArray below meth c H locs 0 0 Q (F0 m 0 ls []) by
    have := hgo [] hS
    rw [hHe] at this
    exact this
  clear hS hHe
  intro locs hS
  refine lv_aload_n hx hb dX12_must__0 rfl (lv_at hl 0 rfl) ?_
  refine va_get (D := (dC, dI)) (ci := 12) (v := .int (iI (A 0 8))) (C := RX12) (T := TX12) (N := 85) hx hb hts hiX12 hown hK hP 0 wm0 rfl 8 (by decide) (hts _ (List.mem_cons_of_mem _ (wl_in_0 _ (List.mem_of_getElem? (i := 16) rfl)))) (fun _ h9 => h9) rfl dX12_must__1 ?_
  have r_A_0_8 : (0 : Int) ≤ (A 0 8) ∧ (A 0 8) ≤ 5 := hI 0 8
  refine lv_if_le (tgt := 8) hx hb dX12_must__4 (by decide) (fun c1 => ?_) (fun c1 => ?_)
  · have c1 : (A 0 8) ≤ 0 := (i_le0 (rb r_A_0_8 (by decide) (by decide))).mp c1
    refine lv_aload_n hx hb dX12_must__8 rfl (lv_at hl 0 rfl) ?_
    refine lv_lload_n hx hb dX12_must__9 rfl (lv_at hl 1 rfl) ?_
    refine x_calli (As := [.long (jI x1)]) (rest := []) ⟨hx, hb, hml, hown, hts⟩ (mc_X12_isWord l dC dI cB cI cJ cZ cQ q _ x1 hI hx1) (cwV 1 hts (goodV (wl_in_1 _ (List.mem_of_getElem? (i := 59) rfl)) (wl_in_2 _ (List.mem_of_getElem? (i := 0) rfl)) (wl_in_2 _ (List.mem_of_getElem? (i := 1) rfl)) (wl_in_0 _ (List.mem_of_getElem? (i := 8) rfl)) (wl_in_0 _ (List.mem_of_getElem? (i := 35) rfl))) rfl rfl rfl (by decide +kernel) ⟨Nat.le_of_ble_eq_true rfl, Nat.le_of_ble_eq_true rfl⟩) hK hDD hA0 hP hS 0 12 wm0 rfl rfl hl.1 (Nat.le_of_ble_eq_true rfl) dX12_must__10 (fun z2 A3 H locs hw4 hP hS => ?_)
    obtain ⟨rfl, hw4⟩ := hw4
    have J25_6 : ∀ (A11 : St) (H : Heap) (locs : List Loc) (ls : Array Slot), IM A11 → fr [] [8, 9] A A11 → va_P (dC, dI) vwCl (WM cI cJ cZ q A11) H → va_S AS s.heap H locs → lv_has ls 3 [(0, .ref (q 0)), (1, .long (jI x1))] → W p l e (headSpec ws_mc_X12_must_ ({ frames := 2, cells := 0, slots := 0, locals := 47 } : Room)).room s m [.ref (q 0), .long (jI x1)].toArray below meth c H locs 0 0 Q (F0 m 25 ls []) := by
      intro A11 H locs ls hI hj10 hP hS hl
      refine lv_aload_n hx hb dX12_must__25 rfl (lv_at hl 0 rfl) ?_
      refine va_get (D := (dC, dI)) (ci := 12) (v := .int (iI (A11 0 8))) (C := RX12) (T := TX12) (N := 85) hx hb hts hiX12 hown hK hP 0 wm0 rfl 8 (by decide) (hts _ (List.mem_cons_of_mem _ (wl_in_0 _ (List.mem_of_getElem? (i := 16) rfl)))) (fun _ h9 => h9) rfl dX12_must__26 ?_
      have r_A11_0_8 : (0 : Int) ≤ (A11 0 8) ∧ (A11 0 8) ≤ 5 := hI 0 8
      refine lv_if_ne (tgt := 36) hx hb dX12_must__29 (by decide) (fun c12 => ?_) (fun c12 => ?_)
      · have c12 : ¬ (A11 0 8) = 0 := mt (i_eq0 (rb r_A11_0_8 (by decide) (by decide))).mpr c12
        exact RET _ _ _ _ _ ⟨hI, fr.trans (fr.rf) hj10 rfl rfl, trivial⟩ hP hS dX12_must__36
      · have c12 : (A11 0 8) = 0 := (i_eq0 (rb r_A11_0_8 (by decide) (by decide))).mp c12
        refine lv_aload_n hx hb dX12_must__32 rfl (lv_at hl 0 rfl) ?_
        refine x_callv (As := []) (rest := []) ⟨hx, hb, hml, hown, hts⟩ (mc_X12_ahead l dC dI cB cI cJ cZ cQ q _ hI) (cwV 0 hts (goodV (wl_in_0 _ (List.mem_of_getElem? (i := 40) rfl)) (wl_in_0 _ (List.mem_of_getElem? (i := 41) rfl)) (wl_in_0 _ (List.mem_of_getElem? (i := 42) rfl)) (wl_in_0 _ (List.mem_of_getElem? (i := 8) rfl)) (wl_in_0 _ (List.mem_of_getElem? (i := 20) rfl))) rfl rfl rfl (by decide +kernel) ⟨Nat.le_of_ble_eq_true rfl, Nat.le_of_ble_eq_true rfl⟩) hK hDD hA0 hP hS 0 12 wm0 rfl rfl hl.1 (Nat.le_of_ble_eq_true rfl) dX12_must__33 (fun A13 H locs hw14 hP hS => ?_)
        obtain ⟨hI, hf15, hw14⟩ := hw14
        clear hw14
        exact RET _ _ _ _ _ ⟨hI, fr.trans (fr.trans (fr.rf) hj10 rfl rfl) hf15 rfl rfl, trivial⟩ hP hS dX12_must__36
    refine lv_if_ne (tgt := 25) hx hb dX12_must__13 (by decide) (fun c5 => ?_) (fun c5 => ?_)
    · have c5 : ¬ z2 = 0 := mt (i_eq0 (rb hw4 (by decide) (by decide))).mpr c5
      exact J25_6 _ _ _ _ hI (fr.rf) hP hS (lv_sub hl [0, 1] rfl)
    · have c5 : z2 = 0 := (i_eq0 (rb hw4 (by decide) (by decide))).mp c5
      refine lv_aload_n hx hb dX12_must__16 rfl (lv_at hl 0 rfl) ?_
      refine lv_iconst (v := iI 1) hx hb dX12_must__17 (by decide +kernel) ?_
      refine lv_aload_n hx hb dX12_must__18 rfl (lv_at hl 0 rfl) ?_
      refine va_get (D := (dC, dI)) (ci := 12) (v := .int (iI (A 0 4))) (C := RX12) (T := TX12) (N := 85) hx hb hts hiX12 hown hK hP 0 wm0 rfl 4 (by decide) (hts _ (List.mem_cons_of_mem _ (wl_in_0 _ (List.mem_of_getElem? (i := 23) rfl)))) (fun _ h9 => h9) rfl dX12_must__19 ?_
      have r_A_0_4 : (0 : Int) ≤ (A 0 4) ∧ (A 0 4) ≤ 1600 := hI 0 4
      refine x_callv (As := [.int (iI 1), .int (iI (A 0 4))]) (rest := []) ⟨hx, hb, hml, hown, hts⟩ (mc_X12_blame l dC dI cB cI cJ cZ cQ q _ 1 (A 0 4) hI ⟨by decide, by decide⟩ r_A_0_4) (cwV 2 hts (goodV (wl_in_0 _ (List.mem_of_getElem? (i := 31) rfl)) (wl_in_0 _ (List.mem_of_getElem? (i := 32) rfl)) (wl_in_0 _ (List.mem_of_getElem? (i := 33) rfl)) (wl_in_0 _ (List.mem_of_getElem? (i := 8) rfl)) (wl_in_0 _ (List.mem_of_getElem? (i := 15) rfl))) rfl rfl rfl (by decide +kernel) ⟨Nat.le_of_ble_eq_true rfl, Nat.le_of_ble_eq_true rfl⟩) hK hDD hA0 hP hS 0 12 wm0 rfl rfl hl.1 (Nat.le_of_ble_eq_true rfl) dX12_must__22 (fun A7 H locs hw8 hP hS => ?_)
      obtain ⟨_, hI, hf9, hw8⟩ := hw8
      have r_A7_0_8 : (0 : Int) ≤ (A7 0 8) ∧ (A7 0 8) ≤ 5 := hI 0 8
      exact J25_6 _ _ _ _ hI (fr.trans (fr.rf) hf9 rfl rfl) hP hS (lv_sub hl [0, 1] rfl)
  · have c1 : ¬ (A 0 8) ≤ 0 := mt (i_le0 (rb r_A_0_8 (by decide) (by decide))).mpr c1
    exact RET _ _ _ _ _ ⟨hI, fr.rf, trivial⟩ hP hS dX12_must__7

abbrev tr_r_X12_nameOf (x1 : Int) (x2 : Int) (x3 : Int) (A : St) (z : Int) : Prop := (((x2 < 0 ∨ 3 < x2) ∧ (∃ z2 : Int, z2 = A 20 (4 * x1 + x3).toNat ∧ (z = z2))) ∨ (x2 = 0 ∧ (∃ z3 : Int, z3 = A 3 (8 * x1 + x3).toNat ∧ (z = z3))) ∨ (x2 = 1 ∧ (∃ z4 : Int, z4 = A 5 (10 * x1 + x3).toNat ∧ (z = z4))) ∨ (x2 = 2 ∧ (∃ z5 : Int, z5 = A 12 (4 * x1 + x3).toNat ∧ (z = z5))) ∨ (x2 = 3 ∧ (∃ z6 : Int, z6 = A 17 (3 * x1 + x3).toNat ∧ (z = z6))))
def r_X12_nameOf (x1 : Int) (x2 : Int) (x3 : Int) (A : St) (z : Int) : Prop := tr_r_X12_nameOf x1 x2 x3 A z
theorem u_r_X12_nameOf {x1 : Int} {x2 : Int} {x3 : Int} {A : St} {z : Int} (h : tr_r_X12_nameOf x1 x2 x3 A z) : r_X12_nameOf x1 x2 x3 A z := h
def q_X12_nameOf (x1 : Int) (x2 : Int) (x3 : Int) (A : St) (z : Int) : Prop := r_X12_nameOf x1 x2 x3 A z ∧ (-9223372036854775808 ≤ z ∧ z ≤ 9223372036854775807)
def ws_mc_X12_nameOf : List Cond := .code yX12_nameOf cX12_nameOf 4 (some .long) :: WX
set_option maxHeartbeats 4000000 in
set_option maxRecDepth 100000 in
theorem mc_X12_nameOf (l : Launch) (dC : Nat → ClassId) (dI : Nat → Nat → Nat) (cB cI cJ cZ cQ : ClassId) (q : Nat → Nat) (A : St) (x1 x2 x3 : Int) (hI : IM A) (hx1 : (0 : Int) ≤ x1 ∧ x1 ≤ 1) (hx2 : (0 : Int) ≤ x2 ∧ x2 ≤ 4) (hx3 : (0 : Int) ≤ x3 ∧ x3 ≤ 9) (hp0 : (x2 = 0 → x3 < 8) ∧ (x2 = 1 → x3 < 10) ∧ (x2 = 2 → x3 < 4) ∧ (x2 = 3 → x3 < 3) ∧ (x2 = 4 → x3 < 4)) : XMl l yX12_nameOf ws_mc_X12_nameOf ({ frames := 0, cells := 0, slots := 0, locals := 0 } : Room) (dC, dI) (tyA cB cI cJ cZ cQ) (WM cI cJ cZ q) A [.ref (q 0), .int (iI x1), .int (iI x2), .int (iI x3)] (fun z u => A = u ∧ r_X12_nameOf x1 x2 x3 A z ∧ (-9223372036854775808 ≤ z ∧ z ≤ 9223372036854775807)) := by
  refine x_metl (cc := cX12_nameOf) (maxL := 4) WM_adr (by decide +kernel) rfl (Nat.le_of_ble_eq_true rfl) (fun p e s m below meth c Q AS ls hx hb hml hown hts hK hDD hA0 hP hS hl RET => ?_)
  have hown : s.vm.findClass RX12 = some m.cls := hown
  have hl : lv_has ls 4 [(0, .ref (q 0)), (1, .int (iI x1)), (2, .int (iI x2)), (3, .int (iI x3))] := hl
  have hiX12 : ∀ w ∈ u_ws RX12 TX12 85, w ∈ ws_mc_X12_nameOf := fun w h => List.mem_cons_of_mem _ (wx_lay w h)
  obtain ⟨H, hHe⟩ : ∃ H : Heap, H = s.heap := ⟨_, rfl⟩
  rw [← hHe] at hP
  have hS : va_S AS s.heap H [] := by rw [hHe]; exact hS
  suffices hgo : ∀ locs : List Loc, va_S AS s.heap H locs → W p l e (headSpec ws_mc_X12_nameOf ({ frames := 0, cells := 0, slots := 0, locals := 0 } : Room)).room s m [.ref (q 0), .int (iI x1), .int (iI x2), .int (iI x3)].toArray below meth c H locs 0 0 Q (F0 m 0 ls []) by
    have := hgo [] hS
    rw [hHe] at this
    exact this
  clear hS hHe
  intro locs hS
  refine lv_iload_n hx hb dX12_nameOf_0 rfl (lv_at hl 2 rfl) ?_
  rcases (show (x2 < 0 ∨ 3 < x2) ∨ x2 = 0 ∨ x2 = 1 ∨ x2 = 2 ∨ x2 = 3 by omega) with c1 | c1 | c1 | c1 | c1
  · refine lv_tableOut (tgt := 78) hx hb dX12_nameOf_1 (by rw [iI_toInt (rb hx2 (by decide) (by decide))]; exact c1) (by decide) ?_
    refine lv_aload_n hx hb dX12_nameOf_78 rfl (lv_at hl 0 rfl) ?_
    refine va_get (D := (dC, dI)) (ci := 12) (v := .ref (q 20)) (C := RX12) (T := TX12) (N := 85) hx hb hts hiX12 hown hK hP 0 wm0 rfl 31 (by decide) (hts _ (List.mem_cons_of_mem _ (wl_in_1 _ (List.mem_of_getElem? (i := 25) rfl)))) (fun _ h9 => h9) rfl dX12_nameOf_79 ?_
    refine lv_iconst (v := iI 4) hx hb dX12_nameOf_82 (by decide +kernel) ?_
    refine lv_iload_n hx hb dX12_nameOf_83 rfl (lv_at hl 1 rfl) ?_
    refine x_mulv (v := 4 * x1) hx hb dX12_nameOf_84 (by omega) ?_
    refine lv_iload_n hx hb dX12_nameOf_85 rfl (lv_at hl 3 rfl) ?_
    refine x_addv (v := 4 * x1 + x3) hx hb dX12_nameOf_86 (by omega) ?_
    refine x_lald hx hb hK hP 20 2 wm20 rfl (by omega) (by decide) dX12_nameOf_87 (fun z2 hz2 => ?_)
    have rz2 : (-9223372036854775808 : Int) ≤ z2 ∧ z2 ≤ 9223372036854775807 := by rw [hz2]; exact hI 20 _
    have gz2 := Hd.mk hz2
    have hz2 : z2 = A 20 (4 * x1 + x3).toNat := hz2
    exact RET z2 _ _ _ _ _ ⟨rfl, (u_r_X12_nameOf (Or.inl ⟨c1, ⟨z2, gz2.out, rfl⟩⟩)), by omega⟩ hP hS dX12_nameOf_88
  · refine tp_i (y := iI 0) (congrArg iI c1) ?_
    refine lv_tableIn (off := 31) (tgt := 32) hx hb dX12_nameOf_1 (by decide +kernel) (by decide +kernel) (by decide +kernel) (by decide) ?_
    refine lv_aload_n hx hb dX12_nameOf_32 rfl (lv_at hl 0 rfl) ?_
    refine va_get (D := (dC, dI)) (ci := 12) (v := .ref (q 3)) (C := RX12) (T := TX12) (N := 85) hx hb hts hiX12 hown hK hP 0 wm0 rfl 14 (by decide) (hts _ (List.mem_cons_of_mem _ (wl_in_1 _ (List.mem_of_getElem? (i := 21) rfl)))) (fun _ h9 => h9) rfl dX12_nameOf_33 ?_
    refine lv_bipush (v := iI 8) hx hb dX12_nameOf_36 (by decide +kernel) ?_
    refine lv_iload_n hx hb dX12_nameOf_38 rfl (lv_at hl 1 rfl) ?_
    refine x_mulv (v := 8 * x1) hx hb dX12_nameOf_39 (by omega) ?_
    refine lv_iload_n hx hb dX12_nameOf_40 rfl (lv_at hl 3 rfl) ?_
    refine x_addv (v := 8 * x1 + x3) hx hb dX12_nameOf_41 (by omega) ?_
    refine x_lald hx hb hK hP 3 2 wm3 rfl (by omega) (by decide) dX12_nameOf_42 (fun z3 hz3 => ?_)
    have rz3 : (-9223372036854775808 : Int) ≤ z3 ∧ z3 ≤ 9223372036854775807 := by rw [hz3]; exact hI 3 _
    have gz3 := Hd.mk hz3
    have hz3 : z3 = A 3 (8 * x1 + x3).toNat := hz3
    exact RET z3 _ _ _ _ _ ⟨rfl, (u_r_X12_nameOf (Or.inr (Or.inl ⟨c1, ⟨z3, gz3.out, rfl⟩⟩))), by omega⟩ hP hS dX12_nameOf_43
  · refine tp_i (y := iI 1) (congrArg iI c1) ?_
    refine lv_tableIn (off := 43) (tgt := 44) hx hb dX12_nameOf_1 (by decide +kernel) (by decide +kernel) (by decide +kernel) (by decide) ?_
    refine lv_aload_n hx hb dX12_nameOf_44 rfl (lv_at hl 0 rfl) ?_
    refine va_get (D := (dC, dI)) (ci := 12) (v := .ref (q 5)) (C := RX12) (T := TX12) (N := 85) hx hb hts hiX12 hown hK hP 0 wm0 rfl 16 (by decide) (hts _ (List.mem_cons_of_mem _ (wl_in_1 _ (List.mem_of_getElem? (i := 22) rfl)))) (fun _ h9 => h9) rfl dX12_nameOf_45 ?_
    refine lv_bipush (v := iI 10) hx hb dX12_nameOf_48 (by decide +kernel) ?_
    refine lv_iload_n hx hb dX12_nameOf_50 rfl (lv_at hl 1 rfl) ?_
    refine x_mulv (v := 10 * x1) hx hb dX12_nameOf_51 (by omega) ?_
    refine lv_iload_n hx hb dX12_nameOf_52 rfl (lv_at hl 3 rfl) ?_
    refine x_addv (v := 10 * x1 + x3) hx hb dX12_nameOf_53 (by omega) ?_
    refine x_lald hx hb hK hP 5 2 wm5 rfl (by omega) (by decide) dX12_nameOf_54 (fun z4 hz4 => ?_)
    have rz4 : (-9223372036854775808 : Int) ≤ z4 ∧ z4 ≤ 9223372036854775807 := by rw [hz4]; exact hI 5 _
    have gz4 := Hd.mk hz4
    have hz4 : z4 = A 5 (10 * x1 + x3).toNat := hz4
    exact RET z4 _ _ _ _ _ ⟨rfl, (u_r_X12_nameOf (Or.inr (Or.inr (Or.inl ⟨c1, ⟨z4, gz4.out, rfl⟩⟩)))), by omega⟩ hP hS dX12_nameOf_55
  · refine tp_i (y := iI 2) (congrArg iI c1) ?_
    refine lv_tableIn (off := 55) (tgt := 56) hx hb dX12_nameOf_1 (by decide +kernel) (by decide +kernel) (by decide +kernel) (by decide) ?_
    refine lv_aload_n hx hb dX12_nameOf_56 rfl (lv_at hl 0 rfl) ?_
    refine va_get (D := (dC, dI)) (ci := 12) (v := .ref (q 12)) (C := RX12) (T := TX12) (N := 85) hx hb hts hiX12 hown hK hP 0 wm0 rfl 23 (by decide) (hts _ (List.mem_cons_of_mem _ (wl_in_1 _ (List.mem_of_getElem? (i := 23) rfl)))) (fun _ h9 => h9) rfl dX12_nameOf_57 ?_
    refine lv_iconst (v := iI 4) hx hb dX12_nameOf_60 (by decide +kernel) ?_
    refine lv_iload_n hx hb dX12_nameOf_61 rfl (lv_at hl 1 rfl) ?_
    refine x_mulv (v := 4 * x1) hx hb dX12_nameOf_62 (by omega) ?_
    refine lv_iload_n hx hb dX12_nameOf_63 rfl (lv_at hl 3 rfl) ?_
    refine x_addv (v := 4 * x1 + x3) hx hb dX12_nameOf_64 (by omega) ?_
    refine x_lald hx hb hK hP 12 2 wm12 rfl (by omega) (by decide) dX12_nameOf_65 (fun z5 hz5 => ?_)
    have rz5 : (-9223372036854775808 : Int) ≤ z5 ∧ z5 ≤ 9223372036854775807 := by rw [hz5]; exact hI 12 _
    have gz5 := Hd.mk hz5
    have hz5 : z5 = A 12 (4 * x1 + x3).toNat := hz5
    exact RET z5 _ _ _ _ _ ⟨rfl, (u_r_X12_nameOf (Or.inr (Or.inr (Or.inr (Or.inl ⟨c1, ⟨z5, gz5.out, rfl⟩⟩))))), by omega⟩ hP hS dX12_nameOf_66
  · refine tp_i (y := iI 3) (congrArg iI c1) ?_
    refine lv_tableIn (off := 66) (tgt := 67) hx hb dX12_nameOf_1 (by decide +kernel) (by decide +kernel) (by decide +kernel) (by decide) ?_
    refine lv_aload_n hx hb dX12_nameOf_67 rfl (lv_at hl 0 rfl) ?_
    refine va_get (D := (dC, dI)) (ci := 12) (v := .ref (q 17)) (C := RX12) (T := TX12) (N := 85) hx hb hts hiX12 hown hK hP 0 wm0 rfl 28 (by decide) (hts _ (List.mem_cons_of_mem _ (wl_in_1 _ (List.mem_of_getElem? (i := 24) rfl)))) (fun _ h9 => h9) rfl dX12_nameOf_68 ?_
    refine lv_iconst (v := iI 3) hx hb dX12_nameOf_71 (by decide +kernel) ?_
    refine lv_iload_n hx hb dX12_nameOf_72 rfl (lv_at hl 1 rfl) ?_
    refine x_mulv (v := 3 * x1) hx hb dX12_nameOf_73 (by omega) ?_
    refine lv_iload_n hx hb dX12_nameOf_74 rfl (lv_at hl 3 rfl) ?_
    refine x_addv (v := 3 * x1 + x3) hx hb dX12_nameOf_75 (by omega) ?_
    refine x_lald hx hb hK hP 17 2 wm17 rfl (by omega) (by decide) dX12_nameOf_76 (fun z6 hz6 => ?_)
    have rz6 : (-9223372036854775808 : Int) ≤ z6 ∧ z6 ≤ 9223372036854775807 := by rw [hz6]; exact hI 17 _
    have gz6 := Hd.mk hz6
    have hz6 : z6 = A 17 (3 * x1 + x3).toNat := hz6
    exact RET z6 _ _ _ _ _ ⟨rfl, (u_r_X12_nameOf (Or.inr (Or.inr (Or.inr (Or.inr ⟨c1, ⟨z6, gz6.out, rfl⟩⟩))))), by omega⟩ hP hS dX12_nameOf_77

abbrev tr_d_X12_named_1 (x2 : Int) (z2 : Int) (A : St) (z : Int) (K1 : Int → Prop) (z3 : Int) : Prop := ((0 ≤ z3 ∧ z3 ≤ 2147483647) ∧ (((z2 ≤ z3) ∧ (z = (-1))) ∨ ((¬ z2 ≤ z3) ∧ (∃ z11 : Int, q_X12_nameOf (A 0 47) 0 z3 A z11 ∧ (∃ z14 : Int, ((-1 ≤ z14 ∧ z14 ≤ 1) ∧ (z14 = 0 ↔ z11 = x2) ∧ (z14 < 0 ↔ z11 < x2)) ∧ (((¬ z14 = 0) ∧ (K1 (z3 + 1))) ∨ ((z14 = 0) ∧ (z = z3))))))))
def d_X12_named_1 (x2 : Int) (z2 : Int) (A : St) (z : Int) : Nat → Int → Prop
  | 0, _ => False
  | nn9 + 1, z3 => tr_d_X12_named_1 x2 z2 A z (fun z3 => d_X12_named_1 x2 z2 A z nn9 z3) z3
theorem u_d_X12_named_1 {x2 : Int} {z2 : Int} {A : St} {z : Int} {nn9 : Nat} {z3 : Int} (h : tr_d_X12_named_1 x2 z2 A z (fun z3 => d_X12_named_1 x2 z2 A z nn9 z3) z3) : d_X12_named_1 x2 z2 A z (nn9 + 1) z3 := h
abbrev tr_d_X12_named_2 (x2 : Int) (z18 : Int) (A : St) (z : Int) (K2 : Int → Prop) (z19 : Int) : Prop := ((0 ≤ z19 ∧ z19 ≤ 2147483647) ∧ (((z18 ≤ z19) ∧ (z = (-1))) ∨ ((¬ z18 ≤ z19) ∧ (∃ z27 : Int, q_X12_nameOf (A 0 47) 1 z19 A z27 ∧ (∃ z30 : Int, ((-1 ≤ z30 ∧ z30 ≤ 1) ∧ (z30 = 0 ↔ z27 = x2) ∧ (z30 < 0 ↔ z27 < x2)) ∧ (((¬ z30 = 0) ∧ (K2 (z19 + 1))) ∨ ((z30 = 0) ∧ (z = z19))))))))
def d_X12_named_2 (x2 : Int) (z18 : Int) (A : St) (z : Int) : Nat → Int → Prop
  | 0, _ => False
  | nn9 + 1, z19 => tr_d_X12_named_2 x2 z18 A z (fun z19 => d_X12_named_2 x2 z18 A z nn9 z19) z19
theorem u_d_X12_named_2 {x2 : Int} {z18 : Int} {A : St} {z : Int} {nn9 : Nat} {z19 : Int} (h : tr_d_X12_named_2 x2 z18 A z (fun z19 => d_X12_named_2 x2 z18 A z nn9 z19) z19) : d_X12_named_2 x2 z18 A z (nn9 + 1) z19 := h
abbrev tr_d_X12_named_3 (x2 : Int) (z35 : Int) (A : St) (z : Int) (K3 : Int → Prop) (z36 : Int) : Prop := ((0 ≤ z36 ∧ z36 ≤ 2147483647) ∧ (((z35 ≤ z36) ∧ (z = (-1))) ∨ ((¬ z35 ≤ z36) ∧ (∃ z44 : Int, q_X12_nameOf (A 0 47) 2 z36 A z44 ∧ (∃ z47 : Int, ((-1 ≤ z47 ∧ z47 ≤ 1) ∧ (z47 = 0 ↔ z44 = x2) ∧ (z47 < 0 ↔ z44 < x2)) ∧ (((¬ z47 = 0) ∧ (K3 (z36 + 1))) ∨ ((z47 = 0) ∧ (z = z36))))))))
def d_X12_named_3 (x2 : Int) (z35 : Int) (A : St) (z : Int) : Nat → Int → Prop
  | 0, _ => False
  | nn9 + 1, z36 => tr_d_X12_named_3 x2 z35 A z (fun z36 => d_X12_named_3 x2 z35 A z nn9 z36) z36
theorem u_d_X12_named_3 {x2 : Int} {z35 : Int} {A : St} {z : Int} {nn9 : Nat} {z36 : Int} (h : tr_d_X12_named_3 x2 z35 A z (fun z36 => d_X12_named_3 x2 z35 A z nn9 z36) z36) : d_X12_named_3 x2 z35 A z (nn9 + 1) z36 := h
abbrev tr_d_X12_named_4 (x2 : Int) (z53 : Int) (A : St) (z : Int) (K4 : Int → Prop) (z54 : Int) : Prop := ((0 ≤ z54 ∧ z54 ≤ 2147483647) ∧ (((z53 ≤ z54) ∧ (z = (-1))) ∨ ((¬ z53 ≤ z54) ∧ (∃ z62 : Int, q_X12_nameOf (A 0 47) 3 z54 A z62 ∧ (∃ z65 : Int, ((-1 ≤ z65 ∧ z65 ≤ 1) ∧ (z65 = 0 ↔ z62 = x2) ∧ (z65 < 0 ↔ z62 < x2)) ∧ (((¬ z65 = 0) ∧ (K4 (z54 + 1))) ∨ ((z65 = 0) ∧ (z = z54))))))))
def d_X12_named_4 (x2 : Int) (z53 : Int) (A : St) (z : Int) : Nat → Int → Prop
  | 0, _ => False
  | nn9 + 1, z54 => tr_d_X12_named_4 x2 z53 A z (fun z54 => d_X12_named_4 x2 z53 A z nn9 z54) z54
theorem u_d_X12_named_4 {x2 : Int} {z53 : Int} {A : St} {z : Int} {nn9 : Nat} {z54 : Int} (h : tr_d_X12_named_4 x2 z53 A z (fun z54 => d_X12_named_4 x2 z53 A z nn9 z54) z54) : d_X12_named_4 x2 z53 A z (nn9 + 1) z54 := h
abbrev tr_d_X12_named_5 (x2 : Int) (z71 : Int) (A : St) (z : Int) (K5 : Int → Prop) (z72 : Int) : Prop := ((0 ≤ z72 ∧ z72 ≤ 2147483647) ∧ (((z71 ≤ z72) ∧ (z = (-1))) ∨ ((¬ z71 ≤ z72) ∧ (∃ z80 : Int, q_X12_nameOf (A 0 47) 4 z72 A z80 ∧ (∃ z83 : Int, ((-1 ≤ z83 ∧ z83 ≤ 1) ∧ (z83 = 0 ↔ z80 = x2) ∧ (z83 < 0 ↔ z80 < x2)) ∧ (((¬ z83 = 0) ∧ (K5 (z72 + 1))) ∨ ((z83 = 0) ∧ (z = z72))))))))
def d_X12_named_5 (x2 : Int) (z71 : Int) (A : St) (z : Int) : Nat → Int → Prop
  | 0, _ => False
  | nn9 + 1, z72 => tr_d_X12_named_5 x2 z71 A z (fun z72 => d_X12_named_5 x2 z71 A z nn9 z72) z72
theorem u_d_X12_named_5 {x2 : Int} {z71 : Int} {A : St} {z : Int} {nn9 : Nat} {z72 : Int} (h : tr_d_X12_named_5 x2 z71 A z (fun z72 => d_X12_named_5 x2 z71 A z nn9 z72) z72) : d_X12_named_5 x2 z71 A z (nn9 + 1) z72 := h
abbrev tr_r_X12_named (x1 : Int) (x2 : Int) (A : St) (z : Int) : Prop := (((x1 = 0) ∧ (∃ z2 : Int, z2 = A 2 ((A 0 47)).toNat ∧ (∃ nn9 : Nat, d_X12_named_1 x2 z2 A z nn9 0))) ∨ ((x1 = 1) ∧ (∃ z18 : Int, z18 = A 4 ((A 0 47)).toNat ∧ (∃ nn9 : Nat, d_X12_named_2 x2 z18 A z nn9 0))) ∨ ((x1 = 2) ∧ (∃ z35 : Int, z35 = A 11 ((A 0 47)).toNat ∧ (∃ nn9 : Nat, d_X12_named_3 x2 z35 A z nn9 0))) ∨ ((x1 = 3) ∧ (∃ z53 : Int, z53 = A 16 ((A 0 47)).toNat ∧ (∃ nn9 : Nat, d_X12_named_4 x2 z53 A z nn9 0))) ∨ ((x1 = 4) ∧ (∃ z71 : Int, z71 = A 19 ((A 0 47)).toNat ∧ (∃ nn9 : Nat, d_X12_named_5 x2 z71 A z nn9 0))))
def r_X12_named (x1 : Int) (x2 : Int) (A : St) (z : Int) : Prop := tr_r_X12_named x1 x2 A z
theorem u_r_X12_named {x1 : Int} {x2 : Int} {A : St} {z : Int} (h : tr_r_X12_named x1 x2 A z) : r_X12_named x1 x2 A z := h
def q_X12_named (x1 : Int) (x2 : Int) (A : St) (z : Int) : Prop := r_X12_named x1 x2 A z ∧ (-1 ≤ z ∧ z ≤ 9 ∧ (x1 = 0 → z ≤ 7) ∧ (x1 = 2 → z ≤ 3) ∧ (x1 = 3 → z ≤ 2) ∧ (x1 = 4 → z ≤ 3))
def ws_mc_X12_named : List Cond := .code yX12_named cX12_named 6 (some .int) :: WX
set_option maxHeartbeats 4000000 in
set_option maxRecDepth 100000 in
theorem mc_X12_named (l : Launch) (dC : Nat → ClassId) (dI : Nat → Nat → Nat) (cB cI cJ cZ cQ : ClassId) (q : Nat → Nat) (A : St) (x1 x2 : Int) (hI : IM A) (hx1 : (0 : Int) ≤ x1 ∧ x1 ≤ 4) (hx2 : (-9223372036854775808 : Int) ≤ x2 ∧ x2 ≤ 9223372036854775807) : XMi l yX12_named ws_mc_X12_named ({ frames := 1, cells := 0, slots := 0, locals := 23 } : Room) (dC, dI) (tyA cB cI cJ cZ cQ) (WM cI cJ cZ q) A [.ref (q 0), .int (iI x1), .long (jI x2)] (fun z u => A = u ∧ r_X12_named x1 x2 A z ∧ (-1 ≤ z ∧ z ≤ 9 ∧ (x1 = 0 → z ≤ 7) ∧ (x1 = 2 → z ≤ 3) ∧ (x1 = 3 → z ≤ 2) ∧ (x1 = 4 → z ≤ 3))) := by
  refine x_meti (cc := cX12_named) (maxL := 6) WM_adr (by decide +kernel) rfl (Nat.le_of_ble_eq_true rfl) (fun p e s m below meth c Q AS ls hx hb hml hown hts hK hDD hA0 hP hS hl RET => ?_)
  have hown : s.vm.findClass RX12 = some m.cls := hown
  have hl : lv_has ls 6 [(0, .ref (q 0)), (1, .int (iI x1)), (2, .long (jI x2))] := hl
  have hiX12 : ∀ w ∈ u_ws RX12 TX12 85, w ∈ ws_mc_X12_named := fun w h => List.mem_cons_of_mem _ (wx_lay w h)
  obtain ⟨H, hHe⟩ : ∃ H : Heap, H = s.heap := ⟨_, rfl⟩
  rw [← hHe] at hP
  have hS : va_S AS s.heap H [] := by rw [hHe]; exact hS
  suffices hgo : ∀ locs : List Loc, va_S AS s.heap H locs → W p l e (headSpec ws_mc_X12_named ({ frames := 1, cells := 0, slots := 0, locals := 23 } : Room)).room s m [.ref (q 0), .int (iI x1), .long (jI x2)].toArray below meth c H locs 0 0 Q (F0 m 0 ls []) by
    have := hgo [] hS
    rw [hHe] at this
    exact this
  clear hS hHe
  intro locs hS
  rcases (show x1 = 0 ∨ x1 = 1 ∨ x1 = 2 ∨ x1 = 3 ∨ x1 = 4 by omega) with rfl | rfl | rfl | rfl | rfl
  · have hl : lv_has ls 6 [(0, .ref (q 0)), (1, .int (iI 0)), (2, .long (jI x2))] := hl
    refine lv_iload_n hx hb dX12_named_0 rfl (lv_at hl 1 rfl) ?_
    refine lv_if_ne (tgt := 16) hx hb dX12_named_1 (by decide) (fun c1 => absurd c1 (by decide +kernel)) (fun _ => ?_)
    refine lv_aload_n hx hb dX12_named_4 rfl (lv_at hl 0 rfl) ?_
    refine va_get (D := (dC, dI)) (ci := 12) (v := .ref (q 2)) (C := RX12) (T := TX12) (N := 85) hx hb hts hiX12 hown hK hP 0 wm0 rfl 13 (by decide) (hts _ (List.mem_cons_of_mem _ (wl_in_1 _ (List.mem_of_getElem? (i := 11) rfl)))) (fun _ h9 => h9) rfl dX12_named_5 ?_
    refine lv_aload_n hx hb dX12_named_8 rfl (lv_at hl 0 rfl) ?_
    refine va_get (D := (dC, dI)) (ci := 12) (v := .int (iI (A 0 47))) (C := RX12) (T := TX12) (N := 85) hx hb hts hiX12 hown hK hP 0 wm0 rfl 47 (by decide) (hts _ (List.mem_cons_of_mem _ (wl_in_1 _ (List.mem_of_getElem? (i := 12) rfl)))) (fun _ h9 => h9) rfl dX12_named_9 ?_
    have r_A_0_47 : (0 : Int) ≤ (A 0 47) ∧ (A 0 47) ≤ 1 := hI 0 47
    refine x_iald hx hb hK hP 2 1 wm2 rfl (by omega) (by decide) dX12_named_12 (fun z2 hz2 => ?_)
    have rz2 : (0 : Int) ≤ z2 ∧ z2 ≤ 8 := by rw [hz2]; exact hI 2 _
    have gz2 := Hd.mk hz2
    have hz2 : z2 = A 2 ((A 0 47)).toNat := hz2
    refine lv_goto (tgt := 76) hx hb dX12_named_13 (by decide) ?_
    refine lv_istore (lv' := [(4, .int (iI z2)), (0, .ref (q 0)), (1, .int (iI 0)), (2, .long (jI x2))]) hx hb dX12_named_76 hl (by decide) rfl (fun ls hl => ?_)
    refine lv_iconst (v := iI 0) hx hb dX12_named_78 (by decide +kernel) ?_
    refine lv_istore (lv' := [(5, .int (iI 0)), (4, .int (iI z2)), (0, .ref (q 0)), (1, .int (iI 0)), (2, .long (jI x2))]) hx hb dX12_named_79 hl (by decide) rfl (fun ls hl => ?_)
    have L81_5 : ∀ (n7 : Nat) (z3 : Int) (H : Heap) (locs : List Loc) (ls : Array Slot), (0 ≤ z3) → (0 ≤ z3 ∧ z3 ≤ 2147483647) → (∀ (z : Int), (∃ mm1 : Nat, (d_X12_named_1 x2 z2 A z mm1 z3)) → r_X12_named 0 x2 A z) → ((z2 - z3 + 1).toNat = n7) → va_P (dC, dI) vwCl (WM cI cJ cZ q A) H → va_S AS s.heap H locs → lv_has ls 6 [(5, .int (iI z3)), (4, .int (iI z2)), (0, .ref (q 0)), (1, .int (iI 0)), (2, .long (jI x2))] → W p l e (headSpec ws_mc_X12_named ({ frames := 1, cells := 0, slots := 0, locals := 23 } : Room)).room s m [.ref (q 0), .int (iI 0), .long (jI x2)].toArray below meth c H locs 0 0 Q (F0 m 81 ls []) := by
      intro n7
      induction n7 using Nat.strongRecOn with
      | ind n7 ih6 =>
        intro z3 H locs ls f8 f9 hk1 hn7 hP hS hl
        refine lv_iload hx hb dX12_named_81 (lv_at hl 0 rfl) ?_
        refine lv_iload hx hb dX12_named_83 (lv_at hl 1 rfl) ?_
        refine lv_icmp_ge (tgt := 113) hx hb dX12_named_85 (by decide) (fun c10 => ?_) (fun c10 => ?_)
        · have c10 : z2 ≤ z3 := (i_le (rb rz2 (by decide) (by decide)) (rb f9 (by decide) (by decide))).mp c10
          refine lv_iconst (v := iI (-1)) hx hb dX12_named_113 (by decide +kernel) ?_
          exact RET (-1) _ _ _ _ _ ⟨rfl, hk1 _ ⟨0 + 1, (u_d_X12_named_1 ⟨f9, (Or.inl ⟨c10, rfl⟩)⟩)⟩, by omega⟩ hP hS dX12_named_114
        · have c10 : ¬ z2 ≤ z3 := mt (i_le (rb rz2 (by decide) (by decide)) (rb f9 (by decide) (by decide))).mpr c10
          refine lv_aload_n hx hb dX12_named_88 rfl (lv_at hl 2 rfl) ?_
          refine lv_aload_n hx hb dX12_named_89 rfl (lv_at hl 2 rfl) ?_
          refine va_get (D := (dC, dI)) (ci := 12) (v := .int (iI (A 0 47))) (C := RX12) (T := TX12) (N := 85) hx hb hts hiX12 hown hK hP 0 wm0 rfl 47 (by decide) (hts _ (List.mem_cons_of_mem _ (wl_in_1 _ (List.mem_of_getElem? (i := 12) rfl)))) (fun _ h9 => h9) rfl dX12_named_90 ?_
          refine lv_iload_n hx hb dX12_named_93 rfl (lv_at hl 3 rfl) ?_
          refine lv_iload hx hb dX12_named_94 (lv_at hl 0 rfl) ?_
          refine x_calll (As := [.int (iI (A 0 47)), .int (iI 0), .int (iI z3)]) (rest := []) ⟨hx, hb, hml, hown, hts⟩ (mc_X12_nameOf l dC dI cB cI cJ cZ cQ q _ (A 0 47) 0 z3 hI r_A_0_47 ⟨by decide, by decide⟩ (by omega) (by omega)) (cwV 3 hts (goodV (wl_in_1 _ (List.mem_of_getElem? (i := 17) rfl)) (wl_in_1 _ (List.mem_of_getElem? (i := 18) rfl)) (wl_in_1 _ (List.mem_of_getElem? (i := 19) rfl)) (wl_in_0 _ (List.mem_of_getElem? (i := 8) rfl)) (wl_in_1 _ (List.mem_of_getElem? (i := 20) rfl))) rfl rfl rfl (by decide +kernel) ⟨Nat.le_of_ble_eq_true rfl, Nat.le_of_ble_eq_true rfl⟩) hK hDD hA0 hP hS 0 12 wm0 rfl rfl hl.1 (Nat.le_of_ble_eq_true rfl) dX12_named_96 (fun z11 A12 H locs hw13 hP hS => ?_)
          obtain ⟨rfl, hw13⟩ := hw13
          have ghw13 : q_X12_nameOf (A 0 47) 0 z3 A z11 := hw13
          have hw13 := hw13.2
          refine lv_lload_n hx hb dX12_named_99 rfl (lv_at hl 4 rfl) ?_
          refine x_lcmp hx hb dX12_named_100 (by omega) (by omega) (fun z14 hz14 hz14b hz14c => ?_)
          have gz14 := Hd.mk (And.intro hz14 (And.intro hz14b hz14c))
          refine lv_if_ne (tgt := 107) hx hb dX12_named_101 (by decide) (fun c15 => ?_) (fun c15 => ?_)
          · have c15 : ¬ z14 = 0 := mt (i_eq0 (by omega)).mpr c15
            refine lv_iinc (v := iI (z3 + 1)) (lv' := [(5, .int (iI (z3 + 1))), (4, .int (iI z2)), (0, .ref (q 0)), (1, .int (iI 0)), (2, .long (jI x2))]) hx hb dX12_named_107 hl (k := 0) rfl (i_inc (by omega)) (by decide) rfl (fun ls hl => ?_)
            refine lv_goto (tgt := 81) hx hb dX12_named_110 (by decide) ?_
            exact ih6 _ (by omega) (z3 + 1) _ _ _ (by omega) (by omega) (fun zq ⟨mm1, hq⟩ => hk1 _ ⟨mm1 + 1, (u_d_X12_named_1 ⟨f9, (Or.inr ⟨c10, ⟨z11, ghw13, ⟨z14, gz14.out, (Or.inl ⟨c15, hq⟩)⟩⟩⟩)⟩)⟩) rfl hP hS (lv_sub hl [0, 1, 2, 3, 4] rfl)
          · have c15 : z14 = 0 := (i_eq0 (by omega)).mp c15
            refine lv_iload hx hb dX12_named_104 (lv_at hl 0 rfl) ?_
            exact RET z3 _ _ _ _ _ ⟨rfl, hk1 _ ⟨0 + 1, (u_d_X12_named_1 ⟨f9, (Or.inr ⟨c10, ⟨z11, ghw13, ⟨z14, gz14.out, (Or.inr ⟨c15, rfl⟩)⟩⟩⟩)⟩)⟩, by omega⟩ hP hS dX12_named_106
    exact L81_5 _ 0 _ _ _ (by omega) (by omega) (fun zq ⟨mm1, hq⟩ => (u_r_X12_named (Or.inl ⟨rfl, ⟨z2, gz2.out, ⟨mm1, hq⟩⟩⟩))) rfl hP hS (lv_sub hl [0, 1, 2, 3, 4] rfl)
  · have hl : lv_has ls 6 [(0, .ref (q 0)), (1, .int (iI 1)), (2, .long (jI x2))] := hl
    refine lv_iload_n hx hb dX12_named_0 rfl (lv_at hl 1 rfl) ?_
    refine lv_if_ne (tgt := 16) hx hb dX12_named_1 (by decide) (fun _ => ?_) (fun c16 => absurd c16 (by decide +kernel))
    refine lv_iload_n hx hb dX12_named_16 rfl (lv_at hl 1 rfl) ?_
    refine lv_iconst (v := iI 1) hx hb dX12_named_17 (by decide +kernel) ?_
    refine lv_icmp_ne (tgt := 33) hx hb dX12_named_18 (by decide) (fun c17 => absurd c17 (by decide +kernel)) (fun _ => ?_)
    refine lv_aload_n hx hb dX12_named_21 rfl (lv_at hl 0 rfl) ?_
    refine va_get (D := (dC, dI)) (ci := 12) (v := .ref (q 4)) (C := RX12) (T := TX12) (N := 85) hx hb hts hiX12 hown hK hP 0 wm0 rfl 15 (by decide) (hts _ (List.mem_cons_of_mem _ (wl_in_1 _ (List.mem_of_getElem? (i := 13) rfl)))) (fun _ h9 => h9) rfl dX12_named_22 ?_
    refine lv_aload_n hx hb dX12_named_25 rfl (lv_at hl 0 rfl) ?_
    refine va_get (D := (dC, dI)) (ci := 12) (v := .int (iI (A 0 47))) (C := RX12) (T := TX12) (N := 85) hx hb hts hiX12 hown hK hP 0 wm0 rfl 47 (by decide) (hts _ (List.mem_cons_of_mem _ (wl_in_1 _ (List.mem_of_getElem? (i := 12) rfl)))) (fun _ h9 => h9) rfl dX12_named_26 ?_
    have r_A_0_47 : (0 : Int) ≤ (A 0 47) ∧ (A 0 47) ≤ 1 := hI 0 47
    refine x_iald hx hb hK hP 4 1 wm4 rfl (by omega) (by decide) dX12_named_29 (fun z18 hz18 => ?_)
    have rz18 : (0 : Int) ≤ z18 ∧ z18 ≤ 10 := by rw [hz18]; exact hI 4 _
    have gz18 := Hd.mk hz18
    have hz18 : z18 = A 4 ((A 0 47)).toNat := hz18
    refine lv_goto (tgt := 76) hx hb dX12_named_30 (by decide) ?_
    refine lv_istore (lv' := [(4, .int (iI z18)), (0, .ref (q 0)), (1, .int (iI 1)), (2, .long (jI x2))]) hx hb dX12_named_76 hl (by decide) rfl (fun ls hl => ?_)
    refine lv_iconst (v := iI 0) hx hb dX12_named_78 (by decide +kernel) ?_
    refine lv_istore (lv' := [(5, .int (iI 0)), (4, .int (iI z18)), (0, .ref (q 0)), (1, .int (iI 1)), (2, .long (jI x2))]) hx hb dX12_named_79 hl (by decide) rfl (fun ls hl => ?_)
    have L81_21 : ∀ (n23 : Nat) (z19 : Int) (H : Heap) (locs : List Loc) (ls : Array Slot), (0 ≤ z19) → (0 ≤ z19 ∧ z19 ≤ 2147483647) → (∀ (z : Int), (∃ mm2 : Nat, (d_X12_named_2 x2 z18 A z mm2 z19)) → r_X12_named 1 x2 A z) → ((z18 - z19 + 1).toNat = n23) → va_P (dC, dI) vwCl (WM cI cJ cZ q A) H → va_S AS s.heap H locs → lv_has ls 6 [(5, .int (iI z19)), (4, .int (iI z18)), (0, .ref (q 0)), (1, .int (iI 1)), (2, .long (jI x2))] → W p l e (headSpec ws_mc_X12_named ({ frames := 1, cells := 0, slots := 0, locals := 23 } : Room)).room s m [.ref (q 0), .int (iI 1), .long (jI x2)].toArray below meth c H locs 0 0 Q (F0 m 81 ls []) := by
      intro n23
      induction n23 using Nat.strongRecOn with
      | ind n23 ih22 =>
        intro z19 H locs ls f24 f25 hk2 hn23 hP hS hl
        refine lv_iload hx hb dX12_named_81 (lv_at hl 0 rfl) ?_
        refine lv_iload hx hb dX12_named_83 (lv_at hl 1 rfl) ?_
        refine lv_icmp_ge (tgt := 113) hx hb dX12_named_85 (by decide) (fun c26 => ?_) (fun c26 => ?_)
        · have c26 : z18 ≤ z19 := (i_le (rb rz18 (by decide) (by decide)) (rb f25 (by decide) (by decide))).mp c26
          refine lv_iconst (v := iI (-1)) hx hb dX12_named_113 (by decide +kernel) ?_
          exact RET (-1) _ _ _ _ _ ⟨rfl, hk2 _ ⟨0 + 1, (u_d_X12_named_2 ⟨f25, (Or.inl ⟨c26, rfl⟩)⟩)⟩, by omega⟩ hP hS dX12_named_114
        · have c26 : ¬ z18 ≤ z19 := mt (i_le (rb rz18 (by decide) (by decide)) (rb f25 (by decide) (by decide))).mpr c26
          refine lv_aload_n hx hb dX12_named_88 rfl (lv_at hl 2 rfl) ?_
          refine lv_aload_n hx hb dX12_named_89 rfl (lv_at hl 2 rfl) ?_
          refine va_get (D := (dC, dI)) (ci := 12) (v := .int (iI (A 0 47))) (C := RX12) (T := TX12) (N := 85) hx hb hts hiX12 hown hK hP 0 wm0 rfl 47 (by decide) (hts _ (List.mem_cons_of_mem _ (wl_in_1 _ (List.mem_of_getElem? (i := 12) rfl)))) (fun _ h9 => h9) rfl dX12_named_90 ?_
          refine lv_iload_n hx hb dX12_named_93 rfl (lv_at hl 3 rfl) ?_
          refine lv_iload hx hb dX12_named_94 (lv_at hl 0 rfl) ?_
          refine x_calll (As := [.int (iI (A 0 47)), .int (iI 1), .int (iI z19)]) (rest := []) ⟨hx, hb, hml, hown, hts⟩ (mc_X12_nameOf l dC dI cB cI cJ cZ cQ q _ (A 0 47) 1 z19 hI r_A_0_47 ⟨by decide, by decide⟩ (by omega) (by omega)) (cwV 3 hts (goodV (wl_in_1 _ (List.mem_of_getElem? (i := 17) rfl)) (wl_in_1 _ (List.mem_of_getElem? (i := 18) rfl)) (wl_in_1 _ (List.mem_of_getElem? (i := 19) rfl)) (wl_in_0 _ (List.mem_of_getElem? (i := 8) rfl)) (wl_in_1 _ (List.mem_of_getElem? (i := 20) rfl))) rfl rfl rfl (by decide +kernel) ⟨Nat.le_of_ble_eq_true rfl, Nat.le_of_ble_eq_true rfl⟩) hK hDD hA0 hP hS 0 12 wm0 rfl rfl hl.1 (Nat.le_of_ble_eq_true rfl) dX12_named_96 (fun z27 A28 H locs hw29 hP hS => ?_)
          obtain ⟨rfl, hw29⟩ := hw29
          have ghw29 : q_X12_nameOf (A 0 47) 1 z19 A z27 := hw29
          have hw29 := hw29.2
          refine lv_lload_n hx hb dX12_named_99 rfl (lv_at hl 4 rfl) ?_
          refine x_lcmp hx hb dX12_named_100 (by omega) (by omega) (fun z30 hz30 hz30b hz30c => ?_)
          have gz30 := Hd.mk (And.intro hz30 (And.intro hz30b hz30c))
          refine lv_if_ne (tgt := 107) hx hb dX12_named_101 (by decide) (fun c31 => ?_) (fun c31 => ?_)
          · have c31 : ¬ z30 = 0 := mt (i_eq0 (by omega)).mpr c31
            refine lv_iinc (v := iI (z19 + 1)) (lv' := [(5, .int (iI (z19 + 1))), (4, .int (iI z18)), (0, .ref (q 0)), (1, .int (iI 1)), (2, .long (jI x2))]) hx hb dX12_named_107 hl (k := 0) rfl (i_inc (by omega)) (by decide) rfl (fun ls hl => ?_)
            refine lv_goto (tgt := 81) hx hb dX12_named_110 (by decide) ?_
            exact ih22 _ (by omega) (z19 + 1) _ _ _ (by omega) (by omega) (fun zq ⟨mm2, hq⟩ => hk2 _ ⟨mm2 + 1, (u_d_X12_named_2 ⟨f25, (Or.inr ⟨c26, ⟨z27, ghw29, ⟨z30, gz30.out, (Or.inl ⟨c31, hq⟩)⟩⟩⟩)⟩)⟩) rfl hP hS (lv_sub hl [0, 1, 2, 3, 4] rfl)
          · have c31 : z30 = 0 := (i_eq0 (by omega)).mp c31
            refine lv_iload hx hb dX12_named_104 (lv_at hl 0 rfl) ?_
            exact RET z19 _ _ _ _ _ ⟨rfl, hk2 _ ⟨0 + 1, (u_d_X12_named_2 ⟨f25, (Or.inr ⟨c26, ⟨z27, ghw29, ⟨z30, gz30.out, (Or.inr ⟨c31, rfl⟩)⟩⟩⟩)⟩)⟩, by omega⟩ hP hS dX12_named_106
    exact L81_21 _ 0 _ _ _ (by omega) (by omega) (fun zq ⟨mm2, hq⟩ => (u_r_X12_named (Or.inr (Or.inl ⟨rfl, ⟨z18, gz18.out, ⟨mm2, hq⟩⟩⟩)))) rfl hP hS (lv_sub hl [0, 1, 2, 3, 4] rfl)
  · have hl : lv_has ls 6 [(0, .ref (q 0)), (1, .int (iI 2)), (2, .long (jI x2))] := hl
    refine lv_iload_n hx hb dX12_named_0 rfl (lv_at hl 1 rfl) ?_
    refine lv_if_ne (tgt := 16) hx hb dX12_named_1 (by decide) (fun _ => ?_) (fun c32 => absurd c32 (by decide +kernel))
    refine lv_iload_n hx hb dX12_named_16 rfl (lv_at hl 1 rfl) ?_
    refine lv_iconst (v := iI 1) hx hb dX12_named_17 (by decide +kernel) ?_
    refine lv_icmp_ne (tgt := 33) hx hb dX12_named_18 (by decide) (fun _ => ?_) (fun c33 => absurd c33 (by decide +kernel))
    refine lv_iload_n hx hb dX12_named_33 rfl (lv_at hl 1 rfl) ?_
    refine lv_iconst (v := iI 2) hx hb dX12_named_34 (by decide +kernel) ?_
    refine lv_icmp_ne (tgt := 50) hx hb dX12_named_35 (by decide) (fun c34 => absurd c34 (by decide +kernel)) (fun _ => ?_)
    refine lv_aload_n hx hb dX12_named_38 rfl (lv_at hl 0 rfl) ?_
    refine va_get (D := (dC, dI)) (ci := 12) (v := .ref (q 11)) (C := RX12) (T := TX12) (N := 85) hx hb hts hiX12 hown hK hP 0 wm0 rfl 22 (by decide) (hts _ (List.mem_cons_of_mem _ (wl_in_1 _ (List.mem_of_getElem? (i := 14) rfl)))) (fun _ h9 => h9) rfl dX12_named_39 ?_
    refine lv_aload_n hx hb dX12_named_42 rfl (lv_at hl 0 rfl) ?_
    refine va_get (D := (dC, dI)) (ci := 12) (v := .int (iI (A 0 47))) (C := RX12) (T := TX12) (N := 85) hx hb hts hiX12 hown hK hP 0 wm0 rfl 47 (by decide) (hts _ (List.mem_cons_of_mem _ (wl_in_1 _ (List.mem_of_getElem? (i := 12) rfl)))) (fun _ h9 => h9) rfl dX12_named_43 ?_
    have r_A_0_47 : (0 : Int) ≤ (A 0 47) ∧ (A 0 47) ≤ 1 := hI 0 47
    refine x_iald hx hb hK hP 11 1 wm11 rfl (by omega) (by decide) dX12_named_46 (fun z35 hz35 => ?_)
    have rz35 : (0 : Int) ≤ z35 ∧ z35 ≤ 4 := by rw [hz35]; exact hI 11 _
    have gz35 := Hd.mk hz35
    have hz35 : z35 = A 11 ((A 0 47)).toNat := hz35
    refine lv_goto (tgt := 76) hx hb dX12_named_47 (by decide) ?_
    refine lv_istore (lv' := [(4, .int (iI z35)), (0, .ref (q 0)), (1, .int (iI 2)), (2, .long (jI x2))]) hx hb dX12_named_76 hl (by decide) rfl (fun ls hl => ?_)
    refine lv_iconst (v := iI 0) hx hb dX12_named_78 (by decide +kernel) ?_
    refine lv_istore (lv' := [(5, .int (iI 0)), (4, .int (iI z35)), (0, .ref (q 0)), (1, .int (iI 2)), (2, .long (jI x2))]) hx hb dX12_named_79 hl (by decide) rfl (fun ls hl => ?_)
    have L81_38 : ∀ (n40 : Nat) (z36 : Int) (H : Heap) (locs : List Loc) (ls : Array Slot), (0 ≤ z36) → (0 ≤ z36 ∧ z36 ≤ 2147483647) → (∀ (z : Int), (∃ mm3 : Nat, (d_X12_named_3 x2 z35 A z mm3 z36)) → r_X12_named 2 x2 A z) → ((z35 - z36 + 1).toNat = n40) → va_P (dC, dI) vwCl (WM cI cJ cZ q A) H → va_S AS s.heap H locs → lv_has ls 6 [(5, .int (iI z36)), (4, .int (iI z35)), (0, .ref (q 0)), (1, .int (iI 2)), (2, .long (jI x2))] → W p l e (headSpec ws_mc_X12_named ({ frames := 1, cells := 0, slots := 0, locals := 23 } : Room)).room s m [.ref (q 0), .int (iI 2), .long (jI x2)].toArray below meth c H locs 0 0 Q (F0 m 81 ls []) := by
      intro n40
      induction n40 using Nat.strongRecOn with
      | ind n40 ih39 =>
        intro z36 H locs ls f41 f42 hk3 hn40 hP hS hl
        refine lv_iload hx hb dX12_named_81 (lv_at hl 0 rfl) ?_
        refine lv_iload hx hb dX12_named_83 (lv_at hl 1 rfl) ?_
        refine lv_icmp_ge (tgt := 113) hx hb dX12_named_85 (by decide) (fun c43 => ?_) (fun c43 => ?_)
        · have c43 : z35 ≤ z36 := (i_le (rb rz35 (by decide) (by decide)) (rb f42 (by decide) (by decide))).mp c43
          refine lv_iconst (v := iI (-1)) hx hb dX12_named_113 (by decide +kernel) ?_
          exact RET (-1) _ _ _ _ _ ⟨rfl, hk3 _ ⟨0 + 1, (u_d_X12_named_3 ⟨f42, (Or.inl ⟨c43, rfl⟩)⟩)⟩, by omega⟩ hP hS dX12_named_114
        · have c43 : ¬ z35 ≤ z36 := mt (i_le (rb rz35 (by decide) (by decide)) (rb f42 (by decide) (by decide))).mpr c43
          refine lv_aload_n hx hb dX12_named_88 rfl (lv_at hl 2 rfl) ?_
          refine lv_aload_n hx hb dX12_named_89 rfl (lv_at hl 2 rfl) ?_
          refine va_get (D := (dC, dI)) (ci := 12) (v := .int (iI (A 0 47))) (C := RX12) (T := TX12) (N := 85) hx hb hts hiX12 hown hK hP 0 wm0 rfl 47 (by decide) (hts _ (List.mem_cons_of_mem _ (wl_in_1 _ (List.mem_of_getElem? (i := 12) rfl)))) (fun _ h9 => h9) rfl dX12_named_90 ?_
          refine lv_iload_n hx hb dX12_named_93 rfl (lv_at hl 3 rfl) ?_
          refine lv_iload hx hb dX12_named_94 (lv_at hl 0 rfl) ?_
          refine x_calll (As := [.int (iI (A 0 47)), .int (iI 2), .int (iI z36)]) (rest := []) ⟨hx, hb, hml, hown, hts⟩ (mc_X12_nameOf l dC dI cB cI cJ cZ cQ q _ (A 0 47) 2 z36 hI r_A_0_47 ⟨by decide, by decide⟩ (by omega) (by omega)) (cwV 3 hts (goodV (wl_in_1 _ (List.mem_of_getElem? (i := 17) rfl)) (wl_in_1 _ (List.mem_of_getElem? (i := 18) rfl)) (wl_in_1 _ (List.mem_of_getElem? (i := 19) rfl)) (wl_in_0 _ (List.mem_of_getElem? (i := 8) rfl)) (wl_in_1 _ (List.mem_of_getElem? (i := 20) rfl))) rfl rfl rfl (by decide +kernel) ⟨Nat.le_of_ble_eq_true rfl, Nat.le_of_ble_eq_true rfl⟩) hK hDD hA0 hP hS 0 12 wm0 rfl rfl hl.1 (Nat.le_of_ble_eq_true rfl) dX12_named_96 (fun z44 A45 H locs hw46 hP hS => ?_)
          obtain ⟨rfl, hw46⟩ := hw46
          have ghw46 : q_X12_nameOf (A 0 47) 2 z36 A z44 := hw46
          have hw46 := hw46.2
          refine lv_lload_n hx hb dX12_named_99 rfl (lv_at hl 4 rfl) ?_
          refine x_lcmp hx hb dX12_named_100 (by omega) (by omega) (fun z47 hz47 hz47b hz47c => ?_)
          have gz47 := Hd.mk (And.intro hz47 (And.intro hz47b hz47c))
          refine lv_if_ne (tgt := 107) hx hb dX12_named_101 (by decide) (fun c48 => ?_) (fun c48 => ?_)
          · have c48 : ¬ z47 = 0 := mt (i_eq0 (by omega)).mpr c48
            refine lv_iinc (v := iI (z36 + 1)) (lv' := [(5, .int (iI (z36 + 1))), (4, .int (iI z35)), (0, .ref (q 0)), (1, .int (iI 2)), (2, .long (jI x2))]) hx hb dX12_named_107 hl (k := 0) rfl (i_inc (by omega)) (by decide) rfl (fun ls hl => ?_)
            refine lv_goto (tgt := 81) hx hb dX12_named_110 (by decide) ?_
            exact ih39 _ (by omega) (z36 + 1) _ _ _ (by omega) (by omega) (fun zq ⟨mm3, hq⟩ => hk3 _ ⟨mm3 + 1, (u_d_X12_named_3 ⟨f42, (Or.inr ⟨c43, ⟨z44, ghw46, ⟨z47, gz47.out, (Or.inl ⟨c48, hq⟩)⟩⟩⟩)⟩)⟩) rfl hP hS (lv_sub hl [0, 1, 2, 3, 4] rfl)
          · have c48 : z47 = 0 := (i_eq0 (by omega)).mp c48
            refine lv_iload hx hb dX12_named_104 (lv_at hl 0 rfl) ?_
            exact RET z36 _ _ _ _ _ ⟨rfl, hk3 _ ⟨0 + 1, (u_d_X12_named_3 ⟨f42, (Or.inr ⟨c43, ⟨z44, ghw46, ⟨z47, gz47.out, (Or.inr ⟨c48, rfl⟩)⟩⟩⟩)⟩)⟩, by omega⟩ hP hS dX12_named_106
    exact L81_38 _ 0 _ _ _ (by omega) (by omega) (fun zq ⟨mm3, hq⟩ => (u_r_X12_named (Or.inr (Or.inr (Or.inl ⟨rfl, ⟨z35, gz35.out, ⟨mm3, hq⟩⟩⟩))))) rfl hP hS (lv_sub hl [0, 1, 2, 3, 4] rfl)
  · have hl : lv_has ls 6 [(0, .ref (q 0)), (1, .int (iI 3)), (2, .long (jI x2))] := hl
    refine lv_iload_n hx hb dX12_named_0 rfl (lv_at hl 1 rfl) ?_
    refine lv_if_ne (tgt := 16) hx hb dX12_named_1 (by decide) (fun _ => ?_) (fun c49 => absurd c49 (by decide +kernel))
    refine lv_iload_n hx hb dX12_named_16 rfl (lv_at hl 1 rfl) ?_
    refine lv_iconst (v := iI 1) hx hb dX12_named_17 (by decide +kernel) ?_
    refine lv_icmp_ne (tgt := 33) hx hb dX12_named_18 (by decide) (fun _ => ?_) (fun c50 => absurd c50 (by decide +kernel))
    refine lv_iload_n hx hb dX12_named_33 rfl (lv_at hl 1 rfl) ?_
    refine lv_iconst (v := iI 2) hx hb dX12_named_34 (by decide +kernel) ?_
    refine lv_icmp_ne (tgt := 50) hx hb dX12_named_35 (by decide) (fun _ => ?_) (fun c51 => absurd c51 (by decide +kernel))
    refine lv_iload_n hx hb dX12_named_50 rfl (lv_at hl 1 rfl) ?_
    refine lv_iconst (v := iI 3) hx hb dX12_named_51 (by decide +kernel) ?_
    refine lv_icmp_ne (tgt := 67) hx hb dX12_named_52 (by decide) (fun c52 => absurd c52 (by decide +kernel)) (fun _ => ?_)
    refine lv_aload_n hx hb dX12_named_55 rfl (lv_at hl 0 rfl) ?_
    refine va_get (D := (dC, dI)) (ci := 12) (v := .ref (q 16)) (C := RX12) (T := TX12) (N := 85) hx hb hts hiX12 hown hK hP 0 wm0 rfl 27 (by decide) (hts _ (List.mem_cons_of_mem _ (wl_in_1 _ (List.mem_of_getElem? (i := 15) rfl)))) (fun _ h9 => h9) rfl dX12_named_56 ?_
    refine lv_aload_n hx hb dX12_named_59 rfl (lv_at hl 0 rfl) ?_
    refine va_get (D := (dC, dI)) (ci := 12) (v := .int (iI (A 0 47))) (C := RX12) (T := TX12) (N := 85) hx hb hts hiX12 hown hK hP 0 wm0 rfl 47 (by decide) (hts _ (List.mem_cons_of_mem _ (wl_in_1 _ (List.mem_of_getElem? (i := 12) rfl)))) (fun _ h9 => h9) rfl dX12_named_60 ?_
    have r_A_0_47 : (0 : Int) ≤ (A 0 47) ∧ (A 0 47) ≤ 1 := hI 0 47
    refine x_iald hx hb hK hP 16 1 wm16 rfl (by omega) (by decide) dX12_named_63 (fun z53 hz53 => ?_)
    have rz53 : (0 : Int) ≤ z53 ∧ z53 ≤ 3 := by rw [hz53]; exact hI 16 _
    have gz53 := Hd.mk hz53
    have hz53 : z53 = A 16 ((A 0 47)).toNat := hz53
    refine lv_goto (tgt := 76) hx hb dX12_named_64 (by decide) ?_
    refine lv_istore (lv' := [(4, .int (iI z53)), (0, .ref (q 0)), (1, .int (iI 3)), (2, .long (jI x2))]) hx hb dX12_named_76 hl (by decide) rfl (fun ls hl => ?_)
    refine lv_iconst (v := iI 0) hx hb dX12_named_78 (by decide +kernel) ?_
    refine lv_istore (lv' := [(5, .int (iI 0)), (4, .int (iI z53)), (0, .ref (q 0)), (1, .int (iI 3)), (2, .long (jI x2))]) hx hb dX12_named_79 hl (by decide) rfl (fun ls hl => ?_)
    have L81_56 : ∀ (n58 : Nat) (z54 : Int) (H : Heap) (locs : List Loc) (ls : Array Slot), (0 ≤ z54) → (0 ≤ z54 ∧ z54 ≤ 2147483647) → (∀ (z : Int), (∃ mm4 : Nat, (d_X12_named_4 x2 z53 A z mm4 z54)) → r_X12_named 3 x2 A z) → ((z53 - z54 + 1).toNat = n58) → va_P (dC, dI) vwCl (WM cI cJ cZ q A) H → va_S AS s.heap H locs → lv_has ls 6 [(5, .int (iI z54)), (4, .int (iI z53)), (0, .ref (q 0)), (1, .int (iI 3)), (2, .long (jI x2))] → W p l e (headSpec ws_mc_X12_named ({ frames := 1, cells := 0, slots := 0, locals := 23 } : Room)).room s m [.ref (q 0), .int (iI 3), .long (jI x2)].toArray below meth c H locs 0 0 Q (F0 m 81 ls []) := by
      intro n58
      induction n58 using Nat.strongRecOn with
      | ind n58 ih57 =>
        intro z54 H locs ls f59 f60 hk4 hn58 hP hS hl
        refine lv_iload hx hb dX12_named_81 (lv_at hl 0 rfl) ?_
        refine lv_iload hx hb dX12_named_83 (lv_at hl 1 rfl) ?_
        refine lv_icmp_ge (tgt := 113) hx hb dX12_named_85 (by decide) (fun c61 => ?_) (fun c61 => ?_)
        · have c61 : z53 ≤ z54 := (i_le (rb rz53 (by decide) (by decide)) (rb f60 (by decide) (by decide))).mp c61
          refine lv_iconst (v := iI (-1)) hx hb dX12_named_113 (by decide +kernel) ?_
          exact RET (-1) _ _ _ _ _ ⟨rfl, hk4 _ ⟨0 + 1, (u_d_X12_named_4 ⟨f60, (Or.inl ⟨c61, rfl⟩)⟩)⟩, by omega⟩ hP hS dX12_named_114
        · have c61 : ¬ z53 ≤ z54 := mt (i_le (rb rz53 (by decide) (by decide)) (rb f60 (by decide) (by decide))).mpr c61
          refine lv_aload_n hx hb dX12_named_88 rfl (lv_at hl 2 rfl) ?_
          refine lv_aload_n hx hb dX12_named_89 rfl (lv_at hl 2 rfl) ?_
          refine va_get (D := (dC, dI)) (ci := 12) (v := .int (iI (A 0 47))) (C := RX12) (T := TX12) (N := 85) hx hb hts hiX12 hown hK hP 0 wm0 rfl 47 (by decide) (hts _ (List.mem_cons_of_mem _ (wl_in_1 _ (List.mem_of_getElem? (i := 12) rfl)))) (fun _ h9 => h9) rfl dX12_named_90 ?_
          refine lv_iload_n hx hb dX12_named_93 rfl (lv_at hl 3 rfl) ?_
          refine lv_iload hx hb dX12_named_94 (lv_at hl 0 rfl) ?_
          refine x_calll (As := [.int (iI (A 0 47)), .int (iI 3), .int (iI z54)]) (rest := []) ⟨hx, hb, hml, hown, hts⟩ (mc_X12_nameOf l dC dI cB cI cJ cZ cQ q _ (A 0 47) 3 z54 hI r_A_0_47 ⟨by decide, by decide⟩ (by omega) (by omega)) (cwV 3 hts (goodV (wl_in_1 _ (List.mem_of_getElem? (i := 17) rfl)) (wl_in_1 _ (List.mem_of_getElem? (i := 18) rfl)) (wl_in_1 _ (List.mem_of_getElem? (i := 19) rfl)) (wl_in_0 _ (List.mem_of_getElem? (i := 8) rfl)) (wl_in_1 _ (List.mem_of_getElem? (i := 20) rfl))) rfl rfl rfl (by decide +kernel) ⟨Nat.le_of_ble_eq_true rfl, Nat.le_of_ble_eq_true rfl⟩) hK hDD hA0 hP hS 0 12 wm0 rfl rfl hl.1 (Nat.le_of_ble_eq_true rfl) dX12_named_96 (fun z62 A63 H locs hw64 hP hS => ?_)
          obtain ⟨rfl, hw64⟩ := hw64
          have ghw64 : q_X12_nameOf (A 0 47) 3 z54 A z62 := hw64
          have hw64 := hw64.2
          refine lv_lload_n hx hb dX12_named_99 rfl (lv_at hl 4 rfl) ?_
          refine x_lcmp hx hb dX12_named_100 (by omega) (by omega) (fun z65 hz65 hz65b hz65c => ?_)
          have gz65 := Hd.mk (And.intro hz65 (And.intro hz65b hz65c))
          refine lv_if_ne (tgt := 107) hx hb dX12_named_101 (by decide) (fun c66 => ?_) (fun c66 => ?_)
          · have c66 : ¬ z65 = 0 := mt (i_eq0 (by omega)).mpr c66
            refine lv_iinc (v := iI (z54 + 1)) (lv' := [(5, .int (iI (z54 + 1))), (4, .int (iI z53)), (0, .ref (q 0)), (1, .int (iI 3)), (2, .long (jI x2))]) hx hb dX12_named_107 hl (k := 0) rfl (i_inc (by omega)) (by decide) rfl (fun ls hl => ?_)
            refine lv_goto (tgt := 81) hx hb dX12_named_110 (by decide) ?_
            exact ih57 _ (by omega) (z54 + 1) _ _ _ (by omega) (by omega) (fun zq ⟨mm4, hq⟩ => hk4 _ ⟨mm4 + 1, (u_d_X12_named_4 ⟨f60, (Or.inr ⟨c61, ⟨z62, ghw64, ⟨z65, gz65.out, (Or.inl ⟨c66, hq⟩)⟩⟩⟩)⟩)⟩) rfl hP hS (lv_sub hl [0, 1, 2, 3, 4] rfl)
          · have c66 : z65 = 0 := (i_eq0 (by omega)).mp c66
            refine lv_iload hx hb dX12_named_104 (lv_at hl 0 rfl) ?_
            exact RET z54 _ _ _ _ _ ⟨rfl, hk4 _ ⟨0 + 1, (u_d_X12_named_4 ⟨f60, (Or.inr ⟨c61, ⟨z62, ghw64, ⟨z65, gz65.out, (Or.inr ⟨c66, rfl⟩)⟩⟩⟩)⟩)⟩, by omega⟩ hP hS dX12_named_106
    exact L81_56 _ 0 _ _ _ (by omega) (by omega) (fun zq ⟨mm4, hq⟩ => (u_r_X12_named (Or.inr (Or.inr (Or.inr (Or.inl ⟨rfl, ⟨z53, gz53.out, ⟨mm4, hq⟩⟩⟩)))))) rfl hP hS (lv_sub hl [0, 1, 2, 3, 4] rfl)
  · have hl : lv_has ls 6 [(0, .ref (q 0)), (1, .int (iI 4)), (2, .long (jI x2))] := hl
    refine lv_iload_n hx hb dX12_named_0 rfl (lv_at hl 1 rfl) ?_
    refine lv_if_ne (tgt := 16) hx hb dX12_named_1 (by decide) (fun _ => ?_) (fun c67 => absurd c67 (by decide +kernel))
    refine lv_iload_n hx hb dX12_named_16 rfl (lv_at hl 1 rfl) ?_
    refine lv_iconst (v := iI 1) hx hb dX12_named_17 (by decide +kernel) ?_
    refine lv_icmp_ne (tgt := 33) hx hb dX12_named_18 (by decide) (fun _ => ?_) (fun c68 => absurd c68 (by decide +kernel))
    refine lv_iload_n hx hb dX12_named_33 rfl (lv_at hl 1 rfl) ?_
    refine lv_iconst (v := iI 2) hx hb dX12_named_34 (by decide +kernel) ?_
    refine lv_icmp_ne (tgt := 50) hx hb dX12_named_35 (by decide) (fun _ => ?_) (fun c69 => absurd c69 (by decide +kernel))
    refine lv_iload_n hx hb dX12_named_50 rfl (lv_at hl 1 rfl) ?_
    refine lv_iconst (v := iI 3) hx hb dX12_named_51 (by decide +kernel) ?_
    refine lv_icmp_ne (tgt := 67) hx hb dX12_named_52 (by decide) (fun _ => ?_) (fun c70 => absurd c70 (by decide +kernel))
    refine lv_aload_n hx hb dX12_named_67 rfl (lv_at hl 0 rfl) ?_
    refine va_get (D := (dC, dI)) (ci := 12) (v := .ref (q 19)) (C := RX12) (T := TX12) (N := 85) hx hb hts hiX12 hown hK hP 0 wm0 rfl 30 (by decide) (hts _ (List.mem_cons_of_mem _ (wl_in_1 _ (List.mem_of_getElem? (i := 16) rfl)))) (fun _ h9 => h9) rfl dX12_named_68 ?_
    refine lv_aload_n hx hb dX12_named_71 rfl (lv_at hl 0 rfl) ?_
    refine va_get (D := (dC, dI)) (ci := 12) (v := .int (iI (A 0 47))) (C := RX12) (T := TX12) (N := 85) hx hb hts hiX12 hown hK hP 0 wm0 rfl 47 (by decide) (hts _ (List.mem_cons_of_mem _ (wl_in_1 _ (List.mem_of_getElem? (i := 12) rfl)))) (fun _ h9 => h9) rfl dX12_named_72 ?_
    have r_A_0_47 : (0 : Int) ≤ (A 0 47) ∧ (A 0 47) ≤ 1 := hI 0 47
    refine x_iald hx hb hK hP 19 1 wm19 rfl (by omega) (by decide) dX12_named_75 (fun z71 hz71 => ?_)
    have rz71 : (0 : Int) ≤ z71 ∧ z71 ≤ 4 := by rw [hz71]; exact hI 19 _
    have gz71 := Hd.mk hz71
    have hz71 : z71 = A 19 ((A 0 47)).toNat := hz71
    refine lv_istore (lv' := [(4, .int (iI z71)), (0, .ref (q 0)), (1, .int (iI 4)), (2, .long (jI x2))]) hx hb dX12_named_76 hl (by decide) rfl (fun ls hl => ?_)
    refine lv_iconst (v := iI 0) hx hb dX12_named_78 (by decide +kernel) ?_
    refine lv_istore (lv' := [(5, .int (iI 0)), (4, .int (iI z71)), (0, .ref (q 0)), (1, .int (iI 4)), (2, .long (jI x2))]) hx hb dX12_named_79 hl (by decide) rfl (fun ls hl => ?_)
    have L81_74 : ∀ (n76 : Nat) (z72 : Int) (H : Heap) (locs : List Loc) (ls : Array Slot), (0 ≤ z72) → (0 ≤ z72 ∧ z72 ≤ 2147483647) → (∀ (z : Int), (∃ mm5 : Nat, (d_X12_named_5 x2 z71 A z mm5 z72)) → r_X12_named 4 x2 A z) → ((z71 - z72 + 1).toNat = n76) → va_P (dC, dI) vwCl (WM cI cJ cZ q A) H → va_S AS s.heap H locs → lv_has ls 6 [(5, .int (iI z72)), (4, .int (iI z71)), (0, .ref (q 0)), (1, .int (iI 4)), (2, .long (jI x2))] → W p l e (headSpec ws_mc_X12_named ({ frames := 1, cells := 0, slots := 0, locals := 23 } : Room)).room s m [.ref (q 0), .int (iI 4), .long (jI x2)].toArray below meth c H locs 0 0 Q (F0 m 81 ls []) := by
      intro n76
      induction n76 using Nat.strongRecOn with
      | ind n76 ih75 =>
        intro z72 H locs ls f77 f78 hk5 hn76 hP hS hl
        refine lv_iload hx hb dX12_named_81 (lv_at hl 0 rfl) ?_
        refine lv_iload hx hb dX12_named_83 (lv_at hl 1 rfl) ?_
        refine lv_icmp_ge (tgt := 113) hx hb dX12_named_85 (by decide) (fun c79 => ?_) (fun c79 => ?_)
        · have c79 : z71 ≤ z72 := (i_le (rb rz71 (by decide) (by decide)) (rb f78 (by decide) (by decide))).mp c79
          refine lv_iconst (v := iI (-1)) hx hb dX12_named_113 (by decide +kernel) ?_
          exact RET (-1) _ _ _ _ _ ⟨rfl, hk5 _ ⟨0 + 1, (u_d_X12_named_5 ⟨f78, (Or.inl ⟨c79, rfl⟩)⟩)⟩, by omega⟩ hP hS dX12_named_114
        · have c79 : ¬ z71 ≤ z72 := mt (i_le (rb rz71 (by decide) (by decide)) (rb f78 (by decide) (by decide))).mpr c79
          refine lv_aload_n hx hb dX12_named_88 rfl (lv_at hl 2 rfl) ?_
          refine lv_aload_n hx hb dX12_named_89 rfl (lv_at hl 2 rfl) ?_
          refine va_get (D := (dC, dI)) (ci := 12) (v := .int (iI (A 0 47))) (C := RX12) (T := TX12) (N := 85) hx hb hts hiX12 hown hK hP 0 wm0 rfl 47 (by decide) (hts _ (List.mem_cons_of_mem _ (wl_in_1 _ (List.mem_of_getElem? (i := 12) rfl)))) (fun _ h9 => h9) rfl dX12_named_90 ?_
          refine lv_iload_n hx hb dX12_named_93 rfl (lv_at hl 3 rfl) ?_
          refine lv_iload hx hb dX12_named_94 (lv_at hl 0 rfl) ?_
          refine x_calll (As := [.int (iI (A 0 47)), .int (iI 4), .int (iI z72)]) (rest := []) ⟨hx, hb, hml, hown, hts⟩ (mc_X12_nameOf l dC dI cB cI cJ cZ cQ q _ (A 0 47) 4 z72 hI r_A_0_47 ⟨by decide, by decide⟩ (by omega) (by omega)) (cwV 3 hts (goodV (wl_in_1 _ (List.mem_of_getElem? (i := 17) rfl)) (wl_in_1 _ (List.mem_of_getElem? (i := 18) rfl)) (wl_in_1 _ (List.mem_of_getElem? (i := 19) rfl)) (wl_in_0 _ (List.mem_of_getElem? (i := 8) rfl)) (wl_in_1 _ (List.mem_of_getElem? (i := 20) rfl))) rfl rfl rfl (by decide +kernel) ⟨Nat.le_of_ble_eq_true rfl, Nat.le_of_ble_eq_true rfl⟩) hK hDD hA0 hP hS 0 12 wm0 rfl rfl hl.1 (Nat.le_of_ble_eq_true rfl) dX12_named_96 (fun z80 A81 H locs hw82 hP hS => ?_)
          obtain ⟨rfl, hw82⟩ := hw82
          have ghw82 : q_X12_nameOf (A 0 47) 4 z72 A z80 := hw82
          have hw82 := hw82.2
          refine lv_lload_n hx hb dX12_named_99 rfl (lv_at hl 4 rfl) ?_
          refine x_lcmp hx hb dX12_named_100 (by omega) (by omega) (fun z83 hz83 hz83b hz83c => ?_)
          have gz83 := Hd.mk (And.intro hz83 (And.intro hz83b hz83c))
          refine lv_if_ne (tgt := 107) hx hb dX12_named_101 (by decide) (fun c84 => ?_) (fun c84 => ?_)
          · have c84 : ¬ z83 = 0 := mt (i_eq0 (by omega)).mpr c84
            refine lv_iinc (v := iI (z72 + 1)) (lv' := [(5, .int (iI (z72 + 1))), (4, .int (iI z71)), (0, .ref (q 0)), (1, .int (iI 4)), (2, .long (jI x2))]) hx hb dX12_named_107 hl (k := 0) rfl (i_inc (by omega)) (by decide) rfl (fun ls hl => ?_)
            refine lv_goto (tgt := 81) hx hb dX12_named_110 (by decide) ?_
            exact ih75 _ (by omega) (z72 + 1) _ _ _ (by omega) (by omega) (fun zq ⟨mm5, hq⟩ => hk5 _ ⟨mm5 + 1, (u_d_X12_named_5 ⟨f78, (Or.inr ⟨c79, ⟨z80, ghw82, ⟨z83, gz83.out, (Or.inl ⟨c84, hq⟩)⟩⟩⟩)⟩)⟩) rfl hP hS (lv_sub hl [0, 1, 2, 3, 4] rfl)
          · have c84 : z83 = 0 := (i_eq0 (by omega)).mp c84
            refine lv_iload hx hb dX12_named_104 (lv_at hl 0 rfl) ?_
            exact RET z72 _ _ _ _ _ ⟨rfl, hk5 _ ⟨0 + 1, (u_d_X12_named_5 ⟨f78, (Or.inr ⟨c79, ⟨z80, ghw82, ⟨z83, gz83.out, (Or.inr ⟨c84, rfl⟩)⟩⟩⟩)⟩)⟩, by omega⟩ hP hS dX12_named_106
    exact L81_74 _ 0 _ _ _ (by omega) (by omega) (fun zq ⟨mm5, hq⟩ => (u_r_X12_named (Or.inr (Or.inr (Or.inr (Or.inr ⟨rfl, ⟨z71, gz71.out, ⟨mm5, hq⟩⟩⟩)))))) rfl hP hS (lv_sub hl [0, 1, 2, 3, 4] rfl)

def ws_mc_X12_number : List Cond := .code yX12_number cX12_number 4 (some .int) :: WX
set_option maxHeartbeats 4000000 in
set_option maxRecDepth 100000 in
theorem mc_X12_number (l : Launch) (dC : Nat → ClassId) (dI : Nat → Nat → Nat) (cB cI cJ cZ cQ : ClassId) (q : Nat → Nat) (A : St) (x1 x2 : Int) (hI : IM A) (hx1 : (-2147483648 : Int) ≤ x1 ∧ x1 ≤ 2147483647) (hx2 : (-2147483648 : Int) ≤ x2 ∧ x2 ≤ 2147483647) : XMi l yX12_number ws_mc_X12_number ({ frames := 2, cells := 0, slots := 0, locals := 47 } : Room) (dC, dI) (tyA cB cI cJ cZ cQ) (WM cI cJ cZ q) A [.ref (q 0), .int (iI x1), .int (iI x2)] (fun z u => IM u ∧ fr [] [3, 4, 5, 6, 7, 8, 9] A u ∧ (-2147483648 ≤ z ∧ z ≤ 2147483647)) := by
  refine x_meti (cc := cX12_number) (maxL := 4) WM_adr (by decide +kernel) rfl (Nat.le_of_ble_eq_true rfl) (fun p e s m below meth c Q AS ls hx hb hml hown hts hK hDD hA0 hP hS hl RET => ?_)
  have hown : s.vm.findClass RX12 = some m.cls := hown
  have hl : lv_has ls 4 [(0, .ref (q 0)), (1, .int (iI x1)), (2, .int (iI x2))] := hl
  have hiX12 : ∀ w ∈ u_ws RX12 TX12 85, w ∈ ws_mc_X12_number := fun w h => List.mem_cons_of_mem _ (wx_lay w h)
  obtain ⟨H, hHe⟩ : ∃ H : Heap, H = s.heap := ⟨_, rfl⟩
  rw [← hHe] at hP
  have hS : va_S AS s.heap H [] := by rw [hHe]; exact hS
  suffices hgo : ∀ locs : List Loc, va_S AS s.heap H locs → W p l e (headSpec ws_mc_X12_number ({ frames := 2, cells := 0, slots := 0, locals := 47 } : Room)).room s m [.ref (q 0), .int (iI x1), .int (iI x2)].toArray below meth c H locs 0 0 Q (F0 m 0 ls []) by
    have := hgo [] hS
    rw [hHe] at this
    exact this
  clear hS hHe
  intro locs hS
  refine lv_aload_n hx hb dX12_number_0 rfl (lv_at hl 0 rfl) ?_
  refine va_get (D := (dC, dI)) (ci := 12) (v := .int (iI (A 0 8))) (C := RX12) (T := TX12) (N := 85) hx hb hts hiX12 hown hK hP 0 wm0 rfl 8 (by decide) (hts _ (List.mem_cons_of_mem _ (wl_in_0 _ (List.mem_of_getElem? (i := 16) rfl)))) (fun _ h9 => h9) rfl dX12_number_1 ?_
  have r_A_0_8 : (0 : Int) ≤ (A 0 8) ∧ (A 0 8) ≤ 5 := hI 0 8
  refine lv_if_le (tgt := 9) hx hb dX12_number_4 (by decide) (fun c1 => ?_) (fun c1 => ?_)
  · have c1 : (A 0 8) ≤ 0 := (i_le0 (rb r_A_0_8 (by decide) (by decide))).mp c1
    refine lv_aload_n hx hb dX12_number_9 rfl (lv_at hl 0 rfl) ?_
    refine va_get (D := (dC, dI)) (ci := 12) (v := .int (iI (A 0 3))) (C := RX12) (T := TX12) (N := 85) hx hb hts hiX12 hown hK hP 0 wm0 rfl 3 (by decide) (hts _ (List.mem_cons_of_mem _ (wl_in_0 _ (List.mem_of_getElem? (i := 24) rfl)))) (fun _ h9 => h9) rfl dX12_number_10 ?_
    have r_A_0_3 : (0 : Int) ≤ (A 0 3) ∧ (A 0 3) ≤ 3 := hI 0 3
    refine lv_iconst (v := iI 2) hx hb dX12_number_13 (by decide +kernel) ?_
    have J26_3 : ∀ (A8 : St) (H : Heap) (locs : List Loc) (ls : Array Slot), IM A8 → fr [] [8, 9] A A8 → va_P (dC, dI) vwCl (WM cI cJ cZ q A8) H → va_S AS s.heap H locs → lv_has ls 4 [(0, .ref (q 0)), (1, .int (iI x1)), (2, .int (iI x2))] → W p l e (headSpec ws_mc_X12_number ({ frames := 2, cells := 0, slots := 0, locals := 47 } : Room)).room s m [.ref (q 0), .int (iI x1), .int (iI x2)].toArray below meth c H locs 0 0 Q (F0 m 26 ls []) := by
      intro A8 H locs ls hI hj7 hP hS hl
      refine lv_aload_n hx hb dX12_number_26 rfl (lv_at hl 0 rfl) ?_
      refine va_get (D := (dC, dI)) (ci := 12) (v := .int (iI (A8 0 8))) (C := RX12) (T := TX12) (N := 85) hx hb hts hiX12 hown hK hP 0 wm0 rfl 8 (by decide) (hts _ (List.mem_cons_of_mem _ (wl_in_0 _ (List.mem_of_getElem? (i := 16) rfl)))) (fun _ h9 => h9) rfl dX12_number_27 ?_
      have r_A8_0_8 : (0 : Int) ≤ (A8 0 8) ∧ (A8 0 8) ≤ 5 := hI 0 8
      have J54_10 : ∀ (A19 : St) (H : Heap) (locs : List Loc) (ls : Array Slot), IM A19 → fr [] [8, 9] A8 A19 → va_P (dC, dI) vwCl (WM cI cJ cZ q A19) H → va_S AS s.heap H locs → lv_has ls 4 [(0, .ref (q 0)), (1, .int (iI x1)), (2, .int (iI x2))] → W p l e (headSpec ws_mc_X12_number ({ frames := 2, cells := 0, slots := 0, locals := 47 } : Room)).room s m [.ref (q 0), .int (iI x1), .int (iI x2)].toArray below meth c H locs 0 0 Q (F0 m 54 ls []) := by
        intro A19 H locs ls hI hj18 hP hS hl
        refine lv_aload_n hx hb dX12_number_54 rfl (lv_at hl 0 rfl) ?_
        have e_A8_6 : A8 0 6 = (A 0 6) := (hj7.2 6 rfl)
        have e_A19_6 : A19 0 6 = (A 0 6) := (hj18.2 6 rfl).trans e_A8_6
        refine va_get (D := (dC, dI)) (ci := 12) (v := .int (iI (A19 0 6))) (C := RX12) (T := TX12) (N := 85) hx hb hts hiX12 hown hK hP 0 wm0 rfl 6 (by decide) (hts _ (List.mem_cons_of_mem _ (wl_in_0 _ (List.mem_of_getElem? (i := 25) rfl)))) (fun _ h9 => h9) rfl dX12_number_55 ?_
        refine tp_i (y := iI (A 0 6)) (congrArg iI e_A19_6) ?_
        have r_A_0_6 : (-2147483648 : Int) ≤ (A 0 6) ∧ (A 0 6) ≤ 2147483647 := by rw [← e_A19_6]; exact hI 0 6
        refine lv_istore_n (lv' := [(3, .int (iI (A 0 6))), (0, .ref (q 0)), (1, .int (iI x1)), (2, .int (iI x2))]) hx hb dX12_number_58 rfl hl (by decide) rfl (fun ls hl => ?_)
        refine lv_aload_n hx hb dX12_number_59 rfl (lv_at hl 1 rfl) ?_
        refine va_get (D := (dC, dI)) (ci := 12) (v := .int (iI (A19 0 8))) (C := RX12) (T := TX12) (N := 85) hx hb hts hiX12 hown hK hP 0 wm0 rfl 8 (by decide) (hts _ (List.mem_cons_of_mem _ (wl_in_0 _ (List.mem_of_getElem? (i := 16) rfl)))) (fun _ h9 => h9) rfl dX12_number_60 ?_
        have r_A19_0_8 : (0 : Int) ≤ (A19 0 8) ∧ (A19 0 8) ≤ 5 := hI 0 8
        refine lv_if_ne (tgt := 70) hx hb dX12_number_63 (by decide) (fun c20 => ?_) (fun c20 => ?_)
        · have c20 : ¬ (A19 0 8) = 0 := mt (i_eq0 (rb r_A19_0_8 (by decide) (by decide))).mpr c20
          refine lv_iload_n hx hb dX12_number_70 rfl (lv_at hl 0 rfl) ?_
          exact RET (A 0 6) _ _ _ _ _ ⟨hI, fr.trans (fr.trans (fr.rf) hj7 rfl rfl) hj18 rfl rfl, by omega⟩ hP hS dX12_number_71
        · have c20 : (A19 0 8) = 0 := (i_eq0 (rb r_A19_0_8 (by decide) (by decide))).mp c20
          refine lv_aload_n hx hb dX12_number_66 rfl (lv_at hl 1 rfl) ?_
          refine x_callv (As := []) (rest := []) ⟨hx, hb, hml, hown, hts⟩ (mc_X12_ahead l dC dI cB cI cJ cZ cQ q _ hI) (cwV 0 hts (goodV (wl_in_0 _ (List.mem_of_getElem? (i := 40) rfl)) (wl_in_0 _ (List.mem_of_getElem? (i := 41) rfl)) (wl_in_0 _ (List.mem_of_getElem? (i := 42) rfl)) (wl_in_0 _ (List.mem_of_getElem? (i := 8) rfl)) (wl_in_0 _ (List.mem_of_getElem? (i := 20) rfl))) rfl rfl rfl (by decide +kernel) ⟨Nat.le_of_ble_eq_true rfl, Nat.le_of_ble_eq_true rfl⟩) hK hDD hA0 hP hS 0 12 wm0 rfl rfl hl.1 (Nat.le_of_ble_eq_true rfl) dX12_number_67 (fun A21 H locs hw22 hP hS => ?_)
          obtain ⟨hI, hf23, hw22⟩ := hw22
          clear hw22
          refine lv_iload_n hx hb dX12_number_70 rfl (lv_at hl 0 rfl) ?_
          exact RET (A 0 6) _ _ _ _ _ ⟨hI, fr.trans (fr.trans (fr.trans (fr.rf) hj7 rfl rfl) hj18 rfl rfl) hf23 rfl rfl, by omega⟩ hP hS dX12_number_71
      refine lv_if_ne (tgt := 54) hx hb dX12_number_30 (by decide) (fun c9 => ?_) (fun c9 => ?_)
      · have c9 : ¬ (A8 0 8) = 0 := mt (i_eq0 (rb r_A8_0_8 (by decide) (by decide))).mpr c9
        exact J54_10 _ _ _ _ hI (fr.rf) hP hS (lv_sub hl [0, 1, 2] rfl)
      · have c9 : (A8 0 8) = 0 := (i_eq0 (rb r_A8_0_8 (by decide) (by decide))).mp c9
        refine lv_aload_n hx hb dX12_number_33 rfl (lv_at hl 0 rfl) ?_
        have e_A8_6 : A8 0 6 = (A 0 6) := (hj7.2 6 rfl)
        refine va_get (D := (dC, dI)) (ci := 12) (v := .int (iI (A8 0 6))) (C := RX12) (T := TX12) (N := 85) hx hb hts hiX12 hown hK hP 0 wm0 rfl 6 (by decide) (hts _ (List.mem_cons_of_mem _ (wl_in_0 _ (List.mem_of_getElem? (i := 25) rfl)))) (fun _ h9 => h9) rfl dX12_number_34 ?_
        refine tp_i (y := iI (A 0 6)) (congrArg iI e_A8_6) ?_
        have r_A_0_6 : (-2147483648 : Int) ≤ (A 0 6) ∧ (A 0 6) ≤ 2147483647 := by rw [← e_A8_6]; exact hI 0 6
        refine lv_iload_n hx hb dX12_number_37 rfl (lv_at hl 1 rfl) ?_
        refine lv_iload_n hx hb dX12_number_38 rfl (lv_at hl 2 rfl) ?_
        refine x_callSi (As := [.int (iI (A 0 6)), .int (iI x1), .int (iI x2)]) (rest := []) ⟨hx, hb, hml, hown, hts⟩ (mc_X12_is l dC dI cB cI cJ cZ cQ q _ (A 0 6) x1 x2 hI r_A_0_6 hx1 hx2) (va_cwS 3 hts (goodS (wl_in_1 _ (List.mem_of_getElem? (i := 27) rfl)) (wl_in_1 _ (List.mem_of_getElem? (i := 28) rfl)) (wl_in_0 _ (List.mem_of_getElem? (i := 8) rfl)) (wl_in_0 _ (List.mem_of_getElem? (i := 0) rfl))) rfl rfl rfl (by decide +kernel) ⟨Nat.le_of_ble_eq_true rfl, Nat.le_of_ble_eq_true rfl⟩) hK hDD hA0 hP hS rfl hl.1 (Nat.le_of_ble_eq_true rfl) dX12_number_39 (fun z11 A12 H locs hw13 hP hS => ?_)
        obtain ⟨rfl, hw13⟩ := hw13
        have hw13 := hw13.2
        have rz11 : 0 ≤ z11 ∧ z11 ≤ 1 := hw13.1
        refine lv_if_ne (tgt := 54) hx hb dX12_number_42 (by decide) (fun c14 => ?_) (fun c14 => ?_)
        · have c14 : ¬ z11 = 0 := mt (i_eq0 (rb rz11 (by decide) (by decide))).mpr c14
          have hw13b := hw13.2.mp (by omega)
          clear hw13
          exact J54_10 _ _ _ _ hI (fr.rf) hP hS (lv_sub hl [0, 1, 2] rfl)
        · have c14 : z11 = 0 := (i_eq0 (rb rz11 (by decide) (by decide))).mp c14
          have hw13b := mt hw13.2.mpr (by omega)
          clear hw13
          refine lv_aload_n hx hb dX12_number_45 rfl (lv_at hl 0 rfl) ?_
          refine lv_iconst (v := iI 4) hx hb dX12_number_46 (by decide +kernel) ?_
          refine lv_aload_n hx hb dX12_number_47 rfl (lv_at hl 0 rfl) ?_
          have e_A8_4 : A8 0 4 = (A 0 4) := (hj7.2 4 rfl)
          refine va_get (D := (dC, dI)) (ci := 12) (v := .int (iI (A8 0 4))) (C := RX12) (T := TX12) (N := 85) hx hb hts hiX12 hown hK hP 0 wm0 rfl 4 (by decide) (hts _ (List.mem_cons_of_mem _ (wl_in_0 _ (List.mem_of_getElem? (i := 23) rfl)))) (fun _ h9 => h9) rfl dX12_number_48 ?_
          refine tp_i (y := iI (A 0 4)) (congrArg iI e_A8_4) ?_
          have r_A_0_4 : (0 : Int) ≤ (A 0 4) ∧ (A 0 4) ≤ 1600 := by rw [← e_A8_4]; exact hI 0 4
          refine x_callv (As := [.int (iI 4), .int (iI (A 0 4))]) (rest := []) ⟨hx, hb, hml, hown, hts⟩ (mc_X12_blame l dC dI cB cI cJ cZ cQ q _ 4 (A 0 4) hI ⟨by decide, by decide⟩ r_A_0_4) (cwV 2 hts (goodV (wl_in_0 _ (List.mem_of_getElem? (i := 31) rfl)) (wl_in_0 _ (List.mem_of_getElem? (i := 32) rfl)) (wl_in_0 _ (List.mem_of_getElem? (i := 33) rfl)) (wl_in_0 _ (List.mem_of_getElem? (i := 8) rfl)) (wl_in_0 _ (List.mem_of_getElem? (i := 15) rfl))) rfl rfl rfl (by decide +kernel) ⟨Nat.le_of_ble_eq_true rfl, Nat.le_of_ble_eq_true rfl⟩) hK hDD hA0 hP hS 0 12 wm0 rfl rfl hl.1 (Nat.le_of_ble_eq_true rfl) dX12_number_51 (fun A15 H locs hw16 hP hS => ?_)
          obtain ⟨_, hI, hf17, hw16⟩ := hw16
          have r_A15_0_8 : (0 : Int) ≤ (A15 0 8) ∧ (A15 0 8) ≤ 5 := hI 0 8
          exact J54_10 _ _ _ _ hI (fr.trans (fr.rf) hf17 rfl rfl) hP hS (lv_sub hl [0, 1, 2] rfl)
    refine lv_icmp_eq (tgt := 26) hx hb dX12_number_14 (by decide) (fun c2 => ?_) (fun c2 => ?_)
    · have c2 : (A 0 3) = 2 := (i_eq (rb r_A_0_3 (by decide) (by decide)) ⟨by decide, by decide⟩).mp c2
      exact J26_3 _ _ _ _ hI (fr.rf) hP hS (lv_sub hl [0, 1, 2] rfl)
    · have c2 : ¬ (A 0 3) = 2 := mt (i_eq (rb r_A_0_3 (by decide) (by decide)) ⟨by decide, by decide⟩).mpr c2
      refine lv_aload_n hx hb dX12_number_17 rfl (lv_at hl 0 rfl) ?_
      refine lv_iconst (v := iI 1) hx hb dX12_number_18 (by decide +kernel) ?_
      refine lv_aload_n hx hb dX12_number_19 rfl (lv_at hl 0 rfl) ?_
      refine va_get (D := (dC, dI)) (ci := 12) (v := .int (iI (A 0 4))) (C := RX12) (T := TX12) (N := 85) hx hb hts hiX12 hown hK hP 0 wm0 rfl 4 (by decide) (hts _ (List.mem_cons_of_mem _ (wl_in_0 _ (List.mem_of_getElem? (i := 23) rfl)))) (fun _ h9 => h9) rfl dX12_number_20 ?_
      have r_A_0_4 : (0 : Int) ≤ (A 0 4) ∧ (A 0 4) ≤ 1600 := hI 0 4
      refine x_callv (As := [.int (iI 1), .int (iI (A 0 4))]) (rest := []) ⟨hx, hb, hml, hown, hts⟩ (mc_X12_blame l dC dI cB cI cJ cZ cQ q _ 1 (A 0 4) hI ⟨by decide, by decide⟩ r_A_0_4) (cwV 2 hts (goodV (wl_in_0 _ (List.mem_of_getElem? (i := 31) rfl)) (wl_in_0 _ (List.mem_of_getElem? (i := 32) rfl)) (wl_in_0 _ (List.mem_of_getElem? (i := 33) rfl)) (wl_in_0 _ (List.mem_of_getElem? (i := 8) rfl)) (wl_in_0 _ (List.mem_of_getElem? (i := 15) rfl))) rfl rfl rfl (by decide +kernel) ⟨Nat.le_of_ble_eq_true rfl, Nat.le_of_ble_eq_true rfl⟩) hK hDD hA0 hP hS 0 12 wm0 rfl rfl hl.1 (Nat.le_of_ble_eq_true rfl) dX12_number_23 (fun A4 H locs hw5 hP hS => ?_)
      obtain ⟨_, hI, hf6, hw5⟩ := hw5
      have r_A4_0_8 : (0 : Int) ≤ (A4 0 8) ∧ (A4 0 8) ≤ 5 := hI 0 8
      exact J26_3 _ _ _ _ hI (fr.trans (fr.rf) hf6 rfl rfl) hP hS (lv_sub hl [0, 1, 2] rfl)
  · have c1 : ¬ (A 0 8) ≤ 0 := mt (i_le0 (rb r_A_0_8 (by decide) (by decide))).mpr c1
    refine lv_iconst (v := iI 0) hx hb dX12_number_7 (by decide +kernel) ?_
    exact RET 0 _ _ _ _ _ ⟨hI, fr.rf, by omega⟩ hP hS dX12_number_8
