abbrev tr_r_X12_isPlace (x1 : Int) (A : St) (z : Int) : Prop := (∃ z1 : Int, z1 = A 2 ((A 0 12)).toNat ∧ (∃ z2 : Int, q_X12_is x1 0 (z1 - 1) A z2 ∧ (z = z2)))
def r_X12_isPlace (x1 : Int) (A : St) (z : Int) : Prop := tr_r_X12_isPlace x1 A z
theorem u_r_X12_isPlace {x1 : Int} {A : St} {z : Int} (h : tr_r_X12_isPlace x1 A z) : r_X12_isPlace x1 A z := h
def q_X12_isPlace (x1 : Int) (A : St) (z : Int) : Prop := r_X12_isPlace x1 A z ∧ ((0 ≤ z ∧ z ≤ 1) ∧ (z = 1 ↔ 0 ≤ x1 ∧ x1 < A 2 (A 0 12).toNat ∧ A 2 (A 0 12).toNat ≤ 8))
def ws_mc_X12_isPlaceB : List Cond := .code yX12_isPlace cX12_isPlace 2 (some .boolean) :: WX
set_option maxHeartbeats 4000000 in
set_option maxRecDepth 100000 in
theorem mc_X12_isPlaceB (l : Launch) (dC : Nat → ClassId) (dI : Nat → Nat → Nat) (cB cI cJ cZ cQ : ClassId) (q : Nat → Nat) (A : St) (x1 : Int) (hI : IM A) (hx1 : (-2147483648 : Int) ≤ x1 ∧ x1 ≤ 2147483647) : XMi l yX12_isPlace ws_mc_X12_isPlaceB ({ frames := 1, cells := 0, slots := 0, locals := 22 } : Room) (dC, dI) (tyA cB cI cJ cZ cQ) (WM cI cJ cZ q) A [.ref (q 0), .int (iI x1)] (fun z u => A = u ∧ r_X12_isPlace x1 A z ∧ ((0 ≤ z ∧ z ≤ 1) ∧ (z = 1 ↔ 0 ≤ x1 ∧ x1 < A 2 (A 0 12).toNat ∧ A 2 (A 0 12).toNat ≤ 8))) := by
  refine x_metz (cc := cX12_isPlace) (maxL := 2) WM_adr (by decide +kernel) rfl (Nat.le_of_ble_eq_true rfl) (fun z u h => h.2.2.1) (fun p e s m below meth c Q AS ls hx hb hml hown hts hK hDD hA0 hP hS hl RET => ?_)
  have hown : s.vm.findClass RX12 = some m.cls := hown
  have hl : lv_has ls 2 [(0, .ref (q 0)), (1, .int (iI x1))] := hl
  have hiX12 : ∀ w ∈ u_ws RX12 TX12 85, w ∈ ws_mc_X12_isPlaceB := fun w h => List.mem_cons_of_mem _ (wx_lay w h)
  obtain ⟨H, hHe⟩ : ∃ H : Heap, H = s.heap := ⟨_, rfl⟩
  rw [← hHe] at hP
  have hS : va_S AS s.heap H [] := by rw [hHe]; exact hS
  suffices hgo : ∀ locs : List Loc, va_S AS s.heap H locs → W p l e (headSpec ws_mc_X12_isPlaceB ({ frames := 1, cells := 0, slots := 0, locals := 22 } : Room)).room s m [.ref (q 0), .int (iI x1)].toArray below meth c H locs 0 0 Q (F0 m 0 ls []) by
    have := hgo [] hS
    rw [hHe] at this
    exact this
  clear hS hHe
  intro locs hS
  refine lv_iload_n hx hb dX12_isPlace_0 rfl (lv_at hl 1 rfl) ?_
  refine lv_iconst (v := iI 0) hx hb dX12_isPlace_1 (by decide +kernel) ?_
  refine lv_aload_n hx hb dX12_isPlace_2 rfl (lv_at hl 0 rfl) ?_
  refine va_get (D := (dC, dI)) (ci := 12) (v := .ref (q 2)) (C := RX12) (T := TX12) (N := 85) hx hb hts hiX12 hown hK hP 0 wm0 rfl 13 (by decide) (hts _ (List.mem_cons_of_mem _ (wl_in_1 _ (List.mem_of_getElem? (i := 11) rfl)))) (fun _ h9 => h9) rfl dX12_isPlace_3 ?_
  refine lv_aload_n hx hb dX12_isPlace_6 rfl (lv_at hl 0 rfl) ?_
  refine va_get (D := (dC, dI)) (ci := 12) (v := .int (iI (A 0 12))) (C := RX12) (T := TX12) (N := 85) hx hb hts hiX12 hown hK hP 0 wm0 rfl 12 (by decide) (hts _ (List.mem_cons_of_mem _ (wl_in_4 _ (List.mem_of_getElem? (i := 14) rfl)))) (fun _ h9 => h9) rfl dX12_isPlace_7 ?_
  have r_A_0_12 : (0 : Int) ≤ (A 0 12) ∧ (A 0 12) ≤ 1 := hI 0 12
  refine x_iald hx hb hK hP 2 1 wm2 rfl (by omega) (by decide) dX12_isPlace_10 (fun z1 hz1 => ?_)
  have rz1 : (0 : Int) ≤ z1 ∧ z1 ≤ 8 := by rw [hz1]; exact hI 2 _
  have gz1 := Hd.mk hz1
  have hz1 : z1 = A 2 ((A 0 12)).toNat := hz1
  refine lv_iconst (v := iI 1) hx hb dX12_isPlace_11 (by decide +kernel) ?_
  refine x_subv (v := z1 - 1) hx hb dX12_isPlace_12 (by omega) ?_
  refine x_callSi (As := [.int (iI x1), .int (iI 0), .int (iI (z1 - 1))]) (rest := []) ⟨hx, hb, hml, hown, hts⟩ (mc_X12_is l dC dI cB cI cJ cZ cQ q _ x1 0 (z1 - 1) hI hx1 ⟨by decide, by decide⟩ (by omega)) (va_cwS 3 hts (goodS (wl_in_1 _ (List.mem_of_getElem? (i := 27) rfl)) (wl_in_1 _ (List.mem_of_getElem? (i := 28) rfl)) (wl_in_0 _ (List.mem_of_getElem? (i := 8) rfl)) (wl_in_0 _ (List.mem_of_getElem? (i := 0) rfl))) rfl rfl rfl (by decide +kernel) ⟨Nat.le_of_ble_eq_true rfl, Nat.le_of_ble_eq_true rfl⟩) hK hDD hA0 hP hS rfl hl.1 (Nat.le_of_ble_eq_true rfl) dX12_isPlace_13 (fun z2 A3 H locs hw4 hP hS => ?_)
  obtain ⟨rfl, hw4⟩ := hw4
  have ghw4 : q_X12_is x1 0 (z1 - 1) A z2 := hw4
  have hw4 := hw4.2
  have rz2 : 0 ≤ z2 ∧ z2 ≤ 1 := hw4.1
  exact RET z2 _ _ _ _ _ ⟨rfl, (u_r_X12_isPlace ⟨z1, gz1.out, ⟨z2, ghw4, rfl⟩⟩), by omega⟩ hP hS dX12_isPlace_16

abbrev tr_r_X12_isDoor (x1 : Int) (A : St) (z : Int) : Prop := (∃ z1 : Int, z1 = A 4 ((A 0 12)).toNat ∧ (∃ z2 : Int, q_X12_is x1 0 (z1 - 1) A z2 ∧ (z = z2)))
def r_X12_isDoor (x1 : Int) (A : St) (z : Int) : Prop := tr_r_X12_isDoor x1 A z
theorem u_r_X12_isDoor {x1 : Int} {A : St} {z : Int} (h : tr_r_X12_isDoor x1 A z) : r_X12_isDoor x1 A z := h
def q_X12_isDoor (x1 : Int) (A : St) (z : Int) : Prop := r_X12_isDoor x1 A z ∧ ((0 ≤ z ∧ z ≤ 1) ∧ (z = 1 ↔ 0 ≤ x1 ∧ x1 < A 4 (A 0 12).toNat ∧ A 4 (A 0 12).toNat ≤ 10))
def ws_mc_X12_isDoorB : List Cond := .code yX12_isDoor cX12_isDoor 2 (some .boolean) :: WX
set_option maxHeartbeats 4000000 in
set_option maxRecDepth 100000 in
theorem mc_X12_isDoorB (l : Launch) (dC : Nat → ClassId) (dI : Nat → Nat → Nat) (cB cI cJ cZ cQ : ClassId) (q : Nat → Nat) (A : St) (x1 : Int) (hI : IM A) (hx1 : (-2147483648 : Int) ≤ x1 ∧ x1 ≤ 2147483647) : XMi l yX12_isDoor ws_mc_X12_isDoorB ({ frames := 1, cells := 0, slots := 0, locals := 22 } : Room) (dC, dI) (tyA cB cI cJ cZ cQ) (WM cI cJ cZ q) A [.ref (q 0), .int (iI x1)] (fun z u => A = u ∧ r_X12_isDoor x1 A z ∧ ((0 ≤ z ∧ z ≤ 1) ∧ (z = 1 ↔ 0 ≤ x1 ∧ x1 < A 4 (A 0 12).toNat ∧ A 4 (A 0 12).toNat ≤ 10))) := by
  refine x_metz (cc := cX12_isDoor) (maxL := 2) WM_adr (by decide +kernel) rfl (Nat.le_of_ble_eq_true rfl) (fun z u h => h.2.2.1) (fun p e s m below meth c Q AS ls hx hb hml hown hts hK hDD hA0 hP hS hl RET => ?_)
  have hown : s.vm.findClass RX12 = some m.cls := hown
  have hl : lv_has ls 2 [(0, .ref (q 0)), (1, .int (iI x1))] := hl
  have hiX12 : ∀ w ∈ u_ws RX12 TX12 85, w ∈ ws_mc_X12_isDoorB := fun w h => List.mem_cons_of_mem _ (wx_lay w h)
  obtain ⟨H, hHe⟩ : ∃ H : Heap, H = s.heap := ⟨_, rfl⟩
  rw [← hHe] at hP
  have hS : va_S AS s.heap H [] := by rw [hHe]; exact hS
  suffices hgo : ∀ locs : List Loc, va_S AS s.heap H locs → W p l e (headSpec ws_mc_X12_isDoorB ({ frames := 1, cells := 0, slots := 0, locals := 22 } : Room)).room s m [.ref (q 0), .int (iI x1)].toArray below meth c H locs 0 0 Q (F0 m 0 ls []) by
    have := hgo [] hS
    rw [hHe] at this
    exact this
  clear hS hHe
  intro locs hS
  refine lv_iload_n hx hb dX12_isDoor_0 rfl (lv_at hl 1 rfl) ?_
  refine lv_iconst (v := iI 0) hx hb dX12_isDoor_1 (by decide +kernel) ?_
  refine lv_aload_n hx hb dX12_isDoor_2 rfl (lv_at hl 0 rfl) ?_
  refine va_get (D := (dC, dI)) (ci := 12) (v := .ref (q 4)) (C := RX12) (T := TX12) (N := 85) hx hb hts hiX12 hown hK hP 0 wm0 rfl 15 (by decide) (hts _ (List.mem_cons_of_mem _ (wl_in_1 _ (List.mem_of_getElem? (i := 13) rfl)))) (fun _ h9 => h9) rfl dX12_isDoor_3 ?_
  refine lv_aload_n hx hb dX12_isDoor_6 rfl (lv_at hl 0 rfl) ?_
  refine va_get (D := (dC, dI)) (ci := 12) (v := .int (iI (A 0 12))) (C := RX12) (T := TX12) (N := 85) hx hb hts hiX12 hown hK hP 0 wm0 rfl 12 (by decide) (hts _ (List.mem_cons_of_mem _ (wl_in_4 _ (List.mem_of_getElem? (i := 14) rfl)))) (fun _ h9 => h9) rfl dX12_isDoor_7 ?_
  have r_A_0_12 : (0 : Int) ≤ (A 0 12) ∧ (A 0 12) ≤ 1 := hI 0 12
  refine x_iald hx hb hK hP 4 1 wm4 rfl (by omega) (by decide) dX12_isDoor_10 (fun z1 hz1 => ?_)
  have rz1 : (0 : Int) ≤ z1 ∧ z1 ≤ 10 := by rw [hz1]; exact hI 4 _
  have gz1 := Hd.mk hz1
  have hz1 : z1 = A 4 ((A 0 12)).toNat := hz1
  refine lv_iconst (v := iI 1) hx hb dX12_isDoor_11 (by decide +kernel) ?_
  refine x_subv (v := z1 - 1) hx hb dX12_isDoor_12 (by omega) ?_
  refine x_callSi (As := [.int (iI x1), .int (iI 0), .int (iI (z1 - 1))]) (rest := []) ⟨hx, hb, hml, hown, hts⟩ (mc_X12_is l dC dI cB cI cJ cZ cQ q _ x1 0 (z1 - 1) hI hx1 ⟨by decide, by decide⟩ (by omega)) (va_cwS 3 hts (goodS (wl_in_1 _ (List.mem_of_getElem? (i := 27) rfl)) (wl_in_1 _ (List.mem_of_getElem? (i := 28) rfl)) (wl_in_0 _ (List.mem_of_getElem? (i := 8) rfl)) (wl_in_0 _ (List.mem_of_getElem? (i := 0) rfl))) rfl rfl rfl (by decide +kernel) ⟨Nat.le_of_ble_eq_true rfl, Nat.le_of_ble_eq_true rfl⟩) hK hDD hA0 hP hS rfl hl.1 (Nat.le_of_ble_eq_true rfl) dX12_isDoor_13 (fun z2 A3 H locs hw4 hP hS => ?_)
  obtain ⟨rfl, hw4⟩ := hw4
  have ghw4 : q_X12_is x1 0 (z1 - 1) A z2 := hw4
  have hw4 := hw4.2
  have rz2 : 0 ≤ z2 ∧ z2 ≤ 1 := hw4.1
  exact RET z2 _ _ _ _ _ ⟨rfl, (u_r_X12_isDoor ⟨z1, gz1.out, ⟨z2, ghw4, rfl⟩⟩), by omega⟩ hP hS dX12_isDoor_16

abbrev tr_r_X12_isKey (x1 : Int) (A : St) (z : Int) : Prop := (∃ z1 : Int, z1 = A 11 ((A 0 12)).toNat ∧ (∃ z2 : Int, q_X12_is x1 0 (z1 - 1) A z2 ∧ (z = z2)))
def r_X12_isKey (x1 : Int) (A : St) (z : Int) : Prop := tr_r_X12_isKey x1 A z
theorem u_r_X12_isKey {x1 : Int} {A : St} {z : Int} (h : tr_r_X12_isKey x1 A z) : r_X12_isKey x1 A z := h
def q_X12_isKey (x1 : Int) (A : St) (z : Int) : Prop := r_X12_isKey x1 A z ∧ ((0 ≤ z ∧ z ≤ 1) ∧ (z = 1 ↔ 0 ≤ x1 ∧ x1 < A 11 (A 0 12).toNat ∧ A 11 (A 0 12).toNat ≤ 4))
def ws_mc_X12_isKeyB : List Cond := .code yX12_isKey cX12_isKey 2 (some .boolean) :: WX
set_option maxHeartbeats 4000000 in
set_option maxRecDepth 100000 in
theorem mc_X12_isKeyB (l : Launch) (dC : Nat → ClassId) (dI : Nat → Nat → Nat) (cB cI cJ cZ cQ : ClassId) (q : Nat → Nat) (A : St) (x1 : Int) (hI : IM A) (hx1 : (-2147483648 : Int) ≤ x1 ∧ x1 ≤ 2147483647) : XMi l yX12_isKey ws_mc_X12_isKeyB ({ frames := 1, cells := 0, slots := 0, locals := 22 } : Room) (dC, dI) (tyA cB cI cJ cZ cQ) (WM cI cJ cZ q) A [.ref (q 0), .int (iI x1)] (fun z u => A = u ∧ r_X12_isKey x1 A z ∧ ((0 ≤ z ∧ z ≤ 1) ∧ (z = 1 ↔ 0 ≤ x1 ∧ x1 < A 11 (A 0 12).toNat ∧ A 11 (A 0 12).toNat ≤ 4))) := by
  refine x_metz (cc := cX12_isKey) (maxL := 2) WM_adr (by decide +kernel) rfl (Nat.le_of_ble_eq_true rfl) (fun z u h => h.2.2.1) (fun p e s m below meth c Q AS ls hx hb hml hown hts hK hDD hA0 hP hS hl RET => ?_)
  have hown : s.vm.findClass RX12 = some m.cls := hown
  have hl : lv_has ls 2 [(0, .ref (q 0)), (1, .int (iI x1))] := hl
  have hiX12 : ∀ w ∈ u_ws RX12 TX12 85, w ∈ ws_mc_X12_isKeyB := fun w h => List.mem_cons_of_mem _ (wx_lay w h)
  obtain ⟨H, hHe⟩ : ∃ H : Heap, H = s.heap := ⟨_, rfl⟩
  rw [← hHe] at hP
  have hS : va_S AS s.heap H [] := by rw [hHe]; exact hS
  suffices hgo : ∀ locs : List Loc, va_S AS s.heap H locs → W p l e (headSpec ws_mc_X12_isKeyB ({ frames := 1, cells := 0, slots := 0, locals := 22 } : Room)).room s m [.ref (q 0), .int (iI x1)].toArray below meth c H locs 0 0 Q (F0 m 0 ls []) by
    have := hgo [] hS
    rw [hHe] at this
    exact this
  clear hS hHe
  intro locs hS
  refine lv_iload_n hx hb dX12_isKey_0 rfl (lv_at hl 1 rfl) ?_
  refine lv_iconst (v := iI 0) hx hb dX12_isKey_1 (by decide +kernel) ?_
  refine lv_aload_n hx hb dX12_isKey_2 rfl (lv_at hl 0 rfl) ?_
  refine va_get (D := (dC, dI)) (ci := 12) (v := .ref (q 11)) (C := RX12) (T := TX12) (N := 85) hx hb hts hiX12 hown hK hP 0 wm0 rfl 22 (by decide) (hts _ (List.mem_cons_of_mem _ (wl_in_1 _ (List.mem_of_getElem? (i := 14) rfl)))) (fun _ h9 => h9) rfl dX12_isKey_3 ?_
  refine lv_aload_n hx hb dX12_isKey_6 rfl (lv_at hl 0 rfl) ?_
  refine va_get (D := (dC, dI)) (ci := 12) (v := .int (iI (A 0 12))) (C := RX12) (T := TX12) (N := 85) hx hb hts hiX12 hown hK hP 0 wm0 rfl 12 (by decide) (hts _ (List.mem_cons_of_mem _ (wl_in_4 _ (List.mem_of_getElem? (i := 14) rfl)))) (fun _ h9 => h9) rfl dX12_isKey_7 ?_
  have r_A_0_12 : (0 : Int) ≤ (A 0 12) ∧ (A 0 12) ≤ 1 := hI 0 12
  refine x_iald hx hb hK hP 11 1 wm11 rfl (by omega) (by decide) dX12_isKey_10 (fun z1 hz1 => ?_)
  have rz1 : (0 : Int) ≤ z1 ∧ z1 ≤ 4 := by rw [hz1]; exact hI 11 _
  have gz1 := Hd.mk hz1
  have hz1 : z1 = A 11 ((A 0 12)).toNat := hz1
  refine lv_iconst (v := iI 1) hx hb dX12_isKey_11 (by decide +kernel) ?_
  refine x_subv (v := z1 - 1) hx hb dX12_isKey_12 (by omega) ?_
  refine x_callSi (As := [.int (iI x1), .int (iI 0), .int (iI (z1 - 1))]) (rest := []) ⟨hx, hb, hml, hown, hts⟩ (mc_X12_is l dC dI cB cI cJ cZ cQ q _ x1 0 (z1 - 1) hI hx1 ⟨by decide, by decide⟩ (by omega)) (va_cwS 3 hts (goodS (wl_in_1 _ (List.mem_of_getElem? (i := 27) rfl)) (wl_in_1 _ (List.mem_of_getElem? (i := 28) rfl)) (wl_in_0 _ (List.mem_of_getElem? (i := 8) rfl)) (wl_in_0 _ (List.mem_of_getElem? (i := 0) rfl))) rfl rfl rfl (by decide +kernel) ⟨Nat.le_of_ble_eq_true rfl, Nat.le_of_ble_eq_true rfl⟩) hK hDD hA0 hP hS rfl hl.1 (Nat.le_of_ble_eq_true rfl) dX12_isKey_13 (fun z2 A3 H locs hw4 hP hS => ?_)
  obtain ⟨rfl, hw4⟩ := hw4
  have ghw4 : q_X12_is x1 0 (z1 - 1) A z2 := hw4
  have hw4 := hw4.2
  have rz2 : 0 ≤ z2 ∧ z2 ≤ 1 := hw4.1
  exact RET z2 _ _ _ _ _ ⟨rfl, (u_r_X12_isKey ⟨z1, gz1.out, ⟨z2, ghw4, rfl⟩⟩), by omega⟩ hP hS dX12_isKey_16

abbrev tr_r_X12_isPerson (x1 : Int) (A : St) (z : Int) : Prop := (∃ z1 : Int, z1 = A 16 ((A 0 12)).toNat ∧ (∃ z2 : Int, q_X12_is x1 0 (z1 - 1) A z2 ∧ (z = z2)))
def r_X12_isPerson (x1 : Int) (A : St) (z : Int) : Prop := tr_r_X12_isPerson x1 A z
theorem u_r_X12_isPerson {x1 : Int} {A : St} {z : Int} (h : tr_r_X12_isPerson x1 A z) : r_X12_isPerson x1 A z := h
def q_X12_isPerson (x1 : Int) (A : St) (z : Int) : Prop := r_X12_isPerson x1 A z ∧ ((0 ≤ z ∧ z ≤ 1) ∧ (z = 1 ↔ 0 ≤ x1 ∧ x1 < A 16 (A 0 12).toNat ∧ A 16 (A 0 12).toNat ≤ 3))
def ws_mc_X12_isPersonB : List Cond := .code yX12_isPerson cX12_isPerson 2 (some .boolean) :: WX
set_option maxHeartbeats 4000000 in
set_option maxRecDepth 100000 in
theorem mc_X12_isPersonB (l : Launch) (dC : Nat → ClassId) (dI : Nat → Nat → Nat) (cB cI cJ cZ cQ : ClassId) (q : Nat → Nat) (A : St) (x1 : Int) (hI : IM A) (hx1 : (-2147483648 : Int) ≤ x1 ∧ x1 ≤ 2147483647) : XMi l yX12_isPerson ws_mc_X12_isPersonB ({ frames := 1, cells := 0, slots := 0, locals := 22 } : Room) (dC, dI) (tyA cB cI cJ cZ cQ) (WM cI cJ cZ q) A [.ref (q 0), .int (iI x1)] (fun z u => A = u ∧ r_X12_isPerson x1 A z ∧ ((0 ≤ z ∧ z ≤ 1) ∧ (z = 1 ↔ 0 ≤ x1 ∧ x1 < A 16 (A 0 12).toNat ∧ A 16 (A 0 12).toNat ≤ 3))) := by
  refine x_metz (cc := cX12_isPerson) (maxL := 2) WM_adr (by decide +kernel) rfl (Nat.le_of_ble_eq_true rfl) (fun z u h => h.2.2.1) (fun p e s m below meth c Q AS ls hx hb hml hown hts hK hDD hA0 hP hS hl RET => ?_)
  have hown : s.vm.findClass RX12 = some m.cls := hown
  have hl : lv_has ls 2 [(0, .ref (q 0)), (1, .int (iI x1))] := hl
  have hiX12 : ∀ w ∈ u_ws RX12 TX12 85, w ∈ ws_mc_X12_isPersonB := fun w h => List.mem_cons_of_mem _ (wx_lay w h)
  obtain ⟨H, hHe⟩ : ∃ H : Heap, H = s.heap := ⟨_, rfl⟩
  rw [← hHe] at hP
  have hS : va_S AS s.heap H [] := by rw [hHe]; exact hS
  suffices hgo : ∀ locs : List Loc, va_S AS s.heap H locs → W p l e (headSpec ws_mc_X12_isPersonB ({ frames := 1, cells := 0, slots := 0, locals := 22 } : Room)).room s m [.ref (q 0), .int (iI x1)].toArray below meth c H locs 0 0 Q (F0 m 0 ls []) by
    have := hgo [] hS
    rw [hHe] at this
    exact this
  clear hS hHe
  intro locs hS
  refine lv_iload_n hx hb dX12_isPerson_0 rfl (lv_at hl 1 rfl) ?_
  refine lv_iconst (v := iI 0) hx hb dX12_isPerson_1 (by decide +kernel) ?_
  refine lv_aload_n hx hb dX12_isPerson_2 rfl (lv_at hl 0 rfl) ?_
  refine va_get (D := (dC, dI)) (ci := 12) (v := .ref (q 16)) (C := RX12) (T := TX12) (N := 85) hx hb hts hiX12 hown hK hP 0 wm0 rfl 27 (by decide) (hts _ (List.mem_cons_of_mem _ (wl_in_1 _ (List.mem_of_getElem? (i := 15) rfl)))) (fun _ h9 => h9) rfl dX12_isPerson_3 ?_
  refine lv_aload_n hx hb dX12_isPerson_6 rfl (lv_at hl 0 rfl) ?_
  refine va_get (D := (dC, dI)) (ci := 12) (v := .int (iI (A 0 12))) (C := RX12) (T := TX12) (N := 85) hx hb hts hiX12 hown hK hP 0 wm0 rfl 12 (by decide) (hts _ (List.mem_cons_of_mem _ (wl_in_4 _ (List.mem_of_getElem? (i := 14) rfl)))) (fun _ h9 => h9) rfl dX12_isPerson_7 ?_
  have r_A_0_12 : (0 : Int) ≤ (A 0 12) ∧ (A 0 12) ≤ 1 := hI 0 12
  refine x_iald hx hb hK hP 16 1 wm16 rfl (by omega) (by decide) dX12_isPerson_10 (fun z1 hz1 => ?_)
  have rz1 : (0 : Int) ≤ z1 ∧ z1 ≤ 3 := by rw [hz1]; exact hI 16 _
  have gz1 := Hd.mk hz1
  have hz1 : z1 = A 16 ((A 0 12)).toNat := hz1
  refine lv_iconst (v := iI 1) hx hb dX12_isPerson_11 (by decide +kernel) ?_
  refine x_subv (v := z1 - 1) hx hb dX12_isPerson_12 (by omega) ?_
  refine x_callSi (As := [.int (iI x1), .int (iI 0), .int (iI (z1 - 1))]) (rest := []) ⟨hx, hb, hml, hown, hts⟩ (mc_X12_is l dC dI cB cI cJ cZ cQ q _ x1 0 (z1 - 1) hI hx1 ⟨by decide, by decide⟩ (by omega)) (va_cwS 3 hts (goodS (wl_in_1 _ (List.mem_of_getElem? (i := 27) rfl)) (wl_in_1 _ (List.mem_of_getElem? (i := 28) rfl)) (wl_in_0 _ (List.mem_of_getElem? (i := 8) rfl)) (wl_in_0 _ (List.mem_of_getElem? (i := 0) rfl))) rfl rfl rfl (by decide +kernel) ⟨Nat.le_of_ble_eq_true rfl, Nat.le_of_ble_eq_true rfl⟩) hK hDD hA0 hP hS rfl hl.1 (Nat.le_of_ble_eq_true rfl) dX12_isPerson_13 (fun z2 A3 H locs hw4 hP hS => ?_)
  obtain ⟨rfl, hw4⟩ := hw4
  have ghw4 : q_X12_is x1 0 (z1 - 1) A z2 := hw4
  have hw4 := hw4.2
  have rz2 : 0 ≤ z2 ∧ z2 ≤ 1 := hw4.1
  exact RET z2 _ _ _ _ _ ⟨rfl, (u_r_X12_isPerson ⟨z1, gz1.out, ⟨z2, ghw4, rfl⟩⟩), by omega⟩ hP hS dX12_isPerson_16

abbrev tr_d_X12_isInRow_1 (x1 : Int) (x2 : Int) (A : St) (z : Int) (K1 : Int → Prop) (z1 : Int) : Prop := ((0 ≤ z1 ∧ z1 ≤ 2147483647) ∧ (∃ z9 : Int, z9 = A 14 (x1).toNat ∧ (((z9 ≤ z1) ∧ (z = 0)) ∨ ((¬ z9 ≤ z1) ∧ (∃ z11 : Int, z11 = A 15 (10 * x1 + z1).toNat ∧ (((¬ z11 = x2) ∧ (K1 (z1 + 1))) ∨ ((z11 = x2) ∧ (z = 1))))))))
def d_X12_isInRow_1 (x1 : Int) (x2 : Int) (A : St) (z : Int) : Nat → Int → Prop
  | 0, _ => False
  | nn9 + 1, z1 => tr_d_X12_isInRow_1 x1 x2 A z (fun z1 => d_X12_isInRow_1 x1 x2 A z nn9 z1) z1
theorem u_d_X12_isInRow_1 {x1 : Int} {x2 : Int} {A : St} {z : Int} {nn9 : Nat} {z1 : Int} (h : tr_d_X12_isInRow_1 x1 x2 A z (fun z1 => d_X12_isInRow_1 x1 x2 A z nn9 z1) z1) : d_X12_isInRow_1 x1 x2 A z (nn9 + 1) z1 := h
abbrev tr_r_X12_isInRow (x1 : Int) (x2 : Int) (A : St) (z : Int) : Prop := (∃ nn9 : Nat, d_X12_isInRow_1 x1 x2 A z nn9 0)
def r_X12_isInRow (x1 : Int) (x2 : Int) (A : St) (z : Int) : Prop := tr_r_X12_isInRow x1 x2 A z
theorem u_r_X12_isInRow {x1 : Int} {x2 : Int} {A : St} {z : Int} (h : tr_r_X12_isInRow x1 x2 A z) : r_X12_isInRow x1 x2 A z := h
def q_X12_isInRow (x1 : Int) (x2 : Int) (A : St) (z : Int) : Prop := r_X12_isInRow x1 x2 A z ∧ (0 ≤ z ∧ z ≤ 1)
def ws_mc_X12_isInRow : List Cond := .code yX12_isInRow cX12_isInRow 4 (some .boolean) :: WX
set_option maxHeartbeats 4000000 in
set_option maxRecDepth 100000 in
theorem mc_X12_isInRow (l : Launch) (dC : Nat → ClassId) (dI : Nat → Nat → Nat) (cB cI cJ cZ cQ : ClassId) (q : Nat → Nat) (A : St) (x1 x2 : Int) (hI : IM A) (hx1 : (0 : Int) ≤ x1 ∧ x1 ≤ 7) (hx2 : (-2147483648 : Int) ≤ x2 ∧ x2 ≤ 2147483647) : XMi l yX12_isInRow ws_mc_X12_isInRow ({ frames := 0, cells := 0, slots := 0, locals := 0 } : Room) (dC, dI) (tyA cB cI cJ cZ cQ) (WM cI cJ cZ q) A [.ref (q 0), .int (iI x1), .int (iI x2)] (fun z u => A = u ∧ r_X12_isInRow x1 x2 A z ∧ (0 ≤ z ∧ z ≤ 1)) := by
  refine x_metz (cc := cX12_isInRow) (maxL := 4) WM_adr (by decide +kernel) rfl (Nat.le_of_ble_eq_true rfl) (fun z u h => h.2.2) (fun p e s m below meth c Q AS ls hx hb hml hown hts hK hDD hA0 hP hS hl RET => ?_)
  have hown : s.vm.findClass RX12 = some m.cls := hown
  have hl : lv_has ls 4 [(0, .ref (q 0)), (1, .int (iI x1)), (2, .int (iI x2))] := hl
  have hiX12 : ∀ w ∈ u_ws RX12 TX12 85, w ∈ ws_mc_X12_isInRow := fun w h => List.mem_cons_of_mem _ (wx_lay w h)
  obtain ⟨H, hHe⟩ : ∃ H : Heap, H = s.heap := ⟨_, rfl⟩
  rw [← hHe] at hP
  have hS : va_S AS s.heap H [] := by rw [hHe]; exact hS
  suffices hgo : ∀ locs : List Loc, va_S AS s.heap H locs → W p l e (headSpec ws_mc_X12_isInRow ({ frames := 0, cells := 0, slots := 0, locals := 0 } : Room)).room s m [.ref (q 0), .int (iI x1), .int (iI x2)].toArray below meth c H locs 0 0 Q (F0 m 0 ls []) by
    have := hgo [] hS
    rw [hHe] at this
    exact this
  clear hS hHe
  intro locs hS
  refine lv_iconst (v := iI 0) hx hb dX12_isInRow_0 (by decide +kernel) ?_
  refine lv_istore_n (lv' := [(3, .int (iI 0)), (0, .ref (q 0)), (1, .int (iI x1)), (2, .int (iI x2))]) hx hb dX12_isInRow_1 rfl hl (by decide) rfl (fun ls hl => ?_)
  have L2_4 : ∀ (n6 : Nat) (z1 : Int) (H : Heap) (locs : List Loc) (ls : Array Slot), (0 ≤ z1) → (0 ≤ z1 ∧ z1 ≤ 2147483647) → (∀ (z : Int), (∃ mm1 : Nat, (d_X12_isInRow_1 x1 x2 A z mm1 z1)) → r_X12_isInRow x1 x2 A z) → ((A 14 (x1).toNat - z1 + 1).toNat = n6) → va_P (dC, dI) vwCl (WM cI cJ cZ q A) H → va_S AS s.heap H locs → lv_has ls 4 [(3, .int (iI z1)), (0, .ref (q 0)), (1, .int (iI x1)), (2, .int (iI x2))] → W p l e (headSpec ws_mc_X12_isInRow ({ frames := 0, cells := 0, slots := 0, locals := 0 } : Room)).room s m [.ref (q 0), .int (iI x1), .int (iI x2)].toArray below meth c H locs 0 0 Q (F0 m 2 ls []) := by
    intro n6
    induction n6 using Nat.strongRecOn with
    | ind n6 ih5 =>
      intro z1 H locs ls f7 f8 hk1 hn6 hP hS hl
      refine lv_iload_n hx hb dX12_isInRow_2 rfl (lv_at hl 0 rfl) ?_
      refine lv_aload_n hx hb dX12_isInRow_3 rfl (lv_at hl 1 rfl) ?_
      refine va_get (D := (dC, dI)) (ci := 12) (v := .ref (q 14)) (C := RX12) (T := TX12) (N := 85) hx hb hts hiX12 hown hK hP 0 wm0 rfl 25 (by decide) (hts _ (List.mem_cons_of_mem _ (wl_in_2 _ (List.mem_of_getElem? (i := 59) rfl)))) (fun _ h9 => h9) rfl dX12_isInRow_4 ?_
      refine lv_iload_n hx hb dX12_isInRow_7 rfl (lv_at hl 2 rfl) ?_
      refine x_iald hx hb hK hP 14 1 wm14 rfl (by omega) (by decide) dX12_isInRow_8 (fun z9 hz9 => ?_)
      have rz9 : (0 : Int) ≤ z9 ∧ z9 ≤ 6 := by rw [hz9]; exact hI 14 _
      have gz9 := Hd.mk hz9
      have hz9 : z9 = A 14 (x1).toNat := hz9
      refine lv_icmp_ge (tgt := 35) hx hb dX12_isInRow_9 (by decide) (fun c10 => ?_) (fun c10 => ?_)
      · have c10 : z9 ≤ z1 := (i_le (rb rz9 (by decide) (by decide)) (rb f8 (by decide) (by decide))).mp c10
        refine lv_iconst (v := iI 0) hx hb dX12_isInRow_35 (by decide +kernel) ?_
        exact RET 0 _ _ _ _ _ ⟨rfl, hk1 _ ⟨0 + 1, (u_d_X12_isInRow_1 ⟨f8, ⟨z9, gz9.out, (Or.inl ⟨c10, rfl⟩)⟩⟩)⟩, by omega⟩ hP hS dX12_isInRow_36
      · have c10 : ¬ z9 ≤ z1 := mt (i_le (rb rz9 (by decide) (by decide)) (rb f8 (by decide) (by decide))).mpr c10
        refine lv_aload_n hx hb dX12_isInRow_12 rfl (lv_at hl 1 rfl) ?_
        refine va_get (D := (dC, dI)) (ci := 12) (v := .ref (q 15)) (C := RX12) (T := TX12) (N := 85) hx hb hts hiX12 hown hK hP 0 wm0 rfl 26 (by decide) (hts _ (List.mem_cons_of_mem _ (wl_in_3 _ (List.mem_of_getElem? (i := 7) rfl)))) (fun _ h9 => h9) rfl dX12_isInRow_13 ?_
        refine lv_bipush (v := iI 10) hx hb dX12_isInRow_16 (by decide +kernel) ?_
        refine lv_iload_n hx hb dX12_isInRow_18 rfl (lv_at hl 2 rfl) ?_
        refine x_mulv (v := 10 * x1) hx hb dX12_isInRow_19 (by omega) ?_
        refine lv_iload_n hx hb dX12_isInRow_20 rfl (lv_at hl 0 rfl) ?_
        refine x_addv (v := 10 * x1 + z1) hx hb dX12_isInRow_21 (by omega) ?_
        refine x_iald hx hb hK hP 15 1 wm15 rfl (by omega) (by decide) dX12_isInRow_22 (fun z11 hz11 => ?_)
        have rz11 : (0 : Int) ≤ z11 ∧ z11 ≤ 9 := by rw [hz11]; exact hI 15 _
        have gz11 := Hd.mk hz11
        have hz11 : z11 = A 15 (10 * x1 + z1).toNat := hz11
        refine lv_iload_n hx hb dX12_isInRow_23 rfl (lv_at hl 3 rfl) ?_
        refine lv_icmp_ne (tgt := 29) hx hb dX12_isInRow_24 (by decide) (fun c12 => ?_) (fun c12 => ?_)
        · have c12 : ¬ z11 = x2 := mt (i_eq (rb rz11 (by decide) (by decide)) hx2).mpr c12
          refine lv_iinc (v := iI (z1 + 1)) (lv' := [(3, .int (iI (z1 + 1))), (0, .ref (q 0)), (1, .int (iI x1)), (2, .int (iI x2))]) hx hb dX12_isInRow_29 hl (k := 0) rfl (i_inc (by omega)) (by decide) rfl (fun ls hl => ?_)
          refine lv_goto (tgt := 2) hx hb dX12_isInRow_32 (by decide) ?_
          exact ih5 _ (by omega) (z1 + 1) _ _ _ (by omega) (by omega) (fun zq ⟨mm1, hq⟩ => hk1 _ ⟨mm1 + 1, (u_d_X12_isInRow_1 ⟨f8, ⟨z9, gz9.out, (Or.inr ⟨c10, ⟨z11, gz11.out, (Or.inl ⟨c12, hq⟩)⟩⟩)⟩⟩)⟩) rfl hP hS (lv_sub hl [0, 1, 2, 3] rfl)
        · have c12 : z11 = x2 := (i_eq (rb rz11 (by decide) (by decide)) hx2).mp c12
          refine lv_iconst (v := iI 1) hx hb dX12_isInRow_27 (by decide +kernel) ?_
          exact RET 1 _ _ _ _ _ ⟨rfl, hk1 _ ⟨0 + 1, (u_d_X12_isInRow_1 ⟨f8, ⟨z9, gz9.out, (Or.inr ⟨c10, ⟨z11, gz11.out, (Or.inr ⟨c12, rfl⟩)⟩⟩)⟩⟩)⟩, by omega⟩ hP hS dX12_isInRow_28
  exact L2_4 _ 0 _ _ _ (by omega) (by omega) (fun zq ⟨mm1, hq⟩ => (u_r_X12_isInRow ⟨mm1, hq⟩)) rfl hP hS (lv_sub hl [0, 1, 2, 3] rfl)

abbrev tr_r_X12_inRow (x1 : Int) (x2 : Int) (A : St) (z : Int) : Prop := (∃ z1 : Int, q_X12_key4 x1 A z1 ∧ (∃ z4 : Int, q_X12_isInRow (4 * (A 0 12) + x1) x2 A z4 ∧ (z = z4)))
def r_X12_inRow (x1 : Int) (x2 : Int) (A : St) (z : Int) : Prop := tr_r_X12_inRow x1 x2 A z
theorem u_r_X12_inRow {x1 : Int} {x2 : Int} {A : St} {z : Int} (h : tr_r_X12_inRow x1 x2 A z) : r_X12_inRow x1 x2 A z := h
def q_X12_inRow (x1 : Int) (x2 : Int) (A : St) (z : Int) : Prop := r_X12_inRow x1 x2 A z ∧ (0 ≤ z ∧ z ≤ 1)
def ws_mc_X12_inRow : List Cond := .code yX12_inRow cX12_inRow 3 (some .boolean) :: WX
set_option maxHeartbeats 4000000 in
set_option maxRecDepth 100000 in
theorem mc_X12_inRow (l : Launch) (dC : Nat → ClassId) (dI : Nat → Nat → Nat) (cB cI cJ cZ cQ : ClassId) (q : Nat → Nat) (A : St) (x1 x2 : Int) (hI : IM A) (hx1 : (0 : Int) ≤ x1 ∧ x1 ≤ 3) (hx2 : (-2147483648 : Int) ≤ x2 ∧ x2 ≤ 2147483647) : XMi l yX12_inRow ws_mc_X12_inRow ({ frames := 1, cells := 0, slots := 0, locals := 23 } : Room) (dC, dI) (tyA cB cI cJ cZ cQ) (WM cI cJ cZ q) A [.ref (q 0), .int (iI x1), .int (iI x2)] (fun z u => A = u ∧ r_X12_inRow x1 x2 A z ∧ (0 ≤ z ∧ z ≤ 1)) := by
  refine x_metz (cc := cX12_inRow) (maxL := 3) WM_adr (by decide +kernel) rfl (Nat.le_of_ble_eq_true rfl) (fun z u h => h.2.2) (fun p e s m below meth c Q AS ls hx hb hml hown hts hK hDD hA0 hP hS hl RET => ?_)
  have hown : s.vm.findClass RX12 = some m.cls := hown
  have hl : lv_has ls 3 [(0, .ref (q 0)), (1, .int (iI x1)), (2, .int (iI x2))] := hl
  obtain ⟨H, hHe⟩ : ∃ H : Heap, H = s.heap := ⟨_, rfl⟩
  rw [← hHe] at hP
  have hS : va_S AS s.heap H [] := by rw [hHe]; exact hS
  suffices hgo : ∀ locs : List Loc, va_S AS s.heap H locs → W p l e (headSpec ws_mc_X12_inRow ({ frames := 1, cells := 0, slots := 0, locals := 23 } : Room)).room s m [.ref (q 0), .int (iI x1), .int (iI x2)].toArray below meth c H locs 0 0 Q (F0 m 0 ls []) by
    have := hgo [] hS
    rw [hHe] at this
    exact this
  clear hS hHe
  intro locs hS
  refine lv_aload_n hx hb dX12_inRow_0 rfl (lv_at hl 0 rfl) ?_
  refine lv_aload_n hx hb dX12_inRow_1 rfl (lv_at hl 0 rfl) ?_
  refine lv_iload_n hx hb dX12_inRow_2 rfl (lv_at hl 1 rfl) ?_
  have r_A_0_12 : (0 : Int) ≤ (A 0 12) ∧ (A 0 12) ≤ 1 := hI 0 12
  refine x_calli (As := [.int (iI x1)]) (rest := [.ref (q 0)]) ⟨hx, hb, hml, hown, hts⟩ (mc_X12_key4 l dC dI cB cI cJ cZ cQ q _ x1 hI hx1) (cwV 1 hts (goodV (wl_in_4 _ (List.mem_of_getElem? (i := 44) rfl)) (wl_in_4 _ (List.mem_of_getElem? (i := 45) rfl)) (wl_in_4 _ (List.mem_of_getElem? (i := 46) rfl)) (wl_in_0 _ (List.mem_of_getElem? (i := 8) rfl)) (wl_in_4 _ (List.mem_of_getElem? (i := 41) rfl))) rfl rfl rfl (by decide +kernel) ⟨Nat.le_of_ble_eq_true rfl, Nat.le_of_ble_eq_true rfl⟩) hK hDD hA0 hP hS 0 12 wm0 rfl rfl hl.1 (Nat.le_of_ble_eq_true rfl) dX12_inRow_3 (fun z1 A2 H locs hw3 hP hS => ?_)
  obtain ⟨rfl, hw3⟩ := hw3
  have ghw3 : q_X12_key4 x1 A z1 := hw3
  have hw3 := hw3.2
  refine tp_i (y := iI (4 * (A 0 12) + x1)) (congrArg iI (show z1 = 4 * (A 0 12) + x1 by omega)) ?_
  clear hw3
  refine lv_iload_n hx hb dX12_inRow_6 rfl (lv_at hl 2 rfl) ?_
  refine x_calli (As := [.int (iI (4 * (A 0 12) + x1)), .int (iI x2)]) (rest := []) ⟨hx, hb, hml, hown, hts⟩ (mc_X12_isInRow l dC dI cB cI cJ cZ cQ q _ (4 * (A 0 12) + x1) x2 hI (by omega) hx2) (cwV 2 hts (goodV (wl_in_3 _ (List.mem_of_getElem? (i := 9) rfl)) (wl_in_3 _ (List.mem_of_getElem? (i := 10) rfl)) (wl_in_3 _ (List.mem_of_getElem? (i := 11) rfl)) (wl_in_0 _ (List.mem_of_getElem? (i := 8) rfl)) (wl_in_3 _ (List.mem_of_getElem? (i := 6) rfl))) rfl rfl rfl (by decide +kernel) ⟨Nat.le_of_ble_eq_true rfl, Nat.le_of_ble_eq_true rfl⟩) hK hDD hA0 hP hS 0 12 wm0 rfl rfl hl.1 (Nat.le_of_ble_eq_true rfl) dX12_inRow_7 (fun z4 A5 H locs hw6 hP hS => ?_)
  obtain ⟨rfl, hw6⟩ := hw6
  have ghw6 : q_X12_isInRow (4 * (A 0 12) + x1) x2 A z4 := hw6
  have hw6 := hw6.2
  exact RET z4 _ _ _ _ _ ⟨rfl, (u_r_X12_inRow ⟨z1, ghw3, ⟨z4, ghw6, rfl⟩⟩), by omega⟩ hP hS dX12_inRow_10

abbrev tr_r_X12_topOf (x1 : Int) (A : St) (z : Int) : Prop := (∃ z1 : Int, q_X12_key4 x1 A z1 ∧ (∃ z4 : Int, z4 = A 14 (4 * (A 0 12) + x1).toNat ∧ (((¬ z4 = 0) ∧ (∃ z6 : Int, q_X12_key4 x1 A z6 ∧ (∃ z9 : Int, q_X12_key4 x1 A z9 ∧ (∃ z12 : Int, z12 = A 14 (4 * (A 0 12) + x1).toNat ∧ (∃ z13 : Int, z13 = A 15 (40 * (A 0 12) + 10 * x1 + z12 - 1).toNat ∧ (z = z13)))))) ∨ ((z4 = 0) ∧ (z = (-1))))))
def r_X12_topOf (x1 : Int) (A : St) (z : Int) : Prop := tr_r_X12_topOf x1 A z
theorem u_r_X12_topOf {x1 : Int} {A : St} {z : Int} (h : tr_r_X12_topOf x1 A z) : r_X12_topOf x1 A z := h
def q_X12_topOf (x1 : Int) (A : St) (z : Int) : Prop := r_X12_topOf x1 A z ∧ (-1 ≤ z ∧ z ≤ 9 ∧ (0 ≤ z → 1 ≤ A 14 (4 * A 0 12 + x1).toNat))
def ws_mc_X12_topOf : List Cond := .code yX12_topOf cX12_topOf 2 (some .int) :: WX
set_option maxHeartbeats 4000000 in
set_option maxRecDepth 100000 in
theorem mc_X12_topOf (l : Launch) (dC : Nat → ClassId) (dI : Nat → Nat → Nat) (cB cI cJ cZ cQ : ClassId) (q : Nat → Nat) (A : St) (x1 : Int) (hI : IM A) (hx1 : (0 : Int) ≤ x1 ∧ x1 ≤ 3) : XMi l yX12_topOf ws_mc_X12_topOf ({ frames := 1, cells := 0, slots := 0, locals := 21 } : Room) (dC, dI) (tyA cB cI cJ cZ cQ) (WM cI cJ cZ q) A [.ref (q 0), .int (iI x1)] (fun z u => A = u ∧ r_X12_topOf x1 A z ∧ (-1 ≤ z ∧ z ≤ 9 ∧ (0 ≤ z → 1 ≤ A 14 (4 * A 0 12 + x1).toNat))) := by
  refine x_meti (cc := cX12_topOf) (maxL := 2) WM_adr (by decide +kernel) rfl (Nat.le_of_ble_eq_true rfl) (fun p e s m below meth c Q AS ls hx hb hml hown hts hK hDD hA0 hP hS hl RET => ?_)
  have hown : s.vm.findClass RX12 = some m.cls := hown
  have hl : lv_has ls 2 [(0, .ref (q 0)), (1, .int (iI x1))] := hl
  have hiX12 : ∀ w ∈ u_ws RX12 TX12 85, w ∈ ws_mc_X12_topOf := fun w h => List.mem_cons_of_mem _ (wx_lay w h)
  obtain ⟨H, hHe⟩ : ∃ H : Heap, H = s.heap := ⟨_, rfl⟩
  rw [← hHe] at hP
  have hS : va_S AS s.heap H [] := by rw [hHe]; exact hS
  suffices hgo : ∀ locs : List Loc, va_S AS s.heap H locs → W p l e (headSpec ws_mc_X12_topOf ({ frames := 1, cells := 0, slots := 0, locals := 21 } : Room)).room s m [.ref (q 0), .int (iI x1)].toArray below meth c H locs 0 0 Q (F0 m 0 ls []) by
    have := hgo [] hS
    rw [hHe] at this
    exact this
  clear hS hHe
  intro locs hS
  refine lv_aload_n hx hb dX12_topOf_0 rfl (lv_at hl 0 rfl) ?_
  refine va_get (D := (dC, dI)) (ci := 12) (v := .ref (q 14)) (C := RX12) (T := TX12) (N := 85) hx hb hts hiX12 hown hK hP 0 wm0 rfl 25 (by decide) (hts _ (List.mem_cons_of_mem _ (wl_in_2 _ (List.mem_of_getElem? (i := 59) rfl)))) (fun _ h9 => h9) rfl dX12_topOf_1 ?_
  refine lv_aload_n hx hb dX12_topOf_4 rfl (lv_at hl 0 rfl) ?_
  refine lv_iload_n hx hb dX12_topOf_5 rfl (lv_at hl 1 rfl) ?_
  have r_A_0_12 : (0 : Int) ≤ (A 0 12) ∧ (A 0 12) ≤ 1 := hI 0 12
  refine x_calli (As := [.int (iI x1)]) (rest := [.ref (q 14)]) ⟨hx, hb, hml, hown, hts⟩ (mc_X12_key4 l dC dI cB cI cJ cZ cQ q _ x1 hI hx1) (cwV 1 hts (goodV (wl_in_4 _ (List.mem_of_getElem? (i := 44) rfl)) (wl_in_4 _ (List.mem_of_getElem? (i := 45) rfl)) (wl_in_4 _ (List.mem_of_getElem? (i := 46) rfl)) (wl_in_0 _ (List.mem_of_getElem? (i := 8) rfl)) (wl_in_4 _ (List.mem_of_getElem? (i := 41) rfl))) rfl rfl rfl (by decide +kernel) ⟨Nat.le_of_ble_eq_true rfl, Nat.le_of_ble_eq_true rfl⟩) hK hDD hA0 hP hS 0 12 wm0 rfl rfl hl.1 (Nat.le_of_ble_eq_true rfl) dX12_topOf_6 (fun z1 A2 H locs hw3 hP hS => ?_)
  obtain ⟨rfl, hw3⟩ := hw3
  have ghw3 : q_X12_key4 x1 A z1 := hw3
  have hw3 := hw3.2
  refine tp_i (y := iI (4 * (A 0 12) + x1)) (congrArg iI (show z1 = 4 * (A 0 12) + x1 by omega)) ?_
  clear hw3
  refine x_iald hx hb hK hP 14 1 wm14 rfl (by omega) (by decide) dX12_topOf_9 (fun z4 hz4 => ?_)
  have rz4 : (0 : Int) ≤ z4 ∧ z4 ≤ 6 := by rw [hz4]; exact hI 14 _
  have gz4 := Hd.mk hz4
  have hz4 : z4 = A 14 (4 * (A 0 12) + x1).toNat := hz4
  refine lv_if_ne (tgt := 17) hx hb dX12_topOf_10 (by decide) (fun c5 => ?_) (fun c5 => ?_)
  · have c5 : ¬ z4 = 0 := mt (i_eq0 (rb rz4 (by decide) (by decide))).mpr c5
    refine lv_aload_n hx hb dX12_topOf_17 rfl (lv_at hl 0 rfl) ?_
    refine va_get (D := (dC, dI)) (ci := 12) (v := .ref (q 15)) (C := RX12) (T := TX12) (N := 85) hx hb hts hiX12 hown hK hP 0 wm0 rfl 26 (by decide) (hts _ (List.mem_cons_of_mem _ (wl_in_3 _ (List.mem_of_getElem? (i := 7) rfl)))) (fun _ h9 => h9) rfl dX12_topOf_18 ?_
    refine lv_bipush (v := iI 10) hx hb dX12_topOf_21 (by decide +kernel) ?_
    refine lv_aload_n hx hb dX12_topOf_23 rfl (lv_at hl 0 rfl) ?_
    refine lv_iload_n hx hb dX12_topOf_24 rfl (lv_at hl 1 rfl) ?_
    refine x_calli (As := [.int (iI x1)]) (rest := [.int (iI 10), .ref (q 15)]) ⟨hx, hb, hml, hown, hts⟩ (mc_X12_key4 l dC dI cB cI cJ cZ cQ q _ x1 hI hx1) (cwV 1 hts (goodV (wl_in_4 _ (List.mem_of_getElem? (i := 44) rfl)) (wl_in_4 _ (List.mem_of_getElem? (i := 45) rfl)) (wl_in_4 _ (List.mem_of_getElem? (i := 46) rfl)) (wl_in_0 _ (List.mem_of_getElem? (i := 8) rfl)) (wl_in_4 _ (List.mem_of_getElem? (i := 41) rfl))) rfl rfl rfl (by decide +kernel) ⟨Nat.le_of_ble_eq_true rfl, Nat.le_of_ble_eq_true rfl⟩) hK hDD hA0 hP hS 0 12 wm0 rfl rfl hl.1 (Nat.le_of_ble_eq_true rfl) dX12_topOf_25 (fun z6 A7 H locs hw8 hP hS => ?_)
    obtain ⟨rfl, hw8⟩ := hw8
    have ghw8 : q_X12_key4 x1 A z6 := hw8
    have hw8 := hw8.2
    refine tp_i (y := iI (4 * (A 0 12) + x1)) (congrArg iI (show z6 = 4 * (A 0 12) + x1 by omega)) ?_
    clear hw8
    refine x_mulv (v := 40 * (A 0 12) + 10 * x1) hx hb dX12_topOf_28 (by omega) ?_
    refine lv_aload_n hx hb dX12_topOf_29 rfl (lv_at hl 0 rfl) ?_
    refine va_get (D := (dC, dI)) (ci := 12) (v := .ref (q 14)) (C := RX12) (T := TX12) (N := 85) hx hb hts hiX12 hown hK hP 0 wm0 rfl 25 (by decide) (hts _ (List.mem_cons_of_mem _ (wl_in_2 _ (List.mem_of_getElem? (i := 59) rfl)))) (fun _ h9 => h9) rfl dX12_topOf_30 ?_
    refine lv_aload_n hx hb dX12_topOf_33 rfl (lv_at hl 0 rfl) ?_
    refine lv_iload_n hx hb dX12_topOf_34 rfl (lv_at hl 1 rfl) ?_
    refine x_calli (As := [.int (iI x1)]) (rest := [.ref (q 14), .int (iI (40 * (A 0 12) + 10 * x1)), .ref (q 15)]) ⟨hx, hb, hml, hown, hts⟩ (mc_X12_key4 l dC dI cB cI cJ cZ cQ q _ x1 hI hx1) (cwV 1 hts (goodV (wl_in_4 _ (List.mem_of_getElem? (i := 44) rfl)) (wl_in_4 _ (List.mem_of_getElem? (i := 45) rfl)) (wl_in_4 _ (List.mem_of_getElem? (i := 46) rfl)) (wl_in_0 _ (List.mem_of_getElem? (i := 8) rfl)) (wl_in_4 _ (List.mem_of_getElem? (i := 41) rfl))) rfl rfl rfl (by decide +kernel) ⟨Nat.le_of_ble_eq_true rfl, Nat.le_of_ble_eq_true rfl⟩) hK hDD hA0 hP hS 0 12 wm0 rfl rfl hl.1 (Nat.le_of_ble_eq_true rfl) dX12_topOf_35 (fun z9 A10 H locs hw11 hP hS => ?_)
    obtain ⟨rfl, hw11⟩ := hw11
    have ghw11 : q_X12_key4 x1 A z9 := hw11
    have hw11 := hw11.2
    refine tp_i (y := iI (4 * (A 0 12) + x1)) (congrArg iI (show z9 = 4 * (A 0 12) + x1 by omega)) ?_
    clear hw11
    refine x_iald hx hb hK hP 14 1 wm14 rfl (by omega) (by decide) dX12_topOf_38 (fun z12 hz12 => ?_)
    have rz12 : (0 : Int) ≤ z12 ∧ z12 ≤ 6 := by rw [hz12]; exact hI 14 _
    have gz12 := Hd.mk hz12
    have hz12 : z12 = A 14 (4 * (A 0 12) + x1).toNat := hz12
    have ez12 : z12 = z4 := hz12.trans hz4.symm
    refine x_addv (v := 40 * (A 0 12) + 10 * x1 + z12) hx hb dX12_topOf_39 (by omega) ?_
    refine lv_iconst (v := iI 1) hx hb dX12_topOf_40 (by decide +kernel) ?_
    refine x_subv (v := 40 * (A 0 12) + 10 * x1 + z12 - 1) hx hb dX12_topOf_41 (by omega) ?_
    refine x_iald hx hb hK hP 15 1 wm15 rfl (by omega) (by decide) dX12_topOf_42 (fun z13 hz13 => ?_)
    have rz13 : (0 : Int) ≤ z13 ∧ z13 ≤ 9 := by rw [hz13]; exact hI 15 _
    have gz13 := Hd.mk hz13
    have hz13 : z13 = A 15 (40 * (A 0 12) + 10 * x1 + z12 - 1).toNat := hz13
    exact RET z13 _ _ _ _ _ ⟨rfl, (u_r_X12_topOf ⟨z1, ghw3, ⟨z4, gz4.out, (Or.inl ⟨c5, ⟨z6, ghw8, ⟨z9, ghw11, ⟨z12, gz12.out, ⟨z13, gz13.out, rfl⟩⟩⟩⟩⟩)⟩⟩), by omega⟩ hP hS dX12_topOf_43
  · have c5 : z4 = 0 := (i_eq0 (rb rz4 (by decide) (by decide))).mp c5
    refine lv_iconst (v := iI (-1)) hx hb dX12_topOf_13 (by decide +kernel) ?_
    refine lv_goto (tgt := 43) hx hb dX12_topOf_14 (by decide) ?_
    exact RET (-1) _ _ _ _ _ ⟨rfl, (u_r_X12_topOf ⟨z1, ghw3, ⟨z4, gz4.out, (Or.inr ⟨c5, rfl⟩)⟩⟩), by omega⟩ hP hS dX12_topOf_43

abbrev tr_d_X12_isShut_1 (x1 : Int) (A : St) (z : Int) (K1 : Int → Prop) (z6 : Int) : Prop := ((0 ≤ z6 ∧ z6 ≤ 2147483647) ∧ (∃ z14 : Int, z14 = A 11 ((A 0 12)).toNat ∧ (((z14 ≤ z6) ∧ (z = 0)) ∨ ((¬ z14 ≤ z6) ∧ (∃ z16 : Int, q_X12_inRow z6 x1 A z16 ∧ (((z16 = 0) ∧ (K1 (z6 + 1))) ∨ ((¬ z16 = 0) ∧ (z = 1))))))))
def d_X12_isShut_1 (x1 : Int) (A : St) (z : Int) : Nat → Int → Prop
  | 0, _ => False
  | nn9 + 1, z6 => tr_d_X12_isShut_1 x1 A z (fun z6 => d_X12_isShut_1 x1 A z nn9 z6) z6
theorem u_d_X12_isShut_1 {x1 : Int} {A : St} {z : Int} {nn9 : Nat} {z6 : Int} (h : tr_d_X12_isShut_1 x1 A z (fun z6 => d_X12_isShut_1 x1 A z nn9 z6) z6) : d_X12_isShut_1 x1 A z (nn9 + 1) z6 := h
abbrev tr_r_X12_isShut (x1 : Int) (A : St) (z : Int) : Prop := (∃ z1 : Int, q_X12_door10 x1 A z1 ∧ (∃ z4 : Int, z4 = A 10 (10 * (A 0 12) + x1).toNat ∧ (((z4 = 0) ∧ (∃ nn9 : Nat, d_X12_isShut_1 x1 A z nn9 0)) ∨ ((¬ z4 = 0) ∧ (z = 1)))))
def r_X12_isShut (x1 : Int) (A : St) (z : Int) : Prop := tr_r_X12_isShut x1 A z
theorem u_r_X12_isShut {x1 : Int} {A : St} {z : Int} (h : tr_r_X12_isShut x1 A z) : r_X12_isShut x1 A z := h
def q_X12_isShut (x1 : Int) (A : St) (z : Int) : Prop := r_X12_isShut x1 A z ∧ (0 ≤ z ∧ z ≤ 1)
def ws_mc_X12_isShut : List Cond := .code yX12_isShut cX12_isShut 3 (some .boolean) :: WX
set_option maxHeartbeats 4000000 in
set_option maxRecDepth 100000 in
theorem mc_X12_isShut (l : Launch) (dC : Nat → ClassId) (dI : Nat → Nat → Nat) (cB cI cJ cZ cQ : ClassId) (q : Nat → Nat) (A : St) (x1 : Int) (hI : IM A) (hx1 : (0 : Int) ≤ x1 ∧ x1 ≤ 9) : XMi l yX12_isShut ws_mc_X12_isShut ({ frames := 2, cells := 0, slots := 0, locals := 45 } : Room) (dC, dI) (tyA cB cI cJ cZ cQ) (WM cI cJ cZ q) A [.ref (q 0), .int (iI x1)] (fun z u => A = u ∧ r_X12_isShut x1 A z ∧ (0 ≤ z ∧ z ≤ 1)) := by
  refine x_metz (cc := cX12_isShut) (maxL := 3) WM_adr (by decide +kernel) rfl (Nat.le_of_ble_eq_true rfl) (fun z u h => h.2.2) (fun p e s m below meth c Q AS ls hx hb hml hown hts hK hDD hA0 hP hS hl RET => ?_)
  have hown : s.vm.findClass RX12 = some m.cls := hown
  have hl : lv_has ls 3 [(0, .ref (q 0)), (1, .int (iI x1))] := hl
  have hiX12 : ∀ w ∈ u_ws RX12 TX12 85, w ∈ ws_mc_X12_isShut := fun w h => List.mem_cons_of_mem _ (wx_lay w h)
  obtain ⟨H, hHe⟩ : ∃ H : Heap, H = s.heap := ⟨_, rfl⟩
  rw [← hHe] at hP
  have hS : va_S AS s.heap H [] := by rw [hHe]; exact hS
  suffices hgo : ∀ locs : List Loc, va_S AS s.heap H locs → W p l e (headSpec ws_mc_X12_isShut ({ frames := 2, cells := 0, slots := 0, locals := 45 } : Room)).room s m [.ref (q 0), .int (iI x1)].toArray below meth c H locs 0 0 Q (F0 m 0 ls []) by
    have := hgo [] hS
    rw [hHe] at this
    exact this
  clear hS hHe
  intro locs hS
  refine lv_aload_n hx hb dX12_isShut_0 rfl (lv_at hl 0 rfl) ?_
  refine va_get (D := (dC, dI)) (ci := 12) (v := .ref (q 10)) (C := RX12) (T := TX12) (N := 85) hx hb hts hiX12 hown hK hP 0 wm0 rfl 21 (by decide) (hts _ (List.mem_cons_of_mem _ (wl_in_2 _ (List.mem_of_getElem? (i := 43) rfl)))) (fun _ h9 => h9) rfl dX12_isShut_1 ?_
  refine lv_aload_n hx hb dX12_isShut_4 rfl (lv_at hl 0 rfl) ?_
  refine lv_iload_n hx hb dX12_isShut_5 rfl (lv_at hl 1 rfl) ?_
  have r_A_0_12 : (0 : Int) ≤ (A 0 12) ∧ (A 0 12) ≤ 1 := hI 0 12
  refine x_calli (As := [.int (iI x1)]) (rest := [.ref (q 10)]) ⟨hx, hb, hml, hown, hts⟩ (mc_X12_door10 l dC dI cB cI cJ cZ cQ q _ x1 hI hx1) (cwV 1 hts (goodV (wl_in_4 _ (List.mem_of_getElem? (i := 49) rfl)) (wl_in_4 _ (List.mem_of_getElem? (i := 50) rfl)) (wl_in_4 _ (List.mem_of_getElem? (i := 51) rfl)) (wl_in_0 _ (List.mem_of_getElem? (i := 8) rfl)) (wl_in_4 _ (List.mem_of_getElem? (i := 42) rfl))) rfl rfl rfl (by decide +kernel) ⟨Nat.le_of_ble_eq_true rfl, Nat.le_of_ble_eq_true rfl⟩) hK hDD hA0 hP hS 0 12 wm0 rfl rfl hl.1 (Nat.le_of_ble_eq_true rfl) dX12_isShut_6 (fun z1 A2 H locs hw3 hP hS => ?_)
  obtain ⟨rfl, hw3⟩ := hw3
  have ghw3 : q_X12_door10 x1 A z1 := hw3
  have hw3 := hw3.2
  refine tp_i (y := iI (10 * (A 0 12) + x1)) (congrArg iI (show z1 = 10 * (A 0 12) + x1 by omega)) ?_
  clear hw3
  refine x_zald hx hb hK hP 10 3 wm10 rfl (by omega) (by decide) dX12_isShut_9 (fun z4 hz4 => ?_)
  have rz4 : (0 : Int) ≤ z4 ∧ z4 ≤ 1 := by rw [hz4]; exact hI 10 _
  have gz4 := Hd.mk hz4
  have hz4 : z4 = A 10 (10 * (A 0 12) + x1).toNat := hz4
  refine lv_if_eq (tgt := 15) hx hb dX12_isShut_10 (by decide) (fun c5 => ?_) (fun c5 => ?_)
  · have c5 : z4 = 0 := (i_eq0 (rb rz4 (by decide) (by decide))).mp c5
    refine lv_iconst (v := iI 0) hx hb dX12_isShut_15 (by decide +kernel) ?_
    refine lv_istore_n (lv' := [(2, .int (iI 0)), (0, .ref (q 0)), (1, .int (iI x1))]) hx hb dX12_isShut_16 rfl hl (by decide) rfl (fun ls hl => ?_)
    have L17_9 : ∀ (n11 : Nat) (z6 : Int) (H : Heap) (locs : List Loc) (ls : Array Slot), (0 ≤ z6) → (0 ≤ z6 ∧ z6 ≤ 2147483647) → (∀ (z : Int), (∃ mm1 : Nat, (d_X12_isShut_1 x1 A z mm1 z6)) → r_X12_isShut x1 A z) → ((A 11 ((A 0 12)).toNat - z6 + 1).toNat = n11) → va_P (dC, dI) vwCl (WM cI cJ cZ q A) H → va_S AS s.heap H locs → lv_has ls 3 [(2, .int (iI z6)), (0, .ref (q 0)), (1, .int (iI x1))] → W p l e (headSpec ws_mc_X12_isShut ({ frames := 2, cells := 0, slots := 0, locals := 45 } : Room)).room s m [.ref (q 0), .int (iI x1)].toArray below meth c H locs 0 0 Q (F0 m 17 ls []) := by
      intro n11
      induction n11 using Nat.strongRecOn with
      | ind n11 ih10 =>
        intro z6 H locs ls f12 f13 hk1 hn11 hP hS hl
        refine lv_iload_n hx hb dX12_isShut_17 rfl (lv_at hl 0 rfl) ?_
        refine lv_aload_n hx hb dX12_isShut_18 rfl (lv_at hl 1 rfl) ?_
        refine va_get (D := (dC, dI)) (ci := 12) (v := .ref (q 11)) (C := RX12) (T := TX12) (N := 85) hx hb hts hiX12 hown hK hP 0 wm0 rfl 22 (by decide) (hts _ (List.mem_cons_of_mem _ (wl_in_1 _ (List.mem_of_getElem? (i := 14) rfl)))) (fun _ h9 => h9) rfl dX12_isShut_19 ?_
        refine lv_aload_n hx hb dX12_isShut_22 rfl (lv_at hl 1 rfl) ?_
        refine va_get (D := (dC, dI)) (ci := 12) (v := .int (iI (A 0 12))) (C := RX12) (T := TX12) (N := 85) hx hb hts hiX12 hown hK hP 0 wm0 rfl 12 (by decide) (hts _ (List.mem_cons_of_mem _ (wl_in_4 _ (List.mem_of_getElem? (i := 14) rfl)))) (fun _ h9 => h9) rfl dX12_isShut_23 ?_
        refine x_iald hx hb hK hP 11 1 wm11 rfl (by omega) (by decide) dX12_isShut_26 (fun z14 hz14 => ?_)
        have rz14 : (0 : Int) ≤ z14 ∧ z14 ≤ 4 := by rw [hz14]; exact hI 11 _
        have gz14 := Hd.mk hz14
        have hz14 : z14 = A 11 ((A 0 12)).toNat := hz14
        refine lv_icmp_ge (tgt := 47) hx hb dX12_isShut_27 (by decide) (fun c15 => ?_) (fun c15 => ?_)
        · have c15 : z14 ≤ z6 := (i_le (rb rz14 (by decide) (by decide)) (rb f13 (by decide) (by decide))).mp c15
          refine lv_iconst (v := iI 0) hx hb dX12_isShut_47 (by decide +kernel) ?_
          exact RET 0 _ _ _ _ _ ⟨rfl, hk1 _ ⟨0 + 1, (u_d_X12_isShut_1 ⟨f13, ⟨z14, gz14.out, (Or.inl ⟨c15, rfl⟩)⟩⟩)⟩, by omega⟩ hP hS dX12_isShut_48
        · have c15 : ¬ z14 ≤ z6 := mt (i_le (rb rz14 (by decide) (by decide)) (rb f13 (by decide) (by decide))).mpr c15
          refine lv_aload_n hx hb dX12_isShut_30 rfl (lv_at hl 1 rfl) ?_
          refine lv_iload_n hx hb dX12_isShut_31 rfl (lv_at hl 0 rfl) ?_
          refine lv_iload_n hx hb dX12_isShut_32 rfl (lv_at hl 2 rfl) ?_
          refine x_calli (As := [.int (iI z6), .int (iI x1)]) (rest := []) ⟨hx, hb, hml, hown, hts⟩ (mc_X12_inRow l dC dI cB cI cJ cZ cQ q _ z6 x1 hI (by omega) (rb hx1 (by decide) (by decide))) (cwV 2 hts (goodV (wl_in_4 _ (List.mem_of_getElem? (i := 52) rfl)) (wl_in_4 _ (List.mem_of_getElem? (i := 53) rfl)) (wl_in_4 _ (List.mem_of_getElem? (i := 54) rfl)) (wl_in_0 _ (List.mem_of_getElem? (i := 8) rfl)) (wl_in_4 _ (List.mem_of_getElem? (i := 43) rfl))) rfl rfl rfl (by decide +kernel) ⟨Nat.le_of_ble_eq_true rfl, Nat.le_of_ble_eq_true rfl⟩) hK hDD hA0 hP hS 0 12 wm0 rfl rfl hl.1 (Nat.le_of_ble_eq_true rfl) dX12_isShut_33 (fun z16 A17 H locs hw18 hP hS => ?_)
          obtain ⟨rfl, hw18⟩ := hw18
          have ghw18 : q_X12_inRow z6 x1 A z16 := hw18
          have hw18 := hw18.2
          refine lv_if_eq (tgt := 41) hx hb dX12_isShut_36 (by decide) (fun c19 => ?_) (fun c19 => ?_)
          · have c19 : z16 = 0 := (i_eq0 (rb hw18 (by decide) (by decide))).mp c19
            refine lv_iinc (v := iI (z6 + 1)) (lv' := [(2, .int (iI (z6 + 1))), (0, .ref (q 0)), (1, .int (iI x1))]) hx hb dX12_isShut_41 hl (k := 0) rfl (i_inc (by omega)) (by decide) rfl (fun ls hl => ?_)
            refine lv_goto (tgt := 17) hx hb dX12_isShut_44 (by decide) ?_
            exact ih10 _ (by omega) (z6 + 1) _ _ _ (by omega) (by omega) (fun zq ⟨mm1, hq⟩ => hk1 _ ⟨mm1 + 1, (u_d_X12_isShut_1 ⟨f13, ⟨z14, gz14.out, (Or.inr ⟨c15, ⟨z16, ghw18, (Or.inl ⟨c19, hq⟩)⟩⟩)⟩⟩)⟩) rfl hP hS (lv_sub hl [0, 1, 2] rfl)
          · have c19 : ¬ z16 = 0 := mt (i_eq0 (rb hw18 (by decide) (by decide))).mpr c19
            refine lv_iconst (v := iI 1) hx hb dX12_isShut_39 (by decide +kernel) ?_
            exact RET 1 _ _ _ _ _ ⟨rfl, hk1 _ ⟨0 + 1, (u_d_X12_isShut_1 ⟨f13, ⟨z14, gz14.out, (Or.inr ⟨c15, ⟨z16, ghw18, (Or.inr ⟨c19, rfl⟩)⟩⟩)⟩⟩)⟩, by omega⟩ hP hS dX12_isShut_40
    exact L17_9 _ 0 _ _ _ (by omega) (by omega) (fun zq ⟨mm1, hq⟩ => (u_r_X12_isShut ⟨z1, ghw3, ⟨z4, gz4.out, (Or.inl ⟨c5, ⟨mm1, hq⟩⟩)⟩⟩)) rfl hP hS (lv_sub hl [0, 1, 2] rfl)
  · have c5 : ¬ z4 = 0 := mt (i_eq0 (rb rz4 (by decide) (by decide))).mpr c5
    refine lv_iconst (v := iI 1) hx hb dX12_isShut_13 (by decide +kernel) ?_
    exact RET 1 _ _ _ _ _ ⟨rfl, (u_r_X12_isShut ⟨z1, ghw3, ⟨z4, gz4.out, (Or.inr ⟨c5, rfl⟩)⟩⟩), by omega⟩ hP hS dX12_isShut_14

abbrev tr_d_X12_isDead_2 (K1 : Int → Prop) (z6 : Int) (z : Int) : Prop := (K1 (z6 + 1))
def d_X12_isDead_2 (K1 : Int → Prop) (z6 : Int) (z : Int) : Prop := tr_d_X12_isDead_2 K1 z6 z
theorem u_d_X12_isDead_2 {K1 : Int → Prop} {z6 : Int} {z : Int} (h : tr_d_X12_isDead_2 K1 z6 z) : d_X12_isDead_2 K1 z6 z := h
abbrev tr_d_X12_isDead_1 (x1 : Int) (A : St) (z : Int) (K1 : Int → Prop) (z6 : Int) : Prop := ((0 ≤ z6 ∧ z6 ≤ 2147483647) ∧ (∃ z14 : Int, z14 = A 11 ((A 0 12)).toNat ∧ (((z14 ≤ z6) ∧ (z = 0)) ∨ ((¬ z14 ≤ z6) ∧ (∃ z16 : Int, q_X12_key4 z6 A z16 ∧ (∃ z19 : Int, z19 = A 13 (4 * (A 0 12) + z6).toNat ∧ (((¬ z19 = 40) ∧ (d_X12_isDead_2 K1 z6 z)) ∨ ((z19 = 40) ∧ (∃ z22 : Int, q_X12_inRow z6 x1 A z22 ∧ (((z22 = 0) ∧ (d_X12_isDead_2 K1 z6 z)) ∨ ((¬ z22 = 0) ∧ (z = 1))))))))))))
def d_X12_isDead_1 (x1 : Int) (A : St) (z : Int) : Nat → Int → Prop
  | 0, _ => False
  | nn9 + 1, z6 => tr_d_X12_isDead_1 x1 A z (fun z6 => d_X12_isDead_1 x1 A z nn9 z6) z6
theorem u_d_X12_isDead_1 {x1 : Int} {A : St} {z : Int} {nn9 : Nat} {z6 : Int} (h : tr_d_X12_isDead_1 x1 A z (fun z6 => d_X12_isDead_1 x1 A z nn9 z6) z6) : d_X12_isDead_1 x1 A z (nn9 + 1) z6 := h
abbrev tr_r_X12_isDead (x1 : Int) (A : St) (z : Int) : Prop := (∃ z1 : Int, q_X12_door10 x1 A z1 ∧ (∃ z4 : Int, z4 = A 10 (10 * (A 0 12) + x1).toNat ∧ (((z4 = 0) ∧ (∃ nn9 : Nat, d_X12_isDead_1 x1 A z nn9 0)) ∨ ((¬ z4 = 0) ∧ (z = 1)))))
def r_X12_isDead (x1 : Int) (A : St) (z : Int) : Prop := tr_r_X12_isDead x1 A z
theorem u_r_X12_isDead {x1 : Int} {A : St} {z : Int} (h : tr_r_X12_isDead x1 A z) : r_X12_isDead x1 A z := h
def q_X12_isDead (x1 : Int) (A : St) (z : Int) : Prop := r_X12_isDead x1 A z ∧ (0 ≤ z ∧ z ≤ 1)
def ws_mc_X12_isDead : List Cond := .code yX12_isDead cX12_isDead 3 (some .boolean) :: WX
set_option maxHeartbeats 4000000 in
set_option maxRecDepth 100000 in
theorem mc_X12_isDead (l : Launch) (dC : Nat → ClassId) (dI : Nat → Nat → Nat) (cB cI cJ cZ cQ : ClassId) (q : Nat → Nat) (A : St) (x1 : Int) (hI : IM A) (hx1 : (0 : Int) ≤ x1 ∧ x1 ≤ 9) : XMi l yX12_isDead ws_mc_X12_isDead ({ frames := 2, cells := 0, slots := 0, locals := 45 } : Room) (dC, dI) (tyA cB cI cJ cZ cQ) (WM cI cJ cZ q) A [.ref (q 0), .int (iI x1)] (fun z u => A = u ∧ r_X12_isDead x1 A z ∧ (0 ≤ z ∧ z ≤ 1)) := by
  refine x_metz (cc := cX12_isDead) (maxL := 3) WM_adr (by decide +kernel) rfl (Nat.le_of_ble_eq_true rfl) (fun z u h => h.2.2) (fun p e s m below meth c Q AS ls hx hb hml hown hts hK hDD hA0 hP hS hl RET => ?_)
  have hown : s.vm.findClass RX12 = some m.cls := hown
  have hl : lv_has ls 3 [(0, .ref (q 0)), (1, .int (iI x1))] := hl
  have hiX12 : ∀ w ∈ u_ws RX12 TX12 85, w ∈ ws_mc_X12_isDead := fun w h => List.mem_cons_of_mem _ (wx_lay w h)
  obtain ⟨H, hHe⟩ : ∃ H : Heap, H = s.heap := ⟨_, rfl⟩
  rw [← hHe] at hP
  have hS : va_S AS s.heap H [] := by rw [hHe]; exact hS
  suffices hgo : ∀ locs : List Loc, va_S AS s.heap H locs → W p l e (headSpec ws_mc_X12_isDead ({ frames := 2, cells := 0, slots := 0, locals := 45 } : Room)).room s m [.ref (q 0), .int (iI x1)].toArray below meth c H locs 0 0 Q (F0 m 0 ls []) by
    have := hgo [] hS
    rw [hHe] at this
    exact this
  clear hS hHe
  intro locs hS
  refine lv_aload_n hx hb dX12_isDead_0 rfl (lv_at hl 0 rfl) ?_
  refine va_get (D := (dC, dI)) (ci := 12) (v := .ref (q 10)) (C := RX12) (T := TX12) (N := 85) hx hb hts hiX12 hown hK hP 0 wm0 rfl 21 (by decide) (hts _ (List.mem_cons_of_mem _ (wl_in_2 _ (List.mem_of_getElem? (i := 43) rfl)))) (fun _ h9 => h9) rfl dX12_isDead_1 ?_
  refine lv_aload_n hx hb dX12_isDead_4 rfl (lv_at hl 0 rfl) ?_
  refine lv_iload_n hx hb dX12_isDead_5 rfl (lv_at hl 1 rfl) ?_
  have r_A_0_12 : (0 : Int) ≤ (A 0 12) ∧ (A 0 12) ≤ 1 := hI 0 12
  refine x_calli (As := [.int (iI x1)]) (rest := [.ref (q 10)]) ⟨hx, hb, hml, hown, hts⟩ (mc_X12_door10 l dC dI cB cI cJ cZ cQ q _ x1 hI hx1) (cwV 1 hts (goodV (wl_in_4 _ (List.mem_of_getElem? (i := 49) rfl)) (wl_in_4 _ (List.mem_of_getElem? (i := 50) rfl)) (wl_in_4 _ (List.mem_of_getElem? (i := 51) rfl)) (wl_in_0 _ (List.mem_of_getElem? (i := 8) rfl)) (wl_in_4 _ (List.mem_of_getElem? (i := 42) rfl))) rfl rfl rfl (by decide +kernel) ⟨Nat.le_of_ble_eq_true rfl, Nat.le_of_ble_eq_true rfl⟩) hK hDD hA0 hP hS 0 12 wm0 rfl rfl hl.1 (Nat.le_of_ble_eq_true rfl) dX12_isDead_6 (fun z1 A2 H locs hw3 hP hS => ?_)
  obtain ⟨rfl, hw3⟩ := hw3
  have ghw3 : q_X12_door10 x1 A z1 := hw3
  have hw3 := hw3.2
  refine tp_i (y := iI (10 * (A 0 12) + x1)) (congrArg iI (show z1 = 10 * (A 0 12) + x1 by omega)) ?_
  clear hw3
  refine x_zald hx hb hK hP 10 3 wm10 rfl (by omega) (by decide) dX12_isDead_9 (fun z4 hz4 => ?_)
  have rz4 : (0 : Int) ≤ z4 ∧ z4 ≤ 1 := by rw [hz4]; exact hI 10 _
  have gz4 := Hd.mk hz4
  have hz4 : z4 = A 10 (10 * (A 0 12) + x1).toNat := hz4
  refine lv_if_eq (tgt := 15) hx hb dX12_isDead_10 (by decide) (fun c5 => ?_) (fun c5 => ?_)
  · have c5 : z4 = 0 := (i_eq0 (rb rz4 (by decide) (by decide))).mp c5
    refine lv_iconst (v := iI 0) hx hb dX12_isDead_15 (by decide +kernel) ?_
    refine lv_istore_n (lv' := [(2, .int (iI 0)), (0, .ref (q 0)), (1, .int (iI x1))]) hx hb dX12_isDead_16 rfl hl (by decide) rfl (fun ls hl => ?_)
    have L17_9 : ∀ (n11 : Nat) (z6 : Int) (H : Heap) (locs : List Loc) (ls : Array Slot), (0 ≤ z6) → (0 ≤ z6 ∧ z6 ≤ 2147483647) → (∀ (z : Int), (∃ mm1 : Nat, (d_X12_isDead_1 x1 A z mm1 z6)) → r_X12_isDead x1 A z) → ((A 11 ((A 0 12)).toNat - z6 + 1).toNat = n11) → va_P (dC, dI) vwCl (WM cI cJ cZ q A) H → va_S AS s.heap H locs → lv_has ls 3 [(2, .int (iI z6)), (0, .ref (q 0)), (1, .int (iI x1))] → W p l e (headSpec ws_mc_X12_isDead ({ frames := 2, cells := 0, slots := 0, locals := 45 } : Room)).room s m [.ref (q 0), .int (iI x1)].toArray below meth c H locs 0 0 Q (F0 m 17 ls []) := by
      intro n11
      induction n11 using Nat.strongRecOn with
      | ind n11 ih10 =>
        intro z6 H locs ls f12 f13 hk1 hn11 hP hS hl
        refine lv_iload_n hx hb dX12_isDead_17 rfl (lv_at hl 0 rfl) ?_
        refine lv_aload_n hx hb dX12_isDead_18 rfl (lv_at hl 1 rfl) ?_
        refine va_get (D := (dC, dI)) (ci := 12) (v := .ref (q 11)) (C := RX12) (T := TX12) (N := 85) hx hb hts hiX12 hown hK hP 0 wm0 rfl 22 (by decide) (hts _ (List.mem_cons_of_mem _ (wl_in_1 _ (List.mem_of_getElem? (i := 14) rfl)))) (fun _ h9 => h9) rfl dX12_isDead_19 ?_
        refine lv_aload_n hx hb dX12_isDead_22 rfl (lv_at hl 1 rfl) ?_
        refine va_get (D := (dC, dI)) (ci := 12) (v := .int (iI (A 0 12))) (C := RX12) (T := TX12) (N := 85) hx hb hts hiX12 hown hK hP 0 wm0 rfl 12 (by decide) (hts _ (List.mem_cons_of_mem _ (wl_in_4 _ (List.mem_of_getElem? (i := 14) rfl)))) (fun _ h9 => h9) rfl dX12_isDead_23 ?_
        refine x_iald hx hb hK hP 11 1 wm11 rfl (by omega) (by decide) dX12_isDead_26 (fun z14 hz14 => ?_)
        have rz14 : (0 : Int) ≤ z14 ∧ z14 ≤ 4 := by rw [hz14]; exact hI 11 _
        have gz14 := Hd.mk hz14
        have hz14 : z14 = A 11 ((A 0 12)).toNat := hz14
        refine lv_icmp_ge (tgt := 62) hx hb dX12_isDead_27 (by decide) (fun c15 => ?_) (fun c15 => ?_)
        · have c15 : z14 ≤ z6 := (i_le (rb rz14 (by decide) (by decide)) (rb f13 (by decide) (by decide))).mp c15
          refine lv_iconst (v := iI 0) hx hb dX12_isDead_62 (by decide +kernel) ?_
          exact RET 0 _ _ _ _ _ ⟨rfl, hk1 _ ⟨0 + 1, (u_d_X12_isDead_1 ⟨f13, ⟨z14, gz14.out, (Or.inl ⟨c15, rfl⟩)⟩⟩)⟩, by omega⟩ hP hS dX12_isDead_63
        · have c15 : ¬ z14 ≤ z6 := mt (i_le (rb rz14 (by decide) (by decide)) (rb f13 (by decide) (by decide))).mpr c15
          refine lv_aload_n hx hb dX12_isDead_30 rfl (lv_at hl 1 rfl) ?_
          refine va_get (D := (dC, dI)) (ci := 12) (v := .ref (q 13)) (C := RX12) (T := TX12) (N := 85) hx hb hts hiX12 hown hK hP 0 wm0 rfl 24 (by decide) (hts _ (List.mem_cons_of_mem _ (wl_in_2 _ (List.mem_of_getElem? (i := 58) rfl)))) (fun _ h9 => h9) rfl dX12_isDead_31 ?_
          refine lv_aload_n hx hb dX12_isDead_34 rfl (lv_at hl 1 rfl) ?_
          refine lv_iload_n hx hb dX12_isDead_35 rfl (lv_at hl 0 rfl) ?_
          refine x_calli (As := [.int (iI z6)]) (rest := [.ref (q 13)]) ⟨hx, hb, hml, hown, hts⟩ (mc_X12_key4 l dC dI cB cI cJ cZ cQ q _ z6 hI (by omega)) (cwV 1 hts (goodV (wl_in_4 _ (List.mem_of_getElem? (i := 44) rfl)) (wl_in_4 _ (List.mem_of_getElem? (i := 45) rfl)) (wl_in_4 _ (List.mem_of_getElem? (i := 46) rfl)) (wl_in_0 _ (List.mem_of_getElem? (i := 8) rfl)) (wl_in_4 _ (List.mem_of_getElem? (i := 41) rfl))) rfl rfl rfl (by decide +kernel) ⟨Nat.le_of_ble_eq_true rfl, Nat.le_of_ble_eq_true rfl⟩) hK hDD hA0 hP hS 0 12 wm0 rfl rfl hl.1 (Nat.le_of_ble_eq_true rfl) dX12_isDead_36 (fun z16 A17 H locs hw18 hP hS => ?_)
          obtain ⟨rfl, hw18⟩ := hw18
          have ghw18 : q_X12_key4 z6 A z16 := hw18
          have hw18 := hw18.2
          refine tp_i (y := iI (4 * (A 0 12) + z6)) (congrArg iI (show z16 = 4 * (A 0 12) + z6 by omega)) ?_
          clear hw18
          refine x_iald hx hb hK hP 13 1 wm13 rfl (by omega) (by decide) dX12_isDead_39 (fun z19 hz19 => ?_)
          have rz19 : (0 : Int) ≤ z19 ∧ z19 ≤ 40 := by rw [hz19]; exact hI 13 _
          have gz19 := Hd.mk hz19
          have hz19 : z19 = A 13 (4 * (A 0 12) + z6).toNat := hz19
          refine lv_bipush (v := iI 40) hx hb dX12_isDead_40 (by decide +kernel) ?_
          have J56_21 : ∀ (H : Heap) (locs : List Loc) (ls : Array Slot), (∀ (z : Int), (∃ mm1 : Nat, (d_X12_isDead_2 (fun z6' => d_X12_isDead_1 x1 A z mm1 z6') z6 z)) → r_X12_isDead x1 A z) → va_P (dC, dI) vwCl (WM cI cJ cZ q A) H → va_S AS s.heap H locs → lv_has ls 3 [(2, .int (iI z6)), (0, .ref (q 0)), (1, .int (iI x1))] → W p l e (headSpec ws_mc_X12_isDead ({ frames := 2, cells := 0, slots := 0, locals := 45 } : Room)).room s m [.ref (q 0), .int (iI x1)].toArray below meth c H locs 0 0 Q (F0 m 56 ls []) := by
            intro H locs ls hk2 hP hS hl
            refine lv_iinc (v := iI (z6 + 1)) (lv' := [(2, .int (iI (z6 + 1))), (0, .ref (q 0)), (1, .int (iI x1))]) hx hb dX12_isDead_56 hl (k := 0) rfl (i_inc (by omega)) (by decide) rfl (fun ls hl => ?_)
            refine lv_goto (tgt := 17) hx hb dX12_isDead_59 (by decide) ?_
            exact ih10 _ (by omega) (z6 + 1) _ _ _ (by omega) (by omega) (fun zq ⟨mm1, hq⟩ => hk2 _ ⟨mm1, (u_d_X12_isDead_2 hq)⟩) rfl hP hS (lv_sub hl [0, 1, 2] rfl)
          refine lv_icmp_ne (tgt := 56) hx hb dX12_isDead_42 (by decide) (fun c20 => ?_) (fun c20 => ?_)
          · have c20 : ¬ z19 = 40 := mt (i_eq (rb rz19 (by decide) (by decide)) ⟨by decide, by decide⟩).mpr c20
            exact J56_21 _ _ _ (fun zq ⟨mm1, hq⟩ => hk1 _ ⟨mm1 + 1, (u_d_X12_isDead_1 ⟨f13, ⟨z14, gz14.out, (Or.inr ⟨c15, ⟨z16, ghw18, ⟨z19, gz19.out, (Or.inl ⟨c20, hq⟩)⟩⟩⟩)⟩⟩)⟩) hP hS (lv_sub hl [0, 1, 2] rfl)
          · have c20 : z19 = 40 := (i_eq (rb rz19 (by decide) (by decide)) ⟨by decide, by decide⟩).mp c20
            refine lv_aload_n hx hb dX12_isDead_45 rfl (lv_at hl 1 rfl) ?_
            refine lv_iload_n hx hb dX12_isDead_46 rfl (lv_at hl 0 rfl) ?_
            refine lv_iload_n hx hb dX12_isDead_47 rfl (lv_at hl 2 rfl) ?_
            refine x_calli (As := [.int (iI z6), .int (iI x1)]) (rest := []) ⟨hx, hb, hml, hown, hts⟩ (mc_X12_inRow l dC dI cB cI cJ cZ cQ q _ z6 x1 hI (by omega) (rb hx1 (by decide) (by decide))) (cwV 2 hts (goodV (wl_in_4 _ (List.mem_of_getElem? (i := 52) rfl)) (wl_in_4 _ (List.mem_of_getElem? (i := 53) rfl)) (wl_in_4 _ (List.mem_of_getElem? (i := 54) rfl)) (wl_in_0 _ (List.mem_of_getElem? (i := 8) rfl)) (wl_in_4 _ (List.mem_of_getElem? (i := 43) rfl))) rfl rfl rfl (by decide +kernel) ⟨Nat.le_of_ble_eq_true rfl, Nat.le_of_ble_eq_true rfl⟩) hK hDD hA0 hP hS 0 12 wm0 rfl rfl hl.1 (Nat.le_of_ble_eq_true rfl) dX12_isDead_48 (fun z22 A23 H locs hw24 hP hS => ?_)
            obtain ⟨rfl, hw24⟩ := hw24
            have ghw24 : q_X12_inRow z6 x1 A z22 := hw24
            have hw24 := hw24.2
            refine lv_if_eq (tgt := 56) hx hb dX12_isDead_51 (by decide) (fun c25 => ?_) (fun c25 => ?_)
            · have c25 : z22 = 0 := (i_eq0 (rb hw24 (by decide) (by decide))).mp c25
              exact J56_21 _ _ _ (fun zq ⟨mm1, hq⟩ => hk1 _ ⟨mm1 + 1, (u_d_X12_isDead_1 ⟨f13, ⟨z14, gz14.out, (Or.inr ⟨c15, ⟨z16, ghw18, ⟨z19, gz19.out, (Or.inr ⟨c20, ⟨z22, ghw24, (Or.inl ⟨c25, hq⟩)⟩⟩)⟩⟩⟩)⟩⟩)⟩) hP hS (lv_sub hl [0, 1, 2] rfl)
            · have c25 : ¬ z22 = 0 := mt (i_eq0 (rb hw24 (by decide) (by decide))).mpr c25
              refine lv_iconst (v := iI 1) hx hb dX12_isDead_54 (by decide +kernel) ?_
              exact RET 1 _ _ _ _ _ ⟨rfl, hk1 _ ⟨0 + 1, (u_d_X12_isDead_1 ⟨f13, ⟨z14, gz14.out, (Or.inr ⟨c15, ⟨z16, ghw18, ⟨z19, gz19.out, (Or.inr ⟨c20, ⟨z22, ghw24, (Or.inr ⟨c25, rfl⟩)⟩⟩)⟩⟩⟩)⟩⟩)⟩, by omega⟩ hP hS dX12_isDead_55
    exact L17_9 _ 0 _ _ _ (by omega) (by omega) (fun zq ⟨mm1, hq⟩ => (u_r_X12_isDead ⟨z1, ghw3, ⟨z4, gz4.out, (Or.inl ⟨c5, ⟨mm1, hq⟩⟩)⟩⟩)) rfl hP hS (lv_sub hl [0, 1, 2] rfl)
  · have c5 : ¬ z4 = 0 := mt (i_eq0 (rb rz4 (by decide) (by decide))).mpr c5
    refine lv_iconst (v := iI 1) hx hb dX12_isDead_13 (by decide +kernel) ?_
    exact RET 1 _ _ _ _ _ ⟨rfl, (u_r_X12_isDead ⟨z1, ghw3, ⟨z4, gz4.out, (Or.inr ⟨c5, rfl⟩)⟩⟩), by omega⟩ hP hS dX12_isDead_14

abbrev tr_d_X12_closedAll_2 (K1 : Int → Int → Prop) (z1 : Int) (z2 : Int) (z : Int) (z18 : Int) : Prop := ((0 ≤ z18 ∧ z18 ≤ 1) ∧ (∃ z22 : Int, z22 = oWrap (z2 + z18) ∧ (K1 (z1 + 1) z22)))
def d_X12_closedAll_2 (K1 : Int → Int → Prop) (z1 : Int) (z2 : Int) (z : Int) (z18 : Int) : Prop := tr_d_X12_closedAll_2 K1 z1 z2 z z18
theorem u_d_X12_closedAll_2 {K1 : Int → Int → Prop} {z1 : Int} {z2 : Int} {z : Int} {z18 : Int} (h : tr_d_X12_closedAll_2 K1 z1 z2 z z18) : d_X12_closedAll_2 K1 z1 z2 z z18 := h
abbrev tr_d_X12_closedAll_1 (A : St) (z : Int) (K1 : Int → Int → Prop) (z1 : Int) (z2 : Int) : Prop := ((0 ≤ z1 ∧ z1 ≤ 2147483647) ∧ ((-2147483648 ≤ z2 ∧ z2 ≤ 2147483647) ∧ (∃ z11 : Int, z11 = A 4 ((A 0 12)).toNat ∧ (((z11 ≤ z1) ∧ (z = z2)) ∨ ((¬ z11 ≤ z1) ∧ (∃ z13 : Int, q_X12_isShut z1 A z13 ∧ (((z13 = 0) ∧ (d_X12_closedAll_2 K1 z1 z2 z 0)) ∨ ((¬ z13 = 0) ∧ (d_X12_closedAll_2 K1 z1 z2 z 1)))))))))
def d_X12_closedAll_1 (A : St) (z : Int) : Nat → Int → Int → Prop
  | 0, _, _ => False
  | nn9 + 1, z1, z2 => tr_d_X12_closedAll_1 A z (fun z1 z2 => d_X12_closedAll_1 A z nn9 z1 z2) z1 z2
theorem u_d_X12_closedAll_1 {A : St} {z : Int} {nn9 : Nat} {z1 : Int} {z2 : Int} (h : tr_d_X12_closedAll_1 A z (fun z1 z2 => d_X12_closedAll_1 A z nn9 z1 z2) z1 z2) : d_X12_closedAll_1 A z (nn9 + 1) z1 z2 := h
abbrev tr_r_X12_closedAll (A : St) (z : Int) : Prop := (∃ nn9 : Nat, d_X12_closedAll_1 A z nn9 0 0)
def r_X12_closedAll (A : St) (z : Int) : Prop := tr_r_X12_closedAll A z
theorem u_r_X12_closedAll {A : St} {z : Int} (h : tr_r_X12_closedAll A z) : r_X12_closedAll A z := h
def q_X12_closedAll (A : St) (z : Int) : Prop := r_X12_closedAll A z ∧ (-2147483648 ≤ z ∧ z ≤ 2147483647)
def ws_mc_X12_closedAll : List Cond := .code yX12_closedAll cX12_closedAll 3 (some .int) :: WX
set_option maxHeartbeats 4000000 in
set_option maxRecDepth 100000 in
theorem mc_X12_closedAll (l : Launch) (dC : Nat → ClassId) (dI : Nat → Nat → Nat) (cB cI cJ cZ cQ : ClassId) (q : Nat → Nat) (A : St) (hI : IM A) : XMi l yX12_closedAll ws_mc_X12_closedAll ({ frames := 3, cells := 0, slots := 0, locals := 67 } : Room) (dC, dI) (tyA cB cI cJ cZ cQ) (WM cI cJ cZ q) A [.ref (q 0)] (fun z u => A = u ∧ r_X12_closedAll A z ∧ (-2147483648 ≤ z ∧ z ≤ 2147483647)) := by
  refine x_meti (cc := cX12_closedAll) (maxL := 3) WM_adr (by decide +kernel) rfl (Nat.le_of_ble_eq_true rfl) (fun p e s m below meth c Q AS ls hx hb hml hown hts hK hDD hA0 hP hS hl RET => ?_)
  have hown : s.vm.findClass RX12 = some m.cls := hown
  have hl : lv_has ls 3 [(0, .ref (q 0))] := hl
  have hiX12 : ∀ w ∈ u_ws RX12 TX12 85, w ∈ ws_mc_X12_closedAll := fun w h => List.mem_cons_of_mem _ (wx_lay w h)
  obtain ⟨H, hHe⟩ : ∃ H : Heap, H = s.heap := ⟨_, rfl⟩
  rw [← hHe] at hP
  have hS : va_S AS s.heap H [] := by rw [hHe]; exact hS
  suffices hgo : ∀ locs : List Loc, va_S AS s.heap H locs → W p l e (headSpec ws_mc_X12_closedAll ({ frames := 3, cells := 0, slots := 0, locals := 67 } : Room)).room s m [.ref (q 0)].toArray below meth c H locs 0 0 Q (F0 m 0 ls []) by
    have := hgo [] hS
    rw [hHe] at this
    exact this
  clear hS hHe
  intro locs hS
  refine lv_iconst (v := iI 0) hx hb dX12_closedAll_0 (by decide +kernel) ?_
  refine lv_istore_n (lv' := [(1, .int (iI 0)), (0, .ref (q 0))]) hx hb dX12_closedAll_1 rfl hl (by decide) rfl (fun ls hl => ?_)
  refine lv_iconst (v := iI 0) hx hb dX12_closedAll_2 (by decide +kernel) ?_
  refine lv_istore_n (lv' := [(2, .int (iI 0)), (1, .int (iI 0)), (0, .ref (q 0))]) hx hb dX12_closedAll_3 rfl hl (by decide) rfl (fun ls hl => ?_)
  have L4_5 : ∀ (n7 : Nat) (z1 z2 : Int) (H : Heap) (locs : List Loc) (ls : Array Slot), (0 ≤ z1) → (0 ≤ z1 ∧ z1 ≤ 2147483647) → (-2147483648 ≤ z2 ∧ z2 ≤ 2147483647) → (∀ (z : Int), (∃ mm1 : Nat, (d_X12_closedAll_1 A z mm1 z1 z2)) → r_X12_closedAll A z) → ((A 4 ((A 0 12)).toNat - z1 + 1).toNat = n7) → va_P (dC, dI) vwCl (WM cI cJ cZ q A) H → va_S AS s.heap H locs → lv_has ls 3 [(2, .int (iI z1)), (1, .int (iI z2)), (0, .ref (q 0))] → W p l e (headSpec ws_mc_X12_closedAll ({ frames := 3, cells := 0, slots := 0, locals := 67 } : Room)).room s m [.ref (q 0)].toArray below meth c H locs 0 0 Q (F0 m 4 ls []) := by
    intro n7
    induction n7 using Nat.strongRecOn with
    | ind n7 ih6 =>
      intro z1 z2 H locs ls f8 f9 f10 hk1 hn7 hP hS hl
      refine lv_iload_n hx hb dX12_closedAll_4 rfl (lv_at hl 0 rfl) ?_
      refine lv_aload_n hx hb dX12_closedAll_5 rfl (lv_at hl 2 rfl) ?_
      refine va_get (D := (dC, dI)) (ci := 12) (v := .ref (q 4)) (C := RX12) (T := TX12) (N := 85) hx hb hts hiX12 hown hK hP 0 wm0 rfl 15 (by decide) (hts _ (List.mem_cons_of_mem _ (wl_in_1 _ (List.mem_of_getElem? (i := 13) rfl)))) (fun _ h9 => h9) rfl dX12_closedAll_6 ?_
      refine lv_aload_n hx hb dX12_closedAll_9 rfl (lv_at hl 2 rfl) ?_
      refine va_get (D := (dC, dI)) (ci := 12) (v := .int (iI (A 0 12))) (C := RX12) (T := TX12) (N := 85) hx hb hts hiX12 hown hK hP 0 wm0 rfl 12 (by decide) (hts _ (List.mem_cons_of_mem _ (wl_in_4 _ (List.mem_of_getElem? (i := 14) rfl)))) (fun _ h9 => h9) rfl dX12_closedAll_10 ?_
      have r_A_0_12 : (0 : Int) ≤ (A 0 12) ∧ (A 0 12) ≤ 1 := hI 0 12
      refine x_iald hx hb hK hP 4 1 wm4 rfl (by omega) (by decide) dX12_closedAll_13 (fun z11 hz11 => ?_)
      have rz11 : (0 : Int) ≤ z11 ∧ z11 ≤ 10 := by rw [hz11]; exact hI 4 _
      have gz11 := Hd.mk hz11
      have hz11 : z11 = A 4 ((A 0 12)).toNat := hz11
      refine lv_icmp_ge (tgt := 39) hx hb dX12_closedAll_14 (by decide) (fun c12 => ?_) (fun c12 => ?_)
      · have c12 : z11 ≤ z1 := (i_le (rb rz11 (by decide) (by decide)) (rb f9 (by decide) (by decide))).mp c12
        refine lv_iload_n hx hb dX12_closedAll_39 rfl (lv_at hl 1 rfl) ?_
        exact RET z2 _ _ _ _ _ ⟨rfl, hk1 _ ⟨0 + 1, (u_d_X12_closedAll_1 ⟨f9, ⟨f10, ⟨z11, gz11.out, (Or.inl ⟨c12, rfl⟩)⟩⟩⟩)⟩, by omega⟩ hP hS dX12_closedAll_40
      · have c12 : ¬ z11 ≤ z1 := mt (i_le (rb rz11 (by decide) (by decide)) (rb f9 (by decide) (by decide))).mpr c12
        refine lv_iload_n hx hb dX12_closedAll_17 rfl (lv_at hl 1 rfl) ?_
        refine lv_aload_n hx hb dX12_closedAll_18 rfl (lv_at hl 2 rfl) ?_
        refine lv_iload_n hx hb dX12_closedAll_19 rfl (lv_at hl 0 rfl) ?_
        refine x_calli (As := [.int (iI z1)]) (rest := [.int (iI z2)]) ⟨hx, hb, hml, hown, hts⟩ (mc_X12_isShut l dC dI cB cI cJ cZ cQ q _ z1 hI (by omega)) (cwV 1 hts (goodV (wl_in_4 _ (List.mem_of_getElem? (i := 57) rfl)) (wl_in_4 _ (List.mem_of_getElem? (i := 58) rfl)) (wl_in_4 _ (List.mem_of_getElem? (i := 59) rfl)) (wl_in_0 _ (List.mem_of_getElem? (i := 8) rfl)) (wl_in_4 _ (List.mem_of_getElem? (i := 48) rfl))) rfl rfl rfl (by decide +kernel) ⟨Nat.le_of_ble_eq_true rfl, Nat.le_of_ble_eq_true rfl⟩) hK hDD hA0 hP hS 0 12 wm0 rfl rfl hl.1 (Nat.le_of_ble_eq_true rfl) dX12_closedAll_20 (fun z13 A14 H locs hw15 hP hS => ?_)
        obtain ⟨rfl, hw15⟩ := hw15
        have ghw15 : q_X12_isShut z1 A z13 := hw15
        have hw15 := hw15.2
        have J31_17 : ∀ (z18 : Int) (H : Heap) (locs : List Loc) (ls : Array Slot), (0 ≤ z18 ∧ z18 ≤ 1) → ((z18 = 0 ∧ z13 = 0) ∨ (z18 = 1 ∧ ¬ z13 = 0)) → (∀ (z : Int), (∃ mm1 : Nat, (d_X12_closedAll_2 (fun z1' z2' => d_X12_closedAll_1 A z mm1 z1' z2') z1 z2 z z18)) → r_X12_closedAll A z) → va_P (dC, dI) vwCl (WM cI cJ cZ q A) H → va_S AS s.heap H locs → lv_has ls 3 [(2, .int (iI z1)), (1, .int (iI z2)), (0, .ref (q 0))] → W p l e (headSpec ws_mc_X12_closedAll ({ frames := 3, cells := 0, slots := 0, locals := 67 } : Room)).room s m [.ref (q 0)].toArray below meth c H locs 0 0 Q (F0 m 31 ls [.int (iI z18), .int (iI z2)]) := by
          intro z18 H locs ls f20 f21 hk2 hP hS hl
          refine x_addv (v := z2 + z18) hx hb dX12_closedAll_31 (by omega) ?_
          refine x_absE (fun z22 gz22 hz22 => ?_)
          refine lv_istore_n (lv' := [(1, .int (iI z22)), (2, .int (iI z1)), (0, .ref (q 0))]) hx hb dX12_closedAll_32 rfl hl (by decide) rfl (fun ls hl => ?_)
          refine lv_iinc (v := iI (z1 + 1)) (lv' := [(2, .int (iI (z1 + 1))), (1, .int (iI z22)), (0, .ref (q 0))]) hx hb dX12_closedAll_33 hl (k := 1) rfl (i_inc (by omega)) (by decide) rfl (fun ls hl => ?_)
          refine lv_goto (tgt := 4) hx hb dX12_closedAll_36 (by decide) ?_
          exact ih6 _ (by omega) (z1 + 1) z22 _ _ _ (by omega) (by omega) (by omega) (fun zq ⟨mm1, hq⟩ => hk2 _ ⟨mm1, (u_d_X12_closedAll_2 ⟨f20, ⟨z22, gz22.out, hq⟩⟩)⟩) rfl hP hS (lv_sub hl [0, 1, 2] rfl)
        refine lv_if_eq (tgt := 30) hx hb dX12_closedAll_23 (by decide) (fun c16 => ?_) (fun c16 => ?_)
        · have c16 : z13 = 0 := (i_eq0 (rb hw15 (by decide) (by decide))).mp c16
          refine lv_iconst (v := iI 0) hx hb dX12_closedAll_30 (by decide +kernel) ?_
          exact J31_17 0 _ _ _ (by omega) (by omega) (fun zq ⟨mm1, hq⟩ => hk1 _ ⟨mm1 + 1, (u_d_X12_closedAll_1 ⟨f9, ⟨f10, ⟨z11, gz11.out, (Or.inr ⟨c12, ⟨z13, ghw15, (Or.inl ⟨c16, hq⟩)⟩⟩)⟩⟩⟩)⟩) hP hS (lv_sub hl [0, 1, 2] rfl)
        · have c16 : ¬ z13 = 0 := mt (i_eq0 (rb hw15 (by decide) (by decide))).mpr c16
          refine lv_iconst (v := iI 1) hx hb dX12_closedAll_26 (by decide +kernel) ?_
          refine lv_goto (tgt := 31) hx hb dX12_closedAll_27 (by decide) ?_
          exact J31_17 1 _ _ _ (by omega) (by omega) (fun zq ⟨mm1, hq⟩ => hk1 _ ⟨mm1 + 1, (u_d_X12_closedAll_1 ⟨f9, ⟨f10, ⟨z11, gz11.out, (Or.inr ⟨c12, ⟨z13, ghw15, (Or.inr ⟨c16, hq⟩)⟩⟩)⟩⟩⟩)⟩) hP hS (lv_sub hl [0, 1, 2] rfl)
  exact L4_5 _ 0 0 _ _ _ (by omega) (by omega) (by omega) (fun zq ⟨mm1, hq⟩ => (u_r_X12_closedAll ⟨mm1, hq⟩)) rfl hP hS (lv_sub hl [0, 1, 2] rfl)

abbrev tr_d_X12_has_2 (K1 : Int → Int → Prop) (z13 : Int) (z14 : Int) (z : Int) (z30 : Int) : Prop := ((0 ≤ z30 ∧ z30 ≤ 1) ∧ (∃ z34 : Int, z34 = oWrap (z14 + z30) ∧ (K1 (z13 + 1) z34)))
def d_X12_has_2 (K1 : Int → Int → Prop) (z13 : Int) (z14 : Int) (z : Int) (z30 : Int) : Prop := tr_d_X12_has_2 K1 z13 z14 z z30
theorem u_d_X12_has_2 {K1 : Int → Int → Prop} {z13 : Int} {z14 : Int} {z : Int} {z30 : Int} (h : tr_d_X12_has_2 K1 z13 z14 z z30) : d_X12_has_2 K1 z13 z14 z z30 := h
abbrev tr_d_X12_has_1 (A : St) (z : Int) (K1 : Int → Int → Prop) (z13 : Int) (z14 : Int) : Prop := ((0 ≤ z13 ∧ z13 ≤ 2147483647) ∧ ((-2147483648 ≤ z14 ∧ z14 ≤ 2147483647) ∧ (∃ z23 : Int, z23 = A 4 ((A 0 12)).toNat ∧ (((z23 ≤ z13) ∧ (z = z14)) ∨ ((¬ z23 ≤ z13) ∧ (∃ z25 : Int, q_X12_isDead z13 A z25 ∧ (((z25 = 0) ∧ (d_X12_has_2 K1 z13 z14 z 0)) ∨ ((¬ z25 = 0) ∧ (d_X12_has_2 K1 z13 z14 z 1)))))))))
def d_X12_has_1 (A : St) (z : Int) : Nat → Int → Int → Prop
  | 0, _, _ => False
  | nn9 + 1, z13, z14 => tr_d_X12_has_1 A z (fun z13 z14 => d_X12_has_1 A z nn9 z13 z14) z13 z14
theorem u_d_X12_has_1 {A : St} {z : Int} {nn9 : Nat} {z13 : Int} {z14 : Int} (h : tr_d_X12_has_1 A z (fun z13 z14 => d_X12_has_1 A z nn9 z13 z14) z13 z14) : d_X12_has_1 A z (nn9 + 1) z13 z14 := h
abbrev tr_r_X12_has (x1 : Int) (A : St) (z : Int) : Prop := (((x1 < 0 ∨ 9 < x1) ∧ (z = (-1))) ∨ (x1 = 0 ∧ (∃ z2 : Int, z2 = A 2 ((A 0 12)).toNat ∧ (z = z2))) ∨ (x1 = 1 ∧ (∃ z3 : Int, z3 = A 4 ((A 0 12)).toNat ∧ (z = z3))) ∨ (x1 = 2 ∧ (∃ z4 : Int, z4 = A 11 ((A 0 12)).toNat ∧ (z = z4))) ∨ (x1 = 3 ∧ (∃ z5 : Int, z5 = A 16 ((A 0 12)).toNat ∧ (z = z5))) ∨ (x1 = 4 ∧ (∃ z6 : Int, z6 = A 19 ((A 0 12)).toNat ∧ (z = z6))) ∨ (x1 = 5 ∧ (∃ z7 : Int, z7 = A 22 ((A 0 12)).toNat ∧ (z = z7))) ∨ (x1 = 6 ∧ (∃ z8 : Int, z8 = A 25 ((A 0 12)).toNat ∧ (z = z8))) ∨ (x1 = 7 ∧ (∃ z9 : Int, z9 = A 29 ((A 0 12)).toNat ∧ (z = z9))) ∨ (x1 = 8 ∧ (∃ z10 : Int, q_X12_closedAll A z10 ∧ (z = z10))) ∨ (x1 = 9 ∧ (∃ nn9 : Nat, d_X12_has_1 A z nn9 0 0)))
def r_X12_has (x1 : Int) (A : St) (z : Int) : Prop := tr_r_X12_has x1 A z
theorem u_r_X12_has {x1 : Int} {A : St} {z : Int} (h : tr_r_X12_has x1 A z) : r_X12_has x1 A z := h
def ws_mc_X12_has : List Cond := .code yX12_has cX12_has 4 (some .int) :: WX
set_option maxHeartbeats 4000000 in
set_option maxRecDepth 100000 in
theorem mc_X12_has (l : Launch) (dC : Nat → ClassId) (dI : Nat → Nat → Nat) (cB cI cJ cZ cQ : ClassId) (q : Nat → Nat) (A : St) (x1 : Int) (hI : IM A) (hx1 : (-2147483648 : Int) ≤ x1 ∧ x1 ≤ 2147483647) : XMi l yX12_has ws_mc_X12_has ({ frames := 4, cells := 0, slots := 0, locals := 89 } : Room) (dC, dI) (tyA cB cI cJ cZ cQ) (WM cI cJ cZ q) A [.ref (q 0), .int (iI x1)] (fun z u => A = u ∧ r_X12_has x1 A z ∧ (-2147483648 ≤ z ∧ z ≤ 2147483647)) := by
  refine x_meti (cc := cX12_has) (maxL := 4) WM_adr (by decide +kernel) rfl (Nat.le_of_ble_eq_true rfl) (fun p e s m below meth c Q AS ls hx hb hml hown hts hK hDD hA0 hP hS hl RET => ?_)
  have hown : s.vm.findClass RX12 = some m.cls := hown
  have hl : lv_has ls 4 [(0, .ref (q 0)), (1, .int (iI x1))] := hl
  have hiX12 : ∀ w ∈ u_ws RX12 TX12 85, w ∈ ws_mc_X12_has := fun w h => List.mem_cons_of_mem _ (wx_lay w h)
  obtain ⟨H, hHe⟩ : ∃ H : Heap, H = s.heap := ⟨_, rfl⟩
  rw [← hHe] at hP
  have hS : va_S AS s.heap H [] := by rw [hHe]; exact hS
  suffices hgo : ∀ locs : List Loc, va_S AS s.heap H locs → W p l e (headSpec ws_mc_X12_has ({ frames := 4, cells := 0, slots := 0, locals := 89 } : Room)).room s m [.ref (q 0), .int (iI x1)].toArray below meth c H locs 0 0 Q (F0 m 0 ls []) by
    have := hgo [] hS
    rw [hHe] at this
    exact this
  clear hS hHe
  intro locs hS
  refine lv_iconst (v := iI 0) hx hb dX12_has_0 (by decide +kernel) ?_
  refine lv_istore_n (lv' := [(2, .int (iI 0)), (0, .ref (q 0)), (1, .int (iI x1))]) hx hb dX12_has_1 rfl hl (by decide) rfl (fun ls hl => ?_)
  refine lv_iload_n hx hb dX12_has_2 rfl (lv_at hl 2 rfl) ?_
  rcases (show (x1 < 0 ∨ 9 < x1) ∨ x1 = 0 ∨ x1 = 1 ∨ x1 = 2 ∨ x1 = 3 ∨ x1 = 4 ∨ x1 = 5 ∨ x1 = 6 ∨ x1 = 7 ∨ x1 = 8 ∨ x1 = 9 by omega) with c1 | c1 | c1 | c1 | c1 | c1 | c1 | c1 | c1 | c1 | c1
  · refine lv_tableOut (tgt := 180) hx hb dX12_has_3 (by rw [iI_toInt hx1]; exact c1) (by decide) ?_
    refine lv_iconst (v := iI (-1)) hx hb dX12_has_180 (by decide +kernel) ?_
    exact RET (-1) _ _ _ _ _ ⟨rfl, (u_r_X12_has (Or.inl ⟨c1, rfl⟩)), by omega⟩ hP hS dX12_has_181
  · refine tp_i (y := iI 0) (congrArg iI c1) ?_
    refine lv_tableIn (off := 53) (tgt := 56) hx hb dX12_has_3 (by decide +kernel) (by decide +kernel) (by decide +kernel) (by decide) ?_
    refine lv_aload_n hx hb dX12_has_56 rfl (lv_at hl 1 rfl) ?_
    refine va_get (D := (dC, dI)) (ci := 12) (v := .ref (q 2)) (C := RX12) (T := TX12) (N := 85) hx hb hts hiX12 hown hK hP 0 wm0 rfl 13 (by decide) (hts _ (List.mem_cons_of_mem _ (wl_in_1 _ (List.mem_of_getElem? (i := 11) rfl)))) (fun _ h9 => h9) rfl dX12_has_57 ?_
    refine lv_aload_n hx hb dX12_has_60 rfl (lv_at hl 1 rfl) ?_
    refine va_get (D := (dC, dI)) (ci := 12) (v := .int (iI (A 0 12))) (C := RX12) (T := TX12) (N := 85) hx hb hts hiX12 hown hK hP 0 wm0 rfl 12 (by decide) (hts _ (List.mem_cons_of_mem _ (wl_in_4 _ (List.mem_of_getElem? (i := 14) rfl)))) (fun _ h9 => h9) rfl dX12_has_61 ?_
    have r_A_0_12 : (0 : Int) ≤ (A 0 12) ∧ (A 0 12) ≤ 1 := hI 0 12
    refine x_iald hx hb hK hP 2 1 wm2 rfl (by omega) (by decide) dX12_has_64 (fun z2 hz2 => ?_)
    have rz2 : (0 : Int) ≤ z2 ∧ z2 ≤ 8 := by rw [hz2]; exact hI 2 _
    have gz2 := Hd.mk hz2
    have hz2 : z2 = A 2 ((A 0 12)).toNat := hz2
    exact RET z2 _ _ _ _ _ ⟨rfl, (u_r_X12_has (Or.inr (Or.inl ⟨c1, ⟨z2, gz2.out, rfl⟩⟩))), by omega⟩ hP hS dX12_has_65
  · refine tp_i (y := iI 1) (congrArg iI c1) ?_
    refine lv_tableIn (off := 63) (tgt := 66) hx hb dX12_has_3 (by decide +kernel) (by decide +kernel) (by decide +kernel) (by decide) ?_
    refine lv_aload_n hx hb dX12_has_66 rfl (lv_at hl 1 rfl) ?_
    refine va_get (D := (dC, dI)) (ci := 12) (v := .ref (q 4)) (C := RX12) (T := TX12) (N := 85) hx hb hts hiX12 hown hK hP 0 wm0 rfl 15 (by decide) (hts _ (List.mem_cons_of_mem _ (wl_in_1 _ (List.mem_of_getElem? (i := 13) rfl)))) (fun _ h9 => h9) rfl dX12_has_67 ?_
    refine lv_aload_n hx hb dX12_has_70 rfl (lv_at hl 1 rfl) ?_
    refine va_get (D := (dC, dI)) (ci := 12) (v := .int (iI (A 0 12))) (C := RX12) (T := TX12) (N := 85) hx hb hts hiX12 hown hK hP 0 wm0 rfl 12 (by decide) (hts _ (List.mem_cons_of_mem _ (wl_in_4 _ (List.mem_of_getElem? (i := 14) rfl)))) (fun _ h9 => h9) rfl dX12_has_71 ?_
    have r_A_0_12 : (0 : Int) ≤ (A 0 12) ∧ (A 0 12) ≤ 1 := hI 0 12
    refine x_iald hx hb hK hP 4 1 wm4 rfl (by omega) (by decide) dX12_has_74 (fun z3 hz3 => ?_)
    have rz3 : (0 : Int) ≤ z3 ∧ z3 ≤ 10 := by rw [hz3]; exact hI 4 _
    have gz3 := Hd.mk hz3
    have hz3 : z3 = A 4 ((A 0 12)).toNat := hz3
    exact RET z3 _ _ _ _ _ ⟨rfl, (u_r_X12_has (Or.inr (Or.inr (Or.inl ⟨c1, ⟨z3, gz3.out, rfl⟩⟩)))), by omega⟩ hP hS dX12_has_75
  · refine tp_i (y := iI 2) (congrArg iI c1) ?_
    refine lv_tableIn (off := 73) (tgt := 76) hx hb dX12_has_3 (by decide +kernel) (by decide +kernel) (by decide +kernel) (by decide) ?_
    refine lv_aload_n hx hb dX12_has_76 rfl (lv_at hl 1 rfl) ?_
    refine va_get (D := (dC, dI)) (ci := 12) (v := .ref (q 11)) (C := RX12) (T := TX12) (N := 85) hx hb hts hiX12 hown hK hP 0 wm0 rfl 22 (by decide) (hts _ (List.mem_cons_of_mem _ (wl_in_1 _ (List.mem_of_getElem? (i := 14) rfl)))) (fun _ h9 => h9) rfl dX12_has_77 ?_
    refine lv_aload_n hx hb dX12_has_80 rfl (lv_at hl 1 rfl) ?_
    refine va_get (D := (dC, dI)) (ci := 12) (v := .int (iI (A 0 12))) (C := RX12) (T := TX12) (N := 85) hx hb hts hiX12 hown hK hP 0 wm0 rfl 12 (by decide) (hts _ (List.mem_cons_of_mem _ (wl_in_4 _ (List.mem_of_getElem? (i := 14) rfl)))) (fun _ h9 => h9) rfl dX12_has_81 ?_
    have r_A_0_12 : (0 : Int) ≤ (A 0 12) ∧ (A 0 12) ≤ 1 := hI 0 12
    refine x_iald hx hb hK hP 11 1 wm11 rfl (by omega) (by decide) dX12_has_84 (fun z4 hz4 => ?_)
    have rz4 : (0 : Int) ≤ z4 ∧ z4 ≤ 4 := by rw [hz4]; exact hI 11 _
    have gz4 := Hd.mk hz4
    have hz4 : z4 = A 11 ((A 0 12)).toNat := hz4
    exact RET z4 _ _ _ _ _ ⟨rfl, (u_r_X12_has (Or.inr (Or.inr (Or.inr (Or.inl ⟨c1, ⟨z4, gz4.out, rfl⟩⟩))))), by omega⟩ hP hS dX12_has_85
  · refine tp_i (y := iI 3) (congrArg iI c1) ?_
    refine lv_tableIn (off := 83) (tgt := 86) hx hb dX12_has_3 (by decide +kernel) (by decide +kernel) (by decide +kernel) (by decide) ?_
    refine lv_aload_n hx hb dX12_has_86 rfl (lv_at hl 1 rfl) ?_
    refine va_get (D := (dC, dI)) (ci := 12) (v := .ref (q 16)) (C := RX12) (T := TX12) (N := 85) hx hb hts hiX12 hown hK hP 0 wm0 rfl 27 (by decide) (hts _ (List.mem_cons_of_mem _ (wl_in_1 _ (List.mem_of_getElem? (i := 15) rfl)))) (fun _ h9 => h9) rfl dX12_has_87 ?_
    refine lv_aload_n hx hb dX12_has_90 rfl (lv_at hl 1 rfl) ?_
    refine va_get (D := (dC, dI)) (ci := 12) (v := .int (iI (A 0 12))) (C := RX12) (T := TX12) (N := 85) hx hb hts hiX12 hown hK hP 0 wm0 rfl 12 (by decide) (hts _ (List.mem_cons_of_mem _ (wl_in_4 _ (List.mem_of_getElem? (i := 14) rfl)))) (fun _ h9 => h9) rfl dX12_has_91 ?_
    have r_A_0_12 : (0 : Int) ≤ (A 0 12) ∧ (A 0 12) ≤ 1 := hI 0 12
    refine x_iald hx hb hK hP 16 1 wm16 rfl (by omega) (by decide) dX12_has_94 (fun z5 hz5 => ?_)
    have rz5 : (0 : Int) ≤ z5 ∧ z5 ≤ 3 := by rw [hz5]; exact hI 16 _
    have gz5 := Hd.mk hz5
    have hz5 : z5 = A 16 ((A 0 12)).toNat := hz5
    exact RET z5 _ _ _ _ _ ⟨rfl, (u_r_X12_has (Or.inr (Or.inr (Or.inr (Or.inr (Or.inl ⟨c1, ⟨z5, gz5.out, rfl⟩⟩)))))), by omega⟩ hP hS dX12_has_95
  · refine tp_i (y := iI 4) (congrArg iI c1) ?_
    refine lv_tableIn (off := 93) (tgt := 96) hx hb dX12_has_3 (by decide +kernel) (by decide +kernel) (by decide +kernel) (by decide) ?_
    refine lv_aload_n hx hb dX12_has_96 rfl (lv_at hl 1 rfl) ?_
    refine va_get (D := (dC, dI)) (ci := 12) (v := .ref (q 19)) (C := RX12) (T := TX12) (N := 85) hx hb hts hiX12 hown hK hP 0 wm0 rfl 30 (by decide) (hts _ (List.mem_cons_of_mem _ (wl_in_1 _ (List.mem_of_getElem? (i := 16) rfl)))) (fun _ h9 => h9) rfl dX12_has_97 ?_
    refine lv_aload_n hx hb dX12_has_100 rfl (lv_at hl 1 rfl) ?_
    refine va_get (D := (dC, dI)) (ci := 12) (v := .int (iI (A 0 12))) (C := RX12) (T := TX12) (N := 85) hx hb hts hiX12 hown hK hP 0 wm0 rfl 12 (by decide) (hts _ (List.mem_cons_of_mem _ (wl_in_4 _ (List.mem_of_getElem? (i := 14) rfl)))) (fun _ h9 => h9) rfl dX12_has_101 ?_
    have r_A_0_12 : (0 : Int) ≤ (A 0 12) ∧ (A 0 12) ≤ 1 := hI 0 12
    refine x_iald hx hb hK hP 19 1 wm19 rfl (by omega) (by decide) dX12_has_104 (fun z6 hz6 => ?_)
    have rz6 : (0 : Int) ≤ z6 ∧ z6 ≤ 4 := by rw [hz6]; exact hI 19 _
    have gz6 := Hd.mk hz6
    have hz6 : z6 = A 19 ((A 0 12)).toNat := hz6
    exact RET z6 _ _ _ _ _ ⟨rfl, (u_r_X12_has (Or.inr (Or.inr (Or.inr (Or.inr (Or.inr (Or.inl ⟨c1, ⟨z6, gz6.out, rfl⟩⟩))))))), by omega⟩ hP hS dX12_has_105
  · refine tp_i (y := iI 5) (congrArg iI c1) ?_
    refine lv_tableIn (off := 103) (tgt := 106) hx hb dX12_has_3 (by decide +kernel) (by decide +kernel) (by decide +kernel) (by decide) ?_
    refine lv_aload_n hx hb dX12_has_106 rfl (lv_at hl 1 rfl) ?_
    refine va_get (D := (dC, dI)) (ci := 12) (v := .ref (q 22)) (C := RX12) (T := TX12) (N := 85) hx hb hts hiX12 hown hK hP 0 wm0 rfl 33 (by decide) (hts _ (List.mem_cons_of_mem _ (wl_in_3 _ (List.mem_of_getElem? (i := 16) rfl)))) (fun _ h9 => h9) rfl dX12_has_107 ?_
    refine lv_aload_n hx hb dX12_has_110 rfl (lv_at hl 1 rfl) ?_
    refine va_get (D := (dC, dI)) (ci := 12) (v := .int (iI (A 0 12))) (C := RX12) (T := TX12) (N := 85) hx hb hts hiX12 hown hK hP 0 wm0 rfl 12 (by decide) (hts _ (List.mem_cons_of_mem _ (wl_in_4 _ (List.mem_of_getElem? (i := 14) rfl)))) (fun _ h9 => h9) rfl dX12_has_111 ?_
    have r_A_0_12 : (0 : Int) ≤ (A 0 12) ∧ (A 0 12) ≤ 1 := hI 0 12
    refine x_iald hx hb hK hP 22 1 wm22 rfl (by omega) (by decide) dX12_has_114 (fun z7 hz7 => ?_)
    have rz7 : (0 : Int) ≤ z7 ∧ z7 ≤ 6 := by rw [hz7]; exact hI 22 _
    have gz7 := Hd.mk hz7
    have hz7 : z7 = A 22 ((A 0 12)).toNat := hz7
    exact RET z7 _ _ _ _ _ ⟨rfl, (u_r_X12_has (Or.inr (Or.inr (Or.inr (Or.inr (Or.inr (Or.inr (Or.inl ⟨c1, ⟨z7, gz7.out, rfl⟩⟩)))))))), by omega⟩ hP hS dX12_has_115
  · refine tp_i (y := iI 6) (congrArg iI c1) ?_
    refine lv_tableIn (off := 113) (tgt := 116) hx hb dX12_has_3 (by decide +kernel) (by decide +kernel) (by decide +kernel) (by decide) ?_
    refine lv_aload_n hx hb dX12_has_116 rfl (lv_at hl 1 rfl) ?_
    refine va_get (D := (dC, dI)) (ci := 12) (v := .ref (q 25)) (C := RX12) (T := TX12) (N := 85) hx hb hts hiX12 hown hK hP 0 wm0 rfl 36 (by decide) (hts _ (List.mem_cons_of_mem _ (wl_in_3 _ (List.mem_of_getElem? (i := 20) rfl)))) (fun _ h9 => h9) rfl dX12_has_117 ?_
    refine lv_aload_n hx hb dX12_has_120 rfl (lv_at hl 1 rfl) ?_
    refine va_get (D := (dC, dI)) (ci := 12) (v := .int (iI (A 0 12))) (C := RX12) (T := TX12) (N := 85) hx hb hts hiX12 hown hK hP 0 wm0 rfl 12 (by decide) (hts _ (List.mem_cons_of_mem _ (wl_in_4 _ (List.mem_of_getElem? (i := 14) rfl)))) (fun _ h9 => h9) rfl dX12_has_121 ?_
    have r_A_0_12 : (0 : Int) ≤ (A 0 12) ∧ (A 0 12) ≤ 1 := hI 0 12
    refine x_iald hx hb hK hP 25 1 wm25 rfl (by omega) (by decide) dX12_has_124 (fun z8 hz8 => ?_)
    have rz8 : (0 : Int) ≤ z8 ∧ z8 ≤ 6 := by rw [hz8]; exact hI 25 _
    have gz8 := Hd.mk hz8
    have hz8 : z8 = A 25 ((A 0 12)).toNat := hz8
    exact RET z8 _ _ _ _ _ ⟨rfl, (u_r_X12_has (Or.inr (Or.inr (Or.inr (Or.inr (Or.inr (Or.inr (Or.inr (Or.inl ⟨c1, ⟨z8, gz8.out, rfl⟩⟩))))))))), by omega⟩ hP hS dX12_has_125
  · refine tp_i (y := iI 7) (congrArg iI c1) ?_
    refine lv_tableIn (off := 123) (tgt := 126) hx hb dX12_has_3 (by decide +kernel) (by decide +kernel) (by decide +kernel) (by decide) ?_
    refine lv_aload_n hx hb dX12_has_126 rfl (lv_at hl 1 rfl) ?_
    refine va_get (D := (dC, dI)) (ci := 12) (v := .ref (q 29)) (C := RX12) (T := TX12) (N := 85) hx hb hts hiX12 hown hK hP 0 wm0 rfl 40 (by decide) (hts _ (List.mem_cons_of_mem _ (wl_in_3 _ (List.mem_of_getElem? (i := 25) rfl)))) (fun _ h9 => h9) rfl dX12_has_127 ?_
    refine lv_aload_n hx hb dX12_has_130 rfl (lv_at hl 1 rfl) ?_
    refine va_get (D := (dC, dI)) (ci := 12) (v := .int (iI (A 0 12))) (C := RX12) (T := TX12) (N := 85) hx hb hts hiX12 hown hK hP 0 wm0 rfl 12 (by decide) (hts _ (List.mem_cons_of_mem _ (wl_in_4 _ (List.mem_of_getElem? (i := 14) rfl)))) (fun _ h9 => h9) rfl dX12_has_131 ?_
    have r_A_0_12 : (0 : Int) ≤ (A 0 12) ∧ (A 0 12) ≤ 1 := hI 0 12
    refine x_iald hx hb hK hP 29 1 wm29 rfl (by omega) (by decide) dX12_has_134 (fun z9 hz9 => ?_)
    have rz9 : (0 : Int) ≤ z9 ∧ z9 ≤ 6 := by rw [hz9]; exact hI 29 _
    have gz9 := Hd.mk hz9
    have hz9 : z9 = A 29 ((A 0 12)).toNat := hz9
    exact RET z9 _ _ _ _ _ ⟨rfl, (u_r_X12_has (Or.inr (Or.inr (Or.inr (Or.inr (Or.inr (Or.inr (Or.inr (Or.inr (Or.inl ⟨c1, ⟨z9, gz9.out, rfl⟩⟩)))))))))), by omega⟩ hP hS dX12_has_135
  · refine tp_i (y := iI 8) (congrArg iI c1) ?_
    refine lv_tableIn (off := 133) (tgt := 136) hx hb dX12_has_3 (by decide +kernel) (by decide +kernel) (by decide +kernel) (by decide) ?_
    refine lv_aload_n hx hb dX12_has_136 rfl (lv_at hl 1 rfl) ?_
    refine x_calli (As := []) (rest := []) ⟨hx, hb, hml, hown, hts⟩ (mc_X12_closedAll l dC dI cB cI cJ cZ cQ q _ hI) (cwV 0 hts (goodV (wl_in_5 _ (List.mem_of_getElem? (i := 1) rfl)) (wl_in_5 _ (List.mem_of_getElem? (i := 2) rfl)) (wl_in_5 _ (List.mem_of_getElem? (i := 3) rfl)) (wl_in_0 _ (List.mem_of_getElem? (i := 8) rfl)) (wl_in_4 _ (List.mem_of_getElem? (i := 56) rfl))) rfl rfl rfl (by decide +kernel) ⟨Nat.le_of_ble_eq_true rfl, Nat.le_of_ble_eq_true rfl⟩) hK hDD hA0 hP hS 0 12 wm0 rfl rfl hl.1 (Nat.le_of_ble_eq_true rfl) dX12_has_137 (fun z10 A11 H locs hw12 hP hS => ?_)
    obtain ⟨rfl, hw12⟩ := hw12
    have ghw12 : q_X12_closedAll A z10 := hw12
    have hw12 := hw12.2
    exact RET z10 _ _ _ _ _ ⟨rfl, (u_r_X12_has (Or.inr (Or.inr (Or.inr (Or.inr (Or.inr (Or.inr (Or.inr (Or.inr (Or.inr (Or.inl ⟨c1, ⟨z10, ghw12, rfl⟩⟩))))))))))), by omega⟩ hP hS dX12_has_140
  · refine tp_i (y := iI 9) (congrArg iI c1) ?_
    refine lv_tableIn (off := 138) (tgt := 141) hx hb dX12_has_3 (by decide +kernel) (by decide +kernel) (by decide +kernel) (by decide) ?_
    refine lv_iconst (v := iI 0) hx hb dX12_has_141 (by decide +kernel) ?_
    refine lv_istore_n (lv' := [(3, .int (iI 0)), (2, .int (iI 0)), (0, .ref (q 0)), (1, .int (iI x1))]) hx hb dX12_has_142 rfl hl (by decide) rfl (fun ls hl => ?_)
    have L143_17 : ∀ (n19 : Nat) (z13 z14 : Int) (H : Heap) (locs : List Loc) (ls : Array Slot), (0 ≤ z13) → (0 ≤ z13 ∧ z13 ≤ 2147483647) → (-2147483648 ≤ z14 ∧ z14 ≤ 2147483647) → (∀ (z : Int), (∃ mm1 : Nat, (d_X12_has_1 A z mm1 z13 z14)) → r_X12_has x1 A z) → ((A 4 ((A 0 12)).toNat - z13 + 1).toNat = n19) → va_P (dC, dI) vwCl (WM cI cJ cZ q A) H → va_S AS s.heap H locs → lv_has ls 4 [(3, .int (iI z13)), (2, .int (iI z14)), (0, .ref (q 0)), (1, .int (iI x1))] → W p l e (headSpec ws_mc_X12_has ({ frames := 4, cells := 0, slots := 0, locals := 89 } : Room)).room s m [.ref (q 0), .int (iI x1)].toArray below meth c H locs 0 0 Q (F0 m 143 ls []) := by
      intro n19
      induction n19 using Nat.strongRecOn with
      | ind n19 ih18 =>
        intro z13 z14 H locs ls f20 f21 f22 hk1 hn19 hP hS hl
        refine lv_iload_n hx hb dX12_has_143 rfl (lv_at hl 0 rfl) ?_
        refine lv_aload_n hx hb dX12_has_144 rfl (lv_at hl 2 rfl) ?_
        refine va_get (D := (dC, dI)) (ci := 12) (v := .ref (q 4)) (C := RX12) (T := TX12) (N := 85) hx hb hts hiX12 hown hK hP 0 wm0 rfl 15 (by decide) (hts _ (List.mem_cons_of_mem _ (wl_in_1 _ (List.mem_of_getElem? (i := 13) rfl)))) (fun _ h9 => h9) rfl dX12_has_145 ?_
        refine lv_aload_n hx hb dX12_has_148 rfl (lv_at hl 2 rfl) ?_
        refine va_get (D := (dC, dI)) (ci := 12) (v := .int (iI (A 0 12))) (C := RX12) (T := TX12) (N := 85) hx hb hts hiX12 hown hK hP 0 wm0 rfl 12 (by decide) (hts _ (List.mem_cons_of_mem _ (wl_in_4 _ (List.mem_of_getElem? (i := 14) rfl)))) (fun _ h9 => h9) rfl dX12_has_149 ?_
        have r_A_0_12 : (0 : Int) ≤ (A 0 12) ∧ (A 0 12) ≤ 1 := hI 0 12
        refine x_iald hx hb hK hP 4 1 wm4 rfl (by omega) (by decide) dX12_has_152 (fun z23 hz23 => ?_)
        have rz23 : (0 : Int) ≤ z23 ∧ z23 ≤ 10 := by rw [hz23]; exact hI 4 _
        have gz23 := Hd.mk hz23
        have hz23 : z23 = A 4 ((A 0 12)).toNat := hz23
        refine lv_icmp_ge (tgt := 178) hx hb dX12_has_153 (by decide) (fun c24 => ?_) (fun c24 => ?_)
        · have c24 : z23 ≤ z13 := (i_le (rb rz23 (by decide) (by decide)) (rb f21 (by decide) (by decide))).mp c24
          refine lv_iload_n hx hb dX12_has_178 rfl (lv_at hl 1 rfl) ?_
          exact RET z14 _ _ _ _ _ ⟨rfl, hk1 _ ⟨0 + 1, (u_d_X12_has_1 ⟨f21, ⟨f22, ⟨z23, gz23.out, (Or.inl ⟨c24, rfl⟩)⟩⟩⟩)⟩, by omega⟩ hP hS dX12_has_179
        · have c24 : ¬ z23 ≤ z13 := mt (i_le (rb rz23 (by decide) (by decide)) (rb f21 (by decide) (by decide))).mpr c24
          refine lv_iload_n hx hb dX12_has_156 rfl (lv_at hl 1 rfl) ?_
          refine lv_aload_n hx hb dX12_has_157 rfl (lv_at hl 2 rfl) ?_
          refine lv_iload_n hx hb dX12_has_158 rfl (lv_at hl 0 rfl) ?_
          refine x_calli (As := [.int (iI z13)]) (rest := [.int (iI z14)]) ⟨hx, hb, hml, hown, hts⟩ (mc_X12_isDead l dC dI cB cI cJ cZ cQ q _ z13 hI (by omega)) (cwV 1 hts (goodV (wl_in_5 _ (List.mem_of_getElem? (i := 4) rfl)) (wl_in_5 _ (List.mem_of_getElem? (i := 5) rfl)) (wl_in_5 _ (List.mem_of_getElem? (i := 6) rfl)) (wl_in_0 _ (List.mem_of_getElem? (i := 8) rfl)) (wl_in_4 _ (List.mem_of_getElem? (i := 55) rfl))) rfl rfl rfl (by decide +kernel) ⟨Nat.le_of_ble_eq_true rfl, Nat.le_of_ble_eq_true rfl⟩) hK hDD hA0 hP hS 0 12 wm0 rfl rfl hl.1 (Nat.le_of_ble_eq_true rfl) dX12_has_159 (fun z25 A26 H locs hw27 hP hS => ?_)
          obtain ⟨rfl, hw27⟩ := hw27
          have ghw27 : q_X12_isDead z13 A z25 := hw27
          have hw27 := hw27.2
          have J170_29 : ∀ (z30 : Int) (H : Heap) (locs : List Loc) (ls : Array Slot), (0 ≤ z30 ∧ z30 ≤ 1) → ((z30 = 0 ∧ z25 = 0) ∨ (z30 = 1 ∧ ¬ z25 = 0)) → (∀ (z : Int), (∃ mm1 : Nat, (d_X12_has_2 (fun z13' z14' => d_X12_has_1 A z mm1 z13' z14') z13 z14 z z30)) → r_X12_has x1 A z) → va_P (dC, dI) vwCl (WM cI cJ cZ q A) H → va_S AS s.heap H locs → lv_has ls 4 [(3, .int (iI z13)), (2, .int (iI z14)), (0, .ref (q 0)), (1, .int (iI x1))] → W p l e (headSpec ws_mc_X12_has ({ frames := 4, cells := 0, slots := 0, locals := 89 } : Room)).room s m [.ref (q 0), .int (iI x1)].toArray below meth c H locs 0 0 Q (F0 m 170 ls [.int (iI z30), .int (iI z14)]) := by
            intro z30 H locs ls f32 f33 hk2 hP hS hl
            refine x_addv (v := z14 + z30) hx hb dX12_has_170 (by omega) ?_
            refine x_absE (fun z34 gz34 hz34 => ?_)
            refine lv_istore_n (lv' := [(2, .int (iI z34)), (3, .int (iI z13)), (0, .ref (q 0)), (1, .int (iI x1))]) hx hb dX12_has_171 rfl hl (by decide) rfl (fun ls hl => ?_)
            refine lv_iinc (v := iI (z13 + 1)) (lv' := [(3, .int (iI (z13 + 1))), (2, .int (iI z34)), (0, .ref (q 0)), (1, .int (iI x1))]) hx hb dX12_has_172 hl (k := 1) rfl (i_inc (by omega)) (by decide) rfl (fun ls hl => ?_)
            refine lv_goto (tgt := 143) hx hb dX12_has_175 (by decide) ?_
            exact ih18 _ (by omega) (z13 + 1) z34 _ _ _ (by omega) (by omega) (by omega) (fun zq ⟨mm1, hq⟩ => hk2 _ ⟨mm1, (u_d_X12_has_2 ⟨f32, ⟨z34, gz34.out, hq⟩⟩)⟩) rfl hP hS (lv_sub hl [0, 1, 2, 3] rfl)
          refine lv_if_eq (tgt := 169) hx hb dX12_has_162 (by decide) (fun c28 => ?_) (fun c28 => ?_)
          · have c28 : z25 = 0 := (i_eq0 (rb hw27 (by decide) (by decide))).mp c28
            refine lv_iconst (v := iI 0) hx hb dX12_has_169 (by decide +kernel) ?_
            exact J170_29 0 _ _ _ (by omega) (by omega) (fun zq ⟨mm1, hq⟩ => hk1 _ ⟨mm1 + 1, (u_d_X12_has_1 ⟨f21, ⟨f22, ⟨z23, gz23.out, (Or.inr ⟨c24, ⟨z25, ghw27, (Or.inl ⟨c28, hq⟩)⟩⟩)⟩⟩⟩)⟩) hP hS (lv_sub hl [0, 1, 2, 3] rfl)
          · have c28 : ¬ z25 = 0 := mt (i_eq0 (rb hw27 (by decide) (by decide))).mpr c28
            refine lv_iconst (v := iI 1) hx hb dX12_has_165 (by decide +kernel) ?_
            refine lv_goto (tgt := 170) hx hb dX12_has_166 (by decide) ?_
            exact J170_29 1 _ _ _ (by omega) (by omega) (fun zq ⟨mm1, hq⟩ => hk1 _ ⟨mm1 + 1, (u_d_X12_has_1 ⟨f21, ⟨f22, ⟨z23, gz23.out, (Or.inr ⟨c24, ⟨z25, ghw27, (Or.inr ⟨c28, hq⟩)⟩⟩)⟩⟩⟩)⟩) hP hS (lv_sub hl [0, 1, 2, 3] rfl)
    exact L143_17 _ 0 0 _ _ _ (by omega) (by omega) (by omega) (fun zq ⟨mm1, hq⟩ => (u_r_X12_has (Or.inr (Or.inr (Or.inr (Or.inr (Or.inr (Or.inr (Or.inr (Or.inr (Or.inr (Or.inr ⟨c1, ⟨mm1, hq⟩⟩)))))))))))) rfl hP hS (lv_sub hl [0, 1, 2, 3] rfl)

abbrev tr_r_X12_manyOf (x1 : Int) (A : St) (z : Int) : Prop := (((x1 = 0) ∧ (∃ z2 : Int, z2 = A 2 ((A 0 12)).toNat ∧ (z = z2))) ∨ ((x1 = 1) ∧ (∃ z5 : Int, z5 = A 4 ((A 0 12)).toNat ∧ (z = z5))) ∨ ((x1 = 2) ∧ (∃ z9 : Int, z9 = A 11 ((A 0 12)).toNat ∧ (z = z9))) ∨ ((x1 = 3) ∧ (∃ z14 : Int, z14 = A 16 ((A 0 12)).toNat ∧ (z = z14))) ∨ ((x1 = 4) ∧ (∃ z19 : Int, z19 = A 19 ((A 0 12)).toNat ∧ (z = z19))))
def r_X12_manyOf (x1 : Int) (A : St) (z : Int) : Prop := tr_r_X12_manyOf x1 A z
theorem u_r_X12_manyOf {x1 : Int} {A : St} {z : Int} (h : tr_r_X12_manyOf x1 A z) : r_X12_manyOf x1 A z := h
def q_X12_manyOf (x1 : Int) (A : St) (z : Int) : Prop := r_X12_manyOf x1 A z ∧ (0 ≤ z ∧ z ≤ 10 ∧ (x1 = 0 → z ≤ 8) ∧ (x1 = 2 → z ≤ 4) ∧ (x1 = 3 → z ≤ 3) ∧ (x1 = 4 → z ≤ 4))
def ws_mc_X12_manyOf : List Cond := .code yX12_manyOf cX12_manyOf 2 (some .int) :: WX
set_option maxHeartbeats 4000000 in
set_option maxRecDepth 100000 in
theorem mc_X12_manyOf (l : Launch) (dC : Nat → ClassId) (dI : Nat → Nat → Nat) (cB cI cJ cZ cQ : ClassId) (q : Nat → Nat) (A : St) (x1 : Int) (hI : IM A) (hx1 : (0 : Int) ≤ x1 ∧ x1 ≤ 4) : XMi l yX12_manyOf ws_mc_X12_manyOf ({ frames := 0, cells := 0, slots := 0, locals := 0 } : Room) (dC, dI) (tyA cB cI cJ cZ cQ) (WM cI cJ cZ q) A [.ref (q 0), .int (iI x1)] (fun z u => A = u ∧ r_X12_manyOf x1 A z ∧ (0 ≤ z ∧ z ≤ 10 ∧ (x1 = 0 → z ≤ 8) ∧ (x1 = 2 → z ≤ 4) ∧ (x1 = 3 → z ≤ 3) ∧ (x1 = 4 → z ≤ 4))) := by
  refine x_meti (cc := cX12_manyOf) (maxL := 2) WM_adr (by decide +kernel) rfl (Nat.le_of_ble_eq_true rfl) (fun p e s m below meth c Q AS ls hx hb hml hown hts hK hDD hA0 hP hS hl RET => ?_)
  have hown : s.vm.findClass RX12 = some m.cls := hown
  have hl : lv_has ls 2 [(0, .ref (q 0)), (1, .int (iI x1))] := hl
  have hiX12 : ∀ w ∈ u_ws RX12 TX12 85, w ∈ ws_mc_X12_manyOf := fun w h => List.mem_cons_of_mem _ (wx_lay w h)
  obtain ⟨H, hHe⟩ : ∃ H : Heap, H = s.heap := ⟨_, rfl⟩
  rw [← hHe] at hP
  have hS : va_S AS s.heap H [] := by rw [hHe]; exact hS
  suffices hgo : ∀ locs : List Loc, va_S AS s.heap H locs → W p l e (headSpec ws_mc_X12_manyOf ({ frames := 0, cells := 0, slots := 0, locals := 0 } : Room)).room s m [.ref (q 0), .int (iI x1)].toArray below meth c H locs 0 0 Q (F0 m 0 ls []) by
    have := hgo [] hS
    rw [hHe] at this
    exact this
  clear hS hHe
  intro locs hS
  rcases (show x1 = 0 ∨ x1 = 1 ∨ x1 = 2 ∨ x1 = 3 ∨ x1 = 4 by omega) with rfl | rfl | rfl | rfl | rfl
  · have hl : lv_has ls 2 [(0, .ref (q 0)), (1, .int (iI 0))] := hl
    refine lv_iload_n hx hb dX12_manyOf_0 rfl (lv_at hl 1 rfl) ?_
    refine lv_if_ne (tgt := 16) hx hb dX12_manyOf_1 (by decide) (fun c1 => absurd c1 (by decide +kernel)) (fun _ => ?_)
    refine lv_aload_n hx hb dX12_manyOf_4 rfl (lv_at hl 0 rfl) ?_
    refine va_get (D := (dC, dI)) (ci := 12) (v := .ref (q 2)) (C := RX12) (T := TX12) (N := 85) hx hb hts hiX12 hown hK hP 0 wm0 rfl 13 (by decide) (hts _ (List.mem_cons_of_mem _ (wl_in_1 _ (List.mem_of_getElem? (i := 11) rfl)))) (fun _ h9 => h9) rfl dX12_manyOf_5 ?_
    refine lv_aload_n hx hb dX12_manyOf_8 rfl (lv_at hl 0 rfl) ?_
    refine va_get (D := (dC, dI)) (ci := 12) (v := .int (iI (A 0 12))) (C := RX12) (T := TX12) (N := 85) hx hb hts hiX12 hown hK hP 0 wm0 rfl 12 (by decide) (hts _ (List.mem_cons_of_mem _ (wl_in_4 _ (List.mem_of_getElem? (i := 14) rfl)))) (fun _ h9 => h9) rfl dX12_manyOf_9 ?_
    have r_A_0_12 : (0 : Int) ≤ (A 0 12) ∧ (A 0 12) ≤ 1 := hI 0 12
    refine x_iald hx hb hK hP 2 1 wm2 rfl (by omega) (by decide) dX12_manyOf_12 (fun z2 hz2 => ?_)
    have rz2 : (0 : Int) ≤ z2 ∧ z2 ≤ 8 := by rw [hz2]; exact hI 2 _
    have gz2 := Hd.mk hz2
    have hz2 : z2 = A 2 ((A 0 12)).toNat := hz2
    refine lv_goto (tgt := 76) hx hb dX12_manyOf_13 (by decide) ?_
    exact RET z2 _ _ _ _ _ ⟨rfl, (u_r_X12_manyOf (Or.inl ⟨rfl, ⟨z2, gz2.out, rfl⟩⟩)), by omega⟩ hP hS dX12_manyOf_76
  · have hl : lv_has ls 2 [(0, .ref (q 0)), (1, .int (iI 1))] := hl
    refine lv_iload_n hx hb dX12_manyOf_0 rfl (lv_at hl 1 rfl) ?_
    refine lv_if_ne (tgt := 16) hx hb dX12_manyOf_1 (by decide) (fun _ => ?_) (fun c3 => absurd c3 (by decide +kernel))
    refine lv_iload_n hx hb dX12_manyOf_16 rfl (lv_at hl 1 rfl) ?_
    refine lv_iconst (v := iI 1) hx hb dX12_manyOf_17 (by decide +kernel) ?_
    refine lv_icmp_ne (tgt := 33) hx hb dX12_manyOf_18 (by decide) (fun c4 => absurd c4 (by decide +kernel)) (fun _ => ?_)
    refine lv_aload_n hx hb dX12_manyOf_21 rfl (lv_at hl 0 rfl) ?_
    refine va_get (D := (dC, dI)) (ci := 12) (v := .ref (q 4)) (C := RX12) (T := TX12) (N := 85) hx hb hts hiX12 hown hK hP 0 wm0 rfl 15 (by decide) (hts _ (List.mem_cons_of_mem _ (wl_in_1 _ (List.mem_of_getElem? (i := 13) rfl)))) (fun _ h9 => h9) rfl dX12_manyOf_22 ?_
    refine lv_aload_n hx hb dX12_manyOf_25 rfl (lv_at hl 0 rfl) ?_
    refine va_get (D := (dC, dI)) (ci := 12) (v := .int (iI (A 0 12))) (C := RX12) (T := TX12) (N := 85) hx hb hts hiX12 hown hK hP 0 wm0 rfl 12 (by decide) (hts _ (List.mem_cons_of_mem _ (wl_in_4 _ (List.mem_of_getElem? (i := 14) rfl)))) (fun _ h9 => h9) rfl dX12_manyOf_26 ?_
    have r_A_0_12 : (0 : Int) ≤ (A 0 12) ∧ (A 0 12) ≤ 1 := hI 0 12
    refine x_iald hx hb hK hP 4 1 wm4 rfl (by omega) (by decide) dX12_manyOf_29 (fun z5 hz5 => ?_)
    have rz5 : (0 : Int) ≤ z5 ∧ z5 ≤ 10 := by rw [hz5]; exact hI 4 _
    have gz5 := Hd.mk hz5
    have hz5 : z5 = A 4 ((A 0 12)).toNat := hz5
    refine lv_goto (tgt := 76) hx hb dX12_manyOf_30 (by decide) ?_
    exact RET z5 _ _ _ _ _ ⟨rfl, (u_r_X12_manyOf (Or.inr (Or.inl ⟨rfl, ⟨z5, gz5.out, rfl⟩⟩))), by omega⟩ hP hS dX12_manyOf_76
  · have hl : lv_has ls 2 [(0, .ref (q 0)), (1, .int (iI 2))] := hl
    refine lv_iload_n hx hb dX12_manyOf_0 rfl (lv_at hl 1 rfl) ?_
    refine lv_if_ne (tgt := 16) hx hb dX12_manyOf_1 (by decide) (fun _ => ?_) (fun c6 => absurd c6 (by decide +kernel))
    refine lv_iload_n hx hb dX12_manyOf_16 rfl (lv_at hl 1 rfl) ?_
    refine lv_iconst (v := iI 1) hx hb dX12_manyOf_17 (by decide +kernel) ?_
    refine lv_icmp_ne (tgt := 33) hx hb dX12_manyOf_18 (by decide) (fun _ => ?_) (fun c7 => absurd c7 (by decide +kernel))
    refine lv_iload_n hx hb dX12_manyOf_33 rfl (lv_at hl 1 rfl) ?_
    refine lv_iconst (v := iI 2) hx hb dX12_manyOf_34 (by decide +kernel) ?_
    refine lv_icmp_ne (tgt := 50) hx hb dX12_manyOf_35 (by decide) (fun c8 => absurd c8 (by decide +kernel)) (fun _ => ?_)
    refine lv_aload_n hx hb dX12_manyOf_38 rfl (lv_at hl 0 rfl) ?_
    refine va_get (D := (dC, dI)) (ci := 12) (v := .ref (q 11)) (C := RX12) (T := TX12) (N := 85) hx hb hts hiX12 hown hK hP 0 wm0 rfl 22 (by decide) (hts _ (List.mem_cons_of_mem _ (wl_in_1 _ (List.mem_of_getElem? (i := 14) rfl)))) (fun _ h9 => h9) rfl dX12_manyOf_39 ?_
    refine lv_aload_n hx hb dX12_manyOf_42 rfl (lv_at hl 0 rfl) ?_
    refine va_get (D := (dC, dI)) (ci := 12) (v := .int (iI (A 0 12))) (C := RX12) (T := TX12) (N := 85) hx hb hts hiX12 hown hK hP 0 wm0 rfl 12 (by decide) (hts _ (List.mem_cons_of_mem _ (wl_in_4 _ (List.mem_of_getElem? (i := 14) rfl)))) (fun _ h9 => h9) rfl dX12_manyOf_43 ?_
    have r_A_0_12 : (0 : Int) ≤ (A 0 12) ∧ (A 0 12) ≤ 1 := hI 0 12
    refine x_iald hx hb hK hP 11 1 wm11 rfl (by omega) (by decide) dX12_manyOf_46 (fun z9 hz9 => ?_)
    have rz9 : (0 : Int) ≤ z9 ∧ z9 ≤ 4 := by rw [hz9]; exact hI 11 _
    have gz9 := Hd.mk hz9
    have hz9 : z9 = A 11 ((A 0 12)).toNat := hz9
    refine lv_goto (tgt := 76) hx hb dX12_manyOf_47 (by decide) ?_
    exact RET z9 _ _ _ _ _ ⟨rfl, (u_r_X12_manyOf (Or.inr (Or.inr (Or.inl ⟨rfl, ⟨z9, gz9.out, rfl⟩⟩)))), by omega⟩ hP hS dX12_manyOf_76
  · have hl : lv_has ls 2 [(0, .ref (q 0)), (1, .int (iI 3))] := hl
    refine lv_iload_n hx hb dX12_manyOf_0 rfl (lv_at hl 1 rfl) ?_
    refine lv_if_ne (tgt := 16) hx hb dX12_manyOf_1 (by decide) (fun _ => ?_) (fun c10 => absurd c10 (by decide +kernel))
    refine lv_iload_n hx hb dX12_manyOf_16 rfl (lv_at hl 1 rfl) ?_
    refine lv_iconst (v := iI 1) hx hb dX12_manyOf_17 (by decide +kernel) ?_
    refine lv_icmp_ne (tgt := 33) hx hb dX12_manyOf_18 (by decide) (fun _ => ?_) (fun c11 => absurd c11 (by decide +kernel))
    refine lv_iload_n hx hb dX12_manyOf_33 rfl (lv_at hl 1 rfl) ?_
    refine lv_iconst (v := iI 2) hx hb dX12_manyOf_34 (by decide +kernel) ?_
    refine lv_icmp_ne (tgt := 50) hx hb dX12_manyOf_35 (by decide) (fun _ => ?_) (fun c12 => absurd c12 (by decide +kernel))
    refine lv_iload_n hx hb dX12_manyOf_50 rfl (lv_at hl 1 rfl) ?_
    refine lv_iconst (v := iI 3) hx hb dX12_manyOf_51 (by decide +kernel) ?_
    refine lv_icmp_ne (tgt := 67) hx hb dX12_manyOf_52 (by decide) (fun c13 => absurd c13 (by decide +kernel)) (fun _ => ?_)
    refine lv_aload_n hx hb dX12_manyOf_55 rfl (lv_at hl 0 rfl) ?_
    refine va_get (D := (dC, dI)) (ci := 12) (v := .ref (q 16)) (C := RX12) (T := TX12) (N := 85) hx hb hts hiX12 hown hK hP 0 wm0 rfl 27 (by decide) (hts _ (List.mem_cons_of_mem _ (wl_in_1 _ (List.mem_of_getElem? (i := 15) rfl)))) (fun _ h9 => h9) rfl dX12_manyOf_56 ?_
    refine lv_aload_n hx hb dX12_manyOf_59 rfl (lv_at hl 0 rfl) ?_
    refine va_get (D := (dC, dI)) (ci := 12) (v := .int (iI (A 0 12))) (C := RX12) (T := TX12) (N := 85) hx hb hts hiX12 hown hK hP 0 wm0 rfl 12 (by decide) (hts _ (List.mem_cons_of_mem _ (wl_in_4 _ (List.mem_of_getElem? (i := 14) rfl)))) (fun _ h9 => h9) rfl dX12_manyOf_60 ?_
    have r_A_0_12 : (0 : Int) ≤ (A 0 12) ∧ (A 0 12) ≤ 1 := hI 0 12
    refine x_iald hx hb hK hP 16 1 wm16 rfl (by omega) (by decide) dX12_manyOf_63 (fun z14 hz14 => ?_)
    have rz14 : (0 : Int) ≤ z14 ∧ z14 ≤ 3 := by rw [hz14]; exact hI 16 _
    have gz14 := Hd.mk hz14
    have hz14 : z14 = A 16 ((A 0 12)).toNat := hz14
    refine lv_goto (tgt := 76) hx hb dX12_manyOf_64 (by decide) ?_
    exact RET z14 _ _ _ _ _ ⟨rfl, (u_r_X12_manyOf (Or.inr (Or.inr (Or.inr (Or.inl ⟨rfl, ⟨z14, gz14.out, rfl⟩⟩))))), by omega⟩ hP hS dX12_manyOf_76
  · have hl : lv_has ls 2 [(0, .ref (q 0)), (1, .int (iI 4))] := hl
    refine lv_iload_n hx hb dX12_manyOf_0 rfl (lv_at hl 1 rfl) ?_
    refine lv_if_ne (tgt := 16) hx hb dX12_manyOf_1 (by decide) (fun _ => ?_) (fun c15 => absurd c15 (by decide +kernel))
    refine lv_iload_n hx hb dX12_manyOf_16 rfl (lv_at hl 1 rfl) ?_
    refine lv_iconst (v := iI 1) hx hb dX12_manyOf_17 (by decide +kernel) ?_
    refine lv_icmp_ne (tgt := 33) hx hb dX12_manyOf_18 (by decide) (fun _ => ?_) (fun c16 => absurd c16 (by decide +kernel))
    refine lv_iload_n hx hb dX12_manyOf_33 rfl (lv_at hl 1 rfl) ?_
    refine lv_iconst (v := iI 2) hx hb dX12_manyOf_34 (by decide +kernel) ?_
    refine lv_icmp_ne (tgt := 50) hx hb dX12_manyOf_35 (by decide) (fun _ => ?_) (fun c17 => absurd c17 (by decide +kernel))
    refine lv_iload_n hx hb dX12_manyOf_50 rfl (lv_at hl 1 rfl) ?_
    refine lv_iconst (v := iI 3) hx hb dX12_manyOf_51 (by decide +kernel) ?_
    refine lv_icmp_ne (tgt := 67) hx hb dX12_manyOf_52 (by decide) (fun _ => ?_) (fun c18 => absurd c18 (by decide +kernel))
    refine lv_aload_n hx hb dX12_manyOf_67 rfl (lv_at hl 0 rfl) ?_
    refine va_get (D := (dC, dI)) (ci := 12) (v := .ref (q 19)) (C := RX12) (T := TX12) (N := 85) hx hb hts hiX12 hown hK hP 0 wm0 rfl 30 (by decide) (hts _ (List.mem_cons_of_mem _ (wl_in_1 _ (List.mem_of_getElem? (i := 16) rfl)))) (fun _ h9 => h9) rfl dX12_manyOf_68 ?_
    refine lv_aload_n hx hb dX12_manyOf_71 rfl (lv_at hl 0 rfl) ?_
    refine va_get (D := (dC, dI)) (ci := 12) (v := .int (iI (A 0 12))) (C := RX12) (T := TX12) (N := 85) hx hb hts hiX12 hown hK hP 0 wm0 rfl 12 (by decide) (hts _ (List.mem_cons_of_mem _ (wl_in_4 _ (List.mem_of_getElem? (i := 14) rfl)))) (fun _ h9 => h9) rfl dX12_manyOf_72 ?_
    have r_A_0_12 : (0 : Int) ≤ (A 0 12) ∧ (A 0 12) ≤ 1 := hI 0 12
    refine x_iald hx hb hK hP 19 1 wm19 rfl (by omega) (by decide) dX12_manyOf_75 (fun z19 hz19 => ?_)
    have rz19 : (0 : Int) ≤ z19 ∧ z19 ≤ 4 := by rw [hz19]; exact hI 19 _
    have gz19 := Hd.mk hz19
    have hz19 : z19 = A 19 ((A 0 12)).toNat := hz19
    exact RET z19 _ _ _ _ _ ⟨rfl, (u_r_X12_manyOf (Or.inr (Or.inr (Or.inr (Or.inr ⟨rfl, ⟨z19, gz19.out, rfl⟩⟩))))), by omega⟩ hP hS dX12_manyOf_76

abbrev tr_d_X12_letter_1 (x3 : Int) (z12 : Int) (z : Int) (K1 : Int → Int → Prop) (z15 : Int) (z16 : Int) : Prop := ((-9223372036854775808 ≤ z15 ∧ z15 ≤ 9223372036854775807) ∧ ((-2147483648 ≤ z16 ∧ z16 ≤ 2147483647) ∧ (∃ z23 : Int, ((-1 ≤ z23 ∧ z23 ≤ 1) ∧ (z23 = 0 ↔ z15 = 0) ∧ (z23 < 0 ↔ z15 < 0)) ∧ (((z23 = 0) ∧ (((x3 < 0) ∧ (z = (-1))) ∨ ((¬ x3 < 0) ∧ (((x3 < z16) ∧ (∃ z27 : Int, z27 = oWrap (8 * z16 - 8 * x3 - 8) ∧ (∃ z28 : Int, z28 = pUshr z12 z27 ∧ (∃ z29 : Int, z29 = pAnd z28 255 ∧ (∃ z30 : Int, z30 = oL2i z29 ∧ (z = z30)))))) ∨ ((¬ x3 < z16) ∧ (z = (-1))))))) ∨ ((¬ z23 = 0) ∧ (∃ z31 : Int, z31 = oWrap (z16 + 1) ∧ (∃ z32 : Int, z32 = (z15 % 18446744073709551616) / 256 ∧ (K1 z32 z31))))))))
def d_X12_letter_1 (x3 : Int) (z12 : Int) (z : Int) : Nat → Int → Int → Prop
  | 0, _, _ => False
  | nn9 + 1, z15, z16 => tr_d_X12_letter_1 x3 z12 z (fun z15 z16 => d_X12_letter_1 x3 z12 z nn9 z15 z16) z15 z16
theorem u_d_X12_letter_1 {x3 : Int} {z12 : Int} {z : Int} {nn9 : Nat} {z15 : Int} {z16 : Int} (h : tr_d_X12_letter_1 x3 z12 z (fun z15 z16 => d_X12_letter_1 x3 z12 z nn9 z15 z16) z15 z16) : d_X12_letter_1 x3 z12 z (nn9 + 1) z15 z16 := h
abbrev tr_r_X12_letter (x1 : Int) (x2 : Int) (x3 : Int) (A : St) (z : Int) : Prop := (∃ z1 : Int, q_X12_is x1 0 4 A z1 ∧ (((z1 = 0) ∧ (z = (-1))) ∨ ((¬ z1 = 0) ∧ (∃ z5 : Int, q_X12_manyOf x1 A z5 ∧ (∃ z8 : Int, q_X12_is x2 0 (z5 - 1) A z8 ∧ (((¬ z8 = 0) ∧ (∃ z12 : Int, q_X12_nameOf (A 0 12) x1 x2 A z12 ∧ (∃ nn9 : Nat, d_X12_letter_1 x3 z12 z nn9 z12 0))) ∨ ((z8 = 0) ∧ (z = (-1)))))))))
def r_X12_letter (x1 : Int) (x2 : Int) (x3 : Int) (A : St) (z : Int) : Prop := tr_r_X12_letter x1 x2 x3 A z
theorem u_r_X12_letter {x1 : Int} {x2 : Int} {x3 : Int} {A : St} {z : Int} (h : tr_r_X12_letter x1 x2 x3 A z) : r_X12_letter x1 x2 x3 A z := h
def ws_mc_X12_letter : List Cond := .code yX12_letter cX12_letter 9 (some .int) :: WX
set_option maxHeartbeats 4000000 in
set_option maxRecDepth 100000 in
theorem mc_X12_letter (l : Launch) (dC : Nat → ClassId) (dI : Nat → Nat → Nat) (cB cI cJ cZ cQ : ClassId) (q : Nat → Nat) (A : St) (x1 x2 x3 : Int) (hI : IM A) (hx1 : (-2147483648 : Int) ≤ x1 ∧ x1 ≤ 2147483647) (hx2 : (-2147483648 : Int) ≤ x2 ∧ x2 ≤ 2147483647) (hx3 : (-2147483648 : Int) ≤ x3 ∧ x3 ≤ 2147483647) : XMi l yX12_letter ws_mc_X12_letter ({ frames := 1, cells := 0, slots := 0, locals := 23 } : Room) (dC, dI) (tyA cB cI cJ cZ cQ) (WM cI cJ cZ q) A [.ref (q 0), .int (iI x1), .int (iI x2), .int (iI x3)] (fun z u => A = u ∧ r_X12_letter x1 x2 x3 A z ∧ (-2147483648 ≤ z ∧ z ≤ 2147483647)) := by
  refine x_meti (cc := cX12_letter) (maxL := 9) WM_adr (by decide +kernel) rfl (Nat.le_of_ble_eq_true rfl) (fun p e s m below meth c Q AS ls hx hb hml hown hts hK hDD hA0 hP hS hl RET => ?_)
  have hown : s.vm.findClass RX12 = some m.cls := hown
  have hl : lv_has ls 9 [(0, .ref (q 0)), (1, .int (iI x1)), (2, .int (iI x2)), (3, .int (iI x3))] := hl
  have hiX12 : ∀ w ∈ u_ws RX12 TX12 85, w ∈ ws_mc_X12_letter := fun w h => List.mem_cons_of_mem _ (wx_lay w h)
  obtain ⟨H, hHe⟩ : ∃ H : Heap, H = s.heap := ⟨_, rfl⟩
  rw [← hHe] at hP
  have hS : va_S AS s.heap H [] := by rw [hHe]; exact hS
  suffices hgo : ∀ locs : List Loc, va_S AS s.heap H locs → W p l e (headSpec ws_mc_X12_letter ({ frames := 1, cells := 0, slots := 0, locals := 23 } : Room)).room s m [.ref (q 0), .int (iI x1), .int (iI x2), .int (iI x3)].toArray below meth c H locs 0 0 Q (F0 m 0 ls []) by
    have := hgo [] hS
    rw [hHe] at this
    exact this
  clear hS hHe
  intro locs hS
  refine lv_iload_n hx hb dX12_letter_0 rfl (lv_at hl 1 rfl) ?_
  refine lv_iconst (v := iI 0) hx hb dX12_letter_1 (by decide +kernel) ?_
  refine lv_iconst (v := iI 4) hx hb dX12_letter_2 (by decide +kernel) ?_
  refine x_callSi (As := [.int (iI x1), .int (iI 0), .int (iI 4)]) (rest := []) ⟨hx, hb, hml, hown, hts⟩ (mc_X12_is l dC dI cB cI cJ cZ cQ q _ x1 0 4 hI hx1 ⟨by decide, by decide⟩ ⟨by decide, by decide⟩) (va_cwS 3 hts (goodS (wl_in_1 _ (List.mem_of_getElem? (i := 27) rfl)) (wl_in_1 _ (List.mem_of_getElem? (i := 28) rfl)) (wl_in_0 _ (List.mem_of_getElem? (i := 8) rfl)) (wl_in_0 _ (List.mem_of_getElem? (i := 0) rfl))) rfl rfl rfl (by decide +kernel) ⟨Nat.le_of_ble_eq_true rfl, Nat.le_of_ble_eq_true rfl⟩) hK hDD hA0 hP hS rfl hl.1 (Nat.le_of_ble_eq_true rfl) dX12_letter_3 (fun z1 A2 H locs hw3 hP hS => ?_)
  obtain ⟨rfl, hw3⟩ := hw3
  have ghw3 : q_X12_is x1 0 4 A z1 := hw3
  have hw3 := hw3.2
  have rz1 : 0 ≤ z1 ∧ z1 ≤ 1 := hw3.1
  refine lv_if_eq (tgt := 24) hx hb dX12_letter_6 (by decide) (fun c4 => ?_) (fun c4 => ?_)
  · have c4 : z1 = 0 := (i_eq0 (rb rz1 (by decide) (by decide))).mp c4
    have hw3b := mt hw3.2.mpr (by omega)
    clear hw3
    refine lv_iconst (v := iI (-1)) hx hb dX12_letter_24 (by decide +kernel) ?_
    exact RET (-1) _ _ _ _ _ ⟨rfl, (u_r_X12_letter ⟨z1, ghw3, (Or.inl ⟨c4, rfl⟩)⟩), by omega⟩ hP hS dX12_letter_25
  · have c4 : ¬ z1 = 0 := mt (i_eq0 (rb rz1 (by decide) (by decide))).mpr c4
    have hw3b := hw3.2.mp (by omega)
    clear hw3
    refine lv_iload_n hx hb dX12_letter_9 rfl (lv_at hl 2 rfl) ?_
    refine lv_iconst (v := iI 0) hx hb dX12_letter_10 (by decide +kernel) ?_
    refine lv_aload_n hx hb dX12_letter_11 rfl (lv_at hl 0 rfl) ?_
    refine lv_iload_n hx hb dX12_letter_12 rfl (lv_at hl 1 rfl) ?_
    refine x_calli (As := [.int (iI x1)]) (rest := [.int (iI 0), .int (iI x2)]) ⟨hx, hb, hml, hown, hts⟩ (mc_X12_manyOf l dC dI cB cI cJ cZ cQ q _ x1 hI (by omega)) (cwV 1 hts (goodV (wl_in_5 _ (List.mem_of_getElem? (i := 10) rfl)) (wl_in_5 _ (List.mem_of_getElem? (i := 11) rfl)) (wl_in_5 _ (List.mem_of_getElem? (i := 12) rfl)) (wl_in_0 _ (List.mem_of_getElem? (i := 8) rfl)) (wl_in_5 _ (List.mem_of_getElem? (i := 7) rfl))) rfl rfl rfl (by decide +kernel) ⟨Nat.le_of_ble_eq_true rfl, Nat.le_of_ble_eq_true rfl⟩) hK hDD hA0 hP hS 0 12 wm0 rfl rfl hl.1 (Nat.le_of_ble_eq_true rfl) dX12_letter_13 (fun z5 A6 H locs hw7 hP hS => ?_)
    obtain ⟨rfl, hw7⟩ := hw7
    have ghw7 : q_X12_manyOf x1 A z5 := hw7
    have hw7 := hw7.2
    have hw7 : 0 ≤ z5 ∧ z5 ≤ 10 := ⟨hw7.1, hw7.2.1⟩
    refine lv_iconst (v := iI 1) hx hb dX12_letter_16 (by decide +kernel) ?_
    refine x_subv (v := z5 - 1) hx hb dX12_letter_17 (by omega) ?_
    refine x_callSi (As := [.int (iI x2), .int (iI 0), .int (iI (z5 - 1))]) (rest := []) ⟨hx, hb, hml, hown, hts⟩ (mc_X12_is l dC dI cB cI cJ cZ cQ q _ x2 0 (z5 - 1) hI hx2 ⟨by decide, by decide⟩ (by omega)) (va_cwS 3 hts (goodS (wl_in_1 _ (List.mem_of_getElem? (i := 27) rfl)) (wl_in_1 _ (List.mem_of_getElem? (i := 28) rfl)) (wl_in_0 _ (List.mem_of_getElem? (i := 8) rfl)) (wl_in_0 _ (List.mem_of_getElem? (i := 0) rfl))) rfl rfl rfl (by decide +kernel) ⟨Nat.le_of_ble_eq_true rfl, Nat.le_of_ble_eq_true rfl⟩) hK hDD hA0 hP hS rfl hl.1 (Nat.le_of_ble_eq_true rfl) dX12_letter_18 (fun z8 A9 H locs hw10 hP hS => ?_)
    obtain ⟨rfl, hw10⟩ := hw10
    have ghw10 : q_X12_is x2 0 (z5 - 1) A z8 := hw10
    have hw10 := hw10.2
    have rz8 : 0 ≤ z8 ∧ z8 ≤ 1 := hw10.1
    refine lv_if_ne (tgt := 26) hx hb dX12_letter_21 (by decide) (fun c11 => ?_) (fun c11 => ?_)
    · have c11 : ¬ z8 = 0 := mt (i_eq0 (rb rz8 (by decide) (by decide))).mpr c11
      have hw10b := hw10.2.mp (by omega)
      clear hw10
      refine lv_aload_n hx hb dX12_letter_26 rfl (lv_at hl 0 rfl) ?_
      refine lv_aload_n hx hb dX12_letter_27 rfl (lv_at hl 0 rfl) ?_
      refine va_get (D := (dC, dI)) (ci := 12) (v := .int (iI (A 0 12))) (C := RX12) (T := TX12) (N := 85) hx hb hts hiX12 hown hK hP 0 wm0 rfl 12 (by decide) (hts _ (List.mem_cons_of_mem _ (wl_in_4 _ (List.mem_of_getElem? (i := 14) rfl)))) (fun _ h9 => h9) rfl dX12_letter_28 ?_
      have r_A_0_12 : (0 : Int) ≤ (A 0 12) ∧ (A 0 12) ≤ 1 := hI 0 12
      refine lv_iload_n hx hb dX12_letter_31 rfl (lv_at hl 1 rfl) ?_
      refine lv_iload_n hx hb dX12_letter_32 rfl (lv_at hl 2 rfl) ?_
      refine x_calll (As := [.int (iI (A 0 12)), .int (iI x1), .int (iI x2)]) (rest := []) ⟨hx, hb, hml, hown, hts⟩ (mc_X12_nameOf l dC dI cB cI cJ cZ cQ q _ (A 0 12) x1 x2 hI r_A_0_12 (by omega) (by omega) (by omega)) (cwV 3 hts (goodV (wl_in_1 _ (List.mem_of_getElem? (i := 17) rfl)) (wl_in_1 _ (List.mem_of_getElem? (i := 18) rfl)) (wl_in_1 _ (List.mem_of_getElem? (i := 19) rfl)) (wl_in_0 _ (List.mem_of_getElem? (i := 8) rfl)) (wl_in_1 _ (List.mem_of_getElem? (i := 20) rfl))) rfl rfl rfl (by decide +kernel) ⟨Nat.le_of_ble_eq_true rfl, Nat.le_of_ble_eq_true rfl⟩) hK hDD hA0 hP hS 0 12 wm0 rfl rfl hl.1 (Nat.le_of_ble_eq_true rfl) dX12_letter_33 (fun z12 A13 H locs hw14 hP hS => ?_)
      obtain ⟨rfl, hw14⟩ := hw14
      have ghw14 : q_X12_nameOf (A 0 12) x1 x2 A z12 := hw14
      have hw14 := hw14.2
      refine lv_lstore (lv' := [(4, .long (jI z12)), (0, .ref (q 0)), (1, .int (iI x1)), (2, .int (iI x2)), (3, .int (iI x3))]) hx hb dX12_letter_36 hl (by decide) rfl (fun ls hl => ?_)
      refine lv_iconst (v := iI 0) hx hb dX12_letter_38 (by decide +kernel) ?_
      refine lv_istore (lv' := [(6, .int (iI 0)), (4, .long (jI z12)), (0, .ref (q 0)), (1, .int (iI x1)), (2, .int (iI x2)), (3, .int (iI x3))]) hx hb dX12_letter_39 hl (by decide) rfl (fun ls hl => ?_)
      refine lv_lload hx hb dX12_letter_41 (lv_at hl 1 rfl) ?_
      refine lv_lstore (lv' := [(7, .long (jI z12)), (6, .int (iI 0)), (4, .long (jI z12)), (0, .ref (q 0)), (1, .int (iI x1)), (2, .int (iI x2)), (3, .int (iI x3))]) hx hb dX12_letter_43 hl (by decide) rfl (fun ls hl => ?_)
      have L45_18 : ∀ (n20 : Nat) (z15 z16 : Int) (H : Heap) (locs : List Loc) (ls : Array Slot), (-9223372036854775808 ≤ z15 ∧ z15 ≤ 9223372036854775807) → (-2147483648 ≤ z16 ∧ z16 ≤ 2147483647) → (∀ (z : Int), (∃ mm1 : Nat, (d_X12_letter_1 x3 z12 z mm1 z15 z16)) → r_X12_letter x1 x2 x3 A z) → ((z15 % 18446744073709551616).toNat = n20) → va_P (dC, dI) vwCl (WM cI cJ cZ q A) H → va_S AS s.heap H locs → lv_has ls 9 [(7, .long (jI z15)), (6, .int (iI z16)), (4, .long (jI z12)), (0, .ref (q 0)), (1, .int (iI x1)), (2, .int (iI x2)), (3, .int (iI x3))] → W p l e (headSpec ws_mc_X12_letter ({ frames := 1, cells := 0, slots := 0, locals := 23 } : Room)).room s m [.ref (q 0), .int (iI x1), .int (iI x2), .int (iI x3)].toArray below meth c H locs 0 0 Q (F0 m 45 ls []) := by
        intro n20
        induction n20 using Nat.strongRecOn with
        | ind n20 ih19 =>
          intro z15 z16 H locs ls f21 f22 hk1 hn20 hP hS hl
          refine lv_lload hx hb dX12_letter_45 (lv_at hl 0 rfl) ?_
          refine lv_lconst (v := jI 0) hx hb dX12_letter_47 (by decide +kernel) ?_
          refine x_lcmp hx hb dX12_letter_48 (by omega) (by omega) (fun z23 hz23 hz23b hz23c => ?_)
          have gz23 := Hd.mk (And.intro hz23 (And.intro hz23b hz23c))
          refine lv_if_eq (tgt := 65) hx hb dX12_letter_49 (by decide) (fun c24 => ?_) (fun c24 => ?_)
          · have c24 : z23 = 0 := (i_eq0 (by omega)).mp c24
            refine lv_iload_n hx hb dX12_letter_65 rfl (lv_at hl 6 rfl) ?_
            refine lv_if_lt (tgt := 75) hx hb dX12_letter_66 (by decide) (fun c25 => ?_) (fun c25 => ?_)
            · have c25 : x3 < 0 := (i_lt0 hx3).mp c25
              refine lv_iconst (v := iI (-1)) hx hb dX12_letter_75 (by decide +kernel) ?_
              refine lv_goto (tgt := 96) hx hb dX12_letter_76 (by decide) ?_
              exact RET (-1) _ _ _ _ _ ⟨rfl, hk1 _ ⟨0 + 1, (u_d_X12_letter_1 ⟨f21, ⟨f22, ⟨z23, gz23.out, (Or.inl ⟨c24, (Or.inl ⟨c25, rfl⟩)⟩)⟩⟩⟩)⟩, by omega⟩ hP hS dX12_letter_96
            · have c25 : ¬ x3 < 0 := mt (i_lt0 hx3).mpr c25
              refine lv_iload_n hx hb dX12_letter_69 rfl (lv_at hl 6 rfl) ?_
              refine lv_iload hx hb dX12_letter_70 (lv_at hl 1 rfl) ?_
              refine lv_icmp_lt (tgt := 79) hx hb dX12_letter_72 (by decide) (fun c26 => ?_) (fun c26 => ?_)
              · have c26 : x3 < z16 := (i_lt hx3 f22).mp c26
                refine lv_lload hx hb dX12_letter_79 (lv_at hl 2 rfl) ?_
                refine lv_bipush (v := iI 8) hx hb dX12_letter_81 (by decide +kernel) ?_
                refine lv_iload hx hb dX12_letter_83 (lv_at hl 1 rfl) ?_
                refine lv_iconst (v := iI 1) hx hb dX12_letter_85 (by decide +kernel) ?_
                refine x_subv (v := z16 - 1) hx hb dX12_letter_86 (by omega) ?_
                refine lv_iload_n hx hb dX12_letter_87 rfl (lv_at hl 6 rfl) ?_
                refine x_subv (v := z16 - x3 - 1) hx hb dX12_letter_88 (by omega) ?_
                refine x_mulv (v := 8 * z16 - 8 * x3 - 8) hx hb dX12_letter_89 (by omega) ?_
                refine x_absE (fun z27 gz27 hz27 => ?_)
                refine lv_lushr hx hb dX12_letter_90 rfl ?_
                refine x_abslE (fun z28 gz28 hz28 => ?_)
                refine lv_ldc2 (v := 255) hx hb hown (hts _ (List.mem_cons_of_mem _ (wl_in_5 _ (List.mem_of_getElem? (i := 9) rfl)))) dX12_letter_91 ?_
                refine tp_l (y := jI 255) (by decide +kernel) ?_
                refine lv_land hx hb dX12_letter_94 ?_
                refine x_abslE (fun z29 gz29 hz29 => ?_)
                refine lv_l2i hx hb dX12_letter_95 rfl ?_
                refine x_absE (fun z30 gz30 hz30 => ?_)
                exact RET z30 _ _ _ _ _ ⟨rfl, hk1 _ ⟨0 + 1, (u_d_X12_letter_1 ⟨f21, ⟨f22, ⟨z23, gz23.out, (Or.inl ⟨c24, (Or.inr ⟨c25, (Or.inl ⟨c26, ⟨z27, gz27.out, ⟨z28, gz28.out, ⟨z29, gz29.out, ⟨z30, gz30.out, rfl⟩⟩⟩⟩⟩)⟩)⟩)⟩⟩⟩)⟩, by omega⟩ hP hS dX12_letter_96
              · have c26 : ¬ x3 < z16 := mt (i_lt hx3 f22).mpr c26
                refine lv_iconst (v := iI (-1)) hx hb dX12_letter_75 (by decide +kernel) ?_
                refine lv_goto (tgt := 96) hx hb dX12_letter_76 (by decide) ?_
                exact RET (-1) _ _ _ _ _ ⟨rfl, hk1 _ ⟨0 + 1, (u_d_X12_letter_1 ⟨f21, ⟨f22, ⟨z23, gz23.out, (Or.inl ⟨c24, (Or.inr ⟨c25, (Or.inr ⟨c26, rfl⟩)⟩)⟩)⟩⟩⟩)⟩, by omega⟩ hP hS dX12_letter_96
          · have c24 : ¬ z23 = 0 := mt (i_eq0 (by omega)).mpr c24
            obtain ⟨z31, gz31, hz31, ez31⟩ := i_wrapE (z16 + 1)
            refine lv_iinc (v := iI z31) (lv' := [(6, .int (iI z31)), (7, .long (jI z15)), (4, .long (jI z12)), (0, .ref (q 0)), (1, .int (iI x1)), (2, .int (iI x2)), (3, .int (iI x3))]) hx hb dX12_letter_52 hl (k := 1) rfl ((i_inc (by omega)).trans ez31) (by decide) rfl (fun ls hl => ?_)
            refine lv_lload hx hb dX12_letter_55 (lv_at hl 1 rfl) ?_
            refine lv_bipush (v := iI 8) hx hb dX12_letter_57 (by decide +kernel) ?_
            refine x_lushr8 hx hb dX12_letter_59 (by omega) (fun z32 hz32 => ?_)
            refine lv_lstore (lv' := [(7, .long (jI z32)), (6, .int (iI z31)), (4, .long (jI z12)), (0, .ref (q 0)), (1, .int (iI x1)), (2, .int (iI x2)), (3, .int (iI x3))]) hx hb dX12_letter_60 hl (by decide) rfl (fun ls hl => ?_)
            refine lv_goto (tgt := 45) hx hb dX12_letter_62 (by decide) ?_
            exact ih19 _ (by omega) z32 z31 _ _ _ (by omega) (by omega) (fun zq ⟨mm1, hq⟩ => hk1 _ ⟨mm1 + 1, (u_d_X12_letter_1 ⟨f21, ⟨f22, ⟨z23, gz23.out, (Or.inr ⟨c24, ⟨z31, gz31.out, ⟨z32, hz32, hq⟩⟩⟩)⟩⟩⟩)⟩) rfl hP hS (lv_sub hl [0, 1, 2, 3, 4, 5, 6] rfl)
      exact L45_18 _ z12 0 _ _ _ (by omega) (by omega) (fun zq ⟨mm1, hq⟩ => (u_r_X12_letter ⟨z1, ghw3, (Or.inr ⟨c4, ⟨z5, ghw7, ⟨z8, ghw10, (Or.inl ⟨c11, ⟨z12, ghw14, ⟨mm1, hq⟩⟩⟩)⟩⟩⟩)⟩)) rfl hP hS (lv_sub hl [0, 1, 2, 3, 4, 5, 6] rfl)
    · have c11 : z8 = 0 := (i_eq0 (rb rz8 (by decide) (by decide))).mp c11
      have hw10b := mt hw10.2.mpr (by omega)
      clear hw10
      refine lv_iconst (v := iI (-1)) hx hb dX12_letter_24 (by decide +kernel) ?_
      exact RET (-1) _ _ _ _ _ ⟨rfl, (u_r_X12_letter ⟨z1, ghw3, (Or.inr ⟨c4, ⟨z5, ghw7, ⟨z8, ghw10, (Or.inr ⟨c11, rfl⟩)⟩⟩⟩)⟩), by omega⟩ hP hS dX12_letter_25

abbrev tr_d_X12_door__2 (K1 : Int → Int → Prop) (z5 : Int) (z6 : Int) (z : Int) (z53 : Int) : Prop := ((0 ≤ z53 ∧ z53 ≤ 1) ∧ (∃ z57 : Int, z57 = oWrap (z6 + z53) ∧ (K1 (z5 + 1) z57)))
def d_X12_door__2 (K1 : Int → Int → Prop) (z5 : Int) (z6 : Int) (z : Int) (z53 : Int) : Prop := tr_d_X12_door__2 K1 z5 z6 z z53
theorem u_d_X12_door__2 {K1 : Int → Int → Prop} {z5 : Int} {z6 : Int} {z : Int} {z53 : Int} (h : tr_d_X12_door__2 K1 z5 z6 z z53) : d_X12_door__2 K1 z5 z6 z z53 := h
abbrev tr_d_X12_door__1 (x1 : Int) (x2 : Int) (A : St) (z : Int) (K1 : Int → Int → Prop) (z5 : Int) (z6 : Int) : Prop := ((0 ≤ z5 ∧ z5 ≤ 2147483647) ∧ ((-2147483648 ≤ z6 ∧ z6 ≤ 2147483647) ∧ (∃ z15 : Int, z15 = A 11 ((A 0 12)).toNat ∧ (((z15 ≤ z5) ∧ (((x2 < 0 ∨ 7 < x2) ∧ (z = (-1))) ∨ (x2 = 0 ∧ (∃ z18 : Int, q_X12_door10 x1 A z18 ∧ (∃ z21 : Int, z21 = A 6 (10 * (A 0 12) + x1).toNat ∧ (z = z21)))) ∨ (x2 = 1 ∧ (∃ z22 : Int, q_X12_door10 x1 A z22 ∧ (∃ z25 : Int, z25 = A 7 (10 * (A 0 12) + x1).toNat ∧ (z = z25)))) ∨ (x2 = 2 ∧ (∃ z26 : Int, q_X12_door10 x1 A z26 ∧ (∃ z29 : Int, z29 = A 8 (10 * (A 0 12) + x1).toNat ∧ (((z29 = 0) ∧ (z = 0)) ∨ ((¬ z29 = 0) ∧ (z = 1)))))) ∨ (x2 = 3 ∧ (∃ z31 : Int, q_X12_door10 x1 A z31 ∧ (∃ z34 : Int, z34 = A 9 (10 * (A 0 12) + x1).toNat ∧ (z = z34)))) ∨ (x2 = 4 ∧ (∃ z35 : Int, q_X12_isShut x1 A z35 ∧ (((z35 = 0) ∧ (z = 0)) ∨ ((¬ z35 = 0) ∧ (z = 1))))) ∨ (x2 = 5 ∧ (z = z6)) ∨ (x2 = 6 ∧ (∃ z39 : Int, q_X12_door10 x1 A z39 ∧ (∃ z42 : Int, z42 = A 10 (10 * (A 0 12) + x1).toNat ∧ (((z42 = 0) ∧ (z = 0)) ∨ ((¬ z42 = 0) ∧ (z = 1)))))) ∨ (x2 = 7 ∧ (∃ z44 : Int, q_X12_isDead x1 A z44 ∧ (((z44 = 0) ∧ (z = 0)) ∨ ((¬ z44 = 0) ∧ (z = 1))))))) ∨ ((¬ z15 ≤ z5) ∧ (∃ z48 : Int, q_X12_inRow z5 x1 A z48 ∧ (((z48 = 0) ∧ (d_X12_door__2 K1 z5 z6 z 0)) ∨ ((¬ z48 = 0) ∧ (d_X12_door__2 K1 z5 z6 z 1)))))))))
def d_X12_door__1 (x1 : Int) (x2 : Int) (A : St) (z : Int) : Nat → Int → Int → Prop
  | 0, _, _ => False
  | nn9 + 1, z5, z6 => tr_d_X12_door__1 x1 x2 A z (fun z5 z6 => d_X12_door__1 x1 x2 A z nn9 z5 z6) z5 z6
theorem u_d_X12_door__1 {x1 : Int} {x2 : Int} {A : St} {z : Int} {nn9 : Nat} {z5 : Int} {z6 : Int} (h : tr_d_X12_door__1 x1 x2 A z (fun z5 z6 => d_X12_door__1 x1 x2 A z nn9 z5 z6) z5 z6) : d_X12_door__1 x1 x2 A z (nn9 + 1) z5 z6 := h
abbrev tr_r_X12_door_ (x1 : Int) (x2 : Int) (A : St) (z : Int) : Prop := (∃ z1 : Int, q_X12_isDoor x1 A z1 ∧ (((¬ z1 = 0) ∧ (∃ nn9 : Nat, d_X12_door__1 x1 x2 A z nn9 0 0)) ∨ ((z1 = 0) ∧ (z = (-1)))))
def r_X12_door_ (x1 : Int) (x2 : Int) (A : St) (z : Int) : Prop := tr_r_X12_door_ x1 x2 A z
theorem u_r_X12_door_ {x1 : Int} {x2 : Int} {A : St} {z : Int} (h : tr_r_X12_door_ x1 x2 A z) : r_X12_door_ x1 x2 A z := h
def ws_mc_X12_door_ : List Cond := .code yX12_door_ cX12_door_ 5 (some .int) :: WX
set_option maxHeartbeats 4000000 in
set_option maxRecDepth 100000 in
theorem mc_X12_door_ (l : Launch) (dC : Nat → ClassId) (dI : Nat → Nat → Nat) (cB cI cJ cZ cQ : ClassId) (q : Nat → Nat) (A : St) (x1 x2 : Int) (hI : IM A) (hx1 : (-2147483648 : Int) ≤ x1 ∧ x1 ≤ 2147483647) (hx2 : (-2147483648 : Int) ≤ x2 ∧ x2 ≤ 2147483647) : XMi l yX12_door_ ws_mc_X12_door_ ({ frames := 3, cells := 0, slots := 0, locals := 67 } : Room) (dC, dI) (tyA cB cI cJ cZ cQ) (WM cI cJ cZ q) A [.ref (q 0), .int (iI x1), .int (iI x2)] (fun z u => A = u ∧ r_X12_door_ x1 x2 A z ∧ (-2147483648 ≤ z ∧ z ≤ 2147483647)) := by
  refine x_meti (cc := cX12_door_) (maxL := 5) WM_adr (by decide +kernel) rfl (Nat.le_of_ble_eq_true rfl) (fun p e s m below meth c Q AS ls hx hb hml hown hts hK hDD hA0 hP hS hl RET => ?_)
  have hown : s.vm.findClass RX12 = some m.cls := hown
  have hl : lv_has ls 5 [(0, .ref (q 0)), (1, .int (iI x1)), (2, .int (iI x2))] := hl
  have hiX12 : ∀ w ∈ u_ws RX12 TX12 85, w ∈ ws_mc_X12_door_ := fun w h => List.mem_cons_of_mem _ (wx_lay w h)
  obtain ⟨H, hHe⟩ : ∃ H : Heap, H = s.heap := ⟨_, rfl⟩
  rw [← hHe] at hP
  have hS : va_S AS s.heap H [] := by rw [hHe]; exact hS
  suffices hgo : ∀ locs : List Loc, va_S AS s.heap H locs → W p l e (headSpec ws_mc_X12_door_ ({ frames := 3, cells := 0, slots := 0, locals := 67 } : Room)).room s m [.ref (q 0), .int (iI x1), .int (iI x2)].toArray below meth c H locs 0 0 Q (F0 m 0 ls []) by
    have := hgo [] hS
    rw [hHe] at this
    exact this
  clear hS hHe
  intro locs hS
  refine lv_aload_n hx hb dX12_door__0 rfl (lv_at hl 0 rfl) ?_
  refine lv_iload_n hx hb dX12_door__1 rfl (lv_at hl 1 rfl) ?_
  have r_A_0_12 : (0 : Int) ≤ (A 0 12) ∧ (A 0 12) ≤ 1 := hI 0 12
  refine x_calli (As := [.int (iI x1)]) (rest := []) ⟨hx, hb, hml, hown, hts⟩ (mc_X12_isDoorB l dC dI cB cI cJ cZ cQ q _ x1 hI hx1) (cwV 1 hts (goodV (wl_in_5 _ (List.mem_of_getElem? (i := 14) rfl)) (wl_in_5 _ (List.mem_of_getElem? (i := 15) rfl)) (wl_in_5 _ (List.mem_of_getElem? (i := 16) rfl)) (wl_in_0 _ (List.mem_of_getElem? (i := 8) rfl)) (wl_in_4 _ (List.mem_of_getElem? (i := 38) rfl))) rfl rfl rfl (by decide +kernel) ⟨Nat.le_of_ble_eq_true rfl, Nat.le_of_ble_eq_true rfl⟩) hK hDD hA0 hP hS 0 12 wm0 rfl rfl hl.1 (Nat.le_of_ble_eq_true rfl) dX12_door__2 (fun z1 A2 H locs hw3 hP hS => ?_)
  obtain ⟨rfl, hw3⟩ := hw3
  have ghw3 : q_X12_isDoor x1 A z1 := hw3
  have hw3 := hw3.2
  have rz1 : 0 ≤ z1 ∧ z1 ≤ 1 := hw3.1
  refine lv_if_ne (tgt := 10) hx hb dX12_door__5 (by decide) (fun c4 => ?_) (fun c4 => ?_)
  · have c4 : ¬ z1 = 0 := mt (i_eq0 (rb rz1 (by decide) (by decide))).mpr c4
    have hw3b := hw3.2.mp (by omega)
    clear hw3
    refine lv_iconst (v := iI 0) hx hb dX12_door__10 (by decide +kernel) ?_
    refine lv_istore_n (lv' := [(3, .int (iI 0)), (0, .ref (q 0)), (1, .int (iI x1)), (2, .int (iI x2))]) hx hb dX12_door__11 rfl hl (by decide) rfl (fun ls hl => ?_)
    refine lv_iconst (v := iI 0) hx hb dX12_door__12 (by decide +kernel) ?_
    refine lv_istore (lv' := [(4, .int (iI 0)), (3, .int (iI 0)), (0, .ref (q 0)), (1, .int (iI x1)), (2, .int (iI x2))]) hx hb dX12_door__13 hl (by decide) rfl (fun ls hl => ?_)
    have L15_9 : ∀ (n11 : Nat) (z5 z6 : Int) (H : Heap) (locs : List Loc) (ls : Array Slot), (0 ≤ z5) → (0 ≤ z5 ∧ z5 ≤ 2147483647) → (-2147483648 ≤ z6 ∧ z6 ≤ 2147483647) → (∀ (z : Int), (∃ mm1 : Nat, (d_X12_door__1 x1 x2 A z mm1 z5 z6)) → r_X12_door_ x1 x2 A z) → ((A 11 ((A 0 12)).toNat - z5 + 1).toNat = n11) → va_P (dC, dI) vwCl (WM cI cJ cZ q A) H → va_S AS s.heap H locs → lv_has ls 5 [(4, .int (iI z5)), (3, .int (iI z6)), (0, .ref (q 0)), (1, .int (iI x1)), (2, .int (iI x2))] → W p l e (headSpec ws_mc_X12_door_ ({ frames := 3, cells := 0, slots := 0, locals := 67 } : Room)).room s m [.ref (q 0), .int (iI x1), .int (iI x2)].toArray below meth c H locs 0 0 Q (F0 m 15 ls []) := by
      intro n11
      induction n11 using Nat.strongRecOn with
      | ind n11 ih10 =>
        intro z5 z6 H locs ls f12 f13 f14 hk1 hn11 hP hS hl
        refine lv_iload hx hb dX12_door__15 (lv_at hl 0 rfl) ?_
        refine lv_aload_n hx hb dX12_door__17 rfl (lv_at hl 2 rfl) ?_
        refine va_get (D := (dC, dI)) (ci := 12) (v := .ref (q 11)) (C := RX12) (T := TX12) (N := 85) hx hb hts hiX12 hown hK hP 0 wm0 rfl 22 (by decide) (hts _ (List.mem_cons_of_mem _ (wl_in_1 _ (List.mem_of_getElem? (i := 14) rfl)))) (fun _ h9 => h9) rfl dX12_door__18 ?_
        refine lv_aload_n hx hb dX12_door__21 rfl (lv_at hl 2 rfl) ?_
        refine va_get (D := (dC, dI)) (ci := 12) (v := .int (iI (A 0 12))) (C := RX12) (T := TX12) (N := 85) hx hb hts hiX12 hown hK hP 0 wm0 rfl 12 (by decide) (hts _ (List.mem_cons_of_mem _ (wl_in_4 _ (List.mem_of_getElem? (i := 14) rfl)))) (fun _ h9 => h9) rfl dX12_door__22 ?_
        refine x_iald hx hb hK hP 11 1 wm11 rfl (by omega) (by decide) dX12_door__25 (fun z15 hz15 => ?_)
        have rz15 : (0 : Int) ≤ z15 ∧ z15 ≤ 4 := by rw [hz15]; exact hI 11 _
        have gz15 := Hd.mk hz15
        have hz15 : z15 = A 11 ((A 0 12)).toNat := hz15
        refine lv_icmp_ge (tgt := 53) hx hb dX12_door__26 (by decide) (fun c16 => ?_) (fun c16 => ?_)
        · have c16 : z15 ≤ z5 := (i_le (rb rz15 (by decide) (by decide)) (rb f13 (by decide) (by decide))).mp c16
          refine lv_iload_n hx hb dX12_door__53 rfl (lv_at hl 4 rfl) ?_
          rcases (show (x2 < 0 ∨ 7 < x2) ∨ x2 = 0 ∨ x2 = 1 ∨ x2 = 2 ∨ x2 = 3 ∨ x2 = 4 ∨ x2 = 5 ∨ x2 = 6 ∨ x2 = 7 by omega) with c17 | c17 | c17 | c17 | c17 | c17 | c17 | c17 | c17
          · refine lv_tableOut (tgt := 201) hx hb dX12_door__54 (by rw [iI_toInt hx2]; exact c17) (by decide) ?_
            refine lv_iconst (v := iI (-1)) hx hb dX12_door__201 (by decide +kernel) ?_
            exact RET (-1) _ _ _ _ _ ⟨rfl, hk1 _ ⟨0 + 1, (u_d_X12_door__1 ⟨f13, ⟨f14, ⟨z15, gz15.out, (Or.inl ⟨c16, (Or.inl ⟨c17, rfl⟩)⟩)⟩⟩⟩)⟩, by omega⟩ hP hS dX12_door__202
          · refine tp_i (y := iI 0) (congrArg iI c17) ?_
            refine lv_tableIn (off := 46) (tgt := 100) hx hb dX12_door__54 (by decide +kernel) (by decide +kernel) (by decide +kernel) (by decide) ?_
            refine lv_aload_n hx hb dX12_door__100 rfl (lv_at hl 2 rfl) ?_
            refine va_get (D := (dC, dI)) (ci := 12) (v := .ref (q 6)) (C := RX12) (T := TX12) (N := 85) hx hb hts hiX12 hown hK hP 0 wm0 rfl 17 (by decide) (hts _ (List.mem_cons_of_mem _ (wl_in_2 _ (List.mem_of_getElem? (i := 39) rfl)))) (fun _ h9 => h9) rfl dX12_door__101 ?_
            refine lv_aload_n hx hb dX12_door__104 rfl (lv_at hl 2 rfl) ?_
            refine lv_iload_n hx hb dX12_door__105 rfl (lv_at hl 3 rfl) ?_
            refine x_calli (As := [.int (iI x1)]) (rest := [.ref (q 6)]) ⟨hx, hb, hml, hown, hts⟩ (mc_X12_door10 l dC dI cB cI cJ cZ cQ q _ x1 hI (by omega)) (cwV 1 hts (goodV (wl_in_4 _ (List.mem_of_getElem? (i := 49) rfl)) (wl_in_4 _ (List.mem_of_getElem? (i := 50) rfl)) (wl_in_4 _ (List.mem_of_getElem? (i := 51) rfl)) (wl_in_0 _ (List.mem_of_getElem? (i := 8) rfl)) (wl_in_4 _ (List.mem_of_getElem? (i := 42) rfl))) rfl rfl rfl (by decide +kernel) ⟨Nat.le_of_ble_eq_true rfl, Nat.le_of_ble_eq_true rfl⟩) hK hDD hA0 hP hS 0 12 wm0 rfl rfl hl.1 (Nat.le_of_ble_eq_true rfl) dX12_door__106 (fun z18 A19 H locs hw20 hP hS => ?_)
            obtain ⟨rfl, hw20⟩ := hw20
            have ghw20 : q_X12_door10 x1 A z18 := hw20
            have hw20 := hw20.2
            refine tp_i (y := iI (10 * (A 0 12) + x1)) (congrArg iI (show z18 = 10 * (A 0 12) + x1 by omega)) ?_
            clear hw20
            refine x_iald hx hb hK hP 6 1 wm6 rfl (by omega) (by decide) dX12_door__109 (fun z21 hz21 => ?_)
            have rz21 : (0 : Int) ≤ z21 ∧ z21 ≤ 7 := by rw [hz21]; exact hI 6 _
            have gz21 := Hd.mk hz21
            have hz21 : z21 = A 6 (10 * (A 0 12) + x1).toNat := hz21
            exact RET z21 _ _ _ _ _ ⟨rfl, hk1 _ ⟨0 + 1, (u_d_X12_door__1 ⟨f13, ⟨f14, ⟨z15, gz15.out, (Or.inl ⟨c16, (Or.inr (Or.inl ⟨c17, ⟨z18, ghw20, ⟨z21, gz21.out, rfl⟩⟩⟩))⟩)⟩⟩⟩)⟩, by omega⟩ hP hS dX12_door__110
          · refine tp_i (y := iI 1) (congrArg iI c17) ?_
            refine lv_tableIn (off := 57) (tgt := 111) hx hb dX12_door__54 (by decide +kernel) (by decide +kernel) (by decide +kernel) (by decide) ?_
            refine lv_aload_n hx hb dX12_door__111 rfl (lv_at hl 2 rfl) ?_
            refine va_get (D := (dC, dI)) (ci := 12) (v := .ref (q 7)) (C := RX12) (T := TX12) (N := 85) hx hb hts hiX12 hown hK hP 0 wm0 rfl 18 (by decide) (hts _ (List.mem_cons_of_mem _ (wl_in_2 _ (List.mem_of_getElem? (i := 40) rfl)))) (fun _ h9 => h9) rfl dX12_door__112 ?_
            refine lv_aload_n hx hb dX12_door__115 rfl (lv_at hl 2 rfl) ?_
            refine lv_iload_n hx hb dX12_door__116 rfl (lv_at hl 3 rfl) ?_
            refine x_calli (As := [.int (iI x1)]) (rest := [.ref (q 7)]) ⟨hx, hb, hml, hown, hts⟩ (mc_X12_door10 l dC dI cB cI cJ cZ cQ q _ x1 hI (by omega)) (cwV 1 hts (goodV (wl_in_4 _ (List.mem_of_getElem? (i := 49) rfl)) (wl_in_4 _ (List.mem_of_getElem? (i := 50) rfl)) (wl_in_4 _ (List.mem_of_getElem? (i := 51) rfl)) (wl_in_0 _ (List.mem_of_getElem? (i := 8) rfl)) (wl_in_4 _ (List.mem_of_getElem? (i := 42) rfl))) rfl rfl rfl (by decide +kernel) ⟨Nat.le_of_ble_eq_true rfl, Nat.le_of_ble_eq_true rfl⟩) hK hDD hA0 hP hS 0 12 wm0 rfl rfl hl.1 (Nat.le_of_ble_eq_true rfl) dX12_door__117 (fun z22 A23 H locs hw24 hP hS => ?_)
            obtain ⟨rfl, hw24⟩ := hw24
            have ghw24 : q_X12_door10 x1 A z22 := hw24
            have hw24 := hw24.2
            refine tp_i (y := iI (10 * (A 0 12) + x1)) (congrArg iI (show z22 = 10 * (A 0 12) + x1 by omega)) ?_
            clear hw24
            refine x_iald hx hb hK hP 7 1 wm7 rfl (by omega) (by decide) dX12_door__120 (fun z25 hz25 => ?_)
            have rz25 : (0 : Int) ≤ z25 ∧ z25 ≤ 7 := by rw [hz25]; exact hI 7 _
            have gz25 := Hd.mk hz25
            have hz25 : z25 = A 7 (10 * (A 0 12) + x1).toNat := hz25
            exact RET z25 _ _ _ _ _ ⟨rfl, hk1 _ ⟨0 + 1, (u_d_X12_door__1 ⟨f13, ⟨f14, ⟨z15, gz15.out, (Or.inl ⟨c16, (Or.inr (Or.inr (Or.inl ⟨c17, ⟨z22, ghw24, ⟨z25, gz25.out, rfl⟩⟩⟩)))⟩)⟩⟩⟩)⟩, by omega⟩ hP hS dX12_door__121
          · refine tp_i (y := iI 2) (congrArg iI c17) ?_
            refine lv_tableIn (off := 68) (tgt := 122) hx hb dX12_door__54 (by decide +kernel) (by decide +kernel) (by decide +kernel) (by decide) ?_
            refine lv_aload_n hx hb dX12_door__122 rfl (lv_at hl 2 rfl) ?_
            refine va_get (D := (dC, dI)) (ci := 12) (v := .ref (q 8)) (C := RX12) (T := TX12) (N := 85) hx hb hts hiX12 hown hK hP 0 wm0 rfl 19 (by decide) (hts _ (List.mem_cons_of_mem _ (wl_in_2 _ (List.mem_of_getElem? (i := 41) rfl)))) (fun _ h9 => h9) rfl dX12_door__123 ?_
            refine lv_aload_n hx hb dX12_door__126 rfl (lv_at hl 2 rfl) ?_
            refine lv_iload_n hx hb dX12_door__127 rfl (lv_at hl 3 rfl) ?_
            refine x_calli (As := [.int (iI x1)]) (rest := [.ref (q 8)]) ⟨hx, hb, hml, hown, hts⟩ (mc_X12_door10 l dC dI cB cI cJ cZ cQ q _ x1 hI (by omega)) (cwV 1 hts (goodV (wl_in_4 _ (List.mem_of_getElem? (i := 49) rfl)) (wl_in_4 _ (List.mem_of_getElem? (i := 50) rfl)) (wl_in_4 _ (List.mem_of_getElem? (i := 51) rfl)) (wl_in_0 _ (List.mem_of_getElem? (i := 8) rfl)) (wl_in_4 _ (List.mem_of_getElem? (i := 42) rfl))) rfl rfl rfl (by decide +kernel) ⟨Nat.le_of_ble_eq_true rfl, Nat.le_of_ble_eq_true rfl⟩) hK hDD hA0 hP hS 0 12 wm0 rfl rfl hl.1 (Nat.le_of_ble_eq_true rfl) dX12_door__128 (fun z26 A27 H locs hw28 hP hS => ?_)
            obtain ⟨rfl, hw28⟩ := hw28
            have ghw28 : q_X12_door10 x1 A z26 := hw28
            have hw28 := hw28.2
            refine tp_i (y := iI (10 * (A 0 12) + x1)) (congrArg iI (show z26 = 10 * (A 0 12) + x1 by omega)) ?_
            clear hw28
            refine x_zald hx hb hK hP 8 3 wm8 rfl (by omega) (by decide) dX12_door__131 (fun z29 hz29 => ?_)
            have rz29 : (0 : Int) ≤ z29 ∧ z29 ≤ 1 := by rw [hz29]; exact hI 8 _
            have gz29 := Hd.mk hz29
            have hz29 : z29 = A 8 (10 * (A 0 12) + x1).toNat := hz29
            refine lv_if_eq (tgt := 139) hx hb dX12_door__132 (by decide) (fun c30 => ?_) (fun c30 => ?_)
            · have c30 : z29 = 0 := (i_eq0 (rb rz29 (by decide) (by decide))).mp c30
              refine lv_iconst (v := iI 0) hx hb dX12_door__139 (by decide +kernel) ?_
              exact RET 0 _ _ _ _ _ ⟨rfl, hk1 _ ⟨0 + 1, (u_d_X12_door__1 ⟨f13, ⟨f14, ⟨z15, gz15.out, (Or.inl ⟨c16, (Or.inr (Or.inr (Or.inr (Or.inl ⟨c17, ⟨z26, ghw28, ⟨z29, gz29.out, (Or.inl ⟨c30, rfl⟩)⟩⟩⟩))))⟩)⟩⟩⟩)⟩, by omega⟩ hP hS dX12_door__140
            · have c30 : ¬ z29 = 0 := mt (i_eq0 (rb rz29 (by decide) (by decide))).mpr c30
              refine lv_iconst (v := iI 1) hx hb dX12_door__135 (by decide +kernel) ?_
              refine lv_goto (tgt := 140) hx hb dX12_door__136 (by decide) ?_
              exact RET 1 _ _ _ _ _ ⟨rfl, hk1 _ ⟨0 + 1, (u_d_X12_door__1 ⟨f13, ⟨f14, ⟨z15, gz15.out, (Or.inl ⟨c16, (Or.inr (Or.inr (Or.inr (Or.inl ⟨c17, ⟨z26, ghw28, ⟨z29, gz29.out, (Or.inr ⟨c30, rfl⟩)⟩⟩⟩))))⟩)⟩⟩⟩)⟩, by omega⟩ hP hS dX12_door__140
          · refine tp_i (y := iI 3) (congrArg iI c17) ?_
            refine lv_tableIn (off := 87) (tgt := 141) hx hb dX12_door__54 (by decide +kernel) (by decide +kernel) (by decide +kernel) (by decide) ?_
            refine lv_aload_n hx hb dX12_door__141 rfl (lv_at hl 2 rfl) ?_
            refine va_get (D := (dC, dI)) (ci := 12) (v := .ref (q 9)) (C := RX12) (T := TX12) (N := 85) hx hb hts hiX12 hown hK hP 0 wm0 rfl 20 (by decide) (hts _ (List.mem_cons_of_mem _ (wl_in_2 _ (List.mem_of_getElem? (i := 42) rfl)))) (fun _ h9 => h9) rfl dX12_door__142 ?_
            refine lv_aload_n hx hb dX12_door__145 rfl (lv_at hl 2 rfl) ?_
            refine lv_iload_n hx hb dX12_door__146 rfl (lv_at hl 3 rfl) ?_
            refine x_calli (As := [.int (iI x1)]) (rest := [.ref (q 9)]) ⟨hx, hb, hml, hown, hts⟩ (mc_X12_door10 l dC dI cB cI cJ cZ cQ q _ x1 hI (by omega)) (cwV 1 hts (goodV (wl_in_4 _ (List.mem_of_getElem? (i := 49) rfl)) (wl_in_4 _ (List.mem_of_getElem? (i := 50) rfl)) (wl_in_4 _ (List.mem_of_getElem? (i := 51) rfl)) (wl_in_0 _ (List.mem_of_getElem? (i := 8) rfl)) (wl_in_4 _ (List.mem_of_getElem? (i := 42) rfl))) rfl rfl rfl (by decide +kernel) ⟨Nat.le_of_ble_eq_true rfl, Nat.le_of_ble_eq_true rfl⟩) hK hDD hA0 hP hS 0 12 wm0 rfl rfl hl.1 (Nat.le_of_ble_eq_true rfl) dX12_door__147 (fun z31 A32 H locs hw33 hP hS => ?_)
            obtain ⟨rfl, hw33⟩ := hw33
            have ghw33 : q_X12_door10 x1 A z31 := hw33
            have hw33 := hw33.2
            refine tp_i (y := iI (10 * (A 0 12) + x1)) (congrArg iI (show z31 = 10 * (A 0 12) + x1 by omega)) ?_
            clear hw33
            refine x_iald hx hb hK hP 9 1 wm9 rfl (by omega) (by decide) dX12_door__150 (fun z34 hz34 => ?_)
            have rz34 : (-2147483648 : Int) ≤ z34 ∧ z34 ≤ 2147483647 := by rw [hz34]; exact hI 9 _
            have gz34 := Hd.mk hz34
            have hz34 : z34 = A 9 (10 * (A 0 12) + x1).toNat := hz34
            exact RET z34 _ _ _ _ _ ⟨rfl, hk1 _ ⟨0 + 1, (u_d_X12_door__1 ⟨f13, ⟨f14, ⟨z15, gz15.out, (Or.inl ⟨c16, (Or.inr (Or.inr (Or.inr (Or.inr (Or.inl ⟨c17, ⟨z31, ghw33, ⟨z34, gz34.out, rfl⟩⟩⟩)))))⟩)⟩⟩⟩)⟩, by omega⟩ hP hS dX12_door__151
          · refine tp_i (y := iI 4) (congrArg iI c17) ?_
            refine lv_tableIn (off := 98) (tgt := 152) hx hb dX12_door__54 (by decide +kernel) (by decide +kernel) (by decide +kernel) (by decide) ?_
            refine lv_aload_n hx hb dX12_door__152 rfl (lv_at hl 2 rfl) ?_
            refine lv_iload_n hx hb dX12_door__153 rfl (lv_at hl 3 rfl) ?_
            refine x_calli (As := [.int (iI x1)]) (rest := []) ⟨hx, hb, hml, hown, hts⟩ (mc_X12_isShut l dC dI cB cI cJ cZ cQ q _ x1 hI (by omega)) (cwV 1 hts (goodV (wl_in_4 _ (List.mem_of_getElem? (i := 57) rfl)) (wl_in_4 _ (List.mem_of_getElem? (i := 58) rfl)) (wl_in_4 _ (List.mem_of_getElem? (i := 59) rfl)) (wl_in_0 _ (List.mem_of_getElem? (i := 8) rfl)) (wl_in_4 _ (List.mem_of_getElem? (i := 48) rfl))) rfl rfl rfl (by decide +kernel) ⟨Nat.le_of_ble_eq_true rfl, Nat.le_of_ble_eq_true rfl⟩) hK hDD hA0 hP hS 0 12 wm0 rfl rfl hl.1 (Nat.le_of_ble_eq_true rfl) dX12_door__154 (fun z35 A36 H locs hw37 hP hS => ?_)
            obtain ⟨rfl, hw37⟩ := hw37
            have ghw37 : q_X12_isShut x1 A z35 := hw37
            have hw37 := hw37.2
            refine lv_if_eq (tgt := 164) hx hb dX12_door__157 (by decide) (fun c38 => ?_) (fun c38 => ?_)
            · have c38 : z35 = 0 := (i_eq0 (rb hw37 (by decide) (by decide))).mp c38
              refine lv_iconst (v := iI 0) hx hb dX12_door__164 (by decide +kernel) ?_
              exact RET 0 _ _ _ _ _ ⟨rfl, hk1 _ ⟨0 + 1, (u_d_X12_door__1 ⟨f13, ⟨f14, ⟨z15, gz15.out, (Or.inl ⟨c16, (Or.inr (Or.inr (Or.inr (Or.inr (Or.inr (Or.inl ⟨c17, ⟨z35, ghw37, (Or.inl ⟨c38, rfl⟩)⟩⟩))))))⟩)⟩⟩⟩)⟩, by omega⟩ hP hS dX12_door__165
            · have c38 : ¬ z35 = 0 := mt (i_eq0 (rb hw37 (by decide) (by decide))).mpr c38
              refine lv_iconst (v := iI 1) hx hb dX12_door__160 (by decide +kernel) ?_
              refine lv_goto (tgt := 165) hx hb dX12_door__161 (by decide) ?_
              exact RET 1 _ _ _ _ _ ⟨rfl, hk1 _ ⟨0 + 1, (u_d_X12_door__1 ⟨f13, ⟨f14, ⟨z15, gz15.out, (Or.inl ⟨c16, (Or.inr (Or.inr (Or.inr (Or.inr (Or.inr (Or.inl ⟨c17, ⟨z35, ghw37, (Or.inr ⟨c38, rfl⟩)⟩⟩))))))⟩)⟩⟩⟩)⟩, by omega⟩ hP hS dX12_door__165
          · refine tp_i (y := iI 5) (congrArg iI c17) ?_
            refine lv_tableIn (off := 112) (tgt := 166) hx hb dX12_door__54 (by decide +kernel) (by decide +kernel) (by decide +kernel) (by decide) ?_
            refine lv_iload_n hx hb dX12_door__166 rfl (lv_at hl 1 rfl) ?_
            exact RET z6 _ _ _ _ _ ⟨rfl, hk1 _ ⟨0 + 1, (u_d_X12_door__1 ⟨f13, ⟨f14, ⟨z15, gz15.out, (Or.inl ⟨c16, (Or.inr (Or.inr (Or.inr (Or.inr (Or.inr (Or.inr (Or.inl ⟨c17, rfl⟩)))))))⟩)⟩⟩⟩)⟩, by omega⟩ hP hS dX12_door__167
          · refine tp_i (y := iI 6) (congrArg iI c17) ?_
            refine lv_tableIn (off := 114) (tgt := 168) hx hb dX12_door__54 (by decide +kernel) (by decide +kernel) (by decide +kernel) (by decide) ?_
            refine lv_aload_n hx hb dX12_door__168 rfl (lv_at hl 2 rfl) ?_
            refine va_get (D := (dC, dI)) (ci := 12) (v := .ref (q 10)) (C := RX12) (T := TX12) (N := 85) hx hb hts hiX12 hown hK hP 0 wm0 rfl 21 (by decide) (hts _ (List.mem_cons_of_mem _ (wl_in_2 _ (List.mem_of_getElem? (i := 43) rfl)))) (fun _ h9 => h9) rfl dX12_door__169 ?_
            refine lv_aload_n hx hb dX12_door__172 rfl (lv_at hl 2 rfl) ?_
            refine lv_iload_n hx hb dX12_door__173 rfl (lv_at hl 3 rfl) ?_
            refine x_calli (As := [.int (iI x1)]) (rest := [.ref (q 10)]) ⟨hx, hb, hml, hown, hts⟩ (mc_X12_door10 l dC dI cB cI cJ cZ cQ q _ x1 hI (by omega)) (cwV 1 hts (goodV (wl_in_4 _ (List.mem_of_getElem? (i := 49) rfl)) (wl_in_4 _ (List.mem_of_getElem? (i := 50) rfl)) (wl_in_4 _ (List.mem_of_getElem? (i := 51) rfl)) (wl_in_0 _ (List.mem_of_getElem? (i := 8) rfl)) (wl_in_4 _ (List.mem_of_getElem? (i := 42) rfl))) rfl rfl rfl (by decide +kernel) ⟨Nat.le_of_ble_eq_true rfl, Nat.le_of_ble_eq_true rfl⟩) hK hDD hA0 hP hS 0 12 wm0 rfl rfl hl.1 (Nat.le_of_ble_eq_true rfl) dX12_door__174 (fun z39 A40 H locs hw41 hP hS => ?_)
            obtain ⟨rfl, hw41⟩ := hw41
            have ghw41 : q_X12_door10 x1 A z39 := hw41
            have hw41 := hw41.2
            refine tp_i (y := iI (10 * (A 0 12) + x1)) (congrArg iI (show z39 = 10 * (A 0 12) + x1 by omega)) ?_
            clear hw41
            refine x_zald hx hb hK hP 10 3 wm10 rfl (by omega) (by decide) dX12_door__177 (fun z42 hz42 => ?_)
            have rz42 : (0 : Int) ≤ z42 ∧ z42 ≤ 1 := by rw [hz42]; exact hI 10 _
            have gz42 := Hd.mk hz42
            have hz42 : z42 = A 10 (10 * (A 0 12) + x1).toNat := hz42
            refine lv_if_eq (tgt := 185) hx hb dX12_door__178 (by decide) (fun c43 => ?_) (fun c43 => ?_)
            · have c43 : z42 = 0 := (i_eq0 (rb rz42 (by decide) (by decide))).mp c43
              refine lv_iconst (v := iI 0) hx hb dX12_door__185 (by decide +kernel) ?_
              exact RET 0 _ _ _ _ _ ⟨rfl, hk1 _ ⟨0 + 1, (u_d_X12_door__1 ⟨f13, ⟨f14, ⟨z15, gz15.out, (Or.inl ⟨c16, (Or.inr (Or.inr (Or.inr (Or.inr (Or.inr (Or.inr (Or.inr (Or.inl ⟨c17, ⟨z39, ghw41, ⟨z42, gz42.out, (Or.inl ⟨c43, rfl⟩)⟩⟩⟩))))))))⟩)⟩⟩⟩)⟩, by omega⟩ hP hS dX12_door__186
            · have c43 : ¬ z42 = 0 := mt (i_eq0 (rb rz42 (by decide) (by decide))).mpr c43
              refine lv_iconst (v := iI 1) hx hb dX12_door__181 (by decide +kernel) ?_
              refine lv_goto (tgt := 186) hx hb dX12_door__182 (by decide) ?_
              exact RET 1 _ _ _ _ _ ⟨rfl, hk1 _ ⟨0 + 1, (u_d_X12_door__1 ⟨f13, ⟨f14, ⟨z15, gz15.out, (Or.inl ⟨c16, (Or.inr (Or.inr (Or.inr (Or.inr (Or.inr (Or.inr (Or.inr (Or.inl ⟨c17, ⟨z39, ghw41, ⟨z42, gz42.out, (Or.inr ⟨c43, rfl⟩)⟩⟩⟩))))))))⟩)⟩⟩⟩)⟩, by omega⟩ hP hS dX12_door__186
          · refine tp_i (y := iI 7) (congrArg iI c17) ?_
            refine lv_tableIn (off := 133) (tgt := 187) hx hb dX12_door__54 (by decide +kernel) (by decide +kernel) (by decide +kernel) (by decide) ?_
            refine lv_aload_n hx hb dX12_door__187 rfl (lv_at hl 2 rfl) ?_
            refine lv_iload_n hx hb dX12_door__188 rfl (lv_at hl 3 rfl) ?_
            refine x_calli (As := [.int (iI x1)]) (rest := []) ⟨hx, hb, hml, hown, hts⟩ (mc_X12_isDead l dC dI cB cI cJ cZ cQ q _ x1 hI (by omega)) (cwV 1 hts (goodV (wl_in_5 _ (List.mem_of_getElem? (i := 4) rfl)) (wl_in_5 _ (List.mem_of_getElem? (i := 5) rfl)) (wl_in_5 _ (List.mem_of_getElem? (i := 6) rfl)) (wl_in_0 _ (List.mem_of_getElem? (i := 8) rfl)) (wl_in_4 _ (List.mem_of_getElem? (i := 55) rfl))) rfl rfl rfl (by decide +kernel) ⟨Nat.le_of_ble_eq_true rfl, Nat.le_of_ble_eq_true rfl⟩) hK hDD hA0 hP hS 0 12 wm0 rfl rfl hl.1 (Nat.le_of_ble_eq_true rfl) dX12_door__189 (fun z44 A45 H locs hw46 hP hS => ?_)
            obtain ⟨rfl, hw46⟩ := hw46
            have ghw46 : q_X12_isDead x1 A z44 := hw46
            have hw46 := hw46.2
            refine lv_if_eq (tgt := 199) hx hb dX12_door__192 (by decide) (fun c47 => ?_) (fun c47 => ?_)
            · have c47 : z44 = 0 := (i_eq0 (rb hw46 (by decide) (by decide))).mp c47
              refine lv_iconst (v := iI 0) hx hb dX12_door__199 (by decide +kernel) ?_
              exact RET 0 _ _ _ _ _ ⟨rfl, hk1 _ ⟨0 + 1, (u_d_X12_door__1 ⟨f13, ⟨f14, ⟨z15, gz15.out, (Or.inl ⟨c16, (Or.inr (Or.inr (Or.inr (Or.inr (Or.inr (Or.inr (Or.inr (Or.inr ⟨c17, ⟨z44, ghw46, (Or.inl ⟨c47, rfl⟩)⟩⟩))))))))⟩)⟩⟩⟩)⟩, by omega⟩ hP hS dX12_door__200
            · have c47 : ¬ z44 = 0 := mt (i_eq0 (rb hw46 (by decide) (by decide))).mpr c47
              refine lv_iconst (v := iI 1) hx hb dX12_door__195 (by decide +kernel) ?_
              refine lv_goto (tgt := 200) hx hb dX12_door__196 (by decide) ?_
              exact RET 1 _ _ _ _ _ ⟨rfl, hk1 _ ⟨0 + 1, (u_d_X12_door__1 ⟨f13, ⟨f14, ⟨z15, gz15.out, (Or.inl ⟨c16, (Or.inr (Or.inr (Or.inr (Or.inr (Or.inr (Or.inr (Or.inr (Or.inr ⟨c17, ⟨z44, ghw46, (Or.inr ⟨c47, rfl⟩)⟩⟩))))))))⟩)⟩⟩⟩)⟩, by omega⟩ hP hS dX12_door__200
        · have c16 : ¬ z15 ≤ z5 := mt (i_le (rb rz15 (by decide) (by decide)) (rb f13 (by decide) (by decide))).mpr c16
          refine lv_iload_n hx hb dX12_door__29 rfl (lv_at hl 1 rfl) ?_
          refine lv_aload_n hx hb dX12_door__30 rfl (lv_at hl 2 rfl) ?_
          refine lv_iload hx hb dX12_door__31 (lv_at hl 0 rfl) ?_
          refine lv_iload_n hx hb dX12_door__33 rfl (lv_at hl 3 rfl) ?_
          refine x_calli (As := [.int (iI z5), .int (iI x1)]) (rest := [.int (iI z6)]) ⟨hx, hb, hml, hown, hts⟩ (mc_X12_inRow l dC dI cB cI cJ cZ cQ q _ z5 x1 hI (by omega) hx1) (cwV 2 hts (goodV (wl_in_4 _ (List.mem_of_getElem? (i := 52) rfl)) (wl_in_4 _ (List.mem_of_getElem? (i := 53) rfl)) (wl_in_4 _ (List.mem_of_getElem? (i := 54) rfl)) (wl_in_0 _ (List.mem_of_getElem? (i := 8) rfl)) (wl_in_4 _ (List.mem_of_getElem? (i := 43) rfl))) rfl rfl rfl (by decide +kernel) ⟨Nat.le_of_ble_eq_true rfl, Nat.le_of_ble_eq_true rfl⟩) hK hDD hA0 hP hS 0 12 wm0 rfl rfl hl.1 (Nat.le_of_ble_eq_true rfl) dX12_door__34 (fun z48 A49 H locs hw50 hP hS => ?_)
          obtain ⟨rfl, hw50⟩ := hw50
          have ghw50 : q_X12_inRow z5 x1 A z48 := hw50
          have hw50 := hw50.2
          have J45_52 : ∀ (z53 : Int) (H : Heap) (locs : List Loc) (ls : Array Slot), (0 ≤ z53 ∧ z53 ≤ 1) → ((z53 = 0 ∧ z48 = 0) ∨ (z53 = 1 ∧ ¬ z48 = 0)) → (∀ (z : Int), (∃ mm1 : Nat, (d_X12_door__2 (fun z5' z6' => d_X12_door__1 x1 x2 A z mm1 z5' z6') z5 z6 z z53)) → r_X12_door_ x1 x2 A z) → va_P (dC, dI) vwCl (WM cI cJ cZ q A) H → va_S AS s.heap H locs → lv_has ls 5 [(4, .int (iI z5)), (3, .int (iI z6)), (0, .ref (q 0)), (1, .int (iI x1)), (2, .int (iI x2))] → W p l e (headSpec ws_mc_X12_door_ ({ frames := 3, cells := 0, slots := 0, locals := 67 } : Room)).room s m [.ref (q 0), .int (iI x1), .int (iI x2)].toArray below meth c H locs 0 0 Q (F0 m 45 ls [.int (iI z53), .int (iI z6)]) := by
            intro z53 H locs ls f55 f56 hk2 hP hS hl
            refine x_addv (v := z6 + z53) hx hb dX12_door__45 (by omega) ?_
            refine x_absE (fun z57 gz57 hz57 => ?_)
            refine lv_istore_n (lv' := [(3, .int (iI z57)), (4, .int (iI z5)), (0, .ref (q 0)), (1, .int (iI x1)), (2, .int (iI x2))]) hx hb dX12_door__46 rfl hl (by decide) rfl (fun ls hl => ?_)
            refine lv_iinc (v := iI (z5 + 1)) (lv' := [(4, .int (iI (z5 + 1))), (3, .int (iI z57)), (0, .ref (q 0)), (1, .int (iI x1)), (2, .int (iI x2))]) hx hb dX12_door__47 hl (k := 1) rfl (i_inc (by omega)) (by decide) rfl (fun ls hl => ?_)
            refine lv_goto (tgt := 15) hx hb dX12_door__50 (by decide) ?_
            exact ih10 _ (by omega) (z5 + 1) z57 _ _ _ (by omega) (by omega) (by omega) (fun zq ⟨mm1, hq⟩ => hk2 _ ⟨mm1, (u_d_X12_door__2 ⟨f55, ⟨z57, gz57.out, hq⟩⟩)⟩) rfl hP hS (lv_sub hl [0, 1, 2, 3, 4] rfl)
          refine lv_if_eq (tgt := 44) hx hb dX12_door__37 (by decide) (fun c51 => ?_) (fun c51 => ?_)
          · have c51 : z48 = 0 := (i_eq0 (rb hw50 (by decide) (by decide))).mp c51
            refine lv_iconst (v := iI 0) hx hb dX12_door__44 (by decide +kernel) ?_
            exact J45_52 0 _ _ _ (by omega) (by omega) (fun zq ⟨mm1, hq⟩ => hk1 _ ⟨mm1 + 1, (u_d_X12_door__1 ⟨f13, ⟨f14, ⟨z15, gz15.out, (Or.inr ⟨c16, ⟨z48, ghw50, (Or.inl ⟨c51, hq⟩)⟩⟩)⟩⟩⟩)⟩) hP hS (lv_sub hl [0, 1, 2, 3, 4] rfl)
          · have c51 : ¬ z48 = 0 := mt (i_eq0 (rb hw50 (by decide) (by decide))).mpr c51
            refine lv_iconst (v := iI 1) hx hb dX12_door__40 (by decide +kernel) ?_
            refine lv_goto (tgt := 45) hx hb dX12_door__41 (by decide) ?_
            exact J45_52 1 _ _ _ (by omega) (by omega) (fun zq ⟨mm1, hq⟩ => hk1 _ ⟨mm1 + 1, (u_d_X12_door__1 ⟨f13, ⟨f14, ⟨z15, gz15.out, (Or.inr ⟨c16, ⟨z48, ghw50, (Or.inr ⟨c51, hq⟩)⟩⟩)⟩⟩⟩)⟩) hP hS (lv_sub hl [0, 1, 2, 3, 4] rfl)
    exact L15_9 _ 0 0 _ _ _ (by omega) (by omega) (by omega) (fun zq ⟨mm1, hq⟩ => (u_r_X12_door_ ⟨z1, ghw3, (Or.inl ⟨c4, ⟨mm1, hq⟩⟩)⟩)) rfl hP hS (lv_sub hl [0, 1, 2, 3, 4] rfl)
  · have c4 : z1 = 0 := (i_eq0 (rb rz1 (by decide) (by decide))).mp c4
    clear hw3
    refine lv_iconst (v := iI (-1)) hx hb dX12_door__8 (by decide +kernel) ?_
    exact RET (-1) _ _ _ _ _ ⟨rfl, (u_r_X12_door_ ⟨z1, ghw3, (Or.inr ⟨c4, rfl⟩)⟩), by omega⟩ hP hS dX12_door__9

abbrev tr_r_X12_key_ (x1 : Int) (x2 : Int) (A : St) (z : Int) : Prop := (∃ z1 : Int, q_X12_isKey x1 A z1 ∧ (((¬ z1 = 0) ∧ (((¬ x2 = 0) ∧ (((¬ x2 = 1) ∧ (((¬ x2 = 2) ∧ (z = (-1))) ∨ ((x2 = 2) ∧ (∃ z8 : Int, q_X12_topOf x1 A z8 ∧ (z = z8))))) ∨ ((x2 = 1) ∧ (∃ z11 : Int, q_X12_key4 x1 A z11 ∧ (∃ z14 : Int, z14 = A 14 (4 * (A 0 12) + x1).toNat ∧ (z = z14)))))) ∨ ((x2 = 0) ∧ (∃ z15 : Int, q_X12_key4 x1 A z15 ∧ (∃ z18 : Int, z18 = A 13 (4 * (A 0 12) + x1).toNat ∧ (z = z18)))))) ∨ ((z1 = 0) ∧ (z = (-1)))))
def r_X12_key_ (x1 : Int) (x2 : Int) (A : St) (z : Int) : Prop := tr_r_X12_key_ x1 x2 A z
theorem u_r_X12_key_ {x1 : Int} {x2 : Int} {A : St} {z : Int} (h : tr_r_X12_key_ x1 x2 A z) : r_X12_key_ x1 x2 A z := h
def ws_mc_X12_key_ : List Cond := .code yX12_key_ cX12_key_ 3 (some .int) :: WX
set_option maxHeartbeats 4000000 in
set_option maxRecDepth 100000 in
theorem mc_X12_key_ (l : Launch) (dC : Nat → ClassId) (dI : Nat → Nat → Nat) (cB cI cJ cZ cQ : ClassId) (q : Nat → Nat) (A : St) (x1 x2 : Int) (hI : IM A) (hx1 : (-2147483648 : Int) ≤ x1 ∧ x1 ≤ 2147483647) (hx2 : (-2147483648 : Int) ≤ x2 ∧ x2 ≤ 2147483647) : XMi l yX12_key_ ws_mc_X12_key_ ({ frames := 2, cells := 0, slots := 0, locals := 43 } : Room) (dC, dI) (tyA cB cI cJ cZ cQ) (WM cI cJ cZ q) A [.ref (q 0), .int (iI x1), .int (iI x2)] (fun z u => A = u ∧ r_X12_key_ x1 x2 A z ∧ (-2147483648 ≤ z ∧ z ≤ 2147483647)) := by
  refine x_meti (cc := cX12_key_) (maxL := 3) WM_adr (by decide +kernel) rfl (Nat.le_of_ble_eq_true rfl) (fun p e s m below meth c Q AS ls hx hb hml hown hts hK hDD hA0 hP hS hl RET => ?_)
  have hown : s.vm.findClass RX12 = some m.cls := hown
  have hl : lv_has ls 3 [(0, .ref (q 0)), (1, .int (iI x1)), (2, .int (iI x2))] := hl
  have hiX12 : ∀ w ∈ u_ws RX12 TX12 85, w ∈ ws_mc_X12_key_ := fun w h => List.mem_cons_of_mem _ (wx_lay w h)
  obtain ⟨H, hHe⟩ : ∃ H : Heap, H = s.heap := ⟨_, rfl⟩
  rw [← hHe] at hP
  have hS : va_S AS s.heap H [] := by rw [hHe]; exact hS
  suffices hgo : ∀ locs : List Loc, va_S AS s.heap H locs → W p l e (headSpec ws_mc_X12_key_ ({ frames := 2, cells := 0, slots := 0, locals := 43 } : Room)).room s m [.ref (q 0), .int (iI x1), .int (iI x2)].toArray below meth c H locs 0 0 Q (F0 m 0 ls []) by
    have := hgo [] hS
    rw [hHe] at this
    exact this
  clear hS hHe
  intro locs hS
  refine lv_aload_n hx hb dX12_key__0 rfl (lv_at hl 0 rfl) ?_
  refine lv_iload_n hx hb dX12_key__1 rfl (lv_at hl 1 rfl) ?_
  have r_A_0_12 : (0 : Int) ≤ (A 0 12) ∧ (A 0 12) ≤ 1 := hI 0 12
  refine x_calli (As := [.int (iI x1)]) (rest := []) ⟨hx, hb, hml, hown, hts⟩ (mc_X12_isKeyB l dC dI cB cI cJ cZ cQ q _ x1 hI hx1) (cwV 1 hts (goodV (wl_in_5 _ (List.mem_of_getElem? (i := 18) rfl)) (wl_in_5 _ (List.mem_of_getElem? (i := 19) rfl)) (wl_in_5 _ (List.mem_of_getElem? (i := 20) rfl)) (wl_in_0 _ (List.mem_of_getElem? (i := 8) rfl)) (wl_in_4 _ (List.mem_of_getElem? (i := 39) rfl))) rfl rfl rfl (by decide +kernel) ⟨Nat.le_of_ble_eq_true rfl, Nat.le_of_ble_eq_true rfl⟩) hK hDD hA0 hP hS 0 12 wm0 rfl rfl hl.1 (Nat.le_of_ble_eq_true rfl) dX12_key__2 (fun z1 A2 H locs hw3 hP hS => ?_)
  obtain ⟨rfl, hw3⟩ := hw3
  have ghw3 : q_X12_isKey x1 A z1 := hw3
  have hw3 := hw3.2
  have rz1 : 0 ≤ z1 ∧ z1 ≤ 1 := hw3.1
  refine lv_if_ne (tgt := 12) hx hb dX12_key__5 (by decide) (fun c4 => ?_) (fun c4 => ?_)
  · have c4 : ¬ z1 = 0 := mt (i_eq0 (rb rz1 (by decide) (by decide))).mpr c4
    have hw3b := hw3.2.mp (by omega)
    clear hw3
    refine lv_iload_n hx hb dX12_key__12 rfl (lv_at hl 2 rfl) ?_
    refine lv_if_ne (tgt := 29) hx hb dX12_key__13 (by decide) (fun c5 => ?_) (fun c5 => ?_)
    · have c5 : ¬ x2 = 0 := mt (i_eq0 hx2).mpr c5
      refine lv_iload_n hx hb dX12_key__29 rfl (lv_at hl 2 rfl) ?_
      refine lv_iconst (v := iI 1) hx hb dX12_key__30 (by decide +kernel) ?_
      refine lv_icmp_ne (tgt := 47) hx hb dX12_key__31 (by decide) (fun c6 => ?_) (fun c6 => ?_)
      · have c6 : ¬ x2 = 1 := mt (i_eq hx2 ⟨by decide, by decide⟩).mpr c6
        refine lv_iload_n hx hb dX12_key__47 rfl (lv_at hl 2 rfl) ?_
        refine lv_iconst (v := iI 2) hx hb dX12_key__48 (by decide +kernel) ?_
        refine lv_icmp_ne (tgt := 60) hx hb dX12_key__49 (by decide) (fun c7 => ?_) (fun c7 => ?_)
        · have c7 : ¬ x2 = 2 := mt (i_eq hx2 ⟨by decide, by decide⟩).mpr c7
          refine lv_iconst (v := iI (-1)) hx hb dX12_key__60 (by decide +kernel) ?_
          exact RET (-1) _ _ _ _ _ ⟨rfl, (u_r_X12_key_ ⟨z1, ghw3, (Or.inl ⟨c4, (Or.inl ⟨c5, (Or.inl ⟨c6, (Or.inl ⟨c7, rfl⟩)⟩)⟩)⟩)⟩), by omega⟩ hP hS dX12_key__61
        · have c7 : x2 = 2 := (i_eq hx2 ⟨by decide, by decide⟩).mp c7
          refine lv_aload_n hx hb dX12_key__52 rfl (lv_at hl 0 rfl) ?_
          refine lv_iload_n hx hb dX12_key__53 rfl (lv_at hl 1 rfl) ?_
          refine x_calli (As := [.int (iI x1)]) (rest := []) ⟨hx, hb, hml, hown, hts⟩ (mc_X12_topOf l dC dI cB cI cJ cZ cQ q _ x1 hI (by omega)) (cwV 1 hts (goodV (wl_in_5 _ (List.mem_of_getElem? (i := 21) rfl)) (wl_in_5 _ (List.mem_of_getElem? (i := 22) rfl)) (wl_in_5 _ (List.mem_of_getElem? (i := 23) rfl)) (wl_in_0 _ (List.mem_of_getElem? (i := 8) rfl)) (wl_in_4 _ (List.mem_of_getElem? (i := 47) rfl))) rfl rfl rfl (by decide +kernel) ⟨Nat.le_of_ble_eq_true rfl, Nat.le_of_ble_eq_true rfl⟩) hK hDD hA0 hP hS 0 12 wm0 rfl rfl hl.1 (Nat.le_of_ble_eq_true rfl) dX12_key__54 (fun z8 A9 H locs hw10 hP hS => ?_)
          obtain ⟨rfl, hw10⟩ := hw10
          have ghw10 : q_X12_topOf x1 A z8 := hw10
          have hw10 := hw10.2
          refine lv_goto (tgt := 61) hx hb dX12_key__57 (by decide) ?_
          exact RET z8 _ _ _ _ _ ⟨rfl, (u_r_X12_key_ ⟨z1, ghw3, (Or.inl ⟨c4, (Or.inl ⟨c5, (Or.inl ⟨c6, (Or.inr ⟨c7, ⟨z8, ghw10, rfl⟩⟩)⟩)⟩)⟩)⟩), by omega⟩ hP hS dX12_key__61
      · have c6 : x2 = 1 := (i_eq hx2 ⟨by decide, by decide⟩).mp c6
        refine lv_aload_n hx hb dX12_key__34 rfl (lv_at hl 0 rfl) ?_
        refine va_get (D := (dC, dI)) (ci := 12) (v := .ref (q 14)) (C := RX12) (T := TX12) (N := 85) hx hb hts hiX12 hown hK hP 0 wm0 rfl 25 (by decide) (hts _ (List.mem_cons_of_mem _ (wl_in_2 _ (List.mem_of_getElem? (i := 59) rfl)))) (fun _ h9 => h9) rfl dX12_key__35 ?_
        refine lv_aload_n hx hb dX12_key__38 rfl (lv_at hl 0 rfl) ?_
        refine lv_iload_n hx hb dX12_key__39 rfl (lv_at hl 1 rfl) ?_
        refine x_calli (As := [.int (iI x1)]) (rest := [.ref (q 14)]) ⟨hx, hb, hml, hown, hts⟩ (mc_X12_key4 l dC dI cB cI cJ cZ cQ q _ x1 hI (by omega)) (cwV 1 hts (goodV (wl_in_4 _ (List.mem_of_getElem? (i := 44) rfl)) (wl_in_4 _ (List.mem_of_getElem? (i := 45) rfl)) (wl_in_4 _ (List.mem_of_getElem? (i := 46) rfl)) (wl_in_0 _ (List.mem_of_getElem? (i := 8) rfl)) (wl_in_4 _ (List.mem_of_getElem? (i := 41) rfl))) rfl rfl rfl (by decide +kernel) ⟨Nat.le_of_ble_eq_true rfl, Nat.le_of_ble_eq_true rfl⟩) hK hDD hA0 hP hS 0 12 wm0 rfl rfl hl.1 (Nat.le_of_ble_eq_true rfl) dX12_key__40 (fun z11 A12 H locs hw13 hP hS => ?_)
        obtain ⟨rfl, hw13⟩ := hw13
        have ghw13 : q_X12_key4 x1 A z11 := hw13
        have hw13 := hw13.2
        refine tp_i (y := iI (4 * (A 0 12) + x1)) (congrArg iI (show z11 = 4 * (A 0 12) + x1 by omega)) ?_
        clear hw13
        refine x_iald hx hb hK hP 14 1 wm14 rfl (by omega) (by decide) dX12_key__43 (fun z14 hz14 => ?_)
        have rz14 : (0 : Int) ≤ z14 ∧ z14 ≤ 6 := by rw [hz14]; exact hI 14 _
        have gz14 := Hd.mk hz14
        have hz14 : z14 = A 14 (4 * (A 0 12) + x1).toNat := hz14
        refine lv_goto (tgt := 61) hx hb dX12_key__44 (by decide) ?_
        exact RET z14 _ _ _ _ _ ⟨rfl, (u_r_X12_key_ ⟨z1, ghw3, (Or.inl ⟨c4, (Or.inl ⟨c5, (Or.inr ⟨c6, ⟨z11, ghw13, ⟨z14, gz14.out, rfl⟩⟩⟩)⟩)⟩)⟩), by omega⟩ hP hS dX12_key__61
    · have c5 : x2 = 0 := (i_eq0 hx2).mp c5
      refine lv_aload_n hx hb dX12_key__16 rfl (lv_at hl 0 rfl) ?_
      refine va_get (D := (dC, dI)) (ci := 12) (v := .ref (q 13)) (C := RX12) (T := TX12) (N := 85) hx hb hts hiX12 hown hK hP 0 wm0 rfl 24 (by decide) (hts _ (List.mem_cons_of_mem _ (wl_in_2 _ (List.mem_of_getElem? (i := 58) rfl)))) (fun _ h9 => h9) rfl dX12_key__17 ?_
      refine lv_aload_n hx hb dX12_key__20 rfl (lv_at hl 0 rfl) ?_
      refine lv_iload_n hx hb dX12_key__21 rfl (lv_at hl 1 rfl) ?_
      refine x_calli (As := [.int (iI x1)]) (rest := [.ref (q 13)]) ⟨hx, hb, hml, hown, hts⟩ (mc_X12_key4 l dC dI cB cI cJ cZ cQ q _ x1 hI (by omega)) (cwV 1 hts (goodV (wl_in_4 _ (List.mem_of_getElem? (i := 44) rfl)) (wl_in_4 _ (List.mem_of_getElem? (i := 45) rfl)) (wl_in_4 _ (List.mem_of_getElem? (i := 46) rfl)) (wl_in_0 _ (List.mem_of_getElem? (i := 8) rfl)) (wl_in_4 _ (List.mem_of_getElem? (i := 41) rfl))) rfl rfl rfl (by decide +kernel) ⟨Nat.le_of_ble_eq_true rfl, Nat.le_of_ble_eq_true rfl⟩) hK hDD hA0 hP hS 0 12 wm0 rfl rfl hl.1 (Nat.le_of_ble_eq_true rfl) dX12_key__22 (fun z15 A16 H locs hw17 hP hS => ?_)
      obtain ⟨rfl, hw17⟩ := hw17
      have ghw17 : q_X12_key4 x1 A z15 := hw17
      have hw17 := hw17.2
      refine tp_i (y := iI (4 * (A 0 12) + x1)) (congrArg iI (show z15 = 4 * (A 0 12) + x1 by omega)) ?_
      clear hw17
      refine x_iald hx hb hK hP 13 1 wm13 rfl (by omega) (by decide) dX12_key__25 (fun z18 hz18 => ?_)
      have rz18 : (0 : Int) ≤ z18 ∧ z18 ≤ 40 := by rw [hz18]; exact hI 13 _
      have gz18 := Hd.mk hz18
      have hz18 : z18 = A 13 (4 * (A 0 12) + x1).toNat := hz18
      refine lv_goto (tgt := 61) hx hb dX12_key__26 (by decide) ?_
      exact RET z18 _ _ _ _ _ ⟨rfl, (u_r_X12_key_ ⟨z1, ghw3, (Or.inl ⟨c4, (Or.inr ⟨c5, ⟨z15, ghw17, ⟨z18, gz18.out, rfl⟩⟩⟩)⟩)⟩), by omega⟩ hP hS dX12_key__61
  · have c4 : z1 = 0 := (i_eq0 (rb rz1 (by decide) (by decide))).mp c4
    clear hw3
    refine lv_iconst (v := iI (-1)) hx hb dX12_key__8 (by decide +kernel) ?_
    refine lv_goto (tgt := 61) hx hb dX12_key__9 (by decide) ?_
    exact RET (-1) _ _ _ _ _ ⟨rfl, (u_r_X12_key_ ⟨z1, ghw3, (Or.inr ⟨c4, rfl⟩)⟩), by omega⟩ hP hS dX12_key__61

abbrev tr_r_X12_in (x1 : Int) (x2 : Int) (A : St) (z : Int) : Prop := (∃ z1 : Int, q_X12_isKey x1 A z1 ∧ (((z1 = 0) ∧ (z = (-1))) ∨ ((¬ z1 = 0) ∧ (∃ z5 : Int, q_X12_key4 x1 A z5 ∧ (∃ z8 : Int, z8 = A 14 (4 * (A 0 12) + x1).toNat ∧ (∃ z9 : Int, q_X12_is x2 0 (z8 - 1) A z9 ∧ (((¬ z9 = 0) ∧ (∃ z13 : Int, q_X12_key4 x1 A z13 ∧ (∃ z16 : Int, z16 = A 15 (40 * (A 0 12) + 10 * x1 + x2).toNat ∧ (z = z16)))) ∨ ((z9 = 0) ∧ (z = (-1))))))))))
def r_X12_in (x1 : Int) (x2 : Int) (A : St) (z : Int) : Prop := tr_r_X12_in x1 x2 A z
theorem u_r_X12_in {x1 : Int} {x2 : Int} {A : St} {z : Int} (h : tr_r_X12_in x1 x2 A z) : r_X12_in x1 x2 A z := h
def ws_mc_X12_in : List Cond := .code yX12_in cX12_in 3 (some .int) :: WX
set_option maxHeartbeats 4000000 in
set_option maxRecDepth 100000 in
theorem mc_X12_in (l : Launch) (dC : Nat → ClassId) (dI : Nat → Nat → Nat) (cB cI cJ cZ cQ : ClassId) (q : Nat → Nat) (A : St) (x1 x2 : Int) (hI : IM A) (hx1 : (-2147483648 : Int) ≤ x1 ∧ x1 ≤ 2147483647) (hx2 : (-2147483648 : Int) ≤ x2 ∧ x2 ≤ 2147483647) : XMi l yX12_in ws_mc_X12_in ({ frames := 2, cells := 0, slots := 0, locals := 43 } : Room) (dC, dI) (tyA cB cI cJ cZ cQ) (WM cI cJ cZ q) A [.ref (q 0), .int (iI x1), .int (iI x2)] (fun z u => A = u ∧ r_X12_in x1 x2 A z ∧ (-2147483648 ≤ z ∧ z ≤ 2147483647)) := by
  refine x_meti (cc := cX12_in) (maxL := 3) WM_adr (by decide +kernel) rfl (Nat.le_of_ble_eq_true rfl) (fun p e s m below meth c Q AS ls hx hb hml hown hts hK hDD hA0 hP hS hl RET => ?_)
  have hown : s.vm.findClass RX12 = some m.cls := hown
  have hl : lv_has ls 3 [(0, .ref (q 0)), (1, .int (iI x1)), (2, .int (iI x2))] := hl
  have hiX12 : ∀ w ∈ u_ws RX12 TX12 85, w ∈ ws_mc_X12_in := fun w h => List.mem_cons_of_mem _ (wx_lay w h)
  obtain ⟨H, hHe⟩ : ∃ H : Heap, H = s.heap := ⟨_, rfl⟩
  rw [← hHe] at hP
  have hS : va_S AS s.heap H [] := by rw [hHe]; exact hS
  suffices hgo : ∀ locs : List Loc, va_S AS s.heap H locs → W p l e (headSpec ws_mc_X12_in ({ frames := 2, cells := 0, slots := 0, locals := 43 } : Room)).room s m [.ref (q 0), .int (iI x1), .int (iI x2)].toArray below meth c H locs 0 0 Q (F0 m 0 ls []) by
    have := hgo [] hS
    rw [hHe] at this
    exact this
  clear hS hHe
  intro locs hS
  refine lv_aload_n hx hb dX12_in_0 rfl (lv_at hl 0 rfl) ?_
  refine lv_iload_n hx hb dX12_in_1 rfl (lv_at hl 1 rfl) ?_
  have r_A_0_12 : (0 : Int) ≤ (A 0 12) ∧ (A 0 12) ≤ 1 := hI 0 12
  refine x_calli (As := [.int (iI x1)]) (rest := []) ⟨hx, hb, hml, hown, hts⟩ (mc_X12_isKeyB l dC dI cB cI cJ cZ cQ q _ x1 hI hx1) (cwV 1 hts (goodV (wl_in_5 _ (List.mem_of_getElem? (i := 18) rfl)) (wl_in_5 _ (List.mem_of_getElem? (i := 19) rfl)) (wl_in_5 _ (List.mem_of_getElem? (i := 20) rfl)) (wl_in_0 _ (List.mem_of_getElem? (i := 8) rfl)) (wl_in_4 _ (List.mem_of_getElem? (i := 39) rfl))) rfl rfl rfl (by decide +kernel) ⟨Nat.le_of_ble_eq_true rfl, Nat.le_of_ble_eq_true rfl⟩) hK hDD hA0 hP hS 0 12 wm0 rfl rfl hl.1 (Nat.le_of_ble_eq_true rfl) dX12_in_2 (fun z1 A2 H locs hw3 hP hS => ?_)
  obtain ⟨rfl, hw3⟩ := hw3
  have ghw3 : q_X12_isKey x1 A z1 := hw3
  have hw3 := hw3.2
  have rz1 : 0 ≤ z1 ∧ z1 ≤ 1 := hw3.1
  refine lv_if_eq (tgt := 28) hx hb dX12_in_5 (by decide) (fun c4 => ?_) (fun c4 => ?_)
  · have c4 : z1 = 0 := (i_eq0 (rb rz1 (by decide) (by decide))).mp c4
    clear hw3
    refine lv_iconst (v := iI (-1)) hx hb dX12_in_28 (by decide +kernel) ?_
    refine lv_goto (tgt := 47) hx hb dX12_in_29 (by decide) ?_
    exact RET (-1) _ _ _ _ _ ⟨rfl, (u_r_X12_in ⟨z1, ghw3, (Or.inl ⟨c4, rfl⟩)⟩), by omega⟩ hP hS dX12_in_47
  · have c4 : ¬ z1 = 0 := mt (i_eq0 (rb rz1 (by decide) (by decide))).mpr c4
    have hw3b := hw3.2.mp (by omega)
    clear hw3
    refine lv_iload_n hx hb dX12_in_8 rfl (lv_at hl 2 rfl) ?_
    refine lv_iconst (v := iI 0) hx hb dX12_in_9 (by decide +kernel) ?_
    refine lv_aload_n hx hb dX12_in_10 rfl (lv_at hl 0 rfl) ?_
    refine va_get (D := (dC, dI)) (ci := 12) (v := .ref (q 14)) (C := RX12) (T := TX12) (N := 85) hx hb hts hiX12 hown hK hP 0 wm0 rfl 25 (by decide) (hts _ (List.mem_cons_of_mem _ (wl_in_2 _ (List.mem_of_getElem? (i := 59) rfl)))) (fun _ h9 => h9) rfl dX12_in_11 ?_
    refine lv_aload_n hx hb dX12_in_14 rfl (lv_at hl 0 rfl) ?_
    refine lv_iload_n hx hb dX12_in_15 rfl (lv_at hl 1 rfl) ?_
    refine x_calli (As := [.int (iI x1)]) (rest := [.ref (q 14), .int (iI 0), .int (iI x2)]) ⟨hx, hb, hml, hown, hts⟩ (mc_X12_key4 l dC dI cB cI cJ cZ cQ q _ x1 hI (by omega)) (cwV 1 hts (goodV (wl_in_4 _ (List.mem_of_getElem? (i := 44) rfl)) (wl_in_4 _ (List.mem_of_getElem? (i := 45) rfl)) (wl_in_4 _ (List.mem_of_getElem? (i := 46) rfl)) (wl_in_0 _ (List.mem_of_getElem? (i := 8) rfl)) (wl_in_4 _ (List.mem_of_getElem? (i := 41) rfl))) rfl rfl rfl (by decide +kernel) ⟨Nat.le_of_ble_eq_true rfl, Nat.le_of_ble_eq_true rfl⟩) hK hDD hA0 hP hS 0 12 wm0 rfl rfl hl.1 (Nat.le_of_ble_eq_true rfl) dX12_in_16 (fun z5 A6 H locs hw7 hP hS => ?_)
    obtain ⟨rfl, hw7⟩ := hw7
    have ghw7 : q_X12_key4 x1 A z5 := hw7
    have hw7 := hw7.2
    refine tp_i (y := iI (4 * (A 0 12) + x1)) (congrArg iI (show z5 = 4 * (A 0 12) + x1 by omega)) ?_
    clear hw7
    refine x_iald hx hb hK hP 14 1 wm14 rfl (by omega) (by decide) dX12_in_19 (fun z8 hz8 => ?_)
    have rz8 : (0 : Int) ≤ z8 ∧ z8 ≤ 6 := by rw [hz8]; exact hI 14 _
    have gz8 := Hd.mk hz8
    have hz8 : z8 = A 14 (4 * (A 0 12) + x1).toNat := hz8
    refine lv_iconst (v := iI 1) hx hb dX12_in_20 (by decide +kernel) ?_
    refine x_subv (v := z8 - 1) hx hb dX12_in_21 (by omega) ?_
    refine x_callSi (As := [.int (iI x2), .int (iI 0), .int (iI (z8 - 1))]) (rest := []) ⟨hx, hb, hml, hown, hts⟩ (mc_X12_is l dC dI cB cI cJ cZ cQ q _ x2 0 (z8 - 1) hI hx2 ⟨by decide, by decide⟩ (by omega)) (va_cwS 3 hts (goodS (wl_in_1 _ (List.mem_of_getElem? (i := 27) rfl)) (wl_in_1 _ (List.mem_of_getElem? (i := 28) rfl)) (wl_in_0 _ (List.mem_of_getElem? (i := 8) rfl)) (wl_in_0 _ (List.mem_of_getElem? (i := 0) rfl))) rfl rfl rfl (by decide +kernel) ⟨Nat.le_of_ble_eq_true rfl, Nat.le_of_ble_eq_true rfl⟩) hK hDD hA0 hP hS rfl hl.1 (Nat.le_of_ble_eq_true rfl) dX12_in_22 (fun z9 A10 H locs hw11 hP hS => ?_)
    obtain ⟨rfl, hw11⟩ := hw11
    have ghw11 : q_X12_is x2 0 (z8 - 1) A z9 := hw11
    have hw11 := hw11.2
    have rz9 : 0 ≤ z9 ∧ z9 ≤ 1 := hw11.1
    refine lv_if_ne (tgt := 32) hx hb dX12_in_25 (by decide) (fun c12 => ?_) (fun c12 => ?_)
    · have c12 : ¬ z9 = 0 := mt (i_eq0 (rb rz9 (by decide) (by decide))).mpr c12
      have hw11b := hw11.2.mp (by omega)
      clear hw11
      refine lv_aload_n hx hb dX12_in_32 rfl (lv_at hl 0 rfl) ?_
      refine va_get (D := (dC, dI)) (ci := 12) (v := .ref (q 15)) (C := RX12) (T := TX12) (N := 85) hx hb hts hiX12 hown hK hP 0 wm0 rfl 26 (by decide) (hts _ (List.mem_cons_of_mem _ (wl_in_3 _ (List.mem_of_getElem? (i := 7) rfl)))) (fun _ h9 => h9) rfl dX12_in_33 ?_
      refine lv_bipush (v := iI 10) hx hb dX12_in_36 (by decide +kernel) ?_
      refine lv_aload_n hx hb dX12_in_38 rfl (lv_at hl 0 rfl) ?_
      refine lv_iload_n hx hb dX12_in_39 rfl (lv_at hl 1 rfl) ?_
      refine x_calli (As := [.int (iI x1)]) (rest := [.int (iI 10), .ref (q 15)]) ⟨hx, hb, hml, hown, hts⟩ (mc_X12_key4 l dC dI cB cI cJ cZ cQ q _ x1 hI (by omega)) (cwV 1 hts (goodV (wl_in_4 _ (List.mem_of_getElem? (i := 44) rfl)) (wl_in_4 _ (List.mem_of_getElem? (i := 45) rfl)) (wl_in_4 _ (List.mem_of_getElem? (i := 46) rfl)) (wl_in_0 _ (List.mem_of_getElem? (i := 8) rfl)) (wl_in_4 _ (List.mem_of_getElem? (i := 41) rfl))) rfl rfl rfl (by decide +kernel) ⟨Nat.le_of_ble_eq_true rfl, Nat.le_of_ble_eq_true rfl⟩) hK hDD hA0 hP hS 0 12 wm0 rfl rfl hl.1 (Nat.le_of_ble_eq_true rfl) dX12_in_40 (fun z13 A14 H locs hw15 hP hS => ?_)
      obtain ⟨rfl, hw15⟩ := hw15
      have ghw15 : q_X12_key4 x1 A z13 := hw15
      have hw15 := hw15.2
      refine tp_i (y := iI (4 * (A 0 12) + x1)) (congrArg iI (show z13 = 4 * (A 0 12) + x1 by omega)) ?_
      clear hw15
      refine x_mulv (v := 40 * (A 0 12) + 10 * x1) hx hb dX12_in_43 (by omega) ?_
      refine lv_iload_n hx hb dX12_in_44 rfl (lv_at hl 2 rfl) ?_
      refine x_addv (v := 40 * (A 0 12) + 10 * x1 + x2) hx hb dX12_in_45 (by omega) ?_
      refine x_iald hx hb hK hP 15 1 wm15 rfl (by omega) (by decide) dX12_in_46 (fun z16 hz16 => ?_)
      have rz16 : (0 : Int) ≤ z16 ∧ z16 ≤ 9 := by rw [hz16]; exact hI 15 _
      have gz16 := Hd.mk hz16
      have hz16 : z16 = A 15 (40 * (A 0 12) + 10 * x1 + x2).toNat := hz16
      exact RET z16 _ _ _ _ _ ⟨rfl, (u_r_X12_in ⟨z1, ghw3, (Or.inr ⟨c4, ⟨z5, ghw7, ⟨z8, gz8.out, ⟨z9, ghw11, (Or.inl ⟨c12, ⟨z13, ghw15, ⟨z16, gz16.out, rfl⟩⟩⟩)⟩⟩⟩⟩)⟩), by omega⟩ hP hS dX12_in_47
    · have c12 : z9 = 0 := (i_eq0 (rb rz9 (by decide) (by decide))).mp c12
      have hw11b := mt hw11.2.mpr (by omega)
      clear hw11
      refine lv_iconst (v := iI (-1)) hx hb dX12_in_28 (by decide +kernel) ?_
      refine lv_goto (tgt := 47) hx hb dX12_in_29 (by decide) ?_
      exact RET (-1) _ _ _ _ _ ⟨rfl, (u_r_X12_in ⟨z1, ghw3, (Or.inr ⟨c4, ⟨z5, ghw7, ⟨z8, gz8.out, ⟨z9, ghw11, (Or.inr ⟨c12, rfl⟩)⟩⟩⟩⟩)⟩), by omega⟩ hP hS dX12_in_47

abbrev tr_d_X12_keysOf_2 (K1 : Int → Int → Prop) (z1 : Int) (z2 : Int) (z : Int) (z20 : Int) : Prop := ((0 ≤ z20 ∧ z20 ≤ 8) ∧ (∃ z23 : Int, z23 = oOr z2 z20 ∧ (K1 (z1 + 1) z23)))
def d_X12_keysOf_2 (K1 : Int → Int → Prop) (z1 : Int) (z2 : Int) (z : Int) (z20 : Int) : Prop := tr_d_X12_keysOf_2 K1 z1 z2 z z20
theorem u_d_X12_keysOf_2 {K1 : Int → Int → Prop} {z1 : Int} {z2 : Int} {z : Int} {z20 : Int} (h : tr_d_X12_keysOf_2 K1 z1 z2 z z20) : d_X12_keysOf_2 K1 z1 z2 z z20 := h
abbrev tr_d_X12_keysOf_1 (x1 : Int) (A : St) (z : Int) (K1 : Int → Int → Prop) (z1 : Int) (z2 : Int) : Prop := ((0 ≤ z1 ∧ z1 ≤ 2147483647) ∧ ((-2147483648 ≤ z2 ∧ z2 ≤ 2147483647) ∧ (∃ z11 : Int, z11 = A 11 ((A 0 12)).toNat ∧ (((z11 ≤ z1) ∧ (z = z2)) ∨ ((¬ z11 ≤ z1) ∧ (∃ z13 : Int, q_X12_key4 z1 A z13 ∧ (∃ z16 : Int, z16 = A 13 (4 * (A 0 12) + z1).toNat ∧ (((¬ z16 = x1) ∧ (d_X12_keysOf_2 K1 z1 z2 z 0)) ∨ ((z16 = x1) ∧ (∃ z19 : Int, z19 = oShl 1 z1 ∧ (d_X12_keysOf_2 K1 z1 z2 z z19)))))))))))
def d_X12_keysOf_1 (x1 : Int) (A : St) (z : Int) : Nat → Int → Int → Prop
  | 0, _, _ => False
  | nn9 + 1, z1, z2 => tr_d_X12_keysOf_1 x1 A z (fun z1 z2 => d_X12_keysOf_1 x1 A z nn9 z1 z2) z1 z2
theorem u_d_X12_keysOf_1 {x1 : Int} {A : St} {z : Int} {nn9 : Nat} {z1 : Int} {z2 : Int} (h : tr_d_X12_keysOf_1 x1 A z (fun z1 z2 => d_X12_keysOf_1 x1 A z nn9 z1 z2) z1 z2) : d_X12_keysOf_1 x1 A z (nn9 + 1) z1 z2 := h
abbrev tr_r_X12_keysOf (x1 : Int) (A : St) (z : Int) : Prop := (∃ nn9 : Nat, d_X12_keysOf_1 x1 A z nn9 0 0)
def r_X12_keysOf (x1 : Int) (A : St) (z : Int) : Prop := tr_r_X12_keysOf x1 A z
theorem u_r_X12_keysOf {x1 : Int} {A : St} {z : Int} (h : tr_r_X12_keysOf x1 A z) : r_X12_keysOf x1 A z := h
def q_X12_keysOf (x1 : Int) (A : St) (z : Int) : Prop := r_X12_keysOf x1 A z ∧ (-2147483648 ≤ z ∧ z ≤ 2147483647)
def ws_mc_X12_keysOf : List Cond := .code yX12_keysOf cX12_keysOf 4 (some .int) :: WX
set_option maxHeartbeats 4000000 in
set_option maxRecDepth 100000 in
theorem mc_X12_keysOf (l : Launch) (dC : Nat → ClassId) (dI : Nat → Nat → Nat) (cB cI cJ cZ cQ : ClassId) (q : Nat → Nat) (A : St) (x1 : Int) (hI : IM A) (hx1 : (-2147483648 : Int) ≤ x1 ∧ x1 ≤ 2147483647) : XMi l yX12_keysOf ws_mc_X12_keysOf ({ frames := 1, cells := 0, slots := 0, locals := 21 } : Room) (dC, dI) (tyA cB cI cJ cZ cQ) (WM cI cJ cZ q) A [.ref (q 0), .int (iI x1)] (fun z u => A = u ∧ r_X12_keysOf x1 A z ∧ (-2147483648 ≤ z ∧ z ≤ 2147483647)) := by
  refine x_meti (cc := cX12_keysOf) (maxL := 4) WM_adr (by decide +kernel) rfl (Nat.le_of_ble_eq_true rfl) (fun p e s m below meth c Q AS ls hx hb hml hown hts hK hDD hA0 hP hS hl RET => ?_)
  have hown : s.vm.findClass RX12 = some m.cls := hown
  have hl : lv_has ls 4 [(0, .ref (q 0)), (1, .int (iI x1))] := hl
  have hiX12 : ∀ w ∈ u_ws RX12 TX12 85, w ∈ ws_mc_X12_keysOf := fun w h => List.mem_cons_of_mem _ (wx_lay w h)
  obtain ⟨H, hHe⟩ : ∃ H : Heap, H = s.heap := ⟨_, rfl⟩
  rw [← hHe] at hP
  have hS : va_S AS s.heap H [] := by rw [hHe]; exact hS
  suffices hgo : ∀ locs : List Loc, va_S AS s.heap H locs → W p l e (headSpec ws_mc_X12_keysOf ({ frames := 1, cells := 0, slots := 0, locals := 21 } : Room)).room s m [.ref (q 0), .int (iI x1)].toArray below meth c H locs 0 0 Q (F0 m 0 ls []) by
    have := hgo [] hS
    rw [hHe] at this
    exact this
  clear hS hHe
  intro locs hS
  refine lv_iconst (v := iI 0) hx hb dX12_keysOf_0 (by decide +kernel) ?_
  refine lv_istore_n (lv' := [(2, .int (iI 0)), (0, .ref (q 0)), (1, .int (iI x1))]) hx hb dX12_keysOf_1 rfl hl (by decide) rfl (fun ls hl => ?_)
  refine lv_iconst (v := iI 0) hx hb dX12_keysOf_2 (by decide +kernel) ?_
  refine lv_istore_n (lv' := [(3, .int (iI 0)), (2, .int (iI 0)), (0, .ref (q 0)), (1, .int (iI x1))]) hx hb dX12_keysOf_3 rfl hl (by decide) rfl (fun ls hl => ?_)
  have L4_5 : ∀ (n7 : Nat) (z1 z2 : Int) (H : Heap) (locs : List Loc) (ls : Array Slot), (0 ≤ z1) → (0 ≤ z1 ∧ z1 ≤ 2147483647) → (-2147483648 ≤ z2 ∧ z2 ≤ 2147483647) → (∀ (z : Int), (∃ mm1 : Nat, (d_X12_keysOf_1 x1 A z mm1 z1 z2)) → r_X12_keysOf x1 A z) → ((A 11 ((A 0 12)).toNat - z1 + 1).toNat = n7) → va_P (dC, dI) vwCl (WM cI cJ cZ q A) H → va_S AS s.heap H locs → lv_has ls 4 [(3, .int (iI z1)), (2, .int (iI z2)), (0, .ref (q 0)), (1, .int (iI x1))] → W p l e (headSpec ws_mc_X12_keysOf ({ frames := 1, cells := 0, slots := 0, locals := 21 } : Room)).room s m [.ref (q 0), .int (iI x1)].toArray below meth c H locs 0 0 Q (F0 m 4 ls []) := by
    intro n7
    induction n7 using Nat.strongRecOn with
    | ind n7 ih6 =>
      intro z1 z2 H locs ls f8 f9 f10 hk1 hn7 hP hS hl
      refine lv_iload_n hx hb dX12_keysOf_4 rfl (lv_at hl 0 rfl) ?_
      refine lv_aload_n hx hb dX12_keysOf_5 rfl (lv_at hl 2 rfl) ?_
      refine va_get (D := (dC, dI)) (ci := 12) (v := .ref (q 11)) (C := RX12) (T := TX12) (N := 85) hx hb hts hiX12 hown hK hP 0 wm0 rfl 22 (by decide) (hts _ (List.mem_cons_of_mem _ (wl_in_1 _ (List.mem_of_getElem? (i := 14) rfl)))) (fun _ h9 => h9) rfl dX12_keysOf_6 ?_
      refine lv_aload_n hx hb dX12_keysOf_9 rfl (lv_at hl 2 rfl) ?_
      refine va_get (D := (dC, dI)) (ci := 12) (v := .int (iI (A 0 12))) (C := RX12) (T := TX12) (N := 85) hx hb hts hiX12 hown hK hP 0 wm0 rfl 12 (by decide) (hts _ (List.mem_cons_of_mem _ (wl_in_4 _ (List.mem_of_getElem? (i := 14) rfl)))) (fun _ h9 => h9) rfl dX12_keysOf_10 ?_
      have r_A_0_12 : (0 : Int) ≤ (A 0 12) ∧ (A 0 12) ≤ 1 := hI 0 12
      refine x_iald hx hb hK hP 11 1 wm11 rfl (by omega) (by decide) dX12_keysOf_13 (fun z11 hz11 => ?_)
      have rz11 : (0 : Int) ≤ z11 ∧ z11 ≤ 4 := by rw [hz11]; exact hI 11 _
      have gz11 := Hd.mk hz11
      have hz11 : z11 = A 11 ((A 0 12)).toNat := hz11
      refine lv_icmp_ge (tgt := 47) hx hb dX12_keysOf_14 (by decide) (fun c12 => ?_) (fun c12 => ?_)
      · have c12 : z11 ≤ z1 := (i_le (rb rz11 (by decide) (by decide)) (rb f9 (by decide) (by decide))).mp c12
        refine lv_iload_n hx hb dX12_keysOf_47 rfl (lv_at hl 1 rfl) ?_
        exact RET z2 _ _ _ _ _ ⟨rfl, hk1 _ ⟨0 + 1, (u_d_X12_keysOf_1 ⟨f9, ⟨f10, ⟨z11, gz11.out, (Or.inl ⟨c12, rfl⟩)⟩⟩⟩)⟩, by omega⟩ hP hS dX12_keysOf_48
      · have c12 : ¬ z11 ≤ z1 := mt (i_le (rb rz11 (by decide) (by decide)) (rb f9 (by decide) (by decide))).mpr c12
        refine lv_iload_n hx hb dX12_keysOf_17 rfl (lv_at hl 1 rfl) ?_
        refine lv_aload_n hx hb dX12_keysOf_18 rfl (lv_at hl 2 rfl) ?_
        refine va_get (D := (dC, dI)) (ci := 12) (v := .ref (q 13)) (C := RX12) (T := TX12) (N := 85) hx hb hts hiX12 hown hK hP 0 wm0 rfl 24 (by decide) (hts _ (List.mem_cons_of_mem _ (wl_in_2 _ (List.mem_of_getElem? (i := 58) rfl)))) (fun _ h9 => h9) rfl dX12_keysOf_19 ?_
        refine lv_aload_n hx hb dX12_keysOf_22 rfl (lv_at hl 2 rfl) ?_
        refine lv_iload_n hx hb dX12_keysOf_23 rfl (lv_at hl 0 rfl) ?_
        refine x_calli (As := [.int (iI z1)]) (rest := [.ref (q 13), .int (iI z2)]) ⟨hx, hb, hml, hown, hts⟩ (mc_X12_key4 l dC dI cB cI cJ cZ cQ q _ z1 hI (by omega)) (cwV 1 hts (goodV (wl_in_4 _ (List.mem_of_getElem? (i := 44) rfl)) (wl_in_4 _ (List.mem_of_getElem? (i := 45) rfl)) (wl_in_4 _ (List.mem_of_getElem? (i := 46) rfl)) (wl_in_0 _ (List.mem_of_getElem? (i := 8) rfl)) (wl_in_4 _ (List.mem_of_getElem? (i := 41) rfl))) rfl rfl rfl (by decide +kernel) ⟨Nat.le_of_ble_eq_true rfl, Nat.le_of_ble_eq_true rfl⟩) hK hDD hA0 hP hS 0 12 wm0 rfl rfl hl.1 (Nat.le_of_ble_eq_true rfl) dX12_keysOf_24 (fun z13 A14 H locs hw15 hP hS => ?_)
        obtain ⟨rfl, hw15⟩ := hw15
        have ghw15 : q_X12_key4 z1 A z13 := hw15
        have hw15 := hw15.2
        refine tp_i (y := iI (4 * (A 0 12) + z1)) (congrArg iI (show z13 = 4 * (A 0 12) + z1 by omega)) ?_
        clear hw15
        refine x_iald hx hb hK hP 13 1 wm13 rfl (by omega) (by decide) dX12_keysOf_27 (fun z16 hz16 => ?_)
        have rz16 : (0 : Int) ≤ z16 ∧ z16 ≤ 40 := by rw [hz16]; exact hI 13 _
        have gz16 := Hd.mk hz16
        have hz16 : z16 = A 13 (4 * (A 0 12) + z1).toNat := hz16
        refine lv_iload_n hx hb dX12_keysOf_28 rfl (lv_at hl 3 rfl) ?_
        have J39_18 : ∀ (z20 : Int) (H : Heap) (locs : List Loc) (ls : Array Slot), (0 ≤ z20 ∧ z20 ≤ 8) → (∀ (z : Int), (∃ mm1 : Nat, (d_X12_keysOf_2 (fun z1' z2' => d_X12_keysOf_1 x1 A z mm1 z1' z2') z1 z2 z z20)) → r_X12_keysOf x1 A z) → va_P (dC, dI) vwCl (WM cI cJ cZ q A) H → va_S AS s.heap H locs → lv_has ls 4 [(3, .int (iI z1)), (2, .int (iI z2)), (0, .ref (q 0)), (1, .int (iI x1))] → W p l e (headSpec ws_mc_X12_keysOf ({ frames := 1, cells := 0, slots := 0, locals := 21 } : Room)).room s m [.ref (q 0), .int (iI x1)].toArray below meth c H locs 0 0 Q (F0 m 39 ls [.int (iI z20), .int (iI z2)]) := by
          intro z20 H locs ls f22 hk2 hP hS hl
          refine lv_ior hx hb dX12_keysOf_39 ?_
          refine x_absE (fun z23 gz23 hz23 => ?_)
          refine lv_istore_n (lv' := [(2, .int (iI z23)), (3, .int (iI z1)), (0, .ref (q 0)), (1, .int (iI x1))]) hx hb dX12_keysOf_40 rfl hl (by decide) rfl (fun ls hl => ?_)
          refine lv_iinc (v := iI (z1 + 1)) (lv' := [(3, .int (iI (z1 + 1))), (2, .int (iI z23)), (0, .ref (q 0)), (1, .int (iI x1))]) hx hb dX12_keysOf_41 hl (k := 1) rfl (i_inc (by omega)) (by decide) rfl (fun ls hl => ?_)
          refine lv_goto (tgt := 4) hx hb dX12_keysOf_44 (by decide) ?_
          exact ih6 _ (by omega) (z1 + 1) z23 _ _ _ (by omega) (by omega) (by omega) (fun zq ⟨mm1, hq⟩ => hk2 _ ⟨mm1, (u_d_X12_keysOf_2 ⟨f22, ⟨z23, gz23.out, hq⟩⟩)⟩) rfl hP hS (lv_sub hl [0, 1, 2, 3] rfl)
        refine lv_icmp_ne (tgt := 38) hx hb dX12_keysOf_29 (by decide) (fun c17 => ?_) (fun c17 => ?_)
        · have c17 : ¬ z16 = x1 := mt (i_eq (rb rz16 (by decide) (by decide)) hx1).mpr c17
          refine lv_iconst (v := iI 0) hx hb dX12_keysOf_38 (by decide +kernel) ?_
          exact J39_18 0 _ _ _ (by omega) (fun zq ⟨mm1, hq⟩ => hk1 _ ⟨mm1 + 1, (u_d_X12_keysOf_1 ⟨f9, ⟨f10, ⟨z11, gz11.out, (Or.inr ⟨c12, ⟨z13, ghw15, ⟨z16, gz16.out, (Or.inl ⟨c17, hq⟩)⟩⟩⟩)⟩⟩⟩)⟩) hP hS (lv_sub hl [0, 1, 2, 3] rfl)
        · have c17 : z16 = x1 := (i_eq (rb rz16 (by decide) (by decide)) hx1).mp c17
          refine lv_iconst (v := iI 1) hx hb dX12_keysOf_32 (by decide +kernel) ?_
          refine lv_iload_n hx hb dX12_keysOf_33 rfl (lv_at hl 0 rfl) ?_
          refine x_shl1E (M := 3) (t := 8) hx hb dX12_keysOf_34 (by omega) (by decide) (by decide) (fun z19 gz19 hz19 => ?_)
          refine lv_goto (tgt := 39) hx hb dX12_keysOf_35 (by decide) ?_
          exact J39_18 z19 _ _ _ (by omega) (fun zq ⟨mm1, hq⟩ => hk1 _ ⟨mm1 + 1, (u_d_X12_keysOf_1 ⟨f9, ⟨f10, ⟨z11, gz11.out, (Or.inr ⟨c12, ⟨z13, ghw15, ⟨z16, gz16.out, (Or.inr ⟨c17, ⟨z19, gz19.out, hq⟩⟩)⟩⟩⟩)⟩⟩⟩)⟩) hP hS (lv_sub hl [0, 1, 2, 3] rfl)
  exact L4_5 _ 0 0 _ _ _ (by omega) (by omega) (by omega) (fun zq ⟨mm1, hq⟩ => (u_r_X12_keysOf ⟨mm1, hq⟩)) rfl hP hS (lv_sub hl [0, 1, 2, 3] rfl)

abbrev tr_d_X12_bitsOf_1 (z : Int) (K1 : Int → Int → Prop) (z1 : Int) (z2 : Int) : Prop := ((-2147483648 ≤ z1 ∧ z1 ≤ 2147483647) ∧ ((-2147483648 ≤ z2 ∧ z2 ≤ 2147483647) ∧ (((z1 = 0) ∧ (z = z2)) ∨ ((¬ z1 = 0) ∧ (∃ z10 : Int, z10 = oAnd z1 1 ∧ (∃ z11 : Int, z11 = oWrap (z2 + z10) ∧ (∃ z12 : Int, z12 = (z1 % 4294967296) / 2 ∧ (K1 z12 z11))))))))
def d_X12_bitsOf_1 (z : Int) : Nat → Int → Int → Prop
  | 0, _, _ => False
  | nn9 + 1, z1, z2 => tr_d_X12_bitsOf_1 z (fun z1 z2 => d_X12_bitsOf_1 z nn9 z1 z2) z1 z2
theorem u_d_X12_bitsOf_1 {z : Int} {nn9 : Nat} {z1 : Int} {z2 : Int} (h : tr_d_X12_bitsOf_1 z (fun z1 z2 => d_X12_bitsOf_1 z nn9 z1 z2) z1 z2) : d_X12_bitsOf_1 z (nn9 + 1) z1 z2 := h
abbrev tr_r_X12_bitsOf (x1 : Int) (A : St) (z : Int) : Prop := (∃ nn9 : Nat, d_X12_bitsOf_1 z nn9 x1 0)
def r_X12_bitsOf (x1 : Int) (A : St) (z : Int) : Prop := tr_r_X12_bitsOf x1 A z
theorem u_r_X12_bitsOf {x1 : Int} {A : St} {z : Int} (h : tr_r_X12_bitsOf x1 A z) : r_X12_bitsOf x1 A z := h
def q_X12_bitsOf (x1 : Int) (A : St) (z : Int) : Prop := r_X12_bitsOf x1 A z ∧ (-2147483648 ≤ z ∧ z ≤ 2147483647)
def ws_mc_X12_bitsOf : List Cond := .code yX12_bitsOf cX12_bitsOf 3 (some .int) :: WX
set_option maxHeartbeats 4000000 in
set_option maxRecDepth 100000 in
theorem mc_X12_bitsOf (l : Launch) (dC : Nat → ClassId) (dI : Nat → Nat → Nat) (cB cI cJ cZ cQ : ClassId) (q : Nat → Nat) (A : St) (x1 : Int) (hI : IM A) (hx1 : (-2147483648 : Int) ≤ x1 ∧ x1 ≤ 2147483647) : XMi l yX12_bitsOf ws_mc_X12_bitsOf ({ frames := 0, cells := 0, slots := 0, locals := 0 } : Room) (dC, dI) (tyA cB cI cJ cZ cQ) (WM cI cJ cZ q) A [.int (iI x1)] (fun z u => A = u ∧ r_X12_bitsOf x1 A z ∧ (-2147483648 ≤ z ∧ z ≤ 2147483647)) := by
  refine x_meti (cc := cX12_bitsOf) (maxL := 3) WM_adr (by decide +kernel) rfl (Nat.le_of_ble_eq_true rfl) (fun p e s m below meth c Q AS ls hx hb hml hown hts hK hDD hA0 hP hS hl RET => ?_)
  have hown : s.vm.findClass RX12 = some m.cls := hown
  have hl : lv_has ls 3 [(0, .int (iI x1))] := hl
  obtain ⟨H, hHe⟩ : ∃ H : Heap, H = s.heap := ⟨_, rfl⟩
  rw [← hHe] at hP
  have hS : va_S AS s.heap H [] := by rw [hHe]; exact hS
  suffices hgo : ∀ locs : List Loc, va_S AS s.heap H locs → W p l e (headSpec ws_mc_X12_bitsOf ({ frames := 0, cells := 0, slots := 0, locals := 0 } : Room)).room s m [.int (iI x1)].toArray below meth c H locs 0 0 Q (F0 m 0 ls []) by
    have := hgo [] hS
    rw [hHe] at this
    exact this
  clear hS hHe
  intro locs hS
  refine lv_iconst (v := iI 0) hx hb dX12_bitsOf_0 (by decide +kernel) ?_
  refine lv_istore_n (lv' := [(1, .int (iI 0)), (0, .int (iI x1))]) hx hb dX12_bitsOf_1 rfl hl (by decide) rfl (fun ls hl => ?_)
  refine lv_iload_n hx hb dX12_bitsOf_2 rfl (lv_at hl 1 rfl) ?_
  refine lv_istore_n (lv' := [(2, .int (iI x1)), (1, .int (iI 0)), (0, .int (iI x1))]) hx hb dX12_bitsOf_3 rfl hl (by decide) rfl (fun ls hl => ?_)
  have L4_4 : ∀ (n6 : Nat) (z1 z2 : Int) (H : Heap) (locs : List Loc) (ls : Array Slot), (-2147483648 ≤ z1 ∧ z1 ≤ 2147483647) → (-2147483648 ≤ z2 ∧ z2 ≤ 2147483647) → (∀ (z : Int), (∃ mm1 : Nat, (d_X12_bitsOf_1 z mm1 z1 z2)) → r_X12_bitsOf x1 A z) → ((z1 % 4294967296).toNat = n6) → va_P (dC, dI) vwCl (WM cI cJ cZ q A) H → va_S AS s.heap H locs → lv_has ls 3 [(2, .int (iI z1)), (1, .int (iI z2)), (0, .int (iI x1))] → W p l e (headSpec ws_mc_X12_bitsOf ({ frames := 0, cells := 0, slots := 0, locals := 0 } : Room)).room s m [.int (iI x1)].toArray below meth c H locs 0 0 Q (F0 m 4 ls []) := by
    intro n6
    induction n6 using Nat.strongRecOn with
    | ind n6 ih5 =>
      intro z1 z2 H locs ls f7 f8 hk1 hn6 hP hS hl
      refine lv_iload_n hx hb dX12_bitsOf_4 rfl (lv_at hl 0 rfl) ?_
      refine lv_if_eq (tgt := 21) hx hb dX12_bitsOf_5 (by decide) (fun c9 => ?_) (fun c9 => ?_)
      · have c9 : z1 = 0 := (i_eq0 f7).mp c9
        refine lv_iload_n hx hb dX12_bitsOf_21 rfl (lv_at hl 1 rfl) ?_
        exact RET z2 _ _ _ _ _ ⟨rfl, hk1 _ ⟨0 + 1, (u_d_X12_bitsOf_1 ⟨f7, ⟨f8, (Or.inl ⟨c9, rfl⟩)⟩⟩)⟩, by omega⟩ hP hS dX12_bitsOf_22
      · have c9 : ¬ z1 = 0 := mt (i_eq0 f7).mpr c9
        refine lv_iload_n hx hb dX12_bitsOf_8 rfl (lv_at hl 1 rfl) ?_
        refine lv_iload_n hx hb dX12_bitsOf_9 rfl (lv_at hl 0 rfl) ?_
        refine lv_iconst (v := iI 1) hx hb dX12_bitsOf_10 (by decide +kernel) ?_
        refine lv_iand hx hb dX12_bitsOf_11 ?_
        refine x_andE (b := 1) (by omega) (fun z10 gz10 hz10 => ?_)
        refine x_addv (v := z2 + z10) hx hb dX12_bitsOf_12 (by omega) ?_
        refine x_absE (fun z11 gz11 hz11 => ?_)
        refine lv_istore_n (lv' := [(1, .int (iI z11)), (2, .int (iI z1)), (0, .int (iI x1))]) hx hb dX12_bitsOf_13 rfl hl (by decide) rfl (fun ls hl => ?_)
        refine lv_iload_n hx hb dX12_bitsOf_14 rfl (lv_at hl 1 rfl) ?_
        refine lv_iconst (v := iI 1) hx hb dX12_bitsOf_15 (by decide +kernel) ?_
        refine x_ushr1 hx hb dX12_bitsOf_16 (by omega) (fun z12 hz12 => ?_)
        refine lv_istore_n (lv' := [(2, .int (iI z12)), (1, .int (iI z11)), (0, .int (iI x1))]) hx hb dX12_bitsOf_17 rfl hl (by decide) rfl (fun ls hl => ?_)
        refine lv_goto (tgt := 4) hx hb dX12_bitsOf_18 (by decide) ?_
        exact ih5 _ (by omega) z12 z11 _ _ _ (by omega) (by omega) (fun zq ⟨mm1, hq⟩ => hk1 _ ⟨mm1 + 1, (u_d_X12_bitsOf_1 ⟨f7, ⟨f8, (Or.inr ⟨c9, ⟨z10, gz10.out, ⟨z11, gz11.out, ⟨z12, hz12, hq⟩⟩⟩⟩)⟩⟩)⟩) rfl hP hS (lv_sub hl [0, 1, 2] rfl)
  exact L4_4 _ x1 0 _ _ _ (by omega) (by omega) (fun zq ⟨mm1, hq⟩ => (u_r_X12_bitsOf ⟨mm1, hq⟩)) rfl hP hS (lv_sub hl [0, 1, 2] rfl)
