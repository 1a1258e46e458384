abbrev tr_r_X12_isPlace (x1 : Int) (A : St) (z : Int) : Prop := (∃ z1 : Int, z1 = A 2 ((A 0 12)).toNat ∧ (∃ z2 : Int, q_X12_is x1 0 (z1 - 1) A z2 ∧ (z = z2)))
def r_X12_isPlace (x1 : Int) (A : St) (z : Int) : Prop := tr_r_X12_isPlace x1 A z
theorem u_r_X12_isPlace {x1 : Int} {A : St} {z : Int} (h : tr_r_X12_isPlace x1 A z) : r_X12_isPlace x1 A z := h
def q_X12_isPlace (x1 : Int) (A : St) (z : Int) : Prop := r_X12_isPlace x1 A z ∧ ((0 ≤ z ∧ z ≤ 1) ∧ (z = 1 ↔ 0 ≤ x1 ∧ x1 < A 2 (A 0 12).toNat ∧ A 2 (A 0 12).toNat ≤ 8))
def ws_mc_X12_isPlaceB : List Cond := .code yX12_isPlace cX12_isPlace 2 (some .boolean) :: WX
set_option maxHeartbeats 4000000 in
set_option maxRecDepth 100000 in
theorem mc_X12_isPlaceB (l : Launch) (dC : Nat → ClassId) (dI : Nat → Nat → Nat) (cB cI cJ cZ cQ : ClassId) (q : Nat → Nat) (A : St) (x1 : Int) (hI : IM A) (hx1 : (-2147483648 : Int) ≤ x1 ∧ x1 ≤ 2147483647) : XMi l yX12_isPlace ws_mc_X12_isPlaceB ({ frames := 1, cells := 0, slots := 0, locals := 22 } : Room) (dC, dI) (tyA cB cI cJ cZ cQ) (WM cI cJ cZ q) A [.ref (q 0), .int (iI x1)] (fun z u => A = u ∧ r_X12_isPlace x1 A z ∧ ((0 ≤ z ∧ z ≤ 1) ∧ (z = 1 ↔ 0 ≤ x1 ∧ x1 < A 2 (A 0 12).toNat ∧ A 2 (A 0 12).toNat ≤ 8))) := by
  refine x_metz (cc := cX12_isPlace) (maxL := 2) WM_adr (by decide +kernel) rfl (Nat.le_of_ble_eq_true rfl) (fun z u h => h.2.2.1) (fun p e s m below meth c Q AS ls hx hb hml hown hts hK hDD hA0 hP hS hl RET => ?_)
  have hown : s.vm.findClass RX12 = some m.cls := hown
  have hl : lv_has ls 2 [(0, .ref (q 0)), (1, .int (iI x1))] := hl
  have hiX12 : ∀ w ∈ u_ws RX12 TX12 85, w ∈ ws_mc_X12_isPlaceB := fun w h => List.mem_cons_of_mem _ (wx_lay w h)
  obtain ⟨H, hHe⟩ : ∃ H : Heap, H = s.heap := ⟨_, rfl⟩
  rw [← hHe] at hP
  have hS : va_S AS s.heap H [] := by rw [hHe]; exact hS
  suffices hgo : ∀ locs : List Loc, va_S AS s.heap H locs → W p l e (headSpec ws_mc_X12_isPlaceB ({ frames := 1, cells := 0, slots := 0, locals := 22 } : Room)).room s m [.ref (q 0), .int (iI x1)].toArray below meth c H locs 0 0 Q (F0 m 0 ls []) by
    have := hgo [] hS
    rw [hHe] at this
    exact this
  clear hS hHe
  intro locs hS
  refine lv_iload_n hx hb (dk_at dkX12_isPlace_0 0 rfl) rfl (lv_at hl 1 rfl) ?_
  refine lv_iconst (v := iI 0) hx hb (dk_at dkX12_isPlace_0 1 rfl) (by decide +kernel) ?_
  refine lv_aload_n hx hb (dk_at dkX12_isPlace_0 2 rfl) rfl (lv_at hl 0 rfl) ?_
  refine va_get (D := (dC, dI)) (ci := 12) (v := .ref (q 2)) (C := RX12) (T := TX12) (N := 85) hx hb hts hiX12 hown hK hP 0 wm0 rfl 13 (by decide) (hts _ (List.mem_cons_of_mem _ wlq_1_11)) (fun _ h9 => h9) rfl (dk_at dkX12_isPlace_0 3 rfl) ?_
  refine lv_aload_n hx hb (dk_at dkX12_isPlace_0 4 rfl) rfl (lv_at hl 0 rfl) ?_
  refine va_get (D := (dC, dI)) (ci := 12) (v := .int (iI (A 0 12))) (C := RX12) (T := TX12) (N := 85) hx hb hts hiX12 hown hK hP 0 wm0 rfl 12 (by decide) (hts _ (List.mem_cons_of_mem _ wlq_4_14)) (fun _ h9 => h9) rfl (dk_at dkX12_isPlace_0 5 rfl) ?_
  have r_A_0_12 : (0 : Int) ≤ (A 0 12) ∧ (A 0 12) ≤ 1 := hI 0 12
  refine x_iald hx hb hK hP 2 1 wm2 rfl (by omega) (by decide) (dk_at dkX12_isPlace_0 6 rfl) (fun z1 hz1 => ?_)
  have rz1 : (0 : Int) ≤ z1 ∧ z1 ≤ 8 := by rw [hz1]; exact hI 2 _
  have gz1 := Hd.mk hz1
  have hz1 : z1 = A 2 ((A 0 12)).toNat := hz1
  refine lv_iconst (v := iI 1) hx hb (dk_at dkX12_isPlace_0 7 rfl) (by decide +kernel) ?_
  refine x_subv (v := z1 - 1) hx hb (dk_at dkX12_isPlace_0 8 rfl) (by omega) ?_
  refine x_callSi (As := [.int (iI x1), .int (iI 0), .int (iI (z1 - 1))]) (rest := []) ⟨hx, hb, hml, hown, hts⟩ (mc_X12_is l dC dI cB cI cJ cZ cQ q _ x1 0 (z1 - 1) hI hx1 ⟨by decide, by decide⟩ (by omega)) (va_cwS 3 hts (goodS wlq_1_27 wlq_1_28 wlq_0_8 wlq_0_0) rfl rfl rfl (by decide +kernel) ⟨Nat.le_of_ble_eq_true rfl, Nat.le_of_ble_eq_true rfl⟩) hK hDD hA0 hP hS rfl hl.1 (Nat.le_of_ble_eq_true rfl) (dk_at dkX12_isPlace_0 9 rfl) (fun z2 A3 H locs hw4 hP hS => ?_)
  obtain ⟨rfl, hw4⟩ := hw4
  have ghw4 : q_X12_is x1 0 (z1 - 1) A z2 := hw4
  have hw4 := hw4.2
  have rz2 : 0 ≤ z2 ∧ z2 ≤ 1 := hw4.1
  exact RET z2 _ _ _ _ _ ⟨rfl, (u_r_X12_isPlace ⟨z1, gz1.out, ⟨z2, ghw4, rfl⟩⟩), by omega⟩ hP hS (dk_at dkX12_isPlace_0 10 rfl)

abbrev tr_r_X12_isDoor (x1 : Int) (A : St) (z : Int) : Prop := (∃ z1 : Int, z1 = A 4 ((A 0 12)).toNat ∧ (∃ z2 : Int, q_X12_is x1 0 (z1 - 1) A z2 ∧ (z = z2)))
def r_X12_isDoor (x1 : Int) (A : St) (z : Int) : Prop := tr_r_X12_isDoor x1 A z
theorem u_r_X12_isDoor {x1 : Int} {A : St} {z : Int} (h : tr_r_X12_isDoor x1 A z) : r_X12_isDoor x1 A z := h
def q_X12_isDoor (x1 : Int) (A : St) (z : Int) : Prop := r_X12_isDoor x1 A z ∧ ((0 ≤ z ∧ z ≤ 1) ∧ (z = 1 ↔ 0 ≤ x1 ∧ x1 < A 4 (A 0 12).toNat ∧ A 4 (A 0 12).toNat ≤ 10))
def ws_mc_X12_isDoorB : List Cond := .code yX12_isDoor cX12_isDoor 2 (some .boolean) :: WX
set_option maxHeartbeats 4000000 in
set_option maxRecDepth 100000 in
theorem mc_X12_isDoorB (l : Launch) (dC : Nat → ClassId) (dI : Nat → Nat → Nat) (cB cI cJ cZ cQ : ClassId) (q : Nat → Nat) (A : St) (x1 : Int) (hI : IM A) (hx1 : (-2147483648 : Int) ≤ x1 ∧ x1 ≤ 2147483647) : XMi l yX12_isDoor ws_mc_X12_isDoorB ({ frames := 1, cells := 0, slots := 0, locals := 22 } : Room) (dC, dI) (tyA cB cI cJ cZ cQ) (WM cI cJ cZ q) A [.ref (q 0), .int (iI x1)] (fun z u => A = u ∧ r_X12_isDoor x1 A z ∧ ((0 ≤ z ∧ z ≤ 1) ∧ (z = 1 ↔ 0 ≤ x1 ∧ x1 < A 4 (A 0 12).toNat ∧ A 4 (A 0 12).toNat ≤ 10))) := by
  refine x_metz (cc := cX12_isDoor) (maxL := 2) WM_adr (by decide +kernel) rfl (Nat.le_of_ble_eq_true rfl) (fun z u h => h.2.2.1) (fun p e s m below meth c Q AS ls hx hb hml hown hts hK hDD hA0 hP hS hl RET => ?_)
  have hown : s.vm.findClass RX12 = some m.cls := hown
  have hl : lv_has ls 2 [(0, .ref (q 0)), (1, .int (iI x1))] := hl
  have hiX12 : ∀ w ∈ u_ws RX12 TX12 85, w ∈ ws_mc_X12_isDoorB := fun w h => List.mem_cons_of_mem _ (wx_lay w h)
  obtain ⟨H, hHe⟩ : ∃ H : Heap, H = s.heap := ⟨_, rfl⟩
  rw [← hHe] at hP
  have hS : va_S AS s.heap H [] := by rw [hHe]; exact hS
  suffices hgo : ∀ locs : List Loc, va_S AS s.heap H locs → W p l e (headSpec ws_mc_X12_isDoorB ({ frames := 1, cells := 0, slots := 0, locals := 22 } : Room)).room s m [.ref (q 0), .int (iI x1)].toArray below meth c H locs 0 0 Q (F0 m 0 ls []) by
    have := hgo [] hS
    rw [hHe] at this
    exact this
  clear hS hHe
  intro locs hS
  refine lv_iload_n hx hb (dk_at dkX12_isDoor_0 0 rfl) rfl (lv_at hl 1 rfl) ?_
  refine lv_iconst (v := iI 0) hx hb (dk_at dkX12_isDoor_0 1 rfl) (by decide +kernel) ?_
  refine lv_aload_n hx hb (dk_at dkX12_isDoor_0 2 rfl) rfl (lv_at hl 0 rfl) ?_
  refine va_get (D := (dC, dI)) (ci := 12) (v := .ref (q 4)) (C := RX12) (T := TX12) (N := 85) hx hb hts hiX12 hown hK hP 0 wm0 rfl 15 (by decide) (hts _ (List.mem_cons_of_mem _ wlq_1_13)) (fun _ h9 => h9) rfl (dk_at dkX12_isDoor_0 3 rfl) ?_
  refine lv_aload_n hx hb (dk_at dkX12_isDoor_0 4 rfl) rfl (lv_at hl 0 rfl) ?_
  refine va_get (D := (dC, dI)) (ci := 12) (v := .int (iI (A 0 12))) (C := RX12) (T := TX12) (N := 85) hx hb hts hiX12 hown hK hP 0 wm0 rfl 12 (by decide) (hts _ (List.mem_cons_of_mem _ wlq_4_14)) (fun _ h9 => h9) rfl (dk_at dkX12_isDoor_0 5 rfl) ?_
  have r_A_0_12 : (0 : Int) ≤ (A 0 12) ∧ (A 0 12) ≤ 1 := hI 0 12
  refine x_iald hx hb hK hP 4 1 wm4 rfl (by omega) (by decide) (dk_at dkX12_isDoor_0 6 rfl) (fun z1 hz1 => ?_)
  have rz1 : (0 : Int) ≤ z1 ∧ z1 ≤ 10 := by rw [hz1]; exact hI 4 _
  have gz1 := Hd.mk hz1
  have hz1 : z1 = A 4 ((A 0 12)).toNat := hz1
  refine lv_iconst (v := iI 1) hx hb (dk_at dkX12_isDoor_0 7 rfl) (by decide +kernel) ?_
  refine x_subv (v := z1 - 1) hx hb (dk_at dkX12_isDoor_0 8 rfl) (by omega) ?_
  refine x_callSi (As := [.int (iI x1), .int (iI 0), .int (iI (z1 - 1))]) (rest := []) ⟨hx, hb, hml, hown, hts⟩ (mc_X12_is l dC dI cB cI cJ cZ cQ q _ x1 0 (z1 - 1) hI hx1 ⟨by decide, by decide⟩ (by omega)) (va_cwS 3 hts (goodS wlq_1_27 wlq_1_28 wlq_0_8 wlq_0_0) rfl rfl rfl (by decide +kernel) ⟨Nat.le_of_ble_eq_true rfl, Nat.le_of_ble_eq_true rfl⟩) hK hDD hA0 hP hS rfl hl.1 (Nat.le_of_ble_eq_true rfl) (dk_at dkX12_isDoor_0 9 rfl) (fun z2 A3 H locs hw4 hP hS => ?_)
  obtain ⟨rfl, hw4⟩ := hw4
  have ghw4 : q_X12_is x1 0 (z1 - 1) A z2 := hw4
  have hw4 := hw4.2
  have rz2 : 0 ≤ z2 ∧ z2 ≤ 1 := hw4.1
  exact RET z2 _ _ _ _ _ ⟨rfl, (u_r_X12_isDoor ⟨z1, gz1.out, ⟨z2, ghw4, rfl⟩⟩), by omega⟩ hP hS (dk_at dkX12_isDoor_0 10 rfl)

abbrev tr_r_X12_isKey (x1 : Int) (A : St) (z : Int) : Prop := (∃ z1 : Int, z1 = A 11 ((A 0 12)).toNat ∧ (∃ z2 : Int, q_X12_is x1 0 (z1 - 1) A z2 ∧ (z = z2)))
def r_X12_isKey (x1 : Int) (A : St) (z : Int) : Prop := tr_r_X12_isKey x1 A z
theorem u_r_X12_isKey {x1 : Int} {A : St} {z : Int} (h : tr_r_X12_isKey x1 A z) : r_X12_isKey x1 A z := h
def q_X12_isKey (x1 : Int) (A : St) (z : Int) : Prop := r_X12_isKey x1 A z ∧ ((0 ≤ z ∧ z ≤ 1) ∧ (z = 1 ↔ 0 ≤ x1 ∧ x1 < A 11 (A 0 12).toNat ∧ A 11 (A 0 12).toNat ≤ 4))
def ws_mc_X12_isKeyB : List Cond := .code yX12_isKey cX12_isKey 2 (some .boolean) :: WX
set_option maxHeartbeats 4000000 in
set_option maxRecDepth 100000 in
theorem mc_X12_isKeyB (l : Launch) (dC : Nat → ClassId) (dI : Nat → Nat → Nat) (cB cI cJ cZ cQ : ClassId) (q : Nat → Nat) (A : St) (x1 : Int) (hI : IM A) (hx1 : (-2147483648 : Int) ≤ x1 ∧ x1 ≤ 2147483647) : XMi l yX12_isKey ws_mc_X12_isKeyB ({ frames := 1, cells := 0, slots := 0, locals := 22 } : Room) (dC, dI) (tyA cB cI cJ cZ cQ) (WM cI cJ cZ q) A [.ref (q 0), .int (iI x1)] (fun z u => A = u ∧ r_X12_isKey x1 A z ∧ ((0 ≤ z ∧ z ≤ 1) ∧ (z = 1 ↔ 0 ≤ x1 ∧ x1 < A 11 (A 0 12).toNat ∧ A 11 (A 0 12).toNat ≤ 4))) := by
  refine x_metz (cc := cX12_isKey) (maxL := 2) WM_adr (by decide +kernel) rfl (Nat.le_of_ble_eq_true rfl) (fun z u h => h.2.2.1) (fun p e s m below meth c Q AS ls hx hb hml hown hts hK hDD hA0 hP hS hl RET => ?_)
  have hown : s.vm.findClass RX12 = some m.cls := hown
  have hl : lv_has ls 2 [(0, .ref (q 0)), (1, .int (iI x1))] := hl
  have hiX12 : ∀ w ∈ u_ws RX12 TX12 85, w ∈ ws_mc_X12_isKeyB := fun w h => List.mem_cons_of_mem _ (wx_lay w h)
  obtain ⟨H, hHe⟩ : ∃ H : Heap, H = s.heap := ⟨_, rfl⟩
  rw [← hHe] at hP
  have hS : va_S AS s.heap H [] := by rw [hHe]; exact hS
  suffices hgo : ∀ locs : List Loc, va_S AS s.heap H locs → W p l e (headSpec ws_mc_X12_isKeyB ({ frames := 1, cells := 0, slots := 0, locals := 22 } : Room)).room s m [.ref (q 0), .int (iI x1)].toArray below meth c H locs 0 0 Q (F0 m 0 ls []) by
    have := hgo [] hS
    rw [hHe] at this
    exact this
  clear hS hHe
  intro locs hS
  refine lv_iload_n hx hb (dk_at dkX12_isKey_0 0 rfl) rfl (lv_at hl 1 rfl) ?_
  refine lv_iconst (v := iI 0) hx hb (dk_at dkX12_isKey_0 1 rfl) (by decide +kernel) ?_
  refine lv_aload_n hx hb (dk_at dkX12_isKey_0 2 rfl) rfl (lv_at hl 0 rfl) ?_
  refine va_get (D := (dC, dI)) (ci := 12) (v := .ref (q 11)) (C := RX12) (T := TX12) (N := 85) hx hb hts hiX12 hown hK hP 0 wm0 rfl 22 (by decide) (hts _ (List.mem_cons_of_mem _ wlq_1_14)) (fun _ h9 => h9) rfl (dk_at dkX12_isKey_0 3 rfl) ?_
  refine lv_aload_n hx hb (dk_at dkX12_isKey_0 4 rfl) rfl (lv_at hl 0 rfl) ?_
  refine va_get (D := (dC, dI)) (ci := 12) (v := .int (iI (A 0 12))) (C := RX12) (T := TX12) (N := 85) hx hb hts hiX12 hown hK hP 0 wm0 rfl 12 (by decide) (hts _ (List.mem_cons_of_mem _ wlq_4_14)) (fun _ h9 => h9) rfl (dk_at dkX12_isKey_0 5 rfl) ?_
  have r_A_0_12 : (0 : Int) ≤ (A 0 12) ∧ (A 0 12) ≤ 1 := hI 0 12
  refine x_iald hx hb hK hP 11 1 wm11 rfl (by omega) (by decide) (dk_at dkX12_isKey_0 6 rfl) (fun z1 hz1 => ?_)
  have rz1 : (0 : Int) ≤ z1 ∧ z1 ≤ 4 := by rw [hz1]; exact hI 11 _
  have gz1 := Hd.mk hz1
  have hz1 : z1 = A 11 ((A 0 12)).toNat := hz1
  refine lv_iconst (v := iI 1) hx hb (dk_at dkX12_isKey_0 7 rfl) (by decide +kernel) ?_
  refine x_subv (v := z1 - 1) hx hb (dk_at dkX12_isKey_0 8 rfl) (by omega) ?_
  refine x_callSi (As := [.int (iI x1), .int (iI 0), .int (iI (z1 - 1))]) (rest := []) ⟨hx, hb, hml, hown, hts⟩ (mc_X12_is l dC dI cB cI cJ cZ cQ q _ x1 0 (z1 - 1) hI hx1 ⟨by decide, by decide⟩ (by omega)) (va_cwS 3 hts (goodS wlq_1_27 wlq_1_28 wlq_0_8 wlq_0_0) rfl rfl rfl (by decide +kernel) ⟨Nat.le_of_ble_eq_true rfl, Nat.le_of_ble_eq_true rfl⟩) hK hDD hA0 hP hS rfl hl.1 (Nat.le_of_ble_eq_true rfl) (dk_at dkX12_isKey_0 9 rfl) (fun z2 A3 H locs hw4 hP hS => ?_)
  obtain ⟨rfl, hw4⟩ := hw4
  have ghw4 : q_X12_is x1 0 (z1 - 1) A z2 := hw4
  have hw4 := hw4.2
  have rz2 : 0 ≤ z2 ∧ z2 ≤ 1 := hw4.1
  exact RET z2 _ _ _ _ _ ⟨rfl, (u_r_X12_isKey ⟨z1, gz1.out, ⟨z2, ghw4, rfl⟩⟩), by omega⟩ hP hS (dk_at dkX12_isKey_0 10 rfl)

abbrev tr_r_X12_isPerson (x1 : Int) (A : St) (z : Int) : Prop := (∃ z1 : Int, z1 = A 16 ((A 0 12)).toNat ∧ (∃ z2 : Int, q_X12_is x1 0 (z1 - 1) A z2 ∧ (z = z2)))
def r_X12_isPerson (x1 : Int) (A : St) (z : Int) : Prop := tr_r_X12_isPerson x1 A z
theorem u_r_X12_isPerson {x1 : Int} {A : St} {z : Int} (h : tr_r_X12_isPerson x1 A z) : r_X12_isPerson x1 A z := h
def q_X12_isPerson (x1 : Int) (A : St) (z : Int) : Prop := r_X12_isPerson x1 A z ∧ ((0 ≤ z ∧ z ≤ 1) ∧ (z = 1 ↔ 0 ≤ x1 ∧ x1 < A 16 (A 0 12).toNat ∧ A 16 (A 0 12).toNat ≤ 3))
def ws_mc_X12_isPersonB : List Cond := .code yX12_isPerson cX12_isPerson 2 (some .boolean) :: WX
set_option maxHeartbeats 4000000 in
set_option maxRecDepth 100000 in
theorem mc_X12_isPersonB (l : Launch) (dC : Nat → ClassId) (dI : Nat → Nat → Nat) (cB cI cJ cZ cQ : ClassId) (q : Nat → Nat) (A : St) (x1 : Int) (hI : IM A) (hx1 : (-2147483648 : Int) ≤ x1 ∧ x1 ≤ 2147483647) : XMi l yX12_isPerson ws_mc_X12_isPersonB ({ frames := 1, cells := 0, slots := 0, locals := 22 } : Room) (dC, dI) (tyA cB cI cJ cZ cQ) (WM cI cJ cZ q) A [.ref (q 0), .int (iI x1)] (fun z u => A = u ∧ r_X12_isPerson x1 A z ∧ ((0 ≤ z ∧ z ≤ 1) ∧ (z = 1 ↔ 0 ≤ x1 ∧ x1 < A 16 (A 0 12).toNat ∧ A 16 (A 0 12).toNat ≤ 3))) := by
  refine x_metz (cc := cX12_isPerson) (maxL := 2) WM_adr (by decide +kernel) rfl (Nat.le_of_ble_eq_true rfl) (fun z u h => h.2.2.1) (fun p e s m below meth c Q AS ls hx hb hml hown hts hK hDD hA0 hP hS hl RET => ?_)
  have hown : s.vm.findClass RX12 = some m.cls := hown
  have hl : lv_has ls 2 [(0, .ref (q 0)), (1, .int (iI x1))] := hl
  have hiX12 : ∀ w ∈ u_ws RX12 TX12 85, w ∈ ws_mc_X12_isPersonB := fun w h => List.mem_cons_of_mem _ (wx_lay w h)
  obtain ⟨H, hHe⟩ : ∃ H : Heap, H = s.heap := ⟨_, rfl⟩
  rw [← hHe] at hP
  have hS : va_S AS s.heap H [] := by rw [hHe]; exact hS
  suffices hgo : ∀ locs : List Loc, va_S AS s.heap H locs → W p l e (headSpec ws_mc_X12_isPersonB ({ frames := 1, cells := 0, slots := 0, locals := 22 } : Room)).room s m [.ref (q 0), .int (iI x1)].toArray below meth c H locs 0 0 Q (F0 m 0 ls []) by
    have := hgo [] hS
    rw [hHe] at this
    exact this
  clear hS hHe
  intro locs hS
  refine lv_iload_n hx hb (dk_at dkX12_isPerson_0 0 rfl) rfl (lv_at hl 1 rfl) ?_
  refine lv_iconst (v := iI 0) hx hb (dk_at dkX12_isPerson_0 1 rfl) (by decide +kernel) ?_
  refine lv_aload_n hx hb (dk_at dkX12_isPerson_0 2 rfl) rfl (lv_at hl 0 rfl) ?_
  refine va_get (D := (dC, dI)) (ci := 12) (v := .ref (q 16)) (C := RX12) (T := TX12) (N := 85) hx hb hts hiX12 hown hK hP 0 wm0 rfl 27 (by decide) (hts _ (List.mem_cons_of_mem _ wlq_1_15)) (fun _ h9 => h9) rfl (dk_at dkX12_isPerson_0 3 rfl) ?_
  refine lv_aload_n hx hb (dk_at dkX12_isPerson_0 4 rfl) rfl (lv_at hl 0 rfl) ?_
  refine va_get (D := (dC, dI)) (ci := 12) (v := .int (iI (A 0 12))) (C := RX12) (T := TX12) (N := 85) hx hb hts hiX12 hown hK hP 0 wm0 rfl 12 (by decide) (hts _ (List.mem_cons_of_mem _ wlq_4_14)) (fun _ h9 => h9) rfl (dk_at dkX12_isPerson_0 5 rfl) ?_
  have r_A_0_12 : (0 : Int) ≤ (A 0 12) ∧ (A 0 12) ≤ 1 := hI 0 12
  refine x_iald hx hb hK hP 16 1 wm16 rfl (by omega) (by decide) (dk_at dkX12_isPerson_0 6 rfl) (fun z1 hz1 => ?_)
  have rz1 : (0 : Int) ≤ z1 ∧ z1 ≤ 3 := by rw [hz1]; exact hI 16 _
  have gz1 := Hd.mk hz1
  have hz1 : z1 = A 16 ((A 0 12)).toNat := hz1
  refine lv_iconst (v := iI 1) hx hb (dk_at dkX12_isPerson_0 7 rfl) (by decide +kernel) ?_
  refine x_subv (v := z1 - 1) hx hb (dk_at dkX12_isPerson_0 8 rfl) (by omega) ?_
  refine x_callSi (As := [.int (iI x1), .int (iI 0), .int (iI (z1 - 1))]) (rest := []) ⟨hx, hb, hml, hown, hts⟩ (mc_X12_is l dC dI cB cI cJ cZ cQ q _ x1 0 (z1 - 1) hI hx1 ⟨by decide, by decide⟩ (by omega)) (va_cwS 3 hts (goodS wlq_1_27 wlq_1_28 wlq_0_8 wlq_0_0) rfl rfl rfl (by decide +kernel) ⟨Nat.le_of_ble_eq_true rfl, Nat.le_of_ble_eq_true rfl⟩) hK hDD hA0 hP hS rfl hl.1 (Nat.le_of_ble_eq_true rfl) (dk_at dkX12_isPerson_0 9 rfl) (fun z2 A3 H locs hw4 hP hS => ?_)
  obtain ⟨rfl, hw4⟩ := hw4
  have ghw4 : q_X12_is x1 0 (z1 - 1) A z2 := hw4
  have hw4 := hw4.2
  have rz2 : 0 ≤ z2 ∧ z2 ≤ 1 := hw4.1
  exact RET z2 _ _ _ _ _ ⟨rfl, (u_r_X12_isPerson ⟨z1, gz1.out, ⟨z2, ghw4, rfl⟩⟩), by omega⟩ hP hS (dk_at dkX12_isPerson_0 10 rfl)

abbrev tr_d_X12_isInRow_1 (x1 : Int) (x2 : Int) (A : St) (z : Int) (K1 : Int → Prop) (z1 : Int) : Prop := ((0 ≤ z1 ∧ z1 ≤ 2147483647) ∧ (∃ z9 : Int, z9 = A 14 (x1).toNat ∧ (((z9 ≤ z1) ∧ (z = 0)) ∨ ((¬ z9 ≤ z1) ∧ (∃ z11 : Int, z11 = A 15 (10 * x1 + z1).toNat ∧ (((¬ z11 = x2) ∧ (K1 (z1 + 1))) ∨ ((z11 = x2) ∧ (z = 1))))))))
def d_X12_isInRow_1 (x1 : Int) (x2 : Int) (A : St) (z : Int) : Nat → Int → Prop
  | 0, _ => False
  | nn9 + 1, z1 => tr_d_X12_isInRow_1 x1 x2 A z (fun z1 => d_X12_isInRow_1 x1 x2 A z nn9 z1) z1
theorem u_d_X12_isInRow_1 {x1 : Int} {x2 : Int} {A : St} {z : Int} {nn9 : Nat} {z1 : Int} (h : tr_d_X12_isInRow_1 x1 x2 A z (fun z1 => d_X12_isInRow_1 x1 x2 A z nn9 z1) z1) : d_X12_isInRow_1 x1 x2 A z (nn9 + 1) z1 := h
abbrev tr_r_X12_isInRow (x1 : Int) (x2 : Int) (A : St) (z : Int) : Prop := (∃ nn9 : Nat, d_X12_isInRow_1 x1 x2 A z nn9 0)
def r_X12_isInRow (x1 : Int) (x2 : Int) (A : St) (z : Int) : Prop := tr_r_X12_isInRow x1 x2 A z
theorem u_r_X12_isInRow {x1 : Int} {x2 : Int} {A : St} {z : Int} (h : tr_r_X12_isInRow x1 x2 A z) : r_X12_isInRow x1 x2 A z := h
def q_X12_isInRow (x1 : Int) (x2 : Int) (A : St) (z : Int) : Prop := r_X12_isInRow x1 x2 A z ∧ (0 ≤ z ∧ z ≤ 1)
def ws_mc_X12_isInRow : List Cond := .code yX12_isInRow cX12_isInRow 4 (some .boolean) :: WX
set_option maxHeartbeats 4000000 in
set_option maxRecDepth 100000 in
theorem mc_X12_isInRow (l : Launch) (dC : Nat → ClassId) (dI : Nat → Nat → Nat) (cB cI cJ cZ cQ : ClassId) (q : Nat → Nat) (A : St) (x1 x2 : Int) (hI : IM A) (hx1 : (0 : Int) ≤ x1 ∧ x1 ≤ 7) (hx2 : (-2147483648 : Int) ≤ x2 ∧ x2 ≤ 2147483647) : XMi l yX12_isInRow ws_mc_X12_isInRow ({ frames := 0, cells := 0, slots := 0, locals := 0 } : Room) (dC, dI) (tyA cB cI cJ cZ cQ) (WM cI cJ cZ q) A [.ref (q 0), .int (iI x1), .int (iI x2)] (fun z u => A = u ∧ r_X12_isInRow x1 x2 A z ∧ (0 ≤ z ∧ z ≤ 1)) := by
  refine x_metz (cc := cX12_isInRow) (maxL := 4) WM_adr (by decide +kernel) rfl (Nat.le_of_ble_eq_true rfl) (fun z u h => h.2.2) (fun p e s m below meth c Q AS ls hx hb hml hown hts hK hDD hA0 hP hS hl RET => ?_)
  have hown : s.vm.findClass RX12 = some m.cls := hown
  have hl : lv_has ls 4 [(0, .ref (q 0)), (1, .int (iI x1)), (2, .int (iI x2))] := hl
  have hiX12 : ∀ w ∈ u_ws RX12 TX12 85, w ∈ ws_mc_X12_isInRow := fun w h => List.mem_cons_of_mem _ (wx_lay w h)
  obtain ⟨H, hHe⟩ : ∃ H : Heap, H = s.heap := ⟨_, rfl⟩
  rw [← hHe] at hP
  have hS : va_S AS s.heap H [] := by rw [hHe]; exact hS
  suffices hgo : ∀ locs : List Loc, va_S AS s.heap H locs → W p l e (headSpec ws_mc_X12_isInRow ({ frames := 0, cells := 0, slots := 0, locals := 0 } : Room)).room s m [.ref (q 0), .int (iI x1), .int (iI x2)].toArray below meth c H locs 0 0 Q (F0 m 0 ls []) by
    have := hgo [] hS
    rw [hHe] at this
    exact this
  clear hS hHe
  intro locs hS
  refine lv_iconst (v := iI 0) hx hb (dk_at dkX12_isInRow_0 0 rfl) (by decide +kernel) ?_
  refine lv_istore_n (lv' := [(3, .int (iI 0)), (0, .ref (q 0)), (1, .int (iI x1)), (2, .int (iI x2))]) hx hb (dk_at dkX12_isInRow_0 1 rfl) rfl hl (by decide) rfl (fun ls hl => ?_)
  have L2_4 : ∀ (n6 : Nat) (z1 : Int) (H : Heap) (locs : List Loc) (ls : Array Slot), (0 ≤ z1) → (0 ≤ z1 ∧ z1 ≤ 2147483647) → (∀ (z : Int), (∃ mm1 : Nat, (d_X12_isInRow_1 x1 x2 A z mm1 z1)) → r_X12_isInRow x1 x2 A z) → ((A 14 (x1).toNat - z1 + 1).toNat = n6) → va_P (dC, dI) vwCl (WM cI cJ cZ q A) H → va_S AS s.heap H locs → lv_has ls 4 [(3, .int (iI z1)), (0, .ref (q 0)), (1, .int (iI x1)), (2, .int (iI x2))] → W p l e (headSpec ws_mc_X12_isInRow ({ frames := 0, cells := 0, slots := 0, locals := 0 } : Room)).room s m [.ref (q 0), .int (iI x1), .int (iI x2)].toArray below meth c H locs 0 0 Q (F0 m 2 ls []) := by
    intro n6
    induction n6 using Nat.strongRecOn with
    | ind n6 ih5 =>
      intro z1 H locs ls f7 f8 hk1 hn6 hP hS hl
      refine lv_iload_n hx hb (dk_at dkX12_isInRow_0 2 rfl) rfl (lv_at hl 0 rfl) ?_
      refine lv_aload_n hx hb (dk_at dkX12_isInRow_0 3 rfl) rfl (lv_at hl 1 rfl) ?_
      refine va_get (D := (dC, dI)) (ci := 12) (v := .ref (q 14)) (C := RX12) (T := TX12) (N := 85) hx hb hts hiX12 hown hK hP 0 wm0 rfl 25 (by decide) (hts _ (List.mem_cons_of_mem _ wlq_2_59)) (fun _ h9 => h9) rfl (dk_at dkX12_isInRow_0 4 rfl) ?_
      refine lv_iload_n hx hb (dk_at dkX12_isInRow_0 5 rfl) rfl (lv_at hl 2 rfl) ?_
      refine x_iald hx hb hK hP 14 1 wm14 rfl (by omega) (by decide) (dk_at dkX12_isInRow_0 6 rfl) (fun z9 hz9 => ?_)
      have rz9 : (0 : Int) ≤ z9 ∧ z9 ≤ 6 := by rw [hz9]; exact hI 14 _
      have gz9 := Hd.mk hz9
      have hz9 : z9 = A 14 (x1).toNat := hz9
      refine lv_icmp_ge (tgt := 35) hx hb (dk_at dkX12_isInRow_0 7 rfl) (by decide) (fun c10 => ?_) (fun c10 => ?_)
      · have c10 : z9 ≤ z1 := (i_le (rb rz9 (by decide) (by decide)) (rb f8 (by decide) (by decide))).mp c10
        refine lv_iconst (v := iI 0) hx hb (dk_at dkX12_isInRow_1 6 rfl) (by decide +kernel) ?_
        exact RET 0 _ _ _ _ _ ⟨rfl, hk1 _ ⟨0 + 1, (u_d_X12_isInRow_1 ⟨f8, ⟨z9, gz9.out, (Or.inl ⟨c10, rfl⟩)⟩⟩)⟩, by omega⟩ hP hS (dk_at dkX12_isInRow_1 7 rfl)
      · have c10 : ¬ z9 ≤ z1 := mt (i_le (rb rz9 (by decide) (by decide)) (rb f8 (by decide) (by decide))).mpr c10
        refine lv_aload_n hx hb (dk_at dkX12_isInRow_0 8 rfl) rfl (lv_at hl 1 rfl) ?_
        refine va_get (D := (dC, dI)) (ci := 12) (v := .ref (q 15)) (C := RX12) (T := TX12) (N := 85) hx hb hts hiX12 hown hK hP 0 wm0 rfl 26 (by decide) (hts _ (List.mem_cons_of_mem _ wlq_3_7)) (fun _ h9 => h9) rfl (dk_at dkX12_isInRow_0 9 rfl) ?_
        refine lv_bipush (v := iI 10) hx hb (dk_at dkX12_isInRow_0 10 rfl) (by decide +kernel) ?_
        refine lv_iload_n hx hb (dk_at dkX12_isInRow_0 11 rfl) rfl (lv_at hl 2 rfl) ?_
        refine x_mulv (v := 10 * x1) hx hb (dk_at dkX12_isInRow_0 12 rfl) (by omega) ?_
        refine lv_iload_n hx hb (dk_at dkX12_isInRow_0 13 rfl) rfl (lv_at hl 0 rfl) ?_
        refine x_addv (v := 10 * x1 + z1) hx hb (dk_at dkX12_isInRow_0 14 rfl) (by omega) ?_
        refine x_iald hx hb hK hP 15 1 wm15 rfl (by omega) (by decide) (dk_at dkX12_isInRow_0 15 rfl) (fun z11 hz11 => ?_)
        have rz11 : (0 : Int) ≤ z11 ∧ z11 ≤ 9 := by rw [hz11]; exact hI 15 _
        have gz11 := Hd.mk hz11
        have hz11 : z11 = A 15 (10 * x1 + z1).toNat := hz11
        refine lv_iload_n hx hb (dk_at dkX12_isInRow_1 0 rfl) rfl (lv_at hl 3 rfl) ?_
        refine lv_icmp_ne (tgt := 29) hx hb (dk_at dkX12_isInRow_1 1 rfl) (by decide) (fun c12 => ?_) (fun c12 => ?_)
        · have c12 : ¬ z11 = x2 := mt (i_eq (rb rz11 (by decide) (by decide)) hx2).mpr c12
          refine lv_iinc (v := iI (z1 + 1)) (lv' := [(3, .int (iI (z1 + 1))), (0, .ref (q 0)), (1, .int (iI x1)), (2, .int (iI x2))]) hx hb (dk_at dkX12_isInRow_1 4 rfl) hl (k := 0) rfl (i_inc (by omega)) (by decide) rfl (fun ls hl => ?_)
          refine lv_goto (tgt := 2) hx hb (dk_at dkX12_isInRow_1 5 rfl) (by decide) ?_
          exact ih5 _ (by omega) (z1 + 1) _ _ _ (by omega) (by omega) (fun zq ⟨mm1, hq⟩ => hk1 _ ⟨mm1 + 1, (u_d_X12_isInRow_1 ⟨f8, ⟨z9, gz9.out, (Or.inr ⟨c10, ⟨z11, gz11.out, (Or.inl ⟨c12, hq⟩)⟩⟩)⟩⟩)⟩) rfl hP hS (lv_sub hl [0, 1, 2, 3] rfl)
        · have c12 : z11 = x2 := (i_eq (rb rz11 (by decide) (by decide)) hx2).mp c12
          refine lv_iconst (v := iI 1) hx hb (dk_at dkX12_isInRow_1 2 rfl) (by decide +kernel) ?_
          exact RET 1 _ _ _ _ _ ⟨rfl, hk1 _ ⟨0 + 1, (u_d_X12_isInRow_1 ⟨f8, ⟨z9, gz9.out, (Or.inr ⟨c10, ⟨z11, gz11.out, (Or.inr ⟨c12, rfl⟩)⟩⟩)⟩⟩)⟩, by omega⟩ hP hS (dk_at dkX12_isInRow_1 3 rfl)
  exact L2_4 _ 0 _ _ _ (by omega) (by omega) (fun zq ⟨mm1, hq⟩ => (u_r_X12_isInRow ⟨mm1, hq⟩)) rfl hP hS (lv_sub hl [0, 1, 2, 3] rfl)

abbrev tr_r_X12_inRow (x1 : Int) (x2 : Int) (A : St) (z : Int) : Prop := (∃ z1 : Int, q_X12_key4 x1 A z1 ∧ (∃ z4 : Int, q_X12_isInRow (4 * (A 0 12) + x1) x2 A z4 ∧ (z = z4)))
def r_X12_inRow (x1 : Int) (x2 : Int) (A : St) (z : Int) : Prop := tr_r_X12_inRow x1 x2 A z
theorem u_r_X12_inRow {x1 : Int} {x2 : Int} {A : St} {z : Int} (h : tr_r_X12_inRow x1 x2 A z) : r_X12_inRow x1 x2 A z := h
def q_X12_inRow (x1 : Int) (x2 : Int) (A : St) (z : Int) : Prop := r_X12_inRow x1 x2 A z ∧ (0 ≤ z ∧ z ≤ 1)
def ws_mc_X12_inRow : List Cond := .code yX12_inRow cX12_inRow 3 (some .boolean) :: WX
set_option maxHeartbeats 4000000 in
set_option maxRecDepth 100000 in
theorem mc_X12_inRow (l : Launch) (dC : Nat → ClassId) (dI : Nat → Nat → Nat) (cB cI cJ cZ cQ : ClassId) (q : Nat → Nat) (A : St) (x1 x2 : Int) (hI : IM A) (hx1 : (0 : Int) ≤ x1 ∧ x1 ≤ 3) (hx2 : (-2147483648 : Int) ≤ x2 ∧ x2 ≤ 2147483647) : XMi l yX12_inRow ws_mc_X12_inRow ({ frames := 1, cells := 0, slots := 0, locals := 23 } : Room) (dC, dI) (tyA cB cI cJ cZ cQ) (WM cI cJ cZ q) A [.ref (q 0), .int (iI x1), .int (iI x2)] (fun z u => A = u ∧ r_X12_inRow x1 x2 A z ∧ (0 ≤ z ∧ z ≤ 1)) := by
  refine x_metz (cc := cX12_inRow) (maxL := 3) WM_adr (by decide +kernel) rfl (Nat.le_of_ble_eq_true rfl) (fun z u h => h.2.2) (fun p e s m below meth c Q AS ls hx hb hml hown hts hK hDD hA0 hP hS hl RET => ?_)
  have hown : s.vm.findClass RX12 = some m.cls := hown
  have hl : lv_has ls 3 [(0, .ref (q 0)), (1, .int (iI x1)), (2, .int (iI x2))] := hl
  obtain ⟨H, hHe⟩ : ∃ H : Heap, H = s.heap := ⟨_, rfl⟩
  rw [← hHe] at hP
  have hS : va_S AS s.heap H [] := by rw [hHe]; exact hS
  suffices hgo : ∀ locs : List Loc, va_S AS s.heap H locs → W p l e (headSpec ws_mc_X12_inRow ({ frames := 1, cells := 0, slots := 0, locals := 23 } : Room)).room s m [.ref (q 0), .int (iI x1), .int (iI x2)].toArray below meth c H locs 0 0 Q (F0 m 0 ls []) by
    have := hgo [] hS
    rw [hHe] at this
    exact this
  clear hS hHe
  intro locs hS
  refine lv_aload_n hx hb (dk_at dkX12_inRow_0 0 rfl) rfl (lv_at hl 0 rfl) ?_
  refine lv_aload_n hx hb (dk_at dkX12_inRow_0 1 rfl) rfl (lv_at hl 0 rfl) ?_
  refine lv_iload_n hx hb (dk_at dkX12_inRow_0 2 rfl) rfl (lv_at hl 1 rfl) ?_
  have r_A_0_12 : (0 : Int) ≤ (A 0 12) ∧ (A 0 12) ≤ 1 := hI 0 12
  refine x_calli (As := [.int (iI x1)]) (rest := [.ref (q 0)]) ⟨hx, hb, hml, hown, hts⟩ (mc_X12_key4 l dC dI cB cI cJ cZ cQ q _ x1 hI hx1) (cwV 1 hts (goodV wlq_4_44 wlq_4_45 wlq_4_46 wlq_0_8 wlq_4_41) rfl rfl rfl (by decide +kernel) ⟨Nat.le_of_ble_eq_true rfl, Nat.le_of_ble_eq_true rfl⟩) hK hDD hA0 hP hS 0 12 wm0 rfl rfl hl.1 (Nat.le_of_ble_eq_true rfl) (dk_at dkX12_inRow_0 3 rfl) (fun z1 A2 H locs hw3 hP hS => ?_)
  obtain ⟨rfl, hw3⟩ := hw3
  have ghw3 : q_X12_key4 x1 A z1 := hw3
  have hw3 := hw3.2
  refine tp_i (y := iI (4 * (A 0 12) + x1)) (congrArg iI (show z1 = 4 * (A 0 12) + x1 by omega)) ?_
  clear hw3
  refine lv_iload_n hx hb (dk_at dkX12_inRow_0 4 rfl) rfl (lv_at hl 2 rfl) ?_
  refine x_calli (As := [.int (iI (4 * (A 0 12) + x1)), .int (iI x2)]) (rest := []) ⟨hx, hb, hml, hown, hts⟩ (mc_X12_isInRow l dC dI cB cI cJ cZ cQ q _ (4 * (A 0 12) + x1) x2 hI (by omega) hx2) (cwV 2 hts (goodV wlq_3_9 wlq_3_10 wlq_3_11 wlq_0_8 wlq_3_6) rfl rfl rfl (by decide +kernel) ⟨Nat.le_of_ble_eq_true rfl, Nat.le_of_ble_eq_true rfl⟩) hK hDD hA0 hP hS 0 12 wm0 rfl rfl hl.1 (Nat.le_of_ble_eq_true rfl) (dk_at dkX12_inRow_0 5 rfl) (fun z4 A5 H locs hw6 hP hS => ?_)
  obtain ⟨rfl, hw6⟩ := hw6
  have ghw6 : q_X12_isInRow (4 * (A 0 12) + x1) x2 A z4 := hw6
  have hw6 := hw6.2
  exact RET z4 _ _ _ _ _ ⟨rfl, (u_r_X12_inRow ⟨z1, ghw3, ⟨z4, ghw6, rfl⟩⟩), by omega⟩ hP hS (dk_at dkX12_inRow_0 6 rfl)

abbrev tr_r_X12_topOf (x1 : Int) (A : St) (z : Int) : Prop := (∃ z1 : Int, q_X12_key4 x1 A z1 ∧ (∃ z4 : Int, z4 = A 14 (4 * (A 0 12) + x1).toNat ∧ (((¬ z4 = 0) ∧ (∃ z6 : Int, q_X12_key4 x1 A z6 ∧ (∃ z9 : Int, q_X12_key4 x1 A z9 ∧ (∃ z12 : Int, z12 = A 14 (4 * (A 0 12) + x1).toNat ∧ (∃ z13 : Int, z13 = A 15 (40 * (A 0 12) + 10 * x1 + z12 - 1).toNat ∧ (z = z13)))))) ∨ ((z4 = 0) ∧ (z = (-1))))))
def r_X12_topOf (x1 : Int) (A : St) (z : Int) : Prop := tr_r_X12_topOf x1 A z
theorem u_r_X12_topOf {x1 : Int} {A : St} {z : Int} (h : tr_r_X12_topOf x1 A z) : r_X12_topOf x1 A z := h
def q_X12_topOf (x1 : Int) (A : St) (z : Int) : Prop := r_X12_topOf x1 A z ∧ (-1 ≤ z ∧ z ≤ 9 ∧ (0 ≤ z → 1 ≤ A 14 (4 * A 0 12 + x1).toNat))
def ws_mc_X12_topOf : List Cond := .code yX12_topOf cX12_topOf 2 (some .int) :: WX
set_option maxHeartbeats 4000000 in
set_option maxRecDepth 100000 in
theorem mc_X12_topOf (l : Launch) (dC : Nat → ClassId) (dI : Nat → Nat → Nat) (cB cI cJ cZ cQ : ClassId) (q : Nat → Nat) (A : St) (x1 : Int) (hI : IM A) (hx1 : (0 : Int) ≤ x1 ∧ x1 ≤ 3) : XMi l yX12_topOf ws_mc_X12_topOf ({ frames := 1, cells := 0, slots := 0, locals := 21 } : Room) (dC, dI) (tyA cB cI cJ cZ cQ) (WM cI cJ cZ q) A [.ref (q 0), .int (iI x1)] (fun z u => A = u ∧ r_X12_topOf x1 A z ∧ (-1 ≤ z ∧ z ≤ 9 ∧ (0 ≤ z → 1 ≤ A 14 (4 * A 0 12 + x1).toNat))) := by
  refine x_meti (cc := cX12_topOf) (maxL := 2) WM_adr (by decide +kernel) rfl (Nat.le_of_ble_eq_true rfl) (fun p e s m below meth c Q AS ls hx hb hml hown hts hK hDD hA0 hP hS hl RET => ?_)
  have hown : s.vm.findClass RX12 = some m.cls := hown
  have hl : lv_has ls 2 [(0, .ref (q 0)), (1, .int (iI x1))] := hl
  have hiX12 : ∀ w ∈ u_ws RX12 TX12 85, w ∈ ws_mc_X12_topOf := fun w h => List.mem_cons_of_mem _ (wx_lay w h)
  obtain ⟨H, hHe⟩ : ∃ H : Heap, H = s.heap := ⟨_, rfl⟩
  rw [← hHe] at hP
  have hS : va_S AS s.heap H [] := by rw [hHe]; exact hS
  suffices hgo : ∀ locs : List Loc, va_S AS s.heap H locs → W p l e (headSpec ws_mc_X12_topOf ({ frames := 1, cells := 0, slots := 0, locals := 21 } : Room)).room s m [.ref (q 0), .int (iI x1)].toArray below meth c H locs 0 0 Q (F0 m 0 ls []) by
    have := hgo [] hS
    rw [hHe] at this
    exact this
  clear hS hHe
  intro locs hS
  refine lv_aload_n hx hb (dk_at dkX12_topOf_0 0 rfl) rfl (lv_at hl 0 rfl) ?_
  refine va_get (D := (dC, dI)) (ci := 12) (v := .ref (q 14)) (C := RX12) (T := TX12) (N := 85) hx hb hts hiX12 hown hK hP 0 wm0 rfl 25 (by decide) (hts _ (List.mem_cons_of_mem _ wlq_2_59)) (fun _ h9 => h9) rfl (dk_at dkX12_topOf_0 1 rfl) ?_
  refine lv_aload_n hx hb (dk_at dkX12_topOf_0 2 rfl) rfl (lv_at hl 0 rfl) ?_
  refine lv_iload_n hx hb (dk_at dkX12_topOf_0 3 rfl) rfl (lv_at hl 1 rfl) ?_
  have r_A_0_12 : (0 : Int) ≤ (A 0 12) ∧ (A 0 12) ≤ 1 := hI 0 12
  refine x_calli (As := [.int (iI x1)]) (rest := [.ref (q 14)]) ⟨hx, hb, hml, hown, hts⟩ (mc_X12_key4 l dC dI cB cI cJ cZ cQ q _ x1 hI hx1) (cwV 1 hts (goodV wlq_4_44 wlq_4_45 wlq_4_46 wlq_0_8 wlq_4_41) rfl rfl rfl (by decide +kernel) ⟨Nat.le_of_ble_eq_true rfl, Nat.le_of_ble_eq_true rfl⟩) hK hDD hA0 hP hS 0 12 wm0 rfl rfl hl.1 (Nat.le_of_ble_eq_true rfl) (dk_at dkX12_topOf_0 4 rfl) (fun z1 A2 H locs hw3 hP hS => ?_)
  obtain ⟨rfl, hw3⟩ := hw3
  have ghw3 : q_X12_key4 x1 A z1 := hw3
  have hw3 := hw3.2
  refine tp_i (y := iI (4 * (A 0 12) + x1)) (congrArg iI (show z1 = 4 * (A 0 12) + x1 by omega)) ?_
  clear hw3
  refine x_iald hx hb hK hP 14 1 wm14 rfl (by omega) (by decide) (dk_at dkX12_topOf_0 5 rfl) (fun z4 hz4 => ?_)
  have rz4 : (0 : Int) ≤ z4 ∧ z4 ≤ 6 := by rw [hz4]; exact hI 14 _
  have gz4 := Hd.mk hz4
  have hz4 : z4 = A 14 (4 * (A 0 12) + x1).toNat := hz4
  refine lv_if_ne (tgt := 17) hx hb (dk_at dkX12_topOf_0 6 rfl) (by decide) (fun c5 => ?_) (fun c5 => ?_)
  · have c5 : ¬ z4 = 0 := mt (i_eq0 (rb rz4 (by decide) (by decide))).mpr c5
    refine lv_aload_n hx hb (dk_at dkX12_topOf_0 9 rfl) rfl (lv_at hl 0 rfl) ?_
    refine va_get (D := (dC, dI)) (ci := 12) (v := .ref (q 15)) (C := RX12) (T := TX12) (N := 85) hx hb hts hiX12 hown hK hP 0 wm0 rfl 26 (by decide) (hts _ (List.mem_cons_of_mem _ wlq_3_7)) (fun _ h9 => h9) rfl (dk_at dkX12_topOf_0 10 rfl) ?_
    refine lv_bipush (v := iI 10) hx hb (dk_at dkX12_topOf_0 11 rfl) (by decide +kernel) ?_
    refine lv_aload_n hx hb (dk_at dkX12_topOf_0 12 rfl) rfl (lv_at hl 0 rfl) ?_
    refine lv_iload_n hx hb (dk_at dkX12_topOf_0 13 rfl) rfl (lv_at hl 1 rfl) ?_
    refine x_calli (As := [.int (iI x1)]) (rest := [.int (iI 10), .ref (q 15)]) ⟨hx, hb, hml, hown, hts⟩ (mc_X12_key4 l dC dI cB cI cJ cZ cQ q _ x1 hI hx1) (cwV 1 hts (goodV wlq_4_44 wlq_4_45 wlq_4_46 wlq_0_8 wlq_4_41) rfl rfl rfl (by decide +kernel) ⟨Nat.le_of_ble_eq_true rfl, Nat.le_of_ble_eq_true rfl⟩) hK hDD hA0 hP hS 0 12 wm0 rfl rfl hl.1 (Nat.le_of_ble_eq_true rfl) (dk_at dkX12_topOf_0 14 rfl) (fun z6 A7 H locs hw8 hP hS => ?_)
    obtain ⟨rfl, hw8⟩ := hw8
    have ghw8 : q_X12_key4 x1 A z6 := hw8
    have hw8 := hw8.2
    refine tp_i (y := iI (4 * (A 0 12) + x1)) (congrArg iI (show z6 = 4 * (A 0 12) + x1 by omega)) ?_
    clear hw8
    refine x_mulv (v := 40 * (A 0 12) + 10 * x1) hx hb (dk_at dkX12_topOf_0 15 rfl) (by omega) ?_
    refine lv_aload_n hx hb (dk_at dkX12_topOf_1 0 rfl) rfl (lv_at hl 0 rfl) ?_
    refine va_get (D := (dC, dI)) (ci := 12) (v := .ref (q 14)) (C := RX12) (T := TX12) (N := 85) hx hb hts hiX12 hown hK hP 0 wm0 rfl 25 (by decide) (hts _ (List.mem_cons_of_mem _ wlq_2_59)) (fun _ h9 => h9) rfl (dk_at dkX12_topOf_1 1 rfl) ?_
    refine lv_aload_n hx hb (dk_at dkX12_topOf_1 2 rfl) rfl (lv_at hl 0 rfl) ?_
    refine lv_iload_n hx hb (dk_at dkX12_topOf_1 3 rfl) rfl (lv_at hl 1 rfl) ?_
    refine x_calli (As := [.int (iI x1)]) (rest := [.ref (q 14), .int (iI (40 * (A 0 12) + 10 * x1)), .ref (q 15)]) ⟨hx, hb, hml, hown, hts⟩ (mc_X12_key4 l dC dI cB cI cJ cZ cQ q _ x1 hI hx1) (cwV 1 hts (goodV wlq_4_44 wlq_4_45 wlq_4_46 wlq_0_8 wlq_4_41) rfl rfl rfl (by decide +kernel) ⟨Nat.le_of_ble_eq_true rfl, Nat.le_of_ble_eq_true rfl⟩) hK hDD hA0 hP hS 0 12 wm0 rfl rfl hl.1 (Nat.le_of_ble_eq_true rfl) (dk_at dkX12_topOf_1 4 rfl) (fun z9 A10 H locs hw11 hP hS => ?_)
    obtain ⟨rfl, hw11⟩ := hw11
    have ghw11 : q_X12_key4 x1 A z9 := hw11
    have hw11 := hw11.2
    refine tp_i (y := iI (4 * (A 0 12) + x1)) (congrArg iI (show z9 = 4 * (A 0 12) + x1 by omega)) ?_
    clear hw11
    refine x_iald hx hb hK hP 14 1 wm14 rfl (by omega) (by decide) (dk_at dkX12_topOf_1 5 rfl) (fun z12 hz12 => ?_)
    have rz12 : (0 : Int) ≤ z12 ∧ z12 ≤ 6 := by rw [hz12]; exact hI 14 _
    have gz12 := Hd.mk hz12
    have hz12 : z12 = A 14 (4 * (A 0 12) + x1).toNat := hz12
    have ez12 : z12 = z4 := hz12.trans hz4.symm
    refine x_addv (v := 40 * (A 0 12) + 10 * x1 + z12) hx hb (dk_at dkX12_topOf_1 6 rfl) (by omega) ?_
    refine lv_iconst (v := iI 1) hx hb (dk_at dkX12_topOf_1 7 rfl) (by decide +kernel) ?_
    refine x_subv (v := 40 * (A 0 12) + 10 * x1 + z12 - 1) hx hb (dk_at dkX12_topOf_1 8 rfl) (by omega) ?_
    refine x_iald hx hb hK hP 15 1 wm15 rfl (by omega) (by decide) (dk_at dkX12_topOf_1 9 rfl) (fun z13 hz13 => ?_)
    have rz13 : (0 : Int) ≤ z13 ∧ z13 ≤ 9 := by rw [hz13]; exact hI 15 _
    have gz13 := Hd.mk hz13
    have hz13 : z13 = A 15 (40 * (A 0 12) + 10 * x1 + z12 - 1).toNat := hz13
    exact RET z13 _ _ _ _ _ ⟨rfl, (u_r_X12_topOf ⟨z1, ghw3, ⟨z4, gz4.out, (Or.inl ⟨c5, ⟨z6, ghw8, ⟨z9, ghw11, ⟨z12, gz12.out, ⟨z13, gz13.out, rfl⟩⟩⟩⟩⟩)⟩⟩), by omega⟩ hP hS (dk_at dkX12_topOf_1 10 rfl)
  · have c5 : z4 = 0 := (i_eq0 (rb rz4 (by decide) (by decide))).mp c5
    refine lv_iconst (v := iI (-1)) hx hb (dk_at dkX12_topOf_0 7 rfl) (by decide +kernel) ?_
    refine lv_goto (tgt := 43) hx hb (dk_at dkX12_topOf_0 8 rfl) (by decide) ?_
    exact RET (-1) _ _ _ _ _ ⟨rfl, (u_r_X12_topOf ⟨z1, ghw3, ⟨z4, gz4.out, (Or.inr ⟨c5, rfl⟩)⟩⟩), by omega⟩ hP hS (dk_at dkX12_topOf_1 10 rfl)

abbrev tr_d_X12_isShut_1 (x1 : Int) (A : St) (z : Int) (K1 : Int → Prop) (z6 : Int) : Prop := ((0 ≤ z6 ∧ z6 ≤ 2147483647) ∧ (∃ z14 : Int, z14 = A 11 ((A 0 12)).toNat ∧ (((z14 ≤ z6) ∧ (z = 0)) ∨ ((¬ z14 ≤ z6) ∧ (∃ z16 : Int, q_X12_inRow z6 x1 A z16 ∧ (((z16 = 0) ∧ (K1 (z6 + 1))) ∨ ((¬ z16 = 0) ∧ (z = 1))))))))
def d_X12_isShut_1 (x1 : Int) (A : St) (z : Int) : Nat → Int → Prop
  | 0, _ => False
  | nn9 + 1, z6 => tr_d_X12_isShut_1 x1 A z (fun z6 => d_X12_isShut_1 x1 A z nn9 z6) z6
theorem u_d_X12_isShut_1 {x1 : Int} {A : St} {z : Int} {nn9 : Nat} {z6 : Int} (h : tr_d_X12_isShut_1 x1 A z (fun z6 => d_X12_isShut_1 x1 A z nn9 z6) z6) : d_X12_isShut_1 x1 A z (nn9 + 1) z6 := h
abbrev tr_r_X12_isShut (x1 : Int) (A : St) (z : Int) : Prop := (∃ z1 : Int, q_X12_door10 x1 A z1 ∧ (∃ z4 : Int, z4 = A 10 (10 * (A 0 12) + x1).toNat ∧ (((z4 = 0) ∧ (∃ nn9 : Nat, d_X12_isShut_1 x1 A z nn9 0)) ∨ ((¬ z4 = 0) ∧ (z = 1)))))
def r_X12_isShut (x1 : Int) (A : St) (z : Int) : Prop := tr_r_X12_isShut x1 A z
theorem u_r_X12_isShut {x1 : Int} {A : St} {z : Int} (h : tr_r_X12_isShut x1 A z) : r_X12_isShut x1 A z := h
def q_X12_isShut (x1 : Int) (A : St) (z : Int) : Prop := r_X12_isShut x1 A z ∧ (0 ≤ z ∧ z ≤ 1)
def ws_mc_X12_isShut : List Cond := .code yX12_isShut cX12_isShut 3 (some .boolean) :: WX
set_option maxHeartbeats 4000000 in
set_option maxRecDepth 100000 in
theorem mc_X12_isShut (l : Launch) (dC : Nat → ClassId) (dI : Nat → Nat → Nat) (cB cI cJ cZ cQ : ClassId) (q : Nat → Nat) (A : St) (x1 : Int) (hI : IM A) (hx1 : (0 : Int) ≤ x1 ∧ x1 ≤ 9) : XMi l yX12_isShut ws_mc_X12_isShut ({ frames := 2, cells := 0, slots := 0, locals := 45 } : Room) (dC, dI) (tyA cB cI cJ cZ cQ) (WM cI cJ cZ q) A [.ref (q 0), .int (iI x1)] (fun z u => A = u ∧ r_X12_isShut x1 A z ∧ (0 ≤ z ∧ z ≤ 1)) := by
  refine x_metz (cc := cX12_isShut) (maxL := 3) WM_adr (by decide +kernel) rfl (Nat.le_of_ble_eq_true rfl) (fun z u h => h.2.2) (fun p e s m below meth c Q AS ls hx hb hml hown hts hK hDD hA0 hP hS hl RET => ?_)
  have hown : s.vm.findClass RX12 = some m.cls := hown
  have hl : lv_has ls 3 [(0, .ref (q 0)), (1, .int (iI x1))] := hl
  have hiX12 : ∀ w ∈ u_ws RX12 TX12 85, w ∈ ws_mc_X12_isShut := fun w h => List.mem_cons_of_mem _ (wx_lay w h)
  obtain ⟨H, hHe⟩ : ∃ H : Heap, H = s.heap := ⟨_, rfl⟩
  rw [← hHe] at hP
  have hS : va_S AS s.heap H [] := by rw [hHe]; exact hS
  suffices hgo : ∀ locs : List Loc, va_S AS s.heap H locs → W p l e (headSpec ws_mc_X12_isShut ({ frames := 2, cells := 0, slots := 0, locals := 45 } : Room)).room s m [.ref (q 0), .int (iI x1)].toArray below meth c H locs 0 0 Q (F0 m 0 ls []) by
    have := hgo [] hS
    rw [hHe] at this
    exact this
  clear hS hHe
  intro locs hS
  refine lv_aload_n hx hb (dk_at dkX12_isShut_0 0 rfl) rfl (lv_at hl 0 rfl) ?_
  refine va_get (D := (dC, dI)) (ci := 12) (v := .ref (q 10)) (C := RX12) (T := TX12) (N := 85) hx hb hts hiX12 hown hK hP 0 wm0 rfl 21 (by decide) (hts _ (List.mem_cons_of_mem _ wlq_2_43)) (fun _ h9 => h9) rfl (dk_at dkX12_isShut_0 1 rfl) ?_
  refine lv_aload_n hx hb (dk_at dkX12_isShut_0 2 rfl) rfl (lv_at hl 0 rfl) ?_
  refine lv_iload_n hx hb (dk_at dkX12_isShut_0 3 rfl) rfl (lv_at hl 1 rfl) ?_
  have r_A_0_12 : (0 : Int) ≤ (A 0 12) ∧ (A 0 12) ≤ 1 := hI 0 12
  refine x_calli (As := [.int (iI x1)]) (rest := [.ref (q 10)]) ⟨hx, hb, hml, hown, hts⟩ (mc_X12_door10 l dC dI cB cI cJ cZ cQ q _ x1 hI hx1) (cwV 1 hts (goodV wlq_4_49 wlq_4_50 wlq_4_51 wlq_0_8 wlq_4_42) rfl rfl rfl (by decide +kernel) ⟨Nat.le_of_ble_eq_true rfl, Nat.le_of_ble_eq_true rfl⟩) hK hDD hA0 hP hS 0 12 wm0 rfl rfl hl.1 (Nat.le_of_ble_eq_true rfl) (dk_at dkX12_isShut_0 4 rfl) (fun z1 A2 H locs hw3 hP hS => ?_)
  obtain ⟨rfl, hw3⟩ := hw3
  have ghw3 : q_X12_door10 x1 A z1 := hw3
  have hw3 := hw3.2
  refine tp_i (y := iI (10 * (A 0 12) + x1)) (congrArg iI (show z1 = 10 * (A 0 12) + x1 by omega)) ?_
  clear hw3
  refine x_zald hx hb hK hP 10 3 wm10 rfl (by omega) (by decide) (dk_at dkX12_isShut_0 5 rfl) (fun z4 hz4 => ?_)
  have rz4 : (0 : Int) ≤ z4 ∧ z4 ≤ 1 := by rw [hz4]; exact hI 10 _
  have gz4 := Hd.mk hz4
  have hz4 : z4 = A 10 (10 * (A 0 12) + x1).toNat := hz4
  refine lv_if_eq (tgt := 15) hx hb (dk_at dkX12_isShut_0 6 rfl) (by decide) (fun c5 => ?_) (fun c5 => ?_)
  · have c5 : z4 = 0 := (i_eq0 (rb rz4 (by decide) (by decide))).mp c5
    refine lv_iconst (v := iI 0) hx hb (dk_at dkX12_isShut_0 9 rfl) (by decide +kernel) ?_
    refine lv_istore_n (lv' := [(2, .int (iI 0)), (0, .ref (q 0)), (1, .int (iI x1))]) hx hb (dk_at dkX12_isShut_0 10 rfl) rfl hl (by decide) rfl (fun ls hl => ?_)
    have L17_9 : ∀ (n11 : Nat) (z6 : Int) (H : Heap) (locs : List Loc) (ls : Array Slot), (0 ≤ z6) → (0 ≤ z6 ∧ z6 ≤ 2147483647) → (∀ (z : Int), (∃ mm1 : Nat, (d_X12_isShut_1 x1 A z mm1 z6)) → r_X12_isShut x1 A z) → ((A 11 ((A 0 12)).toNat - z6 + 1).toNat = n11) → va_P (dC, dI) vwCl (WM cI cJ cZ q A) H → va_S AS s.heap H locs → lv_has ls 3 [(2, .int (iI z6)), (0, .ref (q 0)), (1, .int (iI x1))] → W p l e (headSpec ws_mc_X12_isShut ({ frames := 2, cells := 0, slots := 0, locals := 45 } : Room)).room s m [.ref (q 0), .int (iI x1)].toArray below meth c H locs 0 0 Q (F0 m 17 ls []) := by
      intro n11
      induction n11 using Nat.strongRecOn with
      | ind n11 ih10 =>
        intro z6 H locs ls f12 f13 hk1 hn11 hP hS hl
        refine lv_iload_n hx hb (dk_at dkX12_isShut_0 11 rfl) rfl (lv_at hl 0 rfl) ?_
        refine lv_aload_n hx hb (dk_at dkX12_isShut_0 12 rfl) rfl (lv_at hl 1 rfl) ?_
        refine va_get (D := (dC, dI)) (ci := 12) (v := .ref (q 11)) (C := RX12) (T := TX12) (N := 85) hx hb hts hiX12 hown hK hP 0 wm0 rfl 22 (by decide) (hts _ (List.mem_cons_of_mem _ wlq_1_14)) (fun _ h9 => h9) rfl (dk_at dkX12_isShut_0 13 rfl) ?_
        refine lv_aload_n hx hb (dk_at dkX12_isShut_0 14 rfl) rfl (lv_at hl 1 rfl) ?_
        refine va_get (D := (dC, dI)) (ci := 12) (v := .int (iI (A 0 12))) (C := RX12) (T := TX12) (N := 85) hx hb hts hiX12 hown hK hP 0 wm0 rfl 12 (by decide) (hts _ (List.mem_cons_of_mem _ wlq_4_14)) (fun _ h9 => h9) rfl (dk_at dkX12_isShut_0 15 rfl) ?_
        refine x_iald hx hb hK hP 11 1 wm11 rfl (by omega) (by decide) (dk_at dkX12_isShut_1 0 rfl) (fun z14 hz14 => ?_)
        have rz14 : (0 : Int) ≤ z14 ∧ z14 ≤ 4 := by rw [hz14]; exact hI 11 _
        have gz14 := Hd.mk hz14
        have hz14 : z14 = A 11 ((A 0 12)).toNat := hz14
        refine lv_icmp_ge (tgt := 47) hx hb (dk_at dkX12_isShut_1 1 rfl) (by decide) (fun c15 => ?_) (fun c15 => ?_)
        · have c15 : z14 ≤ z6 := (i_le (rb rz14 (by decide) (by decide)) (rb f13 (by decide) (by decide))).mp c15
          refine lv_iconst (v := iI 0) hx hb (dk_at dkX12_isShut_1 11 rfl) (by decide +kernel) ?_
          exact RET 0 _ _ _ _ _ ⟨rfl, hk1 _ ⟨0 + 1, (u_d_X12_isShut_1 ⟨f13, ⟨z14, gz14.out, (Or.inl ⟨c15, rfl⟩)⟩⟩)⟩, by omega⟩ hP hS (dk_at dkX12_isShut_1 12 rfl)
        · have c15 : ¬ z14 ≤ z6 := mt (i_le (rb rz14 (by decide) (by decide)) (rb f13 (by decide) (by decide))).mpr c15
          refine lv_aload_n hx hb (dk_at dkX12_isShut_1 2 rfl) rfl (lv_at hl 1 rfl) ?_
          refine lv_iload_n hx hb (dk_at dkX12_isShut_1 3 rfl) rfl (lv_at hl 0 rfl) ?_
          refine lv_iload_n hx hb (dk_at dkX12_isShut_1 4 rfl) rfl (lv_at hl 2 rfl) ?_
          refine x_calli (As := [.int (iI z6), .int (iI x1)]) (rest := []) ⟨hx, hb, hml, hown, hts⟩ (mc_X12_inRow l dC dI cB cI cJ cZ cQ q _ z6 x1 hI (by omega) (rb hx1 (by decide) (by decide))) (cwV 2 hts (goodV wlq_4_52 wlq_4_53 wlq_4_54 wlq_0_8 wlq_4_43) rfl rfl rfl (by decide +kernel) ⟨Nat.le_of_ble_eq_true rfl, Nat.le_of_ble_eq_true rfl⟩) hK hDD hA0 hP hS 0 12 wm0 rfl rfl hl.1 (Nat.le_of_ble_eq_true rfl) (dk_at dkX12_isShut_1 5 rfl) (fun z16 A17 H locs hw18 hP hS => ?_)
          obtain ⟨rfl, hw18⟩ := hw18
          have ghw18 : q_X12_inRow z6 x1 A z16 := hw18
          have hw18 := hw18.2
          refine lv_if_eq (tgt := 41) hx hb (dk_at dkX12_isShut_1 6 rfl) (by decide) (fun c19 => ?_) (fun c19 => ?_)
          · have c19 : z16 = 0 := (i_eq0 (rb hw18 (by decide) (by decide))).mp c19
            refine lv_iinc (v := iI (z6 + 1)) (lv' := [(2, .int (iI (z6 + 1))), (0, .ref (q 0)), (1, .int (iI x1))]) hx hb (dk_at dkX12_isShut_1 9 rfl) hl (k := 0) rfl (i_inc (by omega)) (by decide) rfl (fun ls hl => ?_)
            refine lv_goto (tgt := 17) hx hb (dk_at dkX12_isShut_1 10 rfl) (by decide) ?_
            exact ih10 _ (by omega) (z6 + 1) _ _ _ (by omega) (by omega) (fun zq ⟨mm1, hq⟩ => hk1 _ ⟨mm1 + 1, (u_d_X12_isShut_1 ⟨f13, ⟨z14, gz14.out, (Or.inr ⟨c15, ⟨z16, ghw18, (Or.inl ⟨c19, hq⟩)⟩⟩)⟩⟩)⟩) rfl hP hS (lv_sub hl [0, 1, 2] rfl)
          · have c19 : ¬ z16 = 0 := mt (i_eq0 (rb hw18 (by decide) (by decide))).mpr c19
            refine lv_iconst (v := iI 1) hx hb (dk_at dkX12_isShut_1 7 rfl) (by decide +kernel) ?_
            exact RET 1 _ _ _ _ _ ⟨rfl, hk1 _ ⟨0 + 1, (u_d_X12_isShut_1 ⟨f13, ⟨z14, gz14.out, (Or.inr ⟨c15, ⟨z16, ghw18, (Or.inr ⟨c19, rfl⟩)⟩⟩)⟩⟩)⟩, by omega⟩ hP hS (dk_at dkX12_isShut_1 8 rfl)
    exact L17_9 _ 0 _ _ _ (by omega) (by omega) (fun zq ⟨mm1, hq⟩ => (u_r_X12_isShut ⟨z1, ghw3, ⟨z4, gz4.out, (Or.inl ⟨c5, ⟨mm1, hq⟩⟩)⟩⟩)) rfl hP hS (lv_sub hl [0, 1, 2] rfl)
  · have c5 : ¬ z4 = 0 := mt (i_eq0 (rb rz4 (by decide) (by decide))).mpr c5
    refine lv_iconst (v := iI 1) hx hb (dk_at dkX12_isShut_0 7 rfl) (by decide +kernel) ?_
    exact RET 1 _ _ _ _ _ ⟨rfl, (u_r_X12_isShut ⟨z1, ghw3, ⟨z4, gz4.out, (Or.inr ⟨c5, rfl⟩)⟩⟩), by omega⟩ hP hS (dk_at dkX12_isShut_0 8 rfl)

abbrev tr_d_X12_isDead_2 (K1 : Int → Prop) (z6 : Int) (z : Int) : Prop := (K1 (z6 + 1))
def d_X12_isDead_2 (K1 : Int → Prop) (z6 : Int) (z : Int) : Prop := tr_d_X12_isDead_2 K1 z6 z
theorem u_d_X12_isDead_2 {K1 : Int → Prop} {z6 : Int} {z : Int} (h : tr_d_X12_isDead_2 K1 z6 z) : d_X12_isDead_2 K1 z6 z := h
abbrev tr_d_X12_isDead_1 (x1 : Int) (A : St) (z : Int) (K1 : Int → Prop) (z6 : Int) : Prop := ((0 ≤ z6 ∧ z6 ≤ 2147483647) ∧ (∃ z14 : Int, z14 = A 11 ((A 0 12)).toNat ∧ (((z14 ≤ z6) ∧ (z = 0)) ∨ ((¬ z14 ≤ z6) ∧ (∃ z16 : Int, q_X12_key4 z6 A z16 ∧ (∃ z19 : Int, z19 = A 13 (4 * (A 0 12) + z6).toNat ∧ (((¬ z19 = 40) ∧ (d_X12_isDead_2 K1 z6 z)) ∨ ((z19 = 40) ∧ (∃ z22 : Int, q_X12_inRow z6 x1 A z22 ∧ (((z22 = 0) ∧ (d_X12_isDead_2 K1 z6 z)) ∨ ((¬ z22 = 0) ∧ (z = 1))))))))))))
def d_X12_isDead_1 (x1 : Int) (A : St) (z : Int) : Nat → Int → Prop
  | 0, _ => False
  | nn9 + 1, z6 => tr_d_X12_isDead_1 x1 A z (fun z6 => d_X12_isDead_1 x1 A z nn9 z6) z6
theorem u_d_X12_isDead_1 {x1 : Int} {A : St} {z : Int} {nn9 : Nat} {z6 : Int} (h : tr_d_X12_isDead_1 x1 A z (fun z6 => d_X12_isDead_1 x1 A z nn9 z6) z6) : d_X12_isDead_1 x1 A z (nn9 + 1) z6 := h
abbrev tr_r_X12_isDead (x1 : Int) (A : St) (z : Int) : Prop := (∃ z1 : Int, q_X12_door10 x1 A z1 ∧ (∃ z4 : Int, z4 = A 10 (10 * (A 0 12) + x1).toNat ∧ (((z4 = 0) ∧ (∃ nn9 : Nat, d_X12_isDead_1 x1 A z nn9 0)) ∨ ((¬ z4 = 0) ∧ (z = 1)))))
def r_X12_isDead (x1 : Int) (A : St) (z : Int) : Prop := tr_r_X12_isDead x1 A z
theorem u_r_X12_isDead {x1 : Int} {A : St} {z : Int} (h : tr_r_X12_isDead x1 A z) : r_X12_isDead x1 A z := h
def q_X12_isDead (x1 : Int) (A : St) (z : Int) : Prop := r_X12_isDead x1 A z ∧ (0 ≤ z ∧ z ≤ 1)
def ws_mc_X12_isDead : List Cond := .code yX12_isDead cX12_isDead 3 (some .boolean) :: WX
set_option maxHeartbeats 4000000 in
set_option maxRecDepth 100000 in
theorem mc_X12_isDead (l : Launch) (dC : Nat → ClassId) (dI : Nat → Nat → Nat) (cB cI cJ cZ cQ : ClassId) (q : Nat → Nat) (A : St) (x1 : Int) (hI : IM A) (hx1 : (0 : Int) ≤ x1 ∧ x1 ≤ 9) : XMi l yX12_isDead ws_mc_X12_isDead ({ frames := 2, cells := 0, slots := 0, locals := 45 } : Room) (dC, dI) (tyA cB cI cJ cZ cQ) (WM cI cJ cZ q) A [.ref (q 0), .int (iI x1)] (fun z u => A = u ∧ r_X12_isDead x1 A z ∧ (0 ≤ z ∧ z ≤ 1)) := by
  refine x_metz (cc := cX12_isDead) (maxL := 3) WM_adr (by decide +kernel) rfl (Nat.le_of_ble_eq_true rfl) (fun z u h => h.2.2) (fun p e s m below meth c Q AS ls hx hb hml hown hts hK hDD hA0 hP hS hl RET => ?_)
  have hown : s.vm.findClass RX12 = some m.cls := hown
  have hl : lv_has ls 3 [(0, .ref (q 0)), (1, .int (iI x1))] := hl
  have hiX12 : ∀ w ∈ u_ws RX12 TX12 85, w ∈ ws_mc_X12_isDead := fun w h => List.mem_cons_of_mem _ (wx_lay w h)
  obtain ⟨H, hHe⟩ : ∃ H : Heap, H = s.heap := ⟨_, rfl⟩
  rw [← hHe] at hP
  have hS : va_S AS s.heap H [] := by rw [hHe]; exact hS
  suffices hgo : ∀ locs : List Loc, va_S AS s.heap H locs → W p l e (headSpec ws_mc_X12_isDead ({ frames := 2, cells := 0, slots := 0, locals := 45 } : Room)).room s m [.ref (q 0), .int (iI x1)].toArray below meth c H locs 0 0 Q (F0 m 0 ls []) by
    have := hgo [] hS
    rw [hHe] at this
    exact this
  clear hS hHe
  intro locs hS
  refine lv_aload_n hx hb (dk_at dkX12_isDead_0 0 rfl) rfl (lv_at hl 0 rfl) ?_
  refine va_get (D := (dC, dI)) (ci := 12) (v := .ref (q 10)) (C := RX12) (T := TX12) (N := 85) hx hb hts hiX12 hown hK hP 0 wm0 rfl 21 (by decide) (hts _ (List.mem_cons_of_mem _ wlq_2_43)) (fun _ h9 => h9) rfl (dk_at dkX12_isDead_0 1 rfl) ?_
  refine lv_aload_n hx hb (dk_at dkX12_isDead_0 2 rfl) rfl (lv_at hl 0 rfl) ?_
  refine lv_iload_n hx hb (dk_at dkX12_isDead_0 3 rfl) rfl (lv_at hl 1 rfl) ?_
  have r_A_0_12 : (0 : Int) ≤ (A 0 12) ∧ (A 0 12) ≤ 1 := hI 0 12
  refine x_calli (As := [.int (iI x1)]) (rest := [.ref (q 10)]) ⟨hx, hb, hml, hown, hts⟩ (mc_X12_door10 l dC dI cB cI cJ cZ cQ q _ x1 hI hx1) (cwV 1 hts (goodV wlq_4_49 wlq_4_50 wlq_4_51 wlq_0_8 wlq_4_42) rfl rfl rfl (by decide +kernel) ⟨Nat.le_of_ble_eq_true rfl, Nat.le_of_ble_eq_true rfl⟩) hK hDD hA0 hP hS 0 12 wm0 rfl rfl hl.1 (Nat.le_of_ble_eq_true rfl) (dk_at dkX12_isDead_0 4 rfl) (fun z1 A2 H locs hw3 hP hS => ?_)
  obtain ⟨rfl, hw3⟩ := hw3
  have ghw3 : q_X12_door10 x1 A z1 := hw3
  have hw3 := hw3.2
  refine tp_i (y := iI (10 * (A 0 12) + x1)) (congrArg iI (show z1 = 10 * (A 0 12) + x1 by omega)) ?_
  clear hw3
  refine x_zald hx hb hK hP 10 3 wm10 rfl (by omega) (by decide) (dk_at dkX12_isDead_0 5 rfl) (fun z4 hz4 => ?_)
  have rz4 : (0 : Int) ≤ z4 ∧ z4 ≤ 1 := by rw [hz4]; exact hI 10 _
  have gz4 := Hd.mk hz4
  have hz4 : z4 = A 10 (10 * (A 0 12) + x1).toNat := hz4
  refine lv_if_eq (tgt := 15) hx hb (dk_at dkX12_isDead_0 6 rfl) (by decide) (fun c5 => ?_) (fun c5 => ?_)
  · have c5 : z4 = 0 := (i_eq0 (rb rz4 (by decide) (by decide))).mp c5
    refine lv_iconst (v := iI 0) hx hb (dk_at dkX12_isDead_0 9 rfl) (by decide +kernel) ?_
    refine lv_istore_n (lv' := [(2, .int (iI 0)), (0, .ref (q 0)), (1, .int (iI x1))]) hx hb (dk_at dkX12_isDead_0 10 rfl) rfl hl (by decide) rfl (fun ls hl => ?_)
    have L17_9 : ∀ (n11 : Nat) (z6 : Int) (H : Heap) (locs : List Loc) (ls : Array Slot), (0 ≤ z6) → (0 ≤ z6 ∧ z6 ≤ 2147483647) → (∀ (z : Int), (∃ mm1 : Nat, (d_X12_isDead_1 x1 A z mm1 z6)) → r_X12_isDead x1 A z) → ((A 11 ((A 0 12)).toNat - z6 + 1).toNat = n11) → va_P (dC, dI) vwCl (WM cI cJ cZ q A) H → va_S AS s.heap H locs → lv_has ls 3 [(2, .int (iI z6)), (0, .ref (q 0)), (1, .int (iI x1))] → W p l e (headSpec ws_mc_X12_isDead ({ frames := 2, cells := 0, slots := 0, locals := 45 } : Room)).room s m [.ref (q 0), .int (iI x1)].toArray below meth c H locs 0 0 Q (F0 m 17 ls []) := by
      intro n11
      induction n11 using Nat.strongRecOn with
      | ind n11 ih10 =>
        intro z6 H locs ls f12 f13 hk1 hn11 hP hS hl
        refine lv_iload_n hx hb (dk_at dkX12_isDead_0 11 rfl) rfl (lv_at hl 0 rfl) ?_
        refine lv_aload_n hx hb (dk_at dkX12_isDead_0 12 rfl) rfl (lv_at hl 1 rfl) ?_
        refine va_get (D := (dC, dI)) (ci := 12) (v := .ref (q 11)) (C := RX12) (T := TX12) (N := 85) hx hb hts hiX12 hown hK hP 0 wm0 rfl 22 (by decide) (hts _ (List.mem_cons_of_mem _ wlq_1_14)) (fun _ h9 => h9) rfl (dk_at dkX12_isDead_0 13 rfl) ?_
        refine lv_aload_n hx hb (dk_at dkX12_isDead_0 14 rfl) rfl (lv_at hl 1 rfl) ?_
        refine va_get (D := (dC, dI)) (ci := 12) (v := .int (iI (A 0 12))) (C := RX12) (T := TX12) (N := 85) hx hb hts hiX12 hown hK hP 0 wm0 rfl 12 (by decide) (hts _ (List.mem_cons_of_mem _ wlq_4_14)) (fun _ h9 => h9) rfl (dk_at dkX12_isDead_0 15 rfl) ?_
        refine x_iald hx hb hK hP 11 1 wm11 rfl (by omega) (by decide) (dk_at dkX12_isDead_1 0 rfl) (fun z14 hz14 => ?_)
        have rz14 : (0 : Int) ≤ z14 ∧ z14 ≤ 4 := by rw [hz14]; exact hI 11 _
        have gz14 := Hd.mk hz14
        have hz14 : z14 = A 11 ((A 0 12)).toNat := hz14
        refine lv_icmp_ge (tgt := 62) hx hb (dk_at dkX12_isDead_1 1 rfl) (by decide) (fun c15 => ?_) (fun c15 => ?_)
        · have c15 : z14 ≤ z6 := (i_le (rb rz14 (by decide) (by decide)) (rb f13 (by decide) (by decide))).mp c15
          refine lv_iconst (v := iI 0) hx hb (dk_at dkX12_isDead_2 3 rfl) (by decide +kernel) ?_
          exact RET 0 _ _ _ _ _ ⟨rfl, hk1 _ ⟨0 + 1, (u_d_X12_isDead_1 ⟨f13, ⟨z14, gz14.out, (Or.inl ⟨c15, rfl⟩)⟩⟩)⟩, by omega⟩ hP hS (dk_at dkX12_isDead_2 4 rfl)
        · have c15 : ¬ z14 ≤ z6 := mt (i_le (rb rz14 (by decide) (by decide)) (rb f13 (by decide) (by decide))).mpr c15
          refine lv_aload_n hx hb (dk_at dkX12_isDead_1 2 rfl) rfl (lv_at hl 1 rfl) ?_
          refine va_get (D := (dC, dI)) (ci := 12) (v := .ref (q 13)) (C := RX12) (T := TX12) (N := 85) hx hb hts hiX12 hown hK hP 0 wm0 rfl 24 (by decide) (hts _ (List.mem_cons_of_mem _ wlq_2_58)) (fun _ h9 => h9) rfl (dk_at dkX12_isDead_1 3 rfl) ?_
          refine lv_aload_n hx hb (dk_at dkX12_isDead_1 4 rfl) rfl (lv_at hl 1 rfl) ?_
          refine lv_iload_n hx hb (dk_at dkX12_isDead_1 5 rfl) rfl (lv_at hl 0 rfl) ?_
          refine x_calli (As := [.int (iI z6)]) (rest := [.ref (q 13)]) ⟨hx, hb, hml, hown, hts⟩ (mc_X12_key4 l dC dI cB cI cJ cZ cQ q _ z6 hI (by omega)) (cwV 1 hts (goodV wlq_4_44 wlq_4_45 wlq_4_46 wlq_0_8 wlq_4_41) rfl rfl rfl (by decide +kernel) ⟨Nat.le_of_ble_eq_true rfl, Nat.le_of_ble_eq_true rfl⟩) hK hDD hA0 hP hS 0 12 wm0 rfl rfl hl.1 (Nat.le_of_ble_eq_true rfl) (dk_at dkX12_isDead_1 6 rfl) (fun z16 A17 H locs hw18 hP hS => ?_)
          obtain ⟨rfl, hw18⟩ := hw18
          have ghw18 : q_X12_key4 z6 A z16 := hw18
          have hw18 := hw18.2
          refine tp_i (y := iI (4 * (A 0 12) + z6)) (congrArg iI (show z16 = 4 * (A 0 12) + z6 by omega)) ?_
          clear hw18
          refine x_iald hx hb hK hP 13 1 wm13 rfl (by omega) (by decide) (dk_at dkX12_isDead_1 7 rfl) (fun z19 hz19 => ?_)
          have rz19 : (0 : Int) ≤ z19 ∧ z19 ≤ 40 := by rw [hz19]; exact hI 13 _
          have gz19 := Hd.mk hz19
          have hz19 : z19 = A 13 (4 * (A 0 12) + z6).toNat := hz19
          refine lv_bipush (v := iI 40) hx hb (dk_at dkX12_isDead_1 8 rfl) (by decide +kernel) ?_
          have J56_21 : ∀ (H : Heap) (locs : List Loc) (ls : Array Slot), (∀ (z : Int), (∃ mm1 : Nat, (d_X12_isDead_2 (fun z6' => d_X12_isDead_1 x1 A z mm1 z6') z6 z)) → r_X12_isDead x1 A z) → va_P (dC, dI) vwCl (WM cI cJ cZ q A) H → va_S AS s.heap H locs → lv_has ls 3 [(2, .int (iI z6)), (0, .ref (q 0)), (1, .int (iI x1))] → W p l e (headSpec ws_mc_X12_isDead ({ frames := 2, cells := 0, slots := 0, locals := 45 } : Room)).room s m [.ref (q 0), .int (iI x1)].toArray below meth c H locs 0 0 Q (F0 m 56 ls []) := by
            intro H locs ls hk2 hP hS hl
            refine lv_iinc (v := iI (z6 + 1)) (lv' := [(2, .int (iI (z6 + 1))), (0, .ref (q 0)), (1, .int (iI x1))]) hx hb (dk_at dkX12_isDead_2 1 rfl) hl (k := 0) rfl (i_inc (by omega)) (by decide) rfl (fun ls hl => ?_)
            refine lv_goto (tgt := 17) hx hb (dk_at dkX12_isDead_2 2 rfl) (by decide) ?_
            exact ih10 _ (by omega) (z6 + 1) _ _ _ (by omega) (by omega) (fun zq ⟨mm1, hq⟩ => hk2 _ ⟨mm1, (u_d_X12_isDead_2 hq)⟩) rfl hP hS (lv_sub hl [0, 1, 2] rfl)
          refine lv_icmp_ne (tgt := 56) hx hb (dk_at dkX12_isDead_1 9 rfl) (by decide) (fun c20 => ?_) (fun c20 => ?_)
          · have c20 : ¬ z19 = 40 := mt (i_eq (rb rz19 (by decide) (by decide)) ⟨by decide, by decide⟩).mpr c20
            exact J56_21 _ _ _ (fun zq ⟨mm1, hq⟩ => hk1 _ ⟨mm1 + 1, (u_d_X12_isDead_1 ⟨f13, ⟨z14, gz14.out, (Or.inr ⟨c15, ⟨z16, ghw18, ⟨z19, gz19.out, (Or.inl ⟨c20, hq⟩)⟩⟩⟩)⟩⟩)⟩) hP hS (lv_sub hl [0, 1, 2] rfl)
          · have c20 : z19 = 40 := (i_eq (rb rz19 (by decide) (by decide)) ⟨by decide, by decide⟩).mp c20
            refine lv_aload_n hx hb (dk_at dkX12_isDead_1 10 rfl) rfl (lv_at hl 1 rfl) ?_
            refine lv_iload_n hx hb (dk_at dkX12_isDead_1 11 rfl) rfl (lv_at hl 0 rfl) ?_
            refine lv_iload_n hx hb (dk_at dkX12_isDead_1 12 rfl) rfl (lv_at hl 2 rfl) ?_
            refine x_calli (As := [.int (iI z6), .int (iI x1)]) (rest := []) ⟨hx, hb, hml, hown, hts⟩ (mc_X12_inRow l dC dI cB cI cJ cZ cQ q _ z6 x1 hI (by omega) (rb hx1 (by decide) (by decide))) (cwV 2 hts (goodV wlq_4_52 wlq_4_53 wlq_4_54 wlq_0_8 wlq_4_43) rfl rfl rfl (by decide +kernel) ⟨Nat.le_of_ble_eq_true rfl, Nat.le_of_ble_eq_true rfl⟩) hK hDD hA0 hP hS 0 12 wm0 rfl rfl hl.1 (Nat.le_of_ble_eq_true rfl) (dk_at dkX12_isDead_1 13 rfl) (fun z22 A23 H locs hw24 hP hS => ?_)
            obtain ⟨rfl, hw24⟩ := hw24
            have ghw24 : q_X12_inRow z6 x1 A z22 := hw24
            have hw24 := hw24.2
            refine lv_if_eq (tgt := 56) hx hb (dk_at dkX12_isDead_1 14 rfl) (by decide) (fun c25 => ?_) (fun c25 => ?_)
            · have c25 : z22 = 0 := (i_eq0 (rb hw24 (by decide) (by decide))).mp c25
              exact J56_21 _ _ _ (fun zq ⟨mm1, hq⟩ => hk1 _ ⟨mm1 + 1, (u_d_X12_isDead_1 ⟨f13, ⟨z14, gz14.out, (Or.inr ⟨c15, ⟨z16, ghw18, ⟨z19, gz19.out, (Or.inr ⟨c20, ⟨z22, ghw24, (Or.inl ⟨c25, hq⟩)⟩⟩)⟩⟩⟩)⟩⟩)⟩) hP hS (lv_sub hl [0, 1, 2] rfl)
            · have c25 : ¬ z22 = 0 := mt (i_eq0 (rb hw24 (by decide) (by decide))).mpr c25
              refine lv_iconst (v := iI 1) hx hb (dk_at dkX12_isDead_1 15 rfl) (by decide +kernel) ?_
              exact RET 1 _ _ _ _ _ ⟨rfl, hk1 _ ⟨0 + 1, (u_d_X12_isDead_1 ⟨f13, ⟨z14, gz14.out, (Or.inr ⟨c15, ⟨z16, ghw18, ⟨z19, gz19.out, (Or.inr ⟨c20, ⟨z22, ghw24, (Or.inr ⟨c25, rfl⟩)⟩⟩)⟩⟩⟩)⟩⟩)⟩, by omega⟩ hP hS (dk_at dkX12_isDead_2 0 rfl)
    exact L17_9 _ 0 _ _ _ (by omega) (by omega) (fun zq ⟨mm1, hq⟩ => (u_r_X12_isDead ⟨z1, ghw3, ⟨z4, gz4.out, (Or.inl ⟨c5, ⟨mm1, hq⟩⟩)⟩⟩)) rfl hP hS (lv_sub hl [0, 1, 2] rfl)
  · have c5 : ¬ z4 = 0 := mt (i_eq0 (rb rz4 (by decide) (by decide))).mpr c5
    refine lv_iconst (v := iI 1) hx hb (dk_at dkX12_isDead_0 7 rfl) (by decide +kernel) ?_
    exact RET 1 _ _ _ _ _ ⟨rfl, (u_r_X12_isDead ⟨z1, ghw3, ⟨z4, gz4.out, (Or.inr ⟨c5, rfl⟩)⟩⟩), by omega⟩ hP hS (dk_at dkX12_isDead_0 8 rfl)

abbrev tr_d_X12_closedAll_2 (K1 : Int → Int → Prop) (z1 : Int) (z2 : Int) (z : Int) (z18 : Int) : Prop := ((0 ≤ z18 ∧ z18 ≤ 1) ∧ (∃ z22 : Int, z22 = oWrap (z2 + z18) ∧ (K1 (z1 + 1) z22)))
def d_X12_closedAll_2 (K1 : Int → Int → Prop) (z1 : Int) (z2 : Int) (z : Int) (z18 : Int) : Prop := tr_d_X12_closedAll_2 K1 z1 z2 z z18
theorem u_d_X12_closedAll_2 {K1 : Int → Int → Prop} {z1 : Int} {z2 : Int} {z : Int} {z18 : Int} (h : tr_d_X12_closedAll_2 K1 z1 z2 z z18) : d_X12_closedAll_2 K1 z1 z2 z z18 := h
abbrev tr_d_X12_closedAll_1 (A : St) (z : Int) (K1 : Int → Int → Prop) (z1 : Int) (z2 : Int) : Prop := ((0 ≤ z1 ∧ z1 ≤ 2147483647) ∧ ((-2147483648 ≤ z2 ∧ z2 ≤ 2147483647) ∧ (∃ z11 : Int, z11 = A 4 ((A 0 12)).toNat ∧ (((z11 ≤ z1) ∧ (z = z2)) ∨ ((¬ z11 ≤ z1) ∧ (∃ z13 : Int, q_X12_isShut z1 A z13 ∧ (((z13 = 0) ∧ (d_X12_closedAll_2 K1 z1 z2 z 0)) ∨ ((¬ z13 = 0) ∧ (d_X12_closedAll_2 K1 z1 z2 z 1)))))))))
def d_X12_closedAll_1 (A : St) (z : Int) : Nat → Int → Int → Prop
  | 0, _, _ => False
  | nn9 + 1, z1, z2 => tr_d_X12_closedAll_1 A z (fun z1 z2 => d_X12_closedAll_1 A z nn9 z1 z2) z1 z2
theorem u_d_X12_closedAll_1 {A : St} {z : Int} {nn9 : Nat} {z1 : Int} {z2 : Int} (h : tr_d_X12_closedAll_1 A z (fun z1 z2 => d_X12_closedAll_1 A z nn9 z1 z2) z1 z2) : d_X12_closedAll_1 A z (nn9 + 1) z1 z2 := h
abbrev tr_r_X12_closedAll (A : St) (z : Int) : Prop := (∃ nn9 : Nat, d_X12_closedAll_1 A z nn9 0 0)
def r_X12_closedAll (A : St) (z : Int) : Prop := tr_r_X12_closedAll A z
theorem u_r_X12_closedAll {A : St} {z : Int} (h : tr_r_X12_closedAll A z) : r_X12_closedAll A z := h
def q_X12_closedAll (A : St) (z : Int) : Prop := r_X12_closedAll A z ∧ (-2147483648 ≤ z ∧ z ≤ 2147483647)
def ws_mc_X12_closedAll : List Cond := .code yX12_closedAll cX12_closedAll 3 (some .int) :: WX
set_option maxHeartbeats 4000000 in
set_option maxRecDepth 100000 in
theorem mc_X12_closedAll (l : Launch) (dC : Nat → ClassId) (dI : Nat → Nat → Nat) (cB cI cJ cZ cQ : ClassId) (q : Nat → Nat) (A : St) (hI : IM A) : XMi l yX12_closedAll ws_mc_X12_closedAll ({ frames := 3, cells := 0, slots := 0, locals := 67 } : Room) (dC, dI) (tyA cB cI cJ cZ cQ) (WM cI cJ cZ q) A [.ref (q 0)] (fun z u => A = u ∧ r_X12_closedAll A z ∧ (-2147483648 ≤ z ∧ z ≤ 2147483647)) := by
  refine x_meti (cc := cX12_closedAll) (maxL := 3) WM_adr (by decide +kernel) rfl (Nat.le_of_ble_eq_true rfl) (fun p e s m below meth c Q AS ls hx hb hml hown hts hK hDD hA0 hP hS hl RET => ?_)
  have hown : s.vm.findClass RX12 = some m.cls := hown
  have hl : lv_has ls 3 [(0, .ref (q 0))] := hl
  have hiX12 : ∀ w ∈ u_ws RX12 TX12 85, w ∈ ws_mc_X12_closedAll := fun w h => List.mem_cons_of_mem _ (wx_lay w h)
  obtain ⟨H, hHe⟩ : ∃ H : Heap, H = s.heap := ⟨_, rfl⟩
  rw [← hHe] at hP
  have hS : va_S AS s.heap H [] := by rw [hHe]; exact hS
  suffices hgo : ∀ locs : List Loc, va_S AS s.heap H locs → W p l e (headSpec ws_mc_X12_closedAll ({ frames := 3, cells := 0, slots := 0, locals := 67 } : Room)).room s m [.ref (q 0)].toArray below meth c H locs 0 0 Q (F0 m 0 ls []) by
    have := hgo [] hS
    rw [hHe] at this
    exact this
  clear hS hHe
  intro locs hS
  refine lv_iconst (v := iI 0) hx hb (dk_at dkX12_closedAll_0 0 rfl) (by decide +kernel) ?_
  refine lv_istore_n (lv' := [(1, .int (iI 0)), (0, .ref (q 0))]) hx hb (dk_at dkX12_closedAll_0 1 rfl) rfl hl (by decide) rfl (fun ls hl => ?_)
  refine lv_iconst (v := iI 0) hx hb (dk_at dkX12_closedAll_0 2 rfl) (by decide +kernel) ?_
  refine lv_istore_n (lv' := [(2, .int (iI 0)), (1, .int (iI 0)), (0, .ref (q 0))]) hx hb (dk_at dkX12_closedAll_0 3 rfl) rfl hl (by decide) rfl (fun ls hl => ?_)
  have L4_5 : ∀ (n7 : Nat) (z1 z2 : Int) (H : Heap) (locs : List Loc) (ls : Array Slot), (0 ≤ z1) → (0 ≤ z1 ∧ z1 ≤ 2147483647) → (-2147483648 ≤ z2 ∧ z2 ≤ 2147483647) → (∀ (z : Int), (∃ mm1 : Nat, (d_X12_closedAll_1 A z mm1 z1 z2)) → r_X12_closedAll A z) → ((A 4 ((A 0 12)).toNat - z1 + 1).toNat = n7) → va_P (dC, dI) vwCl (WM cI cJ cZ q A) H → va_S AS s.heap H locs → lv_has ls 3 [(2, .int (iI z1)), (1, .int (iI z2)), (0, .ref (q 0))] → W p l e (headSpec ws_mc_X12_closedAll ({ frames := 3, cells := 0, slots := 0, locals := 67 } : Room)).room s m [.ref (q 0)].toArray below meth c H locs 0 0 Q (F0 m 4 ls []) := by
    intro n7
    induction n7 using Nat.strongRecOn with
    | ind n7 ih6 =>
      intro z1 z2 H locs ls f8 f9 f10 hk1 hn7 hP hS hl
      refine lv_iload_n hx hb (dk_at dkX12_closedAll_0 4 rfl) rfl (lv_at hl 0 rfl) ?_
      refine lv_aload_n hx hb (dk_at dkX12_closedAll_0 5 rfl) rfl (lv_at hl 2 rfl) ?_
      refine va_get (D := (dC, dI)) (ci := 12) (v := .ref (q 4)) (C := RX12) (T := TX12) (N := 85) hx hb hts hiX12 hown hK hP 0 wm0 rfl 15 (by decide) (hts _ (List.mem_cons_of_mem _ wlq_1_13)) (fun _ h9 => h9) rfl (dk_at dkX12_closedAll_0 6 rfl) ?_
      refine lv_aload_n hx hb (dk_at dkX12_closedAll_0 7 rfl) rfl (lv_at hl 2 rfl) ?_
      refine va_get (D := (dC, dI)) (ci := 12) (v := .int (iI (A 0 12))) (C := RX12) (T := TX12) (N := 85) hx hb hts hiX12 hown hK hP 0 wm0 rfl 12 (by decide) (hts _ (List.mem_cons_of_mem _ wlq_4_14)) (fun _ h9 => h9) rfl (dk_at dkX12_closedAll_0 8 rfl) ?_
      have r_A_0_12 : (0 : Int) ≤ (A 0 12) ∧ (A 0 12) ≤ 1 := hI 0 12
      refine x_iald hx hb hK hP 4 1 wm4 rfl (by omega) (by decide) (dk_at dkX12_closedAll_0 9 rfl) (fun z11 hz11 => ?_)
      have rz11 : (0 : Int) ≤ z11 ∧ z11 ≤ 10 := by rw [hz11]; exact hI 4 _
      have gz11 := Hd.mk hz11
      have hz11 : z11 = A 4 ((A 0 12)).toNat := hz11
      refine lv_icmp_ge (tgt := 39) hx hb (dk_at dkX12_closedAll_0 10 rfl) (by decide) (fun c12 => ?_) (fun c12 => ?_)
      · have c12 : z11 ≤ z1 := (i_le (rb rz11 (by decide) (by decide)) (rb f9 (by decide) (by decide))).mp c12
        refine lv_iload_n hx hb (dk_at dkX12_closedAll_1 7 rfl) rfl (lv_at hl 1 rfl) ?_
        exact RET z2 _ _ _ _ _ ⟨rfl, hk1 _ ⟨0 + 1, (u_d_X12_closedAll_1 ⟨f9, ⟨f10, ⟨z11, gz11.out, (Or.inl ⟨c12, rfl⟩)⟩⟩⟩)⟩, by omega⟩ hP hS (dk_at dkX12_closedAll_1 8 rfl)
      · have c12 : ¬ z11 ≤ z1 := mt (i_le (rb rz11 (by decide) (by decide)) (rb f9 (by decide) (by decide))).mpr c12
        refine lv_iload_n hx hb (dk_at dkX12_closedAll_0 11 rfl) rfl (lv_at hl 1 rfl) ?_
        refine lv_aload_n hx hb (dk_at dkX12_closedAll_0 12 rfl) rfl (lv_at hl 2 rfl) ?_
        refine lv_iload_n hx hb (dk_at dkX12_closedAll_0 13 rfl) rfl (lv_at hl 0 rfl) ?_
        refine x_calli (As := [.int (iI z1)]) (rest := [.int (iI z2)]) ⟨hx, hb, hml, hown, hts⟩ (mc_X12_isShut l dC dI cB cI cJ cZ cQ q _ z1 hI (by omega)) (cwV 1 hts (goodV wlq_4_57 wlq_4_58 wlq_4_59 wlq_0_8 wlq_4_48) rfl rfl rfl (by decide +kernel) ⟨Nat.le_of_ble_eq_true rfl, Nat.le_of_ble_eq_true rfl⟩) hK hDD hA0 hP hS 0 12 wm0 rfl rfl hl.1 (Nat.le_of_ble_eq_true rfl) (dk_at dkX12_closedAll_0 14 rfl) (fun z13 A14 H locs hw15 hP hS => ?_)
        obtain ⟨rfl, hw15⟩ := hw15
        have ghw15 : q_X12_isShut z1 A z13 := hw15
        have hw15 := hw15.2
        have J31_17 : ∀ (z18 : Int) (H : Heap) (locs : List Loc) (ls : Array Slot), (0 ≤ z18 ∧ z18 ≤ 1) → ((z18 = 0 ∧ z13 = 0) ∨ (z18 = 1 ∧ ¬ z13 = 0)) → (∀ (z : Int), (∃ mm1 : Nat, (d_X12_closedAll_2 (fun z1' z2' => d_X12_closedAll_1 A z mm1 z1' z2') z1 z2 z z18)) → r_X12_closedAll A z) → va_P (dC, dI) vwCl (WM cI cJ cZ q A) H → va_S AS s.heap H locs → lv_has ls 3 [(2, .int (iI z1)), (1, .int (iI z2)), (0, .ref (q 0))] → W p l e (headSpec ws_mc_X12_closedAll ({ frames := 3, cells := 0, slots := 0, locals := 67 } : Room)).room s m [.ref (q 0)].toArray below meth c H locs 0 0 Q (F0 m 31 ls [.int (iI z18), .int (iI z2)]) := by
          intro z18 H locs ls f20 f21 hk2 hP hS hl
          refine x_addv (v := z2 + z18) hx hb (dk_at dkX12_closedAll_1 3 rfl) (by omega) ?_
          refine x_absE (fun z22 gz22 hz22 => ?_)
          refine lv_istore_n (lv' := [(1, .int (iI z22)), (2, .int (iI z1)), (0, .ref (q 0))]) hx hb (dk_at dkX12_closedAll_1 4 rfl) rfl hl (by decide) rfl (fun ls hl => ?_)
          refine lv_iinc (v := iI (z1 + 1)) (lv' := [(2, .int (iI (z1 + 1))), (1, .int (iI z22)), (0, .ref (q 0))]) hx hb (dk_at dkX12_closedAll_1 5 rfl) hl (k := 1) rfl (i_inc (by omega)) (by decide) rfl (fun ls hl => ?_)
          refine lv_goto (tgt := 4) hx hb (dk_at dkX12_closedAll_1 6 rfl) (by decide) ?_
          exact ih6 _ (by omega) (z1 + 1) z22 _ _ _ (by omega) (by omega) (by omega) (fun zq ⟨mm1, hq⟩ => hk2 _ ⟨mm1, (u_d_X12_closedAll_2 ⟨f20, ⟨z22, gz22.out, hq⟩⟩)⟩) rfl hP hS (lv_sub hl [0, 1, 2] rfl)
        refine lv_if_eq (tgt := 30) hx hb (dk_at dkX12_closedAll_0 15 rfl) (by decide) (fun c16 => ?_) (fun c16 => ?_)
        · have c16 : z13 = 0 := (i_eq0 (rb hw15 (by decide) (by decide))).mp c16
          refine lv_iconst (v := iI 0) hx hb (dk_at dkX12_closedAll_1 2 rfl) (by decide +kernel) ?_
          exact J31_17 0 _ _ _ (by omega) (by omega) (fun zq ⟨mm1, hq⟩ => hk1 _ ⟨mm1 + 1, (u_d_X12_closedAll_1 ⟨f9, ⟨f10, ⟨z11, gz11.out, (Or.inr ⟨c12, ⟨z13, ghw15, (Or.inl ⟨c16, hq⟩)⟩⟩)⟩⟩⟩)⟩) hP hS (lv_sub hl [0, 1, 2] rfl)
        · have c16 : ¬ z13 = 0 := mt (i_eq0 (rb hw15 (by decide) (by decide))).mpr c16
          refine lv_iconst (v := iI 1) hx hb (dk_at dkX12_closedAll_1 0 rfl) (by decide +kernel) ?_
          refine lv_goto (tgt := 31) hx hb (dk_at dkX12_closedAll_1 1 rfl) (by decide) ?_
          exact J31_17 1 _ _ _ (by omega) (by omega) (fun zq ⟨mm1, hq⟩ => hk1 _ ⟨mm1 + 1, (u_d_X12_closedAll_1 ⟨f9, ⟨f10, ⟨z11, gz11.out, (Or.inr ⟨c12, ⟨z13, ghw15, (Or.inr ⟨c16, hq⟩)⟩⟩)⟩⟩⟩)⟩) hP hS (lv_sub hl [0, 1, 2] rfl)
  exact L4_5 _ 0 0 _ _ _ (by omega) (by omega) (by omega) (fun zq ⟨mm1, hq⟩ => (u_r_X12_closedAll ⟨mm1, hq⟩)) rfl hP hS (lv_sub hl [0, 1, 2] rfl)

abbrev tr_d_X12_has_2 (K1 : Int → Int → Prop) (z13 : Int) (z14 : Int) (z : Int) (z30 : Int) : Prop := ((0 ≤ z30 ∧ z30 ≤ 1) ∧ (∃ z34 : Int, z34 = oWrap (z14 + z30) ∧ (K1 (z13 + 1) z34)))
def d_X12_has_2 (K1 : Int → Int → Prop) (z13 : Int) (z14 : Int) (z : Int) (z30 : Int) : Prop := tr_d_X12_has_2 K1 z13 z14 z z30
theorem u_d_X12_has_2 {K1 : Int → Int → Prop} {z13 : Int} {z14 : Int} {z : Int} {z30 : Int} (h : tr_d_X12_has_2 K1 z13 z14 z z30) : d_X12_has_2 K1 z13 z14 z z30 := h
abbrev tr_d_X12_has_1 (A : St) (z : Int) (K1 : Int → Int → Prop) (z13 : Int) (z14 : Int) : Prop := ((0 ≤ z13 ∧ z13 ≤ 2147483647) ∧ ((-2147483648 ≤ z14 ∧ z14 ≤ 2147483647) ∧ (∃ z23 : Int, z23 = A 4 ((A 0 12)).toNat ∧ (((z23 ≤ z13) ∧ (z = z14)) ∨ ((¬ z23 ≤ z13) ∧ (∃ z25 : Int, q_X12_isDead z13 A z25 ∧ (((z25 = 0) ∧ (d_X12_has_2 K1 z13 z14 z 0)) ∨ ((¬ z25 = 0) ∧ (d_X12_has_2 K1 z13 z14 z 1)))))))))
def d_X12_has_1 (A : St) (z : Int) : Nat → Int → Int → Prop
  | 0, _, _ => False
  | nn9 + 1, z13, z14 => tr_d_X12_has_1 A z (fun z13 z14 => d_X12_has_1 A z nn9 z13 z14) z13 z14
theorem u_d_X12_has_1 {A : St} {z : Int} {nn9 : Nat} {z13 : Int} {z14 : Int} (h : tr_d_X12_has_1 A z (fun z13 z14 => d_X12_has_1 A z nn9 z13 z14) z13 z14) : d_X12_has_1 A z (nn9 + 1) z13 z14 := h
abbrev tr_r_X12_has (x1 : Int) (A : St) (z : Int) : Prop := (((x1 < 0 ∨ 9 < x1) ∧ (z = (-1))) ∨ (x1 = 0 ∧ (∃ z2 : Int, z2 = A 2 ((A 0 12)).toNat ∧ (z = z2))) ∨ (x1 = 1 ∧ (∃ z3 : Int, z3 = A 4 ((A 0 12)).toNat ∧ (z = z3))) ∨ (x1 = 2 ∧ (∃ z4 : Int, z4 = A 11 ((A 0 12)).toNat ∧ (z = z4))) ∨ (x1 = 3 ∧ (∃ z5 : Int, z5 = A 16 ((A 0 12)).toNat ∧ (z = z5))) ∨ (x1 = 4 ∧ (∃ z6 : Int, z6 = A 19 ((A 0 12)).toNat ∧ (z = z6))) ∨ (x1 = 5 ∧ (∃ z7 : Int, z7 = A 22 ((A 0 12)).toNat ∧ (z = z7))) ∨ (x1 = 6 ∧ (∃ z8 : Int, z8 = A 25 ((A 0 12)).toNat ∧ (z = z8))) ∨ (x1 = 7 ∧ (∃ z9 : Int, z9 = A 29 ((A 0 12)).toNat ∧ (z = z9))) ∨ (x1 = 8 ∧ (∃ z10 : Int, q_X12_closedAll A z10 ∧ (z = z10))) ∨ (x1 = 9 ∧ (∃ nn9 : Nat, d_X12_has_1 A z nn9 0 0)))
def r_X12_has (x1 : Int) (A : St) (z : Int) : Prop := tr_r_X12_has x1 A z
theorem u_r_X12_has {x1 : Int} {A : St} {z : Int} (h : tr_r_X12_has x1 A z) : r_X12_has x1 A z := h
def ws_mc_X12_has : List Cond := .code yX12_has cX12_has 4 (some .int) :: WX
set_option maxHeartbeats 4000000 in
set_option maxRecDepth 100000 in
theorem mc_X12_has (l : Launch) (dC : Nat → ClassId) (dI : Nat → Nat → Nat) (cB cI cJ cZ cQ : ClassId) (q : Nat → Nat) (A : St) (x1 : Int) (hI : IM A) (hx1 : (-2147483648 : Int) ≤ x1 ∧ x1 ≤ 2147483647) : XMi l yX12_has ws_mc_X12_has ({ frames := 4, cells := 0, slots := 0, locals := 89 } : Room) (dC, dI) (tyA cB cI cJ cZ cQ) (WM cI cJ cZ q) A [.ref (q 0), .int (iI x1)] (fun z u => A = u ∧ r_X12_has x1 A z ∧ (-2147483648 ≤ z ∧ z ≤ 2147483647)) := by
  refine x_meti (cc := cX12_has) (maxL := 4) WM_adr (by decide +kernel) rfl (Nat.le_of_ble_eq_true rfl) (fun p e s m below meth c Q AS ls hx hb hml hown hts hK hDD hA0 hP hS hl RET => ?_)
  have hown : s.vm.findClass RX12 = some m.cls := hown
  have hl : lv_has ls 4 [(0, .ref (q 0)), (1, .int (iI x1))] := hl
  have hiX12 : ∀ w ∈ u_ws RX12 TX12 85, w ∈ ws_mc_X12_has := fun w h => List.mem_cons_of_mem _ (wx_lay w h)
  obtain ⟨H, hHe⟩ : ∃ H : Heap, H = s.heap := ⟨_, rfl⟩
  rw [← hHe] at hP
  have hS : va_S AS s.heap H [] := by rw [hHe]; exact hS
  suffices hgo : ∀ locs : List Loc, va_S AS s.heap H locs → W p l e (headSpec ws_mc_X12_has ({ frames := 4, cells := 0, slots := 0, locals := 89 } : Room)).room s m [.ref (q 0), .int (iI x1)].toArray below meth c H locs 0 0 Q (F0 m 0 ls []) by
    have := hgo [] hS
    rw [hHe] at this
    exact this
  clear hS hHe
  intro locs hS
  refine lv_iconst (v := iI 0) hx hb (dk_at dkX12_has_0 0 rfl) (by decide +kernel) ?_
  refine lv_istore_n (lv' := [(2, .int (iI 0)), (0, .ref (q 0)), (1, .int (iI x1))]) hx hb (dk_at dkX12_has_0 1 rfl) rfl hl (by decide) rfl (fun ls hl => ?_)
  refine lv_iload_n hx hb (dk_at dkX12_has_0 2 rfl) rfl (lv_at hl 2 rfl) ?_
  rcases (show (x1 < 0 ∨ 9 < x1) ∨ x1 = 0 ∨ x1 = 1 ∨ x1 = 2 ∨ x1 = 3 ∨ x1 = 4 ∨ x1 = 5 ∨ x1 = 6 ∨ x1 = 7 ∨ x1 = 8 ∨ x1 = 9 by omega) with c1 | c1 | c1 | c1 | c1 | c1 | c1 | c1 | c1 | c1 | c1
  · refine lv_tableOut (tgt := 180) hx hb (dk_at dkX12_has_0 3 rfl) (by rw [iI_toInt hx1]; exact c1) (by decide) ?_
    refine lv_iconst (v := iI (-1)) hx hb (dk_at dkX12_has_4 14 rfl) (by decide +kernel) ?_
    exact RET (-1) _ _ _ _ _ ⟨rfl, (u_r_X12_has (Or.inl ⟨c1, rfl⟩)), by omega⟩ hP hS (dk_at dkX12_has_4 15 rfl)
  · refine tp_i (y := iI 0) (congrArg iI c1) ?_
    refine lv_tableIn (off := 53) (tgt := 56) hx hb (dk_at dkX12_has_0 3 rfl) (by decide +kernel) (by decide +kernel) (by decide +kernel) (by decide) ?_
    refine lv_aload_n hx hb (dk_at dkX12_has_0 4 rfl) rfl (lv_at hl 1 rfl) ?_
    refine va_get (D := (dC, dI)) (ci := 12) (v := .ref (q 2)) (C := RX12) (T := TX12) (N := 85) hx hb hts hiX12 hown hK hP 0 wm0 rfl 13 (by decide) (hts _ (List.mem_cons_of_mem _ wlq_1_11)) (fun _ h9 => h9) rfl (dk_at dkX12_has_0 5 rfl) ?_
    refine lv_aload_n hx hb (dk_at dkX12_has_0 6 rfl) rfl (lv_at hl 1 rfl) ?_
    refine va_get (D := (dC, dI)) (ci := 12) (v := .int (iI (A 0 12))) (C := RX12) (T := TX12) (N := 85) hx hb hts hiX12 hown hK hP 0 wm0 rfl 12 (by decide) (hts _ (List.mem_cons_of_mem _ wlq_4_14)) (fun _ h9 => h9) rfl (dk_at dkX12_has_0 7 rfl) ?_
    have r_A_0_12 : (0 : Int) ≤ (A 0 12) ∧ (A 0 12) ≤ 1 := hI 0 12
    refine x_iald hx hb hK hP 2 1 wm2 rfl (by omega) (by decide) (dk_at dkX12_has_0 8 rfl) (fun z2 hz2 => ?_)
    have rz2 : (0 : Int) ≤ z2 ∧ z2 ≤ 8 := by rw [hz2]; exact hI 2 _
    have gz2 := Hd.mk hz2
    have hz2 : z2 = A 2 ((A 0 12)).toNat := hz2
    exact RET z2 _ _ _ _ _ ⟨rfl, (u_r_X12_has (Or.inr (Or.inl ⟨c1, ⟨z2, gz2.out, rfl⟩⟩))), by omega⟩ hP hS (dk_at dkX12_has_0 9 rfl)
  · refine tp_i (y := iI 1) (congrArg iI c1) ?_
    refine lv_tableIn (off := 63) (tgt := 66) hx hb (dk_at dkX12_has_0 3 rfl) (by decide +kernel) (by decide +kernel) (by decide +kernel) (by decide) ?_
    refine lv_aload_n hx hb (dk_at dkX12_has_0 10 rfl) rfl (lv_at hl 1 rfl) ?_
    refine va_get (D := (dC, dI)) (ci := 12) (v := .ref (q 4)) (C := RX12) (T := TX12) (N := 85) hx hb hts hiX12 hown hK hP 0 wm0 rfl 15 (by decide) (hts _ (List.mem_cons_of_mem _ wlq_1_13)) (fun _ h9 => h9) rfl (dk_at dkX12_has_0 11 rfl) ?_
    refine lv_aload_n hx hb (dk_at dkX12_has_0 12 rfl) rfl (lv_at hl 1 rfl) ?_
    refine va_get (D := (dC, dI)) (ci := 12) (v := .int (iI (A 0 12))) (C := RX12) (T := TX12) (N := 85) hx hb hts hiX12 hown hK hP 0 wm0 rfl 12 (by decide) (hts _ (List.mem_cons_of_mem _ wlq_4_14)) (fun _ h9 => h9) rfl (dk_at dkX12_has_0 13 rfl) ?_
    have r_A_0_12 : (0 : Int) ≤ (A 0 12) ∧ (A 0 12) ≤ 1 := hI 0 12
    refine x_iald hx hb hK hP 4 1 wm4 rfl (by omega) (by decide) (dk_at dkX12_has_0 14 rfl) (fun z3 hz3 => ?_)
    have rz3 : (0 : Int) ≤ z3 ∧ z3 ≤ 10 := by rw [hz3]; exact hI 4 _
    have gz3 := Hd.mk hz3
    have hz3 : z3 = A 4 ((A 0 12)).toNat := hz3
    exact RET z3 _ _ _ _ _ ⟨rfl, (u_r_X12_has (Or.inr (Or.inr (Or.inl ⟨c1, ⟨z3, gz3.out, rfl⟩⟩)))), by omega⟩ hP hS (dk_at dkX12_has_0 15 rfl)
  · refine tp_i (y := iI 2) (congrArg iI c1) ?_
    refine lv_tableIn (off := 73) (tgt := 76) hx hb (dk_at dkX12_has_0 3 rfl) (by decide +kernel) (by decide +kernel) (by decide +kernel) (by decide) ?_
    refine lv_aload_n hx hb (dk_at dkX12_has_1 0 rfl) rfl (lv_at hl 1 rfl) ?_
    refine va_get (D := (dC, dI)) (ci := 12) (v := .ref (q 11)) (C := RX12) (T := TX12) (N := 85) hx hb hts hiX12 hown hK hP 0 wm0 rfl 22 (by decide) (hts _ (List.mem_cons_of_mem _ wlq_1_14)) (fun _ h9 => h9) rfl (dk_at dkX12_has_1 1 rfl) ?_
    refine lv_aload_n hx hb (dk_at dkX12_has_1 2 rfl) rfl (lv_at hl 1 rfl) ?_
    refine va_get (D := (dC, dI)) (ci := 12) (v := .int (iI (A 0 12))) (C := RX12) (T := TX12) (N := 85) hx hb hts hiX12 hown hK hP 0 wm0 rfl 12 (by decide) (hts _ (List.mem_cons_of_mem _ wlq_4_14)) (fun _ h9 => h9) rfl (dk_at dkX12_has_1 3 rfl) ?_
    have r_A_0_12 : (0 : Int) ≤ (A 0 12) ∧ (A 0 12) ≤ 1 := hI 0 12
    refine x_iald hx hb hK hP 11 1 wm11 rfl (by omega) (by decide) (dk_at dkX12_has_1 4 rfl) (fun z4 hz4 => ?_)
    have rz4 : (0 : Int) ≤ z4 ∧ z4 ≤ 4 := by rw [hz4]; exact hI 11 _
    have gz4 := Hd.mk hz4
    have hz4 : z4 = A 11 ((A 0 12)).toNat := hz4
    exact RET z4 _ _ _ _ _ ⟨rfl, (u_r_X12_has (Or.inr (Or.inr (Or.inr (Or.inl ⟨c1, ⟨z4, gz4.out, rfl⟩⟩))))), by omega⟩ hP hS (dk_at dkX12_has_1 5 rfl)
  · refine tp_i (y := iI 3) (congrArg iI c1) ?_
    refine lv_tableIn (off := 83) (tgt := 86) hx hb (dk_at dkX12_has_0 3 rfl) (by decide +kernel) (by decide +kernel) (by decide +kernel) (by decide) ?_
    refine lv_aload_n hx hb (dk_at dkX12_has_1 6 rfl) rfl (lv_at hl 1 rfl) ?_
    refine va_get (D := (dC, dI)) (ci := 12) (v := .ref (q 16)) (C := RX12) (T := TX12) (N := 85) hx hb hts hiX12 hown hK hP 0 wm0 rfl 27 (by decide) (hts _ (List.mem_cons_of_mem _ wlq_1_15)) (fun _ h9 => h9) rfl (dk_at dkX12_has_1 7 rfl) ?_
    refine lv_aload_n hx hb (dk_at dkX12_has_1 8 rfl) rfl (lv_at hl 1 rfl) ?_
    refine va_get (D := (dC, dI)) (ci := 12) (v := .int (iI (A 0 12))) (C := RX12) (T := TX12) (N := 85) hx hb hts hiX12 hown hK hP 0 wm0 rfl 12 (by decide) (hts _ (List.mem_cons_of_mem _ wlq_4_14)) (fun _ h9 => h9) rfl (dk_at dkX12_has_1 9 rfl) ?_
    have r_A_0_12 : (0 : Int) ≤ (A 0 12) ∧ (A 0 12) ≤ 1 := hI 0 12
    refine x_iald hx hb hK hP 16 1 wm16 rfl (by omega) (by decide) (dk_at dkX12_has_1 10 rfl) (fun z5 hz5 => ?_)
    have rz5 : (0 : Int) ≤ z5 ∧ z5 ≤ 3 := by rw [hz5]; exact hI 16 _
    have gz5 := Hd.mk hz5
    have hz5 : z5 = A 16 ((A 0 12)).toNat := hz5
    exact RET z5 _ _ _ _ _ ⟨rfl, (u_r_X12_has (Or.inr (Or.inr (Or.inr (Or.inr (Or.inl ⟨c1, ⟨z5, gz5.out, rfl⟩⟩)))))), by omega⟩ hP hS (dk_at dkX12_has_1 11 rfl)
  · refine tp_i (y := iI 4) (congrArg iI c1) ?_
    refine lv_tableIn (off := 93) (tgt := 96) hx hb (dk_at dkX12_has_0 3 rfl) (by decide +kernel) (by decide +kernel) (by decide +kernel) (by decide) ?_
    refine lv_aload_n hx hb (dk_at dkX12_has_1 12 rfl) rfl (lv_at hl 1 rfl) ?_
    refine va_get (D := (dC, dI)) (ci := 12) (v := .ref (q 19)) (C := RX12) (T := TX12) (N := 85) hx hb hts hiX12 hown hK hP 0 wm0 rfl 30 (by decide) (hts _ (List.mem_cons_of_mem _ wlq_1_16)) (fun _ h9 => h9) rfl (dk_at dkX12_has_1 13 rfl) ?_
    refine lv_aload_n hx hb (dk_at dkX12_has_1 14 rfl) rfl (lv_at hl 1 rfl) ?_
    refine va_get (D := (dC, dI)) (ci := 12) (v := .int (iI (A 0 12))) (C := RX12) (T := TX12) (N := 85) hx hb hts hiX12 hown hK hP 0 wm0 rfl 12 (by decide) (hts _ (List.mem_cons_of_mem _ wlq_4_14)) (fun _ h9 => h9) rfl (dk_at dkX12_has_1 15 rfl) ?_
    have r_A_0_12 : (0 : Int) ≤ (A 0 12) ∧ (A 0 12) ≤ 1 := hI 0 12
    refine x_iald hx hb hK hP 19 1 wm19 rfl (by omega) (by decide) (dk_at dkX12_has_2 0 rfl) (fun z6 hz6 => ?_)
    have rz6 : (0 : Int) ≤ z6 ∧ z6 ≤ 4 := by rw [hz6]; exact hI 19 _
    have gz6 := Hd.mk hz6
    have hz6 : z6 = A 19 ((A 0 12)).toNat := hz6
    exact RET z6 _ _ _ _ _ ⟨rfl, (u_r_X12_has (Or.inr (Or.inr (Or.inr (Or.inr (Or.inr (Or.inl ⟨c1, ⟨z6, gz6.out, rfl⟩⟩))))))), by omega⟩ hP hS (dk_at dkX12_has_2 1 rfl)
  · refine tp_i (y := iI 5) (congrArg iI c1) ?_
    refine lv_tableIn (off := 103) (tgt := 106) hx hb (dk_at dkX12_has_0 3 rfl) (by decide +kernel) (by decide +kernel) (by decide +kernel) (by decide) ?_
    refine lv_aload_n hx hb (dk_at dkX12_has_2 2 rfl) rfl (lv_at hl 1 rfl) ?_
    refine va_get (D := (dC, dI)) (ci := 12) (v := .ref (q 22)) (C := RX12) (T := TX12) (N := 85) hx hb hts hiX12 hown hK hP 0 wm0 rfl 33 (by decide) (hts _ (List.mem_cons_of_mem _ wlq_3_16)) (fun _ h9 => h9) rfl (dk_at dkX12_has_2 3 rfl) ?_
    refine lv_aload_n hx hb (dk_at dkX12_has_2 4 rfl) rfl (lv_at hl 1 rfl) ?_
    refine va_get (D := (dC, dI)) (ci := 12) (v := .int (iI (A 0 12))) (C := RX12) (T := TX12) (N := 85) hx hb hts hiX12 hown hK hP 0 wm0 rfl 12 (by decide) (hts _ (List.mem_cons_of_mem _ wlq_4_14)) (fun _ h9 => h9) rfl (dk_at dkX12_has_2 5 rfl) ?_
    have r_A_0_12 : (0 : Int) ≤ (A 0 12) ∧ (A 0 12) ≤ 1 := hI 0 12
    refine x_iald hx hb hK hP 22 1 wm22 rfl (by omega) (by decide) (dk_at dkX12_has_2 6 rfl) (fun z7 hz7 => ?_)
    have rz7 : (0 : Int) ≤ z7 ∧ z7 ≤ 6 := by rw [hz7]; exact hI 22 _
    have gz7 := Hd.mk hz7
    have hz7 : z7 = A 22 ((A 0 12)).toNat := hz7
    exact RET z7 _ _ _ _ _ ⟨rfl, (u_r_X12_has (Or.inr (Or.inr (Or.inr (Or.inr (Or.inr (Or.inr (Or.inl ⟨c1, ⟨z7, gz7.out, rfl⟩⟩)))))))), by omega⟩ hP hS (dk_at dkX12_has_2 7 rfl)
  · refine tp_i (y := iI 6) (congrArg iI c1) ?_
    refine lv_tableIn (off := 113) (tgt := 116) hx hb (dk_at dkX12_has_0 3 rfl) (by decide +kernel) (by decide +kernel) (by decide +kernel) (by decide) ?_
    refine lv_aload_n hx hb (dk_at dkX12_has_2 8 rfl) rfl (lv_at hl 1 rfl) ?_
    refine va_get (D := (dC, dI)) (ci := 12) (v := .ref (q 25)) (C := RX12) (T := TX12) (N := 85) hx hb hts hiX12 hown hK hP 0 wm0 rfl 36 (by decide) (hts _ (List.mem_cons_of_mem _ wlq_3_20)) (fun _ h9 => h9) rfl (dk_at dkX12_has_2 9 rfl) ?_
    refine lv_aload_n hx hb (dk_at dkX12_has_2 10 rfl) rfl (lv_at hl 1 rfl) ?_
    refine va_get (D := (dC, dI)) (ci := 12) (v := .int (iI (A 0 12))) (C := RX12) (T := TX12) (N := 85) hx hb hts hiX12 hown hK hP 0 wm0 rfl 12 (by decide) (hts _ (List.mem_cons_of_mem _ wlq_4_14)) (fun _ h9 => h9) rfl (dk_at dkX12_has_2 11 rfl) ?_
    have r_A_0_12 : (0 : Int) ≤ (A 0 12) ∧ (A 0 12) ≤ 1 := hI 0 12
    refine x_iald hx hb hK hP 25 1 wm25 rfl (by omega) (by decide) (dk_at dkX12_has_2 12 rfl) (fun z8 hz8 => ?_)
    have rz8 : (0 : Int) ≤ z8 ∧ z8 ≤ 6 := by rw [hz8]; exact hI 25 _
    have gz8 := Hd.mk hz8
    have hz8 : z8 = A 25 ((A 0 12)).toNat := hz8
    exact RET z8 _ _ _ _ _ ⟨rfl, (u_r_X12_has (Or.inr (Or.inr (Or.inr (Or.inr (Or.inr (Or.inr (Or.inr (Or.inl ⟨c1, ⟨z8, gz8.out, rfl⟩⟩))))))))), by omega⟩ hP hS (dk_at dkX12_has_2 13 rfl)
  · refine tp_i (y := iI 7) (congrArg iI c1) ?_
    refine lv_tableIn (off := 123) (tgt := 126) hx hb (dk_at dkX12_has_0 3 rfl) (by decide +kernel) (by decide +kernel) (by decide +kernel) (by decide) ?_
    refine lv_aload_n hx hb (dk_at dkX12_has_2 14 rfl) rfl (lv_at hl 1 rfl) ?_
    refine va_get (D := (dC, dI)) (ci := 12) (v := .ref (q 29)) (C := RX12) (T := TX12) (N := 85) hx hb hts hiX12 hown hK hP 0 wm0 rfl 40 (by decide) (hts _ (List.mem_cons_of_mem _ wlq_3_25)) (fun _ h9 => h9) rfl (dk_at dkX12_has_2 15 rfl) ?_
    refine lv_aload_n hx hb (dk_at dkX12_has_3 0 rfl) rfl (lv_at hl 1 rfl) ?_
    refine va_get (D := (dC, dI)) (ci := 12) (v := .int (iI (A 0 12))) (C := RX12) (T := TX12) (N := 85) hx hb hts hiX12 hown hK hP 0 wm0 rfl 12 (by decide) (hts _ (List.mem_cons_of_mem _ wlq_4_14)) (fun _ h9 => h9) rfl (dk_at dkX12_has_3 1 rfl) ?_
    have r_A_0_12 : (0 : Int) ≤ (A 0 12) ∧ (A 0 12) ≤ 1 := hI 0 12
    refine x_iald hx hb hK hP 29 1 wm29 rfl (by omega) (by decide) (dk_at dkX12_has_3 2 rfl) (fun z9 hz9 => ?_)
    have rz9 : (0 : Int) ≤ z9 ∧ z9 ≤ 6 := by rw [hz9]; exact hI 29 _
    have gz9 := Hd.mk hz9
    have hz9 : z9 = A 29 ((A 0 12)).toNat := hz9
    exact RET z9 _ _ _ _ _ ⟨rfl, (u_r_X12_has (Or.inr (Or.inr (Or.inr (Or.inr (Or.inr (Or.inr (Or.inr (Or.inr (Or.inl ⟨c1, ⟨z9, gz9.out, rfl⟩⟩)))))))))), by omega⟩ hP hS (dk_at dkX12_has_3 3 rfl)
  · refine tp_i (y := iI 8) (congrArg iI c1) ?_
    refine lv_tableIn (off := 133) (tgt := 136) hx hb (dk_at dkX12_has_0 3 rfl) (by decide +kernel) (by decide +kernel) (by decide +kernel) (by decide) ?_
    refine lv_aload_n hx hb (dk_at dkX12_has_3 4 rfl) rfl (lv_at hl 1 rfl) ?_
    refine x_calli (As := []) (rest := []) ⟨hx, hb, hml, hown, hts⟩ (mc_X12_closedAll l dC dI cB cI cJ cZ cQ q _ hI) (cwV 0 hts (goodV wlq_5_1 wlq_5_2 wlq_5_3 wlq_0_8 wlq_4_56) rfl rfl rfl (by decide +kernel) ⟨Nat.le_of_ble_eq_true rfl, Nat.le_of_ble_eq_true rfl⟩) hK hDD hA0 hP hS 0 12 wm0 rfl rfl hl.1 (Nat.le_of_ble_eq_true rfl) (dk_at dkX12_has_3 5 rfl) (fun z10 A11 H locs hw12 hP hS => ?_)
    obtain ⟨rfl, hw12⟩ := hw12
    have ghw12 : q_X12_closedAll A z10 := hw12
    have hw12 := hw12.2
    exact RET z10 _ _ _ _ _ ⟨rfl, (u_r_X12_has (Or.inr (Or.inr (Or.inr (Or.inr (Or.inr (Or.inr (Or.inr (Or.inr (Or.inr (Or.inl ⟨c1, ⟨z10, ghw12, rfl⟩⟩))))))))))), by omega⟩ hP hS (dk_at dkX12_has_3 6 rfl)
  · refine tp_i (y := iI 9) (congrArg iI c1) ?_
    refine lv_tableIn (off := 138) (tgt := 141) hx hb (dk_at dkX12_has_0 3 rfl) (by decide +kernel) (by decide +kernel) (by decide +kernel) (by decide) ?_
    refine lv_iconst (v := iI 0) hx hb (dk_at dkX12_has_3 7 rfl) (by decide +kernel) ?_
    refine lv_istore_n (lv' := [(3, .int (iI 0)), (2, .int (iI 0)), (0, .ref (q 0)), (1, .int (iI x1))]) hx hb (dk_at dkX12_has_3 8 rfl) rfl hl (by decide) rfl (fun ls hl => ?_)
    have L143_17 : ∀ (n19 : Nat) (z13 z14 : Int) (H : Heap) (locs : List Loc) (ls : Array Slot), (0 ≤ z13) → (0 ≤ z13 ∧ z13 ≤ 2147483647) → (-2147483648 ≤ z14 ∧ z14 ≤ 2147483647) → (∀ (z : Int), (∃ mm1 : Nat, (d_X12_has_1 A z mm1 z13 z14)) → r_X12_has x1 A z) → ((A 4 ((A 0 12)).toNat - z13 + 1).toNat = n19) → va_P (dC, dI) vwCl (WM cI cJ cZ q A) H → va_S AS s.heap H locs → lv_has ls 4 [(3, .int (iI z13)), (2, .int (iI z14)), (0, .ref (q 0)), (1, .int (iI x1))] → W p l e (headSpec ws_mc_X12_has ({ frames := 4, cells := 0, slots := 0, locals := 89 } : Room)).room s m [.ref (q 0), .int (iI x1)].toArray below meth c H locs 0 0 Q (F0 m 143 ls []) := by
      intro n19
      induction n19 using Nat.strongRecOn with
      | ind n19 ih18 =>
        intro z13 z14 H locs ls f20 f21 f22 hk1 hn19 hP hS hl
        refine lv_iload_n hx hb (dk_at dkX12_has_3 9 rfl) rfl (lv_at hl 0 rfl) ?_
        refine lv_aload_n hx hb (dk_at dkX12_has_3 10 rfl) rfl (lv_at hl 2 rfl) ?_
        refine va_get (D := (dC, dI)) (ci := 12) (v := .ref (q 4)) (C := RX12) (T := TX12) (N := 85) hx hb hts hiX12 hown hK hP 0 wm0 rfl 15 (by decide) (hts _ (List.mem_cons_of_mem _ wlq_1_13)) (fun _ h9 => h9) rfl (dk_at dkX12_has_3 11 rfl) ?_
        refine lv_aload_n hx hb (dk_at dkX12_has_3 12 rfl) rfl (lv_at hl 2 rfl) ?_
        refine va_get (D := (dC, dI)) (ci := 12) (v := .int (iI (A 0 12))) (C := RX12) (T := TX12) (N := 85) hx hb hts hiX12 hown hK hP 0 wm0 rfl 12 (by decide) (hts _ (List.mem_cons_of_mem _ wlq_4_14)) (fun _ h9 => h9) rfl (dk_at dkX12_has_3 13 rfl) ?_
        have r_A_0_12 : (0 : Int) ≤ (A 0 12) ∧ (A 0 12) ≤ 1 := hI 0 12
        refine x_iald hx hb hK hP 4 1 wm4 rfl (by omega) (by decide) (dk_at dkX12_has_3 14 rfl) (fun z23 hz23 => ?_)
        have rz23 : (0 : Int) ≤ z23 ∧ z23 ≤ 10 := by rw [hz23]; exact hI 4 _
        have gz23 := Hd.mk hz23
        have hz23 : z23 = A 4 ((A 0 12)).toNat := hz23
        refine lv_icmp_ge (tgt := 178) hx hb (dk_at dkX12_has_3 15 rfl) (by decide) (fun c24 => ?_) (fun c24 => ?_)
        · have c24 : z23 ≤ z13 := (i_le (rb rz23 (by decide) (by decide)) (rb f21 (by decide) (by decide))).mp c24
          refine lv_iload_n hx hb (dk_at dkX12_has_4 12 rfl) rfl (lv_at hl 1 rfl) ?_
          exact RET z14 _ _ _ _ _ ⟨rfl, hk1 _ ⟨0 + 1, (u_d_X12_has_1 ⟨f21, ⟨f22, ⟨z23, gz23.out, (Or.inl ⟨c24, rfl⟩)⟩⟩⟩)⟩, by omega⟩ hP hS (dk_at dkX12_has_4 13 rfl)
        · have c24 : ¬ z23 ≤ z13 := mt (i_le (rb rz23 (by decide) (by decide)) (rb f21 (by decide) (by decide))).mpr c24
          refine lv_iload_n hx hb (dk_at dkX12_has_4 0 rfl) rfl (lv_at hl 1 rfl) ?_
          refine lv_aload_n hx hb (dk_at dkX12_has_4 1 rfl) rfl (lv_at hl 2 rfl) ?_
          refine lv_iload_n hx hb (dk_at dkX12_has_4 2 rfl) rfl (lv_at hl 0 rfl) ?_
          refine x_calli (As := [.int (iI z13)]) (rest := [.int (iI z14)]) ⟨hx, hb, hml, hown, hts⟩ (mc_X12_isDead l dC dI cB cI cJ cZ cQ q _ z13 hI (by omega)) (cwV 1 hts (goodV wlq_5_4 wlq_5_5 wlq_5_6 wlq_0_8 wlq_4_55) rfl rfl rfl (by decide +kernel) ⟨Nat.le_of_ble_eq_true rfl, Nat.le_of_ble_eq_true rfl⟩) hK hDD hA0 hP hS 0 12 wm0 rfl rfl hl.1 (Nat.le_of_ble_eq_true rfl) (dk_at dkX12_has_4 3 rfl) (fun z25 A26 H locs hw27 hP hS => ?_)
          obtain ⟨rfl, hw27⟩ := hw27
          have ghw27 : q_X12_isDead z13 A z25 := hw27
          have hw27 := hw27.2
          have J170_29 : ∀ (z30 : Int) (H : Heap) (locs : List Loc) (ls : Array Slot), (0 ≤ z30 ∧ z30 ≤ 1) → ((z30 = 0 ∧ z25 = 0) ∨ (z30 = 1 ∧ ¬ z25 = 0)) → (∀ (z : Int), (∃ mm1 : Nat, (d_X12_has_2 (fun z13' z14' => d_X12_has_1 A z mm1 z13' z14') z13 z14 z z30)) → r_X12_has x1 A z) → va_P (dC, dI) vwCl (WM cI cJ cZ q A) H → va_S AS s.heap H locs → lv_has ls 4 [(3, .int (iI z13)), (2, .int (iI z14)), (0, .ref (q 0)), (1, .int (iI x1))] → W p l e (headSpec ws_mc_X12_has ({ frames := 4, cells := 0, slots := 0, locals := 89 } : Room)).room s m [.ref (q 0), .int (iI x1)].toArray below meth c H locs 0 0 Q (F0 m 170 ls [.int (iI z30), .int (iI z14)]) := by
            intro z30 H locs ls f32 f33 hk2 hP hS hl
            refine x_addv (v := z14 + z30) hx hb (dk_at dkX12_has_4 8 rfl) (by omega) ?_
            refine x_absE (fun z34 gz34 hz34 => ?_)
            refine lv_istore_n (lv' := [(2, .int (iI z34)), (3, .int (iI z13)), (0, .ref (q 0)), (1, .int (iI x1))]) hx hb (dk_at dkX12_has_4 9 rfl) rfl hl (by decide) rfl (fun ls hl => ?_)
            refine lv_iinc (v := iI (z13 + 1)) (lv' := [(3, .int (iI (z13 + 1))), (2, .int (iI z34)), (0, .ref (q 0)), (1, .int (iI x1))]) hx hb (dk_at dkX12_has_4 10 rfl) hl (k := 1) rfl (i_inc (by omega)) (by decide) rfl (fun ls hl => ?_)
            refine lv_goto (tgt := 143) hx hb (dk_at dkX12_has_4 11 rfl) (by decide) ?_
            exact ih18 _ (by omega) (z13 + 1) z34 _ _ _ (by omega) (by omega) (by omega) (fun zq ⟨mm1, hq⟩ => hk2 _ ⟨mm1, (u_d_X12_has_2 ⟨f32, ⟨z34, gz34.out, hq⟩⟩)⟩) rfl hP hS (lv_sub hl [0, 1, 2, 3] rfl)
          refine lv_if_eq (tgt := 169) hx hb (dk_at dkX12_has_4 4 rfl) (by decide) (fun c28 => ?_) (fun c28 => ?_)
          · have c28 : z25 = 0 := (i_eq0 (rb hw27 (by decide) (by decide))).mp c28
            refine lv_iconst (v := iI 0) hx hb (dk_at dkX12_has_4 7 rfl) (by decide +kernel) ?_
            exact J170_29 0 _ _ _ (by omega) (by omega) (fun zq ⟨mm1, hq⟩ => hk1 _ ⟨mm1 + 1, (u_d_X12_has_1 ⟨f21, ⟨f22, ⟨z23, gz23.out, (Or.inr ⟨c24, ⟨z25, ghw27, (Or.inl ⟨c28, hq⟩)⟩⟩)⟩⟩⟩)⟩) hP hS (lv_sub hl [0, 1, 2, 3] rfl)
          · have c28 : ¬ z25 = 0 := mt (i_eq0 (rb hw27 (by decide) (by decide))).mpr c28
            refine lv_iconst (v := iI 1) hx hb (dk_at dkX12_has_4 5 rfl) (by decide +kernel) ?_
            refine lv_goto (tgt := 170) hx hb (dk_at dkX12_has_4 6 rfl) (by decide) ?_
            exact J170_29 1 _ _ _ (by omega) (by omega) (fun zq ⟨mm1, hq⟩ => hk1 _ ⟨mm1 + 1, (u_d_X12_has_1 ⟨f21, ⟨f22, ⟨z23, gz23.out, (Or.inr ⟨c24, ⟨z25, ghw27, (Or.inr ⟨c28, hq⟩)⟩⟩)⟩⟩⟩)⟩) hP hS (lv_sub hl [0, 1, 2, 3] rfl)
    exact L143_17 _ 0 0 _ _ _ (by omega) (by omega) (by omega) (fun zq ⟨mm1, hq⟩ => (u_r_X12_has (Or.inr (Or.inr (Or.inr (Or.inr (Or.inr (Or.inr (Or.inr (Or.inr (Or.inr (Or.inr ⟨c1, ⟨mm1, hq⟩⟩)))))))))))) rfl hP hS (lv_sub hl [0, 1, 2, 3] rfl)

abbrev tr_r_X12_manyOf (x1 : Int) (A : St) (z : Int) : Prop := (((x1 = 0) ∧ (∃ z2 : Int, z2 = A 2 ((A 0 12)).toNat ∧ (z = z2))) ∨ ((x1 = 1) ∧ (∃ z5 : Int, z5 = A 4 ((A 0 12)).toNat ∧ (z = z5))) ∨ ((x1 = 2) ∧ (∃ z9 : Int, z9 = A 11 ((A 0 12)).toNat ∧ (z = z9))) ∨ ((x1 = 3) ∧ (∃ z14 : Int, z14 = A 16 ((A 0 12)).toNat ∧ (z = z14))) ∨ ((x1 = 4) ∧ (∃ z19 : Int, z19 = A 19 ((A 0 12)).toNat ∧ (z = z19))))
def r_X12_manyOf (x1 : Int) (A : St) (z : Int) : Prop := tr_r_X12_manyOf x1 A z
theorem u_r_X12_manyOf {x1 : Int} {A : St} {z : Int} (h : tr_r_X12_manyOf x1 A z) : r_X12_manyOf x1 A z := h
def q_X12_manyOf (x1 : Int) (A : St) (z : Int) : Prop := r_X12_manyOf x1 A z ∧ (0 ≤ z ∧ z ≤ 10 ∧ (x1 = 0 → z ≤ 8) ∧ (x1 = 2 → z ≤ 4) ∧ (x1 = 3 → z ≤ 3) ∧ (x1 = 4 → z ≤ 4))
def ws_mc_X12_manyOf : List Cond := .code yX12_manyOf cX12_manyOf 2 (some .int) :: WX
set_option maxHeartbeats 4000000 in
set_option maxRecDepth 100000 in
theorem mc_X12_manyOf (l : Launch) (dC : Nat → ClassId) (dI : Nat → Nat → Nat) (cB cI cJ cZ cQ : ClassId) (q : Nat → Nat) (A : St) (x1 : Int) (hI : IM A) (hx1 : (0 : Int) ≤ x1 ∧ x1 ≤ 4) : XMi l yX12_manyOf ws_mc_X12_manyOf ({ frames := 0, cells := 0, slots := 0, locals := 0 } : Room) (dC, dI) (tyA cB cI cJ cZ cQ) (WM cI cJ cZ q) A [.ref (q 0), .int (iI x1)] (fun z u => A = u ∧ r_X12_manyOf x1 A z ∧ (0 ≤ z ∧ z ≤ 10 ∧ (x1 = 0 → z ≤ 8) ∧ (x1 = 2 → z ≤ 4) ∧ (x1 = 3 → z ≤ 3) ∧ (x1 = 4 → z ≤ 4))) := by
  refine x_meti (cc := cX12_manyOf) (maxL := 2) WM_adr (by decide +kernel) rfl (Nat.le_of_ble_eq_true rfl) (fun p e s m below meth c Q AS ls hx hb hml hown hts hK hDD hA0 hP hS hl RET => ?_)
  have hown : s.vm.findClass RX12 = some m.cls := hown
  have hl : lv_has ls 2 [(0, .ref (q 0)), (1, .int (iI x1))] := hl
  have hiX12 : ∀ w ∈ u_ws RX12 TX12 85, w ∈ ws_mc_X12_manyOf := fun w h => List.mem_cons_of_mem _ (wx_lay w h)
  obtain ⟨H, hHe⟩ : ∃ H : Heap, H = s.heap := ⟨_, rfl⟩
  rw [← hHe] at hP
  have hS : va_S AS s.heap H [] := by rw [hHe]; exact hS
  suffices hgo : ∀ locs : List Loc, va_S AS s.heap H locs → W p l e (headSpec ws_mc_X12_manyOf ({ frames := 0, cells := 0, slots := 0, locals := 0 } : Room)).room s m [.ref (q 0), .int (iI x1)].toArray below meth c H locs 0 0 Q (F0 m 0 ls []) by
    have := hgo [] hS
    rw [hHe] at this
    exact this
  clear hS hHe
  intro locs hS
  rcases (show x1 = 0 ∨ x1 = 1 ∨ x1 = 2 ∨ x1 = 3 ∨ x1 = 4 by omega) with rfl | rfl | rfl | rfl | rfl
  · have hl : lv_has ls 2 [(0, .ref (q 0)), (1, .int (iI 0))] := hl
    refine lv_iload_n hx hb (dk_at dkX12_manyOf_0 0 rfl) rfl (lv_at hl 1 rfl) ?_
    refine lv_if_ne (tgt := 16) hx hb (dk_at dkX12_manyOf_0 1 rfl) (by decide) (fun c1 => absurd c1 (by decide +kernel)) (fun _ => ?_)
    refine lv_aload_n hx hb (dk_at dkX12_manyOf_0 2 rfl) rfl (lv_at hl 0 rfl) ?_
    refine va_get (D := (dC, dI)) (ci := 12) (v := .ref (q 2)) (C := RX12) (T := TX12) (N := 85) hx hb hts hiX12 hown hK hP 0 wm0 rfl 13 (by decide) (hts _ (List.mem_cons_of_mem _ wlq_1_11)) (fun _ h9 => h9) rfl (dk_at dkX12_manyOf_0 3 rfl) ?_
    refine lv_aload_n hx hb (dk_at dkX12_manyOf_0 4 rfl) rfl (lv_at hl 0 rfl) ?_
    refine va_get (D := (dC, dI)) (ci := 12) (v := .int (iI (A 0 12))) (C := RX12) (T := TX12) (N := 85) hx hb hts hiX12 hown hK hP 0 wm0 rfl 12 (by decide) (hts _ (List.mem_cons_of_mem _ wlq_4_14)) (fun _ h9 => h9) rfl (dk_at dkX12_manyOf_0 5 rfl) ?_
    have r_A_0_12 : (0 : Int) ≤ (A 0 12) ∧ (A 0 12) ≤ 1 := hI 0 12
    refine x_iald hx hb hK hP 2 1 wm2 rfl (by omega) (by decide) (dk_at dkX12_manyOf_0 6 rfl) (fun z2 hz2 => ?_)
    have rz2 : (0 : Int) ≤ z2 ∧ z2 ≤ 8 := by rw [hz2]; exact hI 2 _
    have gz2 := Hd.mk hz2
    have hz2 : z2 = A 2 ((A 0 12)).toNat := hz2
    refine lv_goto (tgt := 76) hx hb (dk_at dkX12_manyOf_0 7 rfl) (by decide) ?_
    exact RET z2 _ _ _ _ _ ⟨rfl, (u_r_X12_manyOf (Or.inl ⟨rfl, ⟨z2, gz2.out, rfl⟩⟩)), by omega⟩ hP hS (dk_at dkX12_manyOf_2 8 rfl)
  · have hl : lv_has ls 2 [(0, .ref (q 0)), (1, .int (iI 1))] := hl
    refine lv_iload_n hx hb (dk_at dkX12_manyOf_0 0 rfl) rfl (lv_at hl 1 rfl) ?_
    refine lv_if_ne (tgt := 16) hx hb (dk_at dkX12_manyOf_0 1 rfl) (by decide) (fun _ => ?_) (fun c3 => absurd c3 (by decide +kernel))
    refine lv_iload_n hx hb (dk_at dkX12_manyOf_0 8 rfl) rfl (lv_at hl 1 rfl) ?_
    refine lv_iconst (v := iI 1) hx hb (dk_at dkX12_manyOf_0 9 rfl) (by decide +kernel) ?_
    refine lv_icmp_ne (tgt := 33) hx hb (dk_at dkX12_manyOf_0 10 rfl) (by decide) (fun c4 => absurd c4 (by decide +kernel)) (fun _ => ?_)
    refine lv_aload_n hx hb (dk_at dkX12_manyOf_0 11 rfl) rfl (lv_at hl 0 rfl) ?_
    refine va_get (D := (dC, dI)) (ci := 12) (v := .ref (q 4)) (C := RX12) (T := TX12) (N := 85) hx hb hts hiX12 hown hK hP 0 wm0 rfl 15 (by decide) (hts _ (List.mem_cons_of_mem _ wlq_1_13)) (fun _ h9 => h9) rfl (dk_at dkX12_manyOf_0 12 rfl) ?_
    refine lv_aload_n hx hb (dk_at dkX12_manyOf_0 13 rfl) rfl (lv_at hl 0 rfl) ?_
    refine va_get (D := (dC, dI)) (ci := 12) (v := .int (iI (A 0 12))) (C := RX12) (T := TX12) (N := 85) hx hb hts hiX12 hown hK hP 0 wm0 rfl 12 (by decide) (hts _ (List.mem_cons_of_mem _ wlq_4_14)) (fun _ h9 => h9) rfl (dk_at dkX12_manyOf_0 14 rfl) ?_
    have r_A_0_12 : (0 : Int) ≤ (A 0 12) ∧ (A 0 12) ≤ 1 := hI 0 12
    refine x_iald hx hb hK hP 4 1 wm4 rfl (by omega) (by decide) (dk_at dkX12_manyOf_0 15 rfl) (fun z5 hz5 => ?_)
    have rz5 : (0 : Int) ≤ z5 ∧ z5 ≤ 10 := by rw [hz5]; exact hI 4 _
    have gz5 := Hd.mk hz5
    have hz5 : z5 = A 4 ((A 0 12)).toNat := hz5
    refine lv_goto (tgt := 76) hx hb (dk_at dkX12_manyOf_1 0 rfl) (by decide) ?_
    exact RET z5 _ _ _ _ _ ⟨rfl, (u_r_X12_manyOf (Or.inr (Or.inl ⟨rfl, ⟨z5, gz5.out, rfl⟩⟩))), by omega⟩ hP hS (dk_at dkX12_manyOf_2 8 rfl)
  · have hl : lv_has ls 2 [(0, .ref (q 0)), (1, .int (iI 2))] := hl
    refine lv_iload_n hx hb (dk_at dkX12_manyOf_0 0 rfl) rfl (lv_at hl 1 rfl) ?_
    refine lv_if_ne (tgt := 16) hx hb (dk_at dkX12_manyOf_0 1 rfl) (by decide) (fun _ => ?_) (fun c6 => absurd c6 (by decide +kernel))
    refine lv_iload_n hx hb (dk_at dkX12_manyOf_0 8 rfl) rfl (lv_at hl 1 rfl) ?_
    refine lv_iconst (v := iI 1) hx hb (dk_at dkX12_manyOf_0 9 rfl) (by decide +kernel) ?_
    refine lv_icmp_ne (tgt := 33) hx hb (dk_at dkX12_manyOf_0 10 rfl) (by decide) (fun _ => ?_) (fun c7 => absurd c7 (by decide +kernel))
    refine lv_iload_n hx hb (dk_at dkX12_manyOf_1 1 rfl) rfl (lv_at hl 1 rfl) ?_
    refine lv_iconst (v := iI 2) hx hb (dk_at dkX12_manyOf_1 2 rfl) (by decide +kernel) ?_
    refine lv_icmp_ne (tgt := 50) hx hb (dk_at dkX12_manyOf_1 3 rfl) (by decide) (fun c8 => absurd c8 (by decide +kernel)) (fun _ => ?_)
    refine lv_aload_n hx hb (dk_at dkX12_manyOf_1 4 rfl) rfl (lv_at hl 0 rfl) ?_
    refine va_get (D := (dC, dI)) (ci := 12) (v := .ref (q 11)) (C := RX12) (T := TX12) (N := 85) hx hb hts hiX12 hown hK hP 0 wm0 rfl 22 (by decide) (hts _ (List.mem_cons_of_mem _ wlq_1_14)) (fun _ h9 => h9) rfl (dk_at dkX12_manyOf_1 5 rfl) ?_
    refine lv_aload_n hx hb (dk_at dkX12_manyOf_1 6 rfl) rfl (lv_at hl 0 rfl) ?_
    refine va_get (D := (dC, dI)) (ci := 12) (v := .int (iI (A 0 12))) (C := RX12) (T := TX12) (N := 85) hx hb hts hiX12 hown hK hP 0 wm0 rfl 12 (by decide) (hts _ (List.mem_cons_of_mem _ wlq_4_14)) (fun _ h9 => h9) rfl (dk_at dkX12_manyOf_1 7 rfl) ?_
    have r_A_0_12 : (0 : Int) ≤ (A 0 12) ∧ (A 0 12) ≤ 1 := hI 0 12
    refine x_iald hx hb hK hP 11 1 wm11 rfl (by omega) (by decide) (dk_at dkX12_manyOf_1 8 rfl) (fun z9 hz9 => ?_)
    have rz9 : (0 : Int) ≤ z9 ∧ z9 ≤ 4 := by rw [hz9]; exact hI 11 _
    have gz9 := Hd.mk hz9
    have hz9 : z9 = A 11 ((A 0 12)).toNat := hz9
    refine lv_goto (tgt := 76) hx hb (dk_at dkX12_manyOf_1 9 rfl) (by decide) ?_
    exact RET z9 _ _ _ _ _ ⟨rfl, (u_r_X12_manyOf (Or.inr (Or.inr (Or.inl ⟨rfl, ⟨z9, gz9.out, rfl⟩⟩)))), by omega⟩ hP hS (dk_at dkX12_manyOf_2 8 rfl)
  · have hl : lv_has ls 2 [(0, .ref (q 0)), (1, .int (iI 3))] := hl
    refine lv_iload_n hx hb (dk_at dkX12_manyOf_0 0 rfl) rfl (lv_at hl 1 rfl) ?_
    refine lv_if_ne (tgt := 16) hx hb (dk_at dkX12_manyOf_0 1 rfl) (by decide) (fun _ => ?_) (fun c10 => absurd c10 (by decide +kernel))
    refine lv_iload_n hx hb (dk_at dkX12_manyOf_0 8 rfl) rfl (lv_at hl 1 rfl) ?_
    refine lv_iconst (v := iI 1) hx hb (dk_at dkX12_manyOf_0 9 rfl) (by decide +kernel) ?_
    refine lv_icmp_ne (tgt := 33) hx hb (dk_at dkX12_manyOf_0 10 rfl) (by decide) (fun _ => ?_) (fun c11 => absurd c11 (by decide +kernel))
    refine lv_iload_n hx hb (dk_at dkX12_manyOf_1 1 rfl) rfl (lv_at hl 1 rfl) ?_
    refine lv_iconst (v := iI 2) hx hb (dk_at dkX12_manyOf_1 2 rfl) (by decide +kernel) ?_
    refine lv_icmp_ne (tgt := 50) hx hb (dk_at dkX12_manyOf_1 3 rfl) (by decide) (fun _ => ?_) (fun c12 => absurd c12 (by decide +kernel))
    refine lv_iload_n hx hb (dk_at dkX12_manyOf_1 10 rfl) rfl (lv_at hl 1 rfl) ?_
    refine lv_iconst (v := iI 3) hx hb (dk_at dkX12_manyOf_1 11 rfl) (by decide +kernel) ?_
    refine lv_icmp_ne (tgt := 67) hx hb (dk_at dkX12_manyOf_1 12 rfl) (by decide) (fun c13 => absurd c13 (by decide +kernel)) (fun _ => ?_)
    refine lv_aload_n hx hb (dk_at dkX12_manyOf_1 13 rfl) rfl (lv_at hl 0 rfl) ?_
    refine va_get (D := (dC, dI)) (ci := 12) (v := .ref (q 16)) (C := RX12) (T := TX12) (N := 85) hx hb hts hiX12 hown hK hP 0 wm0 rfl 27 (by decide) (hts _ (List.mem_cons_of_mem _ wlq_1_15)) (fun _ h9 => h9) rfl (dk_at dkX12_manyOf_1 14 rfl) ?_
    refine lv_aload_n hx hb (dk_at dkX12_manyOf_1 15 rfl) rfl (lv_at hl 0 rfl) ?_
    refine va_get (D := (dC, dI)) (ci := 12) (v := .int (iI (A 0 12))) (C := RX12) (T := TX12) (N := 85) hx hb hts hiX12 hown hK hP 0 wm0 rfl 12 (by decide) (hts _ (List.mem_cons_of_mem _ wlq_4_14)) (fun _ h9 => h9) rfl (dk_at dkX12_manyOf_2 0 rfl) ?_
    have r_A_0_12 : (0 : Int) ≤ (A 0 12) ∧ (A 0 12) ≤ 1 := hI 0 12
    refine x_iald hx hb hK hP 16 1 wm16 rfl (by omega) (by decide) (dk_at dkX12_manyOf_2 1 rfl) (fun z14 hz14 => ?_)
    have rz14 : (0 : Int) ≤ z14 ∧ z14 ≤ 3 := by rw [hz14]; exact hI 16 _
    have gz14 := Hd.mk hz14
    have hz14 : z14 = A 16 ((A 0 12)).toNat := hz14
    refine lv_goto (tgt := 76) hx hb (dk_at dkX12_manyOf_2 2 rfl) (by decide) ?_
    exact RET z14 _ _ _ _ _ ⟨rfl, (u_r_X12_manyOf (Or.inr (Or.inr (Or.inr (Or.inl ⟨rfl, ⟨z14, gz14.out, rfl⟩⟩))))), by omega⟩ hP hS (dk_at dkX12_manyOf_2 8 rfl)
  · have hl : lv_has ls 2 [(0, .ref (q 0)), (1, .int (iI 4))] := hl
    refine lv_iload_n hx hb (dk_at dkX12_manyOf_0 0 rfl) rfl (lv_at hl 1 rfl) ?_
    refine lv_if_ne (tgt := 16) hx hb (dk_at dkX12_manyOf_0 1 rfl) (by decide) (fun _ => ?_) (fun c15 => absurd c15 (by decide +kernel))
    refine lv_iload_n hx hb (dk_at dkX12_manyOf_0 8 rfl) rfl (lv_at hl 1 rfl) ?_
    refine lv_iconst (v := iI 1) hx hb (dk_at dkX12_manyOf_0 9 rfl) (by decide +kernel) ?_
    refine lv_icmp_ne (tgt := 33) hx hb (dk_at dkX12_manyOf_0 10 rfl) (by decide) (fun _ => ?_) (fun c16 => absurd c16 (by decide +kernel))
    refine lv_iload_n hx hb (dk_at dkX12_manyOf_1 1 rfl) rfl (lv_at hl 1 rfl) ?_
    refine lv_iconst (v := iI 2) hx hb (dk_at dkX12_manyOf_1 2 rfl) (by decide +kernel) ?_
    refine lv_icmp_ne (tgt := 50) hx hb (dk_at dkX12_manyOf_1 3 rfl) (by decide) (fun _ => ?_) (fun c17 => absurd c17 (by decide +kernel))
    refine lv_iload_n hx hb (dk_at dkX12_manyOf_1 10 rfl) rfl (lv_at hl 1 rfl) ?_
    refine lv_iconst (v := iI 3) hx hb (dk_at dkX12_manyOf_1 11 rfl) (by decide +kernel) ?_
    refine lv_icmp_ne (tgt := 67) hx hb (dk_at dkX12_manyOf_1 12 rfl) (by decide) (fun _ => ?_) (fun c18 => absurd c18 (by decide +kernel))
    refine lv_aload_n hx hb (dk_at dkX12_manyOf_2 3 rfl) rfl (lv_at hl 0 rfl) ?_
    refine va_get (D := (dC, dI)) (ci := 12) (v := .ref (q 19)) (C := RX12) (T := TX12) (N := 85) hx hb hts hiX12 hown hK hP 0 wm0 rfl 30 (by decide) (hts _ (List.mem_cons_of_mem _ wlq_1_16)) (fun _ h9 => h9) rfl (dk_at dkX12_manyOf_2 4 rfl) ?_
    refine lv_aload_n hx hb (dk_at dkX12_manyOf_2 5 rfl) rfl (lv_at hl 0 rfl) ?_
    refine va_get (D := (dC, dI)) (ci := 12) (v := .int (iI (A 0 12))) (C := RX12) (T := TX12) (N := 85) hx hb hts hiX12 hown hK hP 0 wm0 rfl 12 (by decide) (hts _ (List.mem_cons_of_mem _ wlq_4_14)) (fun _ h9 => h9) rfl (dk_at dkX12_manyOf_2 6 rfl) ?_
    have r_A_0_12 : (0 : Int) ≤ (A 0 12) ∧ (A 0 12) ≤ 1 := hI 0 12
    refine x_iald hx hb hK hP 19 1 wm19 rfl (by omega) (by decide) (dk_at dkX12_manyOf_2 7 rfl) (fun z19 hz19 => ?_)
    have rz19 : (0 : Int) ≤ z19 ∧ z19 ≤ 4 := by rw [hz19]; exact hI 19 _
    have gz19 := Hd.mk hz19
    have hz19 : z19 = A 19 ((A 0 12)).toNat := hz19
    exact RET z19 _ _ _ _ _ ⟨rfl, (u_r_X12_manyOf (Or.inr (Or.inr (Or.inr (Or.inr ⟨rfl, ⟨z19, gz19.out, rfl⟩⟩))))), by omega⟩ hP hS (dk_at dkX12_manyOf_2 8 rfl)

abbrev tr_d_X12_letter_1 (x3 : Int) (z12 : Int) (z : Int) (K1 : Int → Int → Prop) (z15 : Int) (z16 : Int) : Prop := ((-9223372036854775808 ≤ z15 ∧ z15 ≤ 9223372036854775807) ∧ ((-2147483648 ≤ z16 ∧ z16 ≤ 2147483647) ∧ (∃ z23 : Int, ((-1 ≤ z23 ∧ z23 ≤ 1) ∧ (z23 = 0 ↔ z15 = 0) ∧ (z23 < 0 ↔ z15 < 0)) ∧ (((z23 = 0) ∧ (((x3 < 0) ∧ (z = (-1))) ∨ ((¬ x3 < 0) ∧ (((x3 < z16) ∧ (∃ z27 : Int, z27 = oWrap (8 * z16 - 8 * x3 - 8) ∧ (∃ z28 : Int, z28 = pUshr z12 z27 ∧ (∃ z29 : Int, z29 = pAnd z28 255 ∧ (∃ z30 : Int, z30 = oL2i z29 ∧ (z = z30)))))) ∨ ((¬ x3 < z16) ∧ (z = (-1))))))) ∨ ((¬ z23 = 0) ∧ (∃ z31 : Int, z31 = oWrap (z16 + 1) ∧ (∃ z32 : Int, z32 = (z15 % 18446744073709551616) / 256 ∧ (K1 z32 z31))))))))
def d_X12_letter_1 (x3 : Int) (z12 : Int) (z : Int) : Nat → Int → Int → Prop
  | 0, _, _ => False
  | nn9 + 1, z15, z16 => tr_d_X12_letter_1 x3 z12 z (fun z15 z16 => d_X12_letter_1 x3 z12 z nn9 z15 z16) z15 z16
theorem u_d_X12_letter_1 {x3 : Int} {z12 : Int} {z : Int} {nn9 : Nat} {z15 : Int} {z16 : Int} (h : tr_d_X12_letter_1 x3 z12 z (fun z15 z16 => d_X12_letter_1 x3 z12 z nn9 z15 z16) z15 z16) : d_X12_letter_1 x3 z12 z (nn9 + 1) z15 z16 := h
abbrev tr_r_X12_letter (x1 : Int) (x2 : Int) (x3 : Int) (A : St) (z : Int) : Prop := (∃ z1 : Int, q_X12_is x1 0 4 A z1 ∧ (((z1 = 0) ∧ (z = (-1))) ∨ ((¬ z1 = 0) ∧ (∃ z5 : Int, q_X12_manyOf x1 A z5 ∧ (∃ z8 : Int, q_X12_is x2 0 (z5 - 1) A z8 ∧ (((¬ z8 = 0) ∧ (∃ z12 : Int, q_X12_nameOf (A 0 12) x1 x2 A z12 ∧ (∃ nn9 : Nat, d_X12_letter_1 x3 z12 z nn9 z12 0))) ∨ ((z8 = 0) ∧ (z = (-1)))))))))
def r_X12_letter (x1 : Int) (x2 : Int) (x3 : Int) (A : St) (z : Int) : Prop := tr_r_X12_letter x1 x2 x3 A z
theorem u_r_X12_letter {x1 : Int} {x2 : Int} {x3 : Int} {A : St} {z : Int} (h : tr_r_X12_letter x1 x2 x3 A z) : r_X12_letter x1 x2 x3 A z := h
def ws_mc_X12_letter : List Cond := .code yX12_letter cX12_letter 9 (some .int) :: WX
set_option maxHeartbeats 4000000 in
set_option maxRecDepth 100000 in
theorem mc_X12_letter (l : Launch) (dC : Nat → ClassId) (dI : Nat → Nat → Nat) (cB cI cJ cZ cQ : ClassId) (q : Nat → Nat) (A : St) (x1 x2 x3 : Int) (hI : IM A) (hx1 : (-2147483648 : Int) ≤ x1 ∧ x1 ≤ 2147483647) (hx2 : (-2147483648 : Int) ≤ x2 ∧ x2 ≤ 2147483647) (hx3 : (-2147483648 : Int) ≤ x3 ∧ x3 ≤ 2147483647) : XMi l yX12_letter ws_mc_X12_letter ({ frames := 1, cells := 0, slots := 0, locals := 23 } : Room) (dC, dI) (tyA cB cI cJ cZ cQ) (WM cI cJ cZ q) A [.ref (q 0), .int (iI x1), .int (iI x2), .int (iI x3)] (fun z u => A = u ∧ r_X12_letter x1 x2 x3 A z ∧ (-2147483648 ≤ z ∧ z ≤ 2147483647)) := by
  refine x_meti (cc := cX12_letter) (maxL := 9) WM_adr (by decide +kernel) rfl (Nat.le_of_ble_eq_true rfl) (fun p e s m below meth c Q AS ls hx hb hml hown hts hK hDD hA0 hP hS hl RET => ?_)
  have hown : s.vm.findClass RX12 = some m.cls := hown
  have hl : lv_has ls 9 [(0, .ref (q 0)), (1, .int (iI x1)), (2, .int (iI x2)), (3, .int (iI x3))] := hl
  have hiX12 : ∀ w ∈ u_ws RX12 TX12 85, w ∈ ws_mc_X12_letter := fun w h => List.mem_cons_of_mem _ (wx_lay w h)
  obtain ⟨H, hHe⟩ : ∃ H : Heap, H = s.heap := ⟨_, rfl⟩
  rw [← hHe] at hP
  have hS : va_S AS s.heap H [] := by rw [hHe]; exact hS
  suffices hgo : ∀ locs : List Loc, va_S AS s.heap H locs → W p l e (headSpec ws_mc_X12_letter ({ frames := 1, cells := 0, slots := 0, locals := 23 } : Room)).room s m [.ref (q 0), .int (iI x1), .int (iI x2), .int (iI x3)].toArray below meth c H locs 0 0 Q (F0 m 0 ls []) by
    have := hgo [] hS
    rw [hHe] at this
    exact this
  clear hS hHe
  intro locs hS
  refine lv_iload_n hx hb (dk_at dkX12_letter_0 0 rfl) rfl (lv_at hl 1 rfl) ?_
  refine lv_iconst (v := iI 0) hx hb (dk_at dkX12_letter_0 1 rfl) (by decide +kernel) ?_
  refine lv_iconst (v := iI 4) hx hb (dk_at dkX12_letter_0 2 rfl) (by decide +kernel) ?_
  refine x_callSi (As := [.int (iI x1), .int (iI 0), .int (iI 4)]) (rest := []) ⟨hx, hb, hml, hown, hts⟩ (mc_X12_is l dC dI cB cI cJ cZ cQ q _ x1 0 4 hI hx1 ⟨by decide, by decide⟩ ⟨by decide, by decide⟩) (va_cwS 3 hts (goodS wlq_1_27 wlq_1_28 wlq_0_8 wlq_0_0) rfl rfl rfl (by decide +kernel) ⟨Nat.le_of_ble_eq_true rfl, Nat.le_of_ble_eq_true rfl⟩) hK hDD hA0 hP hS rfl hl.1 (Nat.le_of_ble_eq_true rfl) (dk_at dkX12_letter_0 3 rfl) (fun z1 A2 H locs hw3 hP hS => ?_)
  obtain ⟨rfl, hw3⟩ := hw3
  have ghw3 : q_X12_is x1 0 4 A z1 := hw3
  have hw3 := hw3.2
  have rz1 : 0 ≤ z1 ∧ z1 ≤ 1 := hw3.1
  refine lv_if_eq (tgt := 24) hx hb (dk_at dkX12_letter_0 4 rfl) (by decide) (fun c4 => ?_) (fun c4 => ?_)
  · have c4 : z1 = 0 := (i_eq0 (rb rz1 (by decide) (by decide))).mp c4
    have hw3b := mt hw3.2.mpr (by omega)
    clear hw3
    refine lv_iconst (v := iI (-1)) hx hb (dk_at dkX12_letter_0 14 rfl) (by decide +kernel) ?_
    exact RET (-1) _ _ _ _ _ ⟨rfl, (u_r_X12_letter ⟨z1, ghw3, (Or.inl ⟨c4, rfl⟩)⟩), by omega⟩ hP hS (dk_at dkX12_letter_0 15 rfl)
  · have c4 : ¬ z1 = 0 := mt (i_eq0 (rb rz1 (by decide) (by decide))).mpr c4
    have hw3b := hw3.2.mp (by omega)
    clear hw3
    refine lv_iload_n hx hb (dk_at dkX12_letter_0 5 rfl) rfl (lv_at hl 2 rfl) ?_
    refine lv_iconst (v := iI 0) hx hb (dk_at dkX12_letter_0 6 rfl) (by decide +kernel) ?_
    refine lv_aload_n hx hb (dk_at dkX12_letter_0 7 rfl) rfl (lv_at hl 0 rfl) ?_
    refine lv_iload_n hx hb (dk_at dkX12_letter_0 8 rfl) rfl (lv_at hl 1 rfl) ?_
    refine x_calli (As := [.int (iI x1)]) (rest := [.int (iI 0), .int (iI x2)]) ⟨hx, hb, hml, hown, hts⟩ (mc_X12_manyOf l dC dI cB cI cJ cZ cQ q _ x1 hI (by omega)) (cwV 1 hts (goodV wlq_5_10 wlq_5_11 wlq_5_12 wlq_0_8 wlq_5_7) rfl rfl rfl (by decide +kernel) ⟨Nat.le_of_ble_eq_true rfl, Nat.le_of_ble_eq_true rfl⟩) hK hDD hA0 hP hS 0 12 wm0 rfl rfl hl.1 (Nat.le_of_ble_eq_true rfl) (dk_at dkX12_letter_0 9 rfl) (fun z5 A6 H locs hw7 hP hS => ?_)
    obtain ⟨rfl, hw7⟩ := hw7
    have ghw7 : q_X12_manyOf x1 A z5 := hw7
    have hw7 := hw7.2
    have hw7 : 0 ≤ z5 ∧ z5 ≤ 10 := ⟨hw7.1, hw7.2.1⟩
    refine lv_iconst (v := iI 1) hx hb (dk_at dkX12_letter_0 10 rfl) (by decide +kernel) ?_
    refine x_subv (v := z5 - 1) hx hb (dk_at dkX12_letter_0 11 rfl) (by omega) ?_
    refine x_callSi (As := [.int (iI x2), .int (iI 0), .int (iI (z5 - 1))]) (rest := []) ⟨hx, hb, hml, hown, hts⟩ (mc_X12_is l dC dI cB cI cJ cZ cQ q _ x2 0 (z5 - 1) hI hx2 ⟨by decide, by decide⟩ (by omega)) (va_cwS 3 hts (goodS wlq_1_27 wlq_1_28 wlq_0_8 wlq_0_0) rfl rfl rfl (by decide +kernel) ⟨Nat.le_of_ble_eq_true rfl, Nat.le_of_ble_eq_true rfl⟩) hK hDD hA0 hP hS rfl hl.1 (Nat.le_of_ble_eq_true rfl) (dk_at dkX12_letter_0 12 rfl) (fun z8 A9 H locs hw10 hP hS => ?_)
    obtain ⟨rfl, hw10⟩ := hw10
    have ghw10 : q_X12_is x2 0 (z5 - 1) A z8 := hw10
    have hw10 := hw10.2
    have rz8 : 0 ≤ z8 ∧ z8 ≤ 1 := hw10.1
    refine lv_if_ne (tgt := 26) hx hb (dk_at dkX12_letter_0 13 rfl) (by decide) (fun c11 => ?_) (fun c11 => ?_)
    · have c11 : ¬ z8 = 0 := mt (i_eq0 (rb rz8 (by decide) (by decide))).mpr c11
      have hw10b := hw10.2.mp (by omega)
      clear hw10
      refine lv_aload_n hx hb (dk_at dkX12_letter_1 0 rfl) rfl (lv_at hl 0 rfl) ?_
      refine lv_aload_n hx hb (dk_at dkX12_letter_1 1 rfl) rfl (lv_at hl 0 rfl) ?_
      refine va_get (D := (dC, dI)) (ci := 12) (v := .int (iI (A 0 12))) (C := RX12) (T := TX12) (N := 85) hx hb hts hiX12 hown hK hP 0 wm0 rfl 12 (by decide) (hts _ (List.mem_cons_of_mem _ wlq_4_14)) (fun _ h9 => h9) rfl (dk_at dkX12_letter_1 2 rfl) ?_
      have r_A_0_12 : (0 : Int) ≤ (A 0 12) ∧ (A 0 12) ≤ 1 := hI 0 12
      refine lv_iload_n hx hb (dk_at dkX12_letter_1 3 rfl) rfl (lv_at hl 1 rfl) ?_
      refine lv_iload_n hx hb (dk_at dkX12_letter_1 4 rfl) rfl (lv_at hl 2 rfl) ?_
      refine x_calll (As := [.int (iI (A 0 12)), .int (iI x1), .int (iI x2)]) (rest := []) ⟨hx, hb, hml, hown, hts⟩ (mc_X12_nameOf l dC dI cB cI cJ cZ cQ q _ (A 0 12) x1 x2 hI r_A_0_12 (by omega) (by omega) (by omega)) (cwV 3 hts (goodV wlq_1_17 wlq_1_18 wlq_1_19 wlq_0_8 wlq_1_20) rfl rfl rfl (by decide +kernel) ⟨Nat.le_of_ble_eq_true rfl, Nat.le_of_ble_eq_true rfl⟩) hK hDD hA0 hP hS 0 12 wm0 rfl rfl hl.1 (Nat.le_of_ble_eq_true rfl) (dk_at dkX12_letter_1 5 rfl) (fun z12 A13 H locs hw14 hP hS => ?_)
      obtain ⟨rfl, hw14⟩ := hw14
      have ghw14 : q_X12_nameOf (A 0 12) x1 x2 A z12 := hw14
      have hw14 := hw14.2
      refine lv_lstore (lv' := [(4, .long (jI z12)), (0, .ref (q 0)), (1, .int (iI x1)), (2, .int (iI x2)), (3, .int (iI x3))]) hx hb (dk_at dkX12_letter_1 6 rfl) hl (by decide) rfl (fun ls hl => ?_)
      refine lv_iconst (v := iI 0) hx hb (dk_at dkX12_letter_1 7 rfl) (by decide +kernel) ?_
      refine lv_istore (lv' := [(6, .int (iI 0)), (4, .long (jI z12)), (0, .ref (q 0)), (1, .int (iI x1)), (2, .int (iI x2)), (3, .int (iI x3))]) hx hb (dk_at dkX12_letter_1 8 rfl) hl (by decide) rfl (fun ls hl => ?_)
      refine lv_lload hx hb (dk_at dkX12_letter_1 9 rfl) (lv_at hl 1 rfl) ?_
      refine lv_lstore (lv' := [(7, .long (jI z12)), (6, .int (iI 0)), (4, .long (jI z12)), (0, .ref (q 0)), (1, .int (iI x1)), (2, .int (iI x2)), (3, .int (iI x3))]) hx hb (dk_at dkX12_letter_1 10 rfl) hl (by decide) rfl (fun ls hl => ?_)
      have L45_18 : ∀ (n20 : Nat) (z15 z16 : Int) (H : Heap) (locs : List Loc) (ls : Array Slot), (-9223372036854775808 ≤ z15 ∧ z15 ≤ 9223372036854775807) → (-2147483648 ≤ z16 ∧ z16 ≤ 2147483647) → (∀ (z : Int), (∃ mm1 : Nat, (d_X12_letter_1 x3 z12 z mm1 z15 z16)) → r_X12_letter x1 x2 x3 A z) → ((z15 % 18446744073709551616).toNat = n20) → va_P (dC, dI) vwCl (WM cI cJ cZ q A) H → va_S AS s.heap H locs → lv_has ls 9 [(7, .long (jI z15)), (6, .int (iI z16)), (4, .long (jI z12)), (0, .ref (q 0)), (1, .int (iI x1)), (2, .int (iI x2)), (3, .int (iI x3))] → W p l e (headSpec ws_mc_X12_letter ({ frames := 1, cells := 0, slots := 0, locals := 23 } : Room)).room s m [.ref (q 0), .int (iI x1), .int (iI x2), .int (iI x3)].toArray below meth c H locs 0 0 Q (F0 m 45 ls []) := by
        intro n20
        induction n20 using Nat.strongRecOn with
        | ind n20 ih19 =>
          intro z15 z16 H locs ls f21 f22 hk1 hn20 hP hS hl
          refine lv_lload hx hb (dk_at dkX12_letter_1 11 rfl) (lv_at hl 0 rfl) ?_
          refine lv_lconst (v := jI 0) hx hb (dk_at dkX12_letter_1 12 rfl) (by decide +kernel) ?_
          refine x_lcmp hx hb (dk_at dkX12_letter_1 13 rfl) (by omega) (by omega) (fun z23 hz23 hz23b hz23c => ?_)
          have gz23 := Hd.mk (And.intro hz23 (And.intro hz23b hz23c))
          refine lv_if_eq (tgt := 65) hx hb (dk_at dkX12_letter_1 14 rfl) (by decide) (fun c24 => ?_) (fun c24 => ?_)
          · have c24 : z23 = 0 := (i_eq0 (by omega)).mp c24
            refine lv_iload_n hx hb (dk_at dkX12_letter_2 5 rfl) rfl (lv_at hl 6 rfl) ?_
            refine lv_if_lt (tgt := 75) hx hb (dk_at dkX12_letter_2 6 rfl) (by decide) (fun c25 => ?_) (fun c25 => ?_)
            · have c25 : x3 < 0 := (i_lt0 hx3).mp c25
              refine lv_iconst (v := iI (-1)) hx hb (dk_at dkX12_letter_2 10 rfl) (by decide +kernel) ?_
              refine lv_goto (tgt := 96) hx hb (dk_at dkX12_letter_2 11 rfl) (by decide) ?_
              exact RET (-1) _ _ _ _ _ ⟨rfl, hk1 _ ⟨0 + 1, (u_d_X12_letter_1 ⟨f21, ⟨f22, ⟨z23, gz23.out, (Or.inl ⟨c24, (Or.inl ⟨c25, rfl⟩)⟩)⟩⟩⟩)⟩, by omega⟩ hP hS (dk_at dkX12_letter_3 8 rfl)
            · have c25 : ¬ x3 < 0 := mt (i_lt0 hx3).mpr c25
              refine lv_iload_n hx hb (dk_at dkX12_letter_2 7 rfl) rfl (lv_at hl 6 rfl) ?_
              refine lv_iload hx hb (dk_at dkX12_letter_2 8 rfl) (lv_at hl 1 rfl) ?_
              refine lv_icmp_lt (tgt := 79) hx hb (dk_at dkX12_letter_2 9 rfl) (by decide) (fun c26 => ?_) (fun c26 => ?_)
              · have c26 : x3 < z16 := (i_lt hx3 f22).mp c26
                refine lv_lload hx hb (dk_at dkX12_letter_2 12 rfl) (lv_at hl 2 rfl) ?_
                refine lv_bipush (v := iI 8) hx hb (dk_at dkX12_letter_2 13 rfl) (by decide +kernel) ?_
                refine lv_iload hx hb (dk_at dkX12_letter_2 14 rfl) (lv_at hl 1 rfl) ?_
                refine lv_iconst (v := iI 1) hx hb (dk_at dkX12_letter_2 15 rfl) (by decide +kernel) ?_
                refine x_subv (v := z16 - 1) hx hb (dk_at dkX12_letter_3 0 rfl) (by omega) ?_
                refine lv_iload_n hx hb (dk_at dkX12_letter_3 1 rfl) rfl (lv_at hl 6 rfl) ?_
                refine x_subv (v := z16 - x3 - 1) hx hb (dk_at dkX12_letter_3 2 rfl) (by omega) ?_
                refine x_mulv (v := 8 * z16 - 8 * x3 - 8) hx hb (dk_at dkX12_letter_3 3 rfl) (by omega) ?_
                refine x_absE (fun z27 gz27 hz27 => ?_)
                refine lv_lushr hx hb (dk_at dkX12_letter_3 4 rfl) rfl ?_
                refine x_abslE (fun z28 gz28 hz28 => ?_)
                refine lv_ldc2 (v := 255) hx hb hown (hts _ (List.mem_cons_of_mem _ wlq_5_9)) (dk_at dkX12_letter_3 5 rfl) ?_
                refine tp_l (y := jI 255) (by decide +kernel) ?_
                refine lv_land hx hb (dk_at dkX12_letter_3 6 rfl) ?_
                refine x_abslE (fun z29 gz29 hz29 => ?_)
                refine lv_l2i hx hb (dk_at dkX12_letter_3 7 rfl) rfl ?_
                refine x_absE (fun z30 gz30 hz30 => ?_)
                exact RET z30 _ _ _ _ _ ⟨rfl, hk1 _ ⟨0 + 1, (u_d_X12_letter_1 ⟨f21, ⟨f22, ⟨z23, gz23.out, (Or.inl ⟨c24, (Or.inr ⟨c25, (Or.inl ⟨c26, ⟨z27, gz27.out, ⟨z28, gz28.out, ⟨z29, gz29.out, ⟨z30, gz30.out, rfl⟩⟩⟩⟩⟩)⟩)⟩)⟩⟩⟩)⟩, by omega⟩ hP hS (dk_at dkX12_letter_3 8 rfl)
              · have c26 : ¬ x3 < z16 := mt (i_lt hx3 f22).mpr c26
                refine lv_iconst (v := iI (-1)) hx hb (dk_at dkX12_letter_2 10 rfl) (by decide +kernel) ?_
                refine lv_goto (tgt := 96) hx hb (dk_at dkX12_letter_2 11 rfl) (by decide) ?_
                exact RET (-1) _ _ _ _ _ ⟨rfl, hk1 _ ⟨0 + 1, (u_d_X12_letter_1 ⟨f21, ⟨f22, ⟨z23, gz23.out, (Or.inl ⟨c24, (Or.inr ⟨c25, (Or.inr ⟨c26, rfl⟩)⟩)⟩)⟩⟩⟩)⟩, by omega⟩ hP hS (dk_at dkX12_letter_3 8 rfl)
          · have c24 : ¬ z23 = 0 := mt (i_eq0 (by omega)).mpr c24
            obtain ⟨z31, gz31, hz31, ez31⟩ := i_wrapE (z16 + 1)
            refine lv_iinc (v := iI z31) (lv' := [(6, .int (iI z31)), (7, .long (jI z15)), (4, .long (jI z12)), (0, .ref (q 0)), (1, .int (iI x1)), (2, .int (iI x2)), (3, .int (iI x3))]) hx hb (dk_at dkX12_letter_1 15 rfl) hl (k := 1) rfl ((i_inc (by omega)).trans ez31) (by decide) rfl (fun ls hl => ?_)
            refine lv_lload hx hb (dk_at dkX12_letter_2 0 rfl) (lv_at hl 1 rfl) ?_
            refine lv_bipush (v := iI 8) hx hb (dk_at dkX12_letter_2 1 rfl) (by decide +kernel) ?_
            refine x_lushr8 hx hb (dk_at dkX12_letter_2 2 rfl) (by omega) (fun z32 hz32 => ?_)
            refine lv_lstore (lv' := [(7, .long (jI z32)), (6, .int (iI z31)), (4, .long (jI z12)), (0, .ref (q 0)), (1, .int (iI x1)), (2, .int (iI x2)), (3, .int (iI x3))]) hx hb (dk_at dkX12_letter_2 3 rfl) hl (by decide) rfl (fun ls hl => ?_)
            refine lv_goto (tgt := 45) hx hb (dk_at dkX12_letter_2 4 rfl) (by decide) ?_
            exact ih19 _ (by omega) z32 z31 _ _ _ (by omega) (by omega) (fun zq ⟨mm1, hq⟩ => hk1 _ ⟨mm1 + 1, (u_d_X12_letter_1 ⟨f21, ⟨f22, ⟨z23, gz23.out, (Or.inr ⟨c24, ⟨z31, gz31.out, ⟨z32, hz32, hq⟩⟩⟩)⟩⟩⟩)⟩) rfl hP hS (lv_sub hl [0, 1, 2, 3, 4, 5, 6] rfl)
      exact L45_18 _ z12 0 _ _ _ (by omega) (by omega) (fun zq ⟨mm1, hq⟩ => (u_r_X12_letter ⟨z1, ghw3, (Or.inr ⟨c4, ⟨z5, ghw7, ⟨z8, ghw10, (Or.inl ⟨c11, ⟨z12, ghw14, ⟨mm1, hq⟩⟩⟩)⟩⟩⟩)⟩)) rfl hP hS (lv_sub hl [0, 1, 2, 3, 4, 5, 6] rfl)
    · have c11 : z8 = 0 := (i_eq0 (rb rz8 (by decide) (by decide))).mp c11
      have hw10b := mt hw10.2.mpr (by omega)
      clear hw10
      refine lv_iconst (v := iI (-1)) hx hb (dk_at dkX12_letter_0 14 rfl) (by decide +kernel) ?_
      exact RET (-1) _ _ _ _ _ ⟨rfl, (u_r_X12_letter ⟨z1, ghw3, (Or.inr ⟨c4, ⟨z5, ghw7, ⟨z8, ghw10, (Or.inr ⟨c11, rfl⟩)⟩⟩⟩)⟩), by omega⟩ hP hS (dk_at dkX12_letter_0 15 rfl)

abbrev tr_d_X12_door__2 (K1 : Int → Int → Prop) (z5 : Int) (z6 : Int) (z : Int) (z53 : Int) : Prop := ((0 ≤ z53 ∧ z53 ≤ 1) ∧ (∃ z57 : Int, z57 = oWrap (z6 + z53) ∧ (K1 (z5 + 1) z57)))
def d_X12_door__2 (K1 : Int → Int → Prop) (z5 : Int) (z6 : Int) (z : Int) (z53 : Int) : Prop := tr_d_X12_door__2 K1 z5 z6 z z53
theorem u_d_X12_door__2 {K1 : Int → Int → Prop} {z5 : Int} {z6 : Int} {z : Int} {z53 : Int} (h : tr_d_X12_door__2 K1 z5 z6 z z53) : d_X12_door__2 K1 z5 z6 z z53 := h
abbrev tr_d_X12_door__1 (x1 : Int) (x2 : Int) (A : St) (z : Int) (K1 : Int → Int → Prop) (z5 : Int) (z6 : Int) : Prop := ((0 ≤ z5 ∧ z5 ≤ 2147483647) ∧ ((-2147483648 ≤ z6 ∧ z6 ≤ 2147483647) ∧ (∃ z15 : Int, z15 = A 11 ((A 0 12)).toNat ∧ (((z15 ≤ z5) ∧ (((x2 < 0 ∨ 7 < x2) ∧ (z = (-1))) ∨ (x2 = 0 ∧ (∃ z18 : Int, q_X12_door10 x1 A z18 ∧ (∃ z21 : Int, z21 = A 6 (10 * (A 0 12) + x1).toNat ∧ (z = z21)))) ∨ (x2 = 1 ∧ (∃ z22 : Int, q_X12_door10 x1 A z22 ∧ (∃ z25 : Int, z25 = A 7 (10 * (A 0 12) + x1).toNat ∧ (z = z25)))) ∨ (x2 = 2 ∧ (∃ z26 : Int, q_X12_door10 x1 A z26 ∧ (∃ z29 : Int, z29 = A 8 (10 * (A 0 12) + x1).toNat ∧ (((z29 = 0) ∧ (z = 0)) ∨ ((¬ z29 = 0) ∧ (z = 1)))))) ∨ (x2 = 3 ∧ (∃ z31 : Int, q_X12_door10 x1 A z31 ∧ (∃ z34 : Int, z34 = A 9 (10 * (A 0 12) + x1).toNat ∧ (z = z34)))) ∨ (x2 = 4 ∧ (∃ z35 : Int, q_X12_isShut x1 A z35 ∧ (((z35 = 0) ∧ (z = 0)) ∨ ((¬ z35 = 0) ∧ (z = 1))))) ∨ (x2 = 5 ∧ (z = z6)) ∨ (x2 = 6 ∧ (∃ z39 : Int, q_X12_door10 x1 A z39 ∧ (∃ z42 : Int, z42 = A 10 (10 * (A 0 12) + x1).toNat ∧ (((z42 = 0) ∧ (z = 0)) ∨ ((¬ z42 = 0) ∧ (z = 1)))))) ∨ (x2 = 7 ∧ (∃ z44 : Int, q_X12_isDead x1 A z44 ∧ (((z44 = 0) ∧ (z = 0)) ∨ ((¬ z44 = 0) ∧ (z = 1))))))) ∨ ((¬ z15 ≤ z5) ∧ (∃ z48 : Int, q_X12_inRow z5 x1 A z48 ∧ (((z48 = 0) ∧ (d_X12_door__2 K1 z5 z6 z 0)) ∨ ((¬ z48 = 0) ∧ (d_X12_door__2 K1 z5 z6 z 1)))))))))
def d_X12_door__1 (x1 : Int) (x2 : Int) (A : St) (z : Int) : Nat → Int → Int → Prop
  | 0, _, _ => False
  | nn9 + 1, z5, z6 => tr_d_X12_door__1 x1 x2 A z (fun z5 z6 => d_X12_door__1 x1 x2 A z nn9 z5 z6) z5 z6
theorem u_d_X12_door__1 {x1 : Int} {x2 : Int} {A : St} {z : Int} {nn9 : Nat} {z5 : Int} {z6 : Int} (h : tr_d_X12_door__1 x1 x2 A z (fun z5 z6 => d_X12_door__1 x1 x2 A z nn9 z5 z6) z5 z6) : d_X12_door__1 x1 x2 A z (nn9 + 1) z5 z6 := h
abbrev tr_r_X12_door_ (x1 : Int) (x2 : Int) (A : St) (z : Int) : Prop := (∃ z1 : Int, q_X12_isDoor x1 A z1 ∧ (((¬ z1 = 0) ∧ (∃ nn9 : Nat, d_X12_door__1 x1 x2 A z nn9 0 0)) ∨ ((z1 = 0) ∧ (z = (-1)))))
def r_X12_door_ (x1 : Int) (x2 : Int) (A : St) (z : Int) : Prop := tr_r_X12_door_ x1 x2 A z
theorem u_r_X12_door_ {x1 : Int} {x2 : Int} {A : St} {z : Int} (h : tr_r_X12_door_ x1 x2 A z) : r_X12_door_ x1 x2 A z := h
def ws_mc_X12_door_ : List Cond := .code yX12_door_ cX12_door_ 5 (some .int) :: WX
set_option maxHeartbeats 4000000 in
set_option maxRecDepth 100000 in
theorem mc_X12_door_ (l : Launch) (dC : Nat → ClassId) (dI : Nat → Nat → Nat) (cB cI cJ cZ cQ : ClassId) (q : Nat → Nat) (A : St) (x1 x2 : Int) (hI : IM A) (hx1 : (-2147483648 : Int) ≤ x1 ∧ x1 ≤ 2147483647) (hx2 : (-2147483648 : Int) ≤ x2 ∧ x2 ≤ 2147483647) : XMi l yX12_door_ ws_mc_X12_door_ ({ frames := 3, cells := 0, slots := 0, locals := 67 } : Room) (dC, dI) (tyA cB cI cJ cZ cQ) (WM cI cJ cZ q) A [.ref (q 0), .int (iI x1), .int (iI x2)] (fun z u => A = u ∧ r_X12_door_ x1 x2 A z ∧ (-2147483648 ≤ z ∧ z ≤ 2147483647)) := by
  refine x_meti (cc := cX12_door_) (maxL := 5) WM_adr (by decide +kernel) rfl (Nat.le_of_ble_eq_true rfl) (fun p e s m below meth c Q AS ls hx hb hml hown hts hK hDD hA0 hP hS hl RET => ?_)
  have hown : s.vm.findClass RX12 = some m.cls := hown
  have hl : lv_has ls 5 [(0, .ref (q 0)), (1, .int (iI x1)), (2, .int (iI x2))] := hl
  have hiX12 : ∀ w ∈ u_ws RX12 TX12 85, w ∈ ws_mc_X12_door_ := fun w h => List.mem_cons_of_mem _ (wx_lay w h)
  obtain ⟨H, hHe⟩ : ∃ H : Heap, H = s.heap := ⟨_, rfl⟩
  rw [← hHe] at hP
  have hS : va_S AS s.heap H [] := by rw [hHe]; exact hS
  suffices hgo : ∀ locs : List Loc, va_S AS s.heap H locs → W p l e (headSpec ws_mc_X12_door_ ({ frames := 3, cells := 0, slots := 0, locals := 67 } : Room)).room s m [.ref (q 0), .int (iI x1), .int (iI x2)].toArray below meth c H locs 0 0 Q (F0 m 0 ls []) by
    have := hgo [] hS
    rw [hHe] at this
    exact this
  clear hS hHe
  intro locs hS
  refine lv_aload_n hx hb (dk_at dkX12_door__0 0 rfl) rfl (lv_at hl 0 rfl) ?_
  refine lv_iload_n hx hb (dk_at dkX12_door__0 1 rfl) rfl (lv_at hl 1 rfl) ?_
  have r_A_0_12 : (0 : Int) ≤ (A 0 12) ∧ (A 0 12) ≤ 1 := hI 0 12
  refine x_calli (As := [.int (iI x1)]) (rest := []) ⟨hx, hb, hml, hown, hts⟩ (mc_X12_isDoorB l dC dI cB cI cJ cZ cQ q _ x1 hI hx1) (cwV 1 hts (goodV wlq_5_14 wlq_5_15 wlq_5_16 wlq_0_8 wlq_4_38) rfl rfl rfl (by decide +kernel) ⟨Nat.le_of_ble_eq_true rfl, Nat.le_of_ble_eq_true rfl⟩) hK hDD hA0 hP hS 0 12 wm0 rfl rfl hl.1 (Nat.le_of_ble_eq_true rfl) (dk_at dkX12_door__0 2 rfl) (fun z1 A2 H locs hw3 hP hS => ?_)
  obtain ⟨rfl, hw3⟩ := hw3
  have ghw3 : q_X12_isDoor x1 A z1 := hw3
  have hw3 := hw3.2
  have rz1 : 0 ≤ z1 ∧ z1 ≤ 1 := hw3.1
  refine lv_if_ne (tgt := 10) hx hb (dk_at dkX12_door__0 3 rfl) (by decide) (fun c4 => ?_) (fun c4 => ?_)
  · have c4 : ¬ z1 = 0 := mt (i_eq0 (rb rz1 (by decide) (by decide))).mpr c4
    have hw3b := hw3.2.mp (by omega)
    clear hw3
    refine lv_iconst (v := iI 0) hx hb (dk_at dkX12_door__0 6 rfl) (by decide +kernel) ?_
    refine lv_istore_n (lv' := [(3, .int (iI 0)), (0, .ref (q 0)), (1, .int (iI x1)), (2, .int (iI x2))]) hx hb (dk_at dkX12_door__0 7 rfl) rfl hl (by decide) rfl (fun ls hl => ?_)
    refine lv_iconst (v := iI 0) hx hb (dk_at dkX12_door__0 8 rfl) (by decide +kernel) ?_
    refine lv_istore (lv' := [(4, .int (iI 0)), (3, .int (iI 0)), (0, .ref (q 0)), (1, .int (iI x1)), (2, .int (iI x2))]) hx hb (dk_at dkX12_door__0 9 rfl) hl (by decide) rfl (fun ls hl => ?_)
    have L15_9 : ∀ (n11 : Nat) (z5 z6 : Int) (H : Heap) (locs : List Loc) (ls : Array Slot), (0 ≤ z5) → (0 ≤ z5 ∧ z5 ≤ 2147483647) → (-2147483648 ≤ z6 ∧ z6 ≤ 2147483647) → (∀ (z : Int), (∃ mm1 : Nat, (d_X12_door__1 x1 x2 A z mm1 z5 z6)) → r_X12_door_ x1 x2 A z) → ((A 11 ((A 0 12)).toNat - z5 + 1).toNat = n11) → va_P (dC, dI) vwCl (WM cI cJ cZ q A) H → va_S AS s.heap H locs → lv_has ls 5 [(4, .int (iI z5)), (3, .int (iI z6)), (0, .ref (q 0)), (1, .int (iI x1)), (2, .int (iI x2))] → W p l e (headSpec ws_mc_X12_door_ ({ frames := 3, cells := 0, slots := 0, locals := 67 } : Room)).room s m [.ref (q 0), .int (iI x1), .int (iI x2)].toArray below meth c H locs 0 0 Q (F0 m 15 ls []) := by
      intro n11
      induction n11 using Nat.strongRecOn with
      | ind n11 ih10 =>
        intro z5 z6 H locs ls f12 f13 f14 hk1 hn11 hP hS hl
        refine lv_iload hx hb (dk_at dkX12_door__0 10 rfl) (lv_at hl 0 rfl) ?_
        refine lv_aload_n hx hb (dk_at dkX12_door__0 11 rfl) rfl (lv_at hl 2 rfl) ?_
        refine va_get (D := (dC, dI)) (ci := 12) (v := .ref (q 11)) (C := RX12) (T := TX12) (N := 85) hx hb hts hiX12 hown hK hP 0 wm0 rfl 22 (by decide) (hts _ (List.mem_cons_of_mem _ wlq_1_14)) (fun _ h9 => h9) rfl (dk_at dkX12_door__0 12 rfl) ?_
        refine lv_aload_n hx hb (dk_at dkX12_door__0 13 rfl) rfl (lv_at hl 2 rfl) ?_
        refine va_get (D := (dC, dI)) (ci := 12) (v := .int (iI (A 0 12))) (C := RX12) (T := TX12) (N := 85) hx hb hts hiX12 hown hK hP 0 wm0 rfl 12 (by decide) (hts _ (List.mem_cons_of_mem _ wlq_4_14)) (fun _ h9 => h9) rfl (dk_at dkX12_door__0 14 rfl) ?_
        refine x_iald hx hb hK hP 11 1 wm11 rfl (by omega) (by decide) (dk_at dkX12_door__0 15 rfl) (fun z15 hz15 => ?_)
        have rz15 : (0 : Int) ≤ z15 ∧ z15 ≤ 4 := by rw [hz15]; exact hI 11 _
        have gz15 := Hd.mk hz15
        have hz15 : z15 = A 11 ((A 0 12)).toNat := hz15
        refine lv_icmp_ge (tgt := 53) hx hb (dk_at dkX12_door__1 0 rfl) (by decide) (fun c16 => ?_) (fun c16 => ?_)
        · have c16 : z15 ≤ z5 := (i_le (rb rz15 (by decide) (by decide)) (rb f13 (by decide) (by decide))).mp c16
          refine lv_iload_n hx hb (dk_at dkX12_door__1 14 rfl) rfl (lv_at hl 4 rfl) ?_
          rcases (show (x2 < 0 ∨ 7 < x2) ∨ x2 = 0 ∨ x2 = 1 ∨ x2 = 2 ∨ x2 = 3 ∨ x2 = 4 ∨ x2 = 5 ∨ x2 = 6 ∨ x2 = 7 by omega) with c17 | c17 | c17 | c17 | c17 | c17 | c17 | c17 | c17
          · refine lv_tableOut (tgt := 201) hx hb (dk_at dkX12_door__1 15 rfl) (by rw [iI_toInt hx2]; exact c17) (by decide) ?_
            refine lv_iconst (v := iI (-1)) hx hb (dk_at dkX12_door__5 13 rfl) (by decide +kernel) ?_
            exact RET (-1) _ _ _ _ _ ⟨rfl, hk1 _ ⟨0 + 1, (u_d_X12_door__1 ⟨f13, ⟨f14, ⟨z15, gz15.out, (Or.inl ⟨c16, (Or.inl ⟨c17, rfl⟩)⟩)⟩⟩⟩)⟩, by omega⟩ hP hS (dk_at dkX12_door__5 14 rfl)
          · refine tp_i (y := iI 0) (congrArg iI c17) ?_
            refine lv_tableIn (off := 46) (tgt := 100) hx hb (dk_at dkX12_door__1 15 rfl) (by decide +kernel) (by decide +kernel) (by decide +kernel) (by decide) ?_
            refine lv_aload_n hx hb (dk_at dkX12_door__2 0 rfl) rfl (lv_at hl 2 rfl) ?_
            refine va_get (D := (dC, dI)) (ci := 12) (v := .ref (q 6)) (C := RX12) (T := TX12) (N := 85) hx hb hts hiX12 hown hK hP 0 wm0 rfl 17 (by decide) (hts _ (List.mem_cons_of_mem _ wlq_2_39)) (fun _ h9 => h9) rfl (dk_at dkX12_door__2 1 rfl) ?_
            refine lv_aload_n hx hb (dk_at dkX12_door__2 2 rfl) rfl (lv_at hl 2 rfl) ?_
            refine lv_iload_n hx hb (dk_at dkX12_door__2 3 rfl) rfl (lv_at hl 3 rfl) ?_
            refine x_calli (As := [.int (iI x1)]) (rest := [.ref (q 6)]) ⟨hx, hb, hml, hown, hts⟩ (mc_X12_door10 l dC dI cB cI cJ cZ cQ q _ x1 hI (by omega)) (cwV 1 hts (goodV wlq_4_49 wlq_4_50 wlq_4_51 wlq_0_8 wlq_4_42) rfl rfl rfl (by decide +kernel) ⟨Nat.le_of_ble_eq_true rfl, Nat.le_of_ble_eq_true rfl⟩) hK hDD hA0 hP hS 0 12 wm0 rfl rfl hl.1 (Nat.le_of_ble_eq_true rfl) (dk_at dkX12_door__2 4 rfl) (fun z18 A19 H locs hw20 hP hS => ?_)
            obtain ⟨rfl, hw20⟩ := hw20
            have ghw20 : q_X12_door10 x1 A z18 := hw20
            have hw20 := hw20.2
            refine tp_i (y := iI (10 * (A 0 12) + x1)) (congrArg iI (show z18 = 10 * (A 0 12) + x1 by omega)) ?_
            clear hw20
            refine x_iald hx hb hK hP 6 1 wm6 rfl (by omega) (by decide) (dk_at dkX12_door__2 5 rfl) (fun z21 hz21 => ?_)
            have rz21 : (0 : Int) ≤ z21 ∧ z21 ≤ 7 := by rw [hz21]; exact hI 6 _
            have gz21 := Hd.mk hz21
            have hz21 : z21 = A 6 (10 * (A 0 12) + x1).toNat := hz21
            exact RET z21 _ _ _ _ _ ⟨rfl, hk1 _ ⟨0 + 1, (u_d_X12_door__1 ⟨f13, ⟨f14, ⟨z15, gz15.out, (Or.inl ⟨c16, (Or.inr (Or.inl ⟨c17, ⟨z18, ghw20, ⟨z21, gz21.out, rfl⟩⟩⟩))⟩)⟩⟩⟩)⟩, by omega⟩ hP hS (dk_at dkX12_door__2 6 rfl)
          · refine tp_i (y := iI 1) (congrArg iI c17) ?_
            refine lv_tableIn (off := 57) (tgt := 111) hx hb (dk_at dkX12_door__1 15 rfl) (by decide +kernel) (by decide +kernel) (by decide +kernel) (by decide) ?_
            refine lv_aload_n hx hb (dk_at dkX12_door__2 7 rfl) rfl (lv_at hl 2 rfl) ?_
            refine va_get (D := (dC, dI)) (ci := 12) (v := .ref (q 7)) (C := RX12) (T := TX12) (N := 85) hx hb hts hiX12 hown hK hP 0 wm0 rfl 18 (by decide) (hts _ (List.mem_cons_of_mem _ wlq_2_40)) (fun _ h9 => h9) rfl (dk_at dkX12_door__2 8 rfl) ?_
            refine lv_aload_n hx hb (dk_at dkX12_door__2 9 rfl) rfl (lv_at hl 2 rfl) ?_
            refine lv_iload_n hx hb (dk_at dkX12_door__2 10 rfl) rfl (lv_at hl 3 rfl) ?_
            refine x_calli (As := [.int (iI x1)]) (rest := [.ref (q 7)]) ⟨hx, hb, hml, hown, hts⟩ (mc_X12_door10 l dC dI cB cI cJ cZ cQ q _ x1 hI (by omega)) (cwV 1 hts (goodV wlq_4_49 wlq_4_50 wlq_4_51 wlq_0_8 wlq_4_42) rfl rfl rfl (by decide +kernel) ⟨Nat.le_of_ble_eq_true rfl, Nat.le_of_ble_eq_true rfl⟩) hK hDD hA0 hP hS 0 12 wm0 rfl rfl hl.1 (Nat.le_of_ble_eq_true rfl) (dk_at dkX12_door__2 11 rfl) (fun z22 A23 H locs hw24 hP hS => ?_)
            obtain ⟨rfl, hw24⟩ := hw24
            have ghw24 : q_X12_door10 x1 A z22 := hw24
            have hw24 := hw24.2
            refine tp_i (y := iI (10 * (A 0 12) + x1)) (congrArg iI (show z22 = 10 * (A 0 12) + x1 by omega)) ?_
            clear hw24
            refine x_iald hx hb hK hP 7 1 wm7 rfl (by omega) (by decide) (dk_at dkX12_door__2 12 rfl) (fun z25 hz25 => ?_)
            have rz25 : (0 : Int) ≤ z25 ∧ z25 ≤ 7 := by rw [hz25]; exact hI 7 _
            have gz25 := Hd.mk hz25
            have hz25 : z25 = A 7 (10 * (A 0 12) + x1).toNat := hz25
            exact RET z25 _ _ _ _ _ ⟨rfl, hk1 _ ⟨0 + 1, (u_d_X12_door__1 ⟨f13, ⟨f14, ⟨z15, gz15.out, (Or.inl ⟨c16, (Or.inr (Or.inr (Or.inl ⟨c17, ⟨z22, ghw24, ⟨z25, gz25.out, rfl⟩⟩⟩)))⟩)⟩⟩⟩)⟩, by omega⟩ hP hS (dk_at dkX12_door__2 13 rfl)
          · refine tp_i (y := iI 2) (congrArg iI c17) ?_
            refine lv_tableIn (off := 68) (tgt := 122) hx hb (dk_at dkX12_door__1 15 rfl) (by decide +kernel) (by decide +kernel) (by decide +kernel) (by decide) ?_
            refine lv_aload_n hx hb (dk_at dkX12_door__2 14 rfl) rfl (lv_at hl 2 rfl) ?_
            refine va_get (D := (dC, dI)) (ci := 12) (v := .ref (q 8)) (C := RX12) (T := TX12) (N := 85) hx hb hts hiX12 hown hK hP 0 wm0 rfl 19 (by decide) (hts _ (List.mem_cons_of_mem _ wlq_2_41)) (fun _ h9 => h9) rfl (dk_at dkX12_door__2 15 rfl) ?_
            refine lv_aload_n hx hb (dk_at dkX12_door__3 0 rfl) rfl (lv_at hl 2 rfl) ?_
            refine lv_iload_n hx hb (dk_at dkX12_door__3 1 rfl) rfl (lv_at hl 3 rfl) ?_
            refine x_calli (As := [.int (iI x1)]) (rest := [.ref (q 8)]) ⟨hx, hb, hml, hown, hts⟩ (mc_X12_door10 l dC dI cB cI cJ cZ cQ q _ x1 hI (by omega)) (cwV 1 hts (goodV wlq_4_49 wlq_4_50 wlq_4_51 wlq_0_8 wlq_4_42) rfl rfl rfl (by decide +kernel) ⟨Nat.le_of_ble_eq_true rfl, Nat.le_of_ble_eq_true rfl⟩) hK hDD hA0 hP hS 0 12 wm0 rfl rfl hl.1 (Nat.le_of_ble_eq_true rfl) (dk_at dkX12_door__3 2 rfl) (fun z26 A27 H locs hw28 hP hS => ?_)
            obtain ⟨rfl, hw28⟩ := hw28
            have ghw28 : q_X12_door10 x1 A z26 := hw28
            have hw28 := hw28.2
            refine tp_i (y := iI (10 * (A 0 12) + x1)) (congrArg iI (show z26 = 10 * (A 0 12) + x1 by omega)) ?_
            clear hw28
            refine x_zald hx hb hK hP 8 3 wm8 rfl (by omega) (by decide) (dk_at dkX12_door__3 3 rfl) (fun z29 hz29 => ?_)
            have rz29 : (0 : Int) ≤ z29 ∧ z29 ≤ 1 := by rw [hz29]; exact hI 8 _
            have gz29 := Hd.mk hz29
            have hz29 : z29 = A 8 (10 * (A 0 12) + x1).toNat := hz29
            refine lv_if_eq (tgt := 139) hx hb (dk_at dkX12_door__3 4 rfl) (by decide) (fun c30 => ?_) (fun c30 => ?_)
            · have c30 : z29 = 0 := (i_eq0 (rb rz29 (by decide) (by decide))).mp c30
              refine lv_iconst (v := iI 0) hx hb (dk_at dkX12_door__3 7 rfl) (by decide +kernel) ?_
              exact RET 0 _ _ _ _ _ ⟨rfl, hk1 _ ⟨0 + 1, (u_d_X12_door__1 ⟨f13, ⟨f14, ⟨z15, gz15.out, (Or.inl ⟨c16, (Or.inr (Or.inr (Or.inr (Or.inl ⟨c17, ⟨z26, ghw28, ⟨z29, gz29.out, (Or.inl ⟨c30, rfl⟩)⟩⟩⟩))))⟩)⟩⟩⟩)⟩, by omega⟩ hP hS (dk_at dkX12_door__3 8 rfl)
            · have c30 : ¬ z29 = 0 := mt (i_eq0 (rb rz29 (by decide) (by decide))).mpr c30
              refine lv_iconst (v := iI 1) hx hb (dk_at dkX12_door__3 5 rfl) (by decide +kernel) ?_
              refine lv_goto (tgt := 140) hx hb (dk_at dkX12_door__3 6 rfl) (by decide) ?_
              exact RET 1 _ _ _ _ _ ⟨rfl, hk1 _ ⟨0 + 1, (u_d_X12_door__1 ⟨f13, ⟨f14, ⟨z15, gz15.out, (Or.inl ⟨c16, (Or.inr (Or.inr (Or.inr (Or.inl ⟨c17, ⟨z26, ghw28, ⟨z29, gz29.out, (Or.inr ⟨c30, rfl⟩)⟩⟩⟩))))⟩)⟩⟩⟩)⟩, by omega⟩ hP hS (dk_at dkX12_door__3 8 rfl)
          · refine tp_i (y := iI 3) (congrArg iI c17) ?_
            refine lv_tableIn (off := 87) (tgt := 141) hx hb (dk_at dkX12_door__1 15 rfl) (by decide +kernel) (by decide +kernel) (by decide +kernel) (by decide) ?_
            refine lv_aload_n hx hb (dk_at dkX12_door__3 9 rfl) rfl (lv_at hl 2 rfl) ?_
            refine va_get (D := (dC, dI)) (ci := 12) (v := .ref (q 9)) (C := RX12) (T := TX12) (N := 85) hx hb hts hiX12 hown hK hP 0 wm0 rfl 20 (by decide) (hts _ (List.mem_cons_of_mem _ wlq_2_42)) (fun _ h9 => h9) rfl (dk_at dkX12_door__3 10 rfl) ?_
            refine lv_aload_n hx hb (dk_at dkX12_door__3 11 rfl) rfl (lv_at hl 2 rfl) ?_
            refine lv_iload_n hx hb (dk_at dkX12_door__3 12 rfl) rfl (lv_at hl 3 rfl) ?_
            refine x_calli (As := [.int (iI x1)]) (rest := [.ref (q 9)]) ⟨hx, hb, hml, hown, hts⟩ (mc_X12_door10 l dC dI cB cI cJ cZ cQ q _ x1 hI (by omega)) (cwV 1 hts (goodV wlq_4_49 wlq_4_50 wlq_4_51 wlq_0_8 wlq_4_42) rfl rfl rfl (by decide +kernel) ⟨Nat.le_of_ble_eq_true rfl, Nat.le_of_ble_eq_true rfl⟩) hK hDD hA0 hP hS 0 12 wm0 rfl rfl hl.1 (Nat.le_of_ble_eq_true rfl) (dk_at dkX12_door__3 13 rfl) (fun z31 A32 H locs hw33 hP hS => ?_)
            obtain ⟨rfl, hw33⟩ := hw33
            have ghw33 : q_X12_door10 x1 A z31 := hw33
            have hw33 := hw33.2
            refine tp_i (y := iI (10 * (A 0 12) + x1)) (congrArg iI (show z31 = 10 * (A 0 12) + x1 by omega)) ?_
            clear hw33
            refine x_iald hx hb hK hP 9 1 wm9 rfl (by omega) (by decide) (dk_at dkX12_door__3 14 rfl) (fun z34 hz34 => ?_)
            have rz34 : (-2147483648 : Int) ≤ z34 ∧ z34 ≤ 2147483647 := by rw [hz34]; exact hI 9 _
            have gz34 := Hd.mk hz34
            have hz34 : z34 = A 9 (10 * (A 0 12) + x1).toNat := hz34
            exact RET z34 _ _ _ _ _ ⟨rfl, hk1 _ ⟨0 + 1, (u_d_X12_door__1 ⟨f13, ⟨f14, ⟨z15, gz15.out, (Or.inl ⟨c16, (Or.inr (Or.inr (Or.inr (Or.inr (Or.inl ⟨c17, ⟨z31, ghw33, ⟨z34, gz34.out, rfl⟩⟩⟩)))))⟩)⟩⟩⟩)⟩, by omega⟩ hP hS (dk_at dkX12_door__3 15 rfl)
          · refine tp_i (y := iI 4) (congrArg iI c17) ?_
            refine lv_tableIn (off := 98) (tgt := 152) hx hb (dk_at dkX12_door__1 15 rfl) (by decide +kernel) (by decide +kernel) (by decide +kernel) (by decide) ?_
            refine lv_aload_n hx hb (dk_at dkX12_door__4 0 rfl) rfl (lv_at hl 2 rfl) ?_
            refine lv_iload_n hx hb (dk_at dkX12_door__4 1 rfl) rfl (lv_at hl 3 rfl) ?_
            refine x_calli (As := [.int (iI x1)]) (rest := []) ⟨hx, hb, hml, hown, hts⟩ (mc_X12_isShut l dC dI cB cI cJ cZ cQ q _ x1 hI (by omega)) (cwV 1 hts (goodV wlq_4_57 wlq_4_58 wlq_4_59 wlq_0_8 wlq_4_48) rfl rfl rfl (by decide +kernel) ⟨Nat.le_of_ble_eq_true rfl, Nat.le_of_ble_eq_true rfl⟩) hK hDD hA0 hP hS 0 12 wm0 rfl rfl hl.1 (Nat.le_of_ble_eq_true rfl) (dk_at dkX12_door__4 2 rfl) (fun z35 A36 H locs hw37 hP hS => ?_)
            obtain ⟨rfl, hw37⟩ := hw37
            have ghw37 : q_X12_isShut x1 A z35 := hw37
            have hw37 := hw37.2
            refine lv_if_eq (tgt := 164) hx hb (dk_at dkX12_door__4 3 rfl) (by decide) (fun c38 => ?_) (fun c38 => ?_)
            · have c38 : z35 = 0 := (i_eq0 (rb hw37 (by decide) (by decide))).mp c38
              refine lv_iconst (v := iI 0) hx hb (dk_at dkX12_door__4 6 rfl) (by decide +kernel) ?_
              exact RET 0 _ _ _ _ _ ⟨rfl, hk1 _ ⟨0 + 1, (u_d_X12_door__1 ⟨f13, ⟨f14, ⟨z15, gz15.out, (Or.inl ⟨c16, (Or.inr (Or.inr (Or.inr (Or.inr (Or.inr (Or.inl ⟨c17, ⟨z35, ghw37, (Or.inl ⟨c38, rfl⟩)⟩⟩))))))⟩)⟩⟩⟩)⟩, by omega⟩ hP hS (dk_at dkX12_door__4 7 rfl)
            · have c38 : ¬ z35 = 0 := mt (i_eq0 (rb hw37 (by decide) (by decide))).mpr c38
              refine lv_iconst (v := iI 1) hx hb (dk_at dkX12_door__4 4 rfl) (by decide +kernel) ?_
              refine lv_goto (tgt := 165) hx hb (dk_at dkX12_door__4 5 rfl) (by decide) ?_
              exact RET 1 _ _ _ _ _ ⟨rfl, hk1 _ ⟨0 + 1, (u_d_X12_door__1 ⟨f13, ⟨f14, ⟨z15, gz15.out, (Or.inl ⟨c16, (Or.inr (Or.inr (Or.inr (Or.inr (Or.inr (Or.inl ⟨c17, ⟨z35, ghw37, (Or.inr ⟨c38, rfl⟩)⟩⟩))))))⟩)⟩⟩⟩)⟩, by omega⟩ hP hS (dk_at dkX12_door__4 7 rfl)
          · refine tp_i (y := iI 5) (congrArg iI c17) ?_
            refine lv_tableIn (off := 112) (tgt := 166) hx hb (dk_at dkX12_door__1 15 rfl) (by decide +kernel) (by decide +kernel) (by decide +kernel) (by decide) ?_
            refine lv_iload_n hx hb (dk_at dkX12_door__4 8 rfl) rfl (lv_at hl 1 rfl) ?_
            exact RET z6 _ _ _ _ _ ⟨rfl, hk1 _ ⟨0 + 1, (u_d_X12_door__1 ⟨f13, ⟨f14, ⟨z15, gz15.out, (Or.inl ⟨c16, (Or.inr (Or.inr (Or.inr (Or.inr (Or.inr (Or.inr (Or.inl ⟨c17, rfl⟩)))))))⟩)⟩⟩⟩)⟩, by omega⟩ hP hS (dk_at dkX12_door__4 9 rfl)
          · refine tp_i (y := iI 6) (congrArg iI c17) ?_
            refine lv_tableIn (off := 114) (tgt := 168) hx hb (dk_at dkX12_door__1 15 rfl) (by decide +kernel) (by decide +kernel) (by decide +kernel) (by decide) ?_
            refine lv_aload_n hx hb (dk_at dkX12_door__4 10 rfl) rfl (lv_at hl 2 rfl) ?_
            refine va_get (D := (dC, dI)) (ci := 12) (v := .ref (q 10)) (C := RX12) (T := TX12) (N := 85) hx hb hts hiX12 hown hK hP 0 wm0 rfl 21 (by decide) (hts _ (List.mem_cons_of_mem _ wlq_2_43)) (fun _ h9 => h9) rfl (dk_at dkX12_door__4 11 rfl) ?_
            refine lv_aload_n hx hb (dk_at dkX12_door__4 12 rfl) rfl (lv_at hl 2 rfl) ?_
            refine lv_iload_n hx hb (dk_at dkX12_door__4 13 rfl) rfl (lv_at hl 3 rfl) ?_
            refine x_calli (As := [.int (iI x1)]) (rest := [.ref (q 10)]) ⟨hx, hb, hml, hown, hts⟩ (mc_X12_door10 l dC dI cB cI cJ cZ cQ q _ x1 hI (by omega)) (cwV 1 hts (goodV wlq_4_49 wlq_4_50 wlq_4_51 wlq_0_8 wlq_4_42) rfl rfl rfl (by decide +kernel) ⟨Nat.le_of_ble_eq_true rfl, Nat.le_of_ble_eq_true rfl⟩) hK hDD hA0 hP hS 0 12 wm0 rfl rfl hl.1 (Nat.le_of_ble_eq_true rfl) (dk_at dkX12_door__4 14 rfl) (fun z39 A40 H locs hw41 hP hS => ?_)
            obtain ⟨rfl, hw41⟩ := hw41
            have ghw41 : q_X12_door10 x1 A z39 := hw41
            have hw41 := hw41.2
            refine tp_i (y := iI (10 * (A 0 12) + x1)) (congrArg iI (show z39 = 10 * (A 0 12) + x1 by omega)) ?_
            clear hw41
            refine x_zald hx hb hK hP 10 3 wm10 rfl (by omega) (by decide) (dk_at dkX12_door__4 15 rfl) (fun z42 hz42 => ?_)
            have rz42 : (0 : Int) ≤ z42 ∧ z42 ≤ 1 := by rw [hz42]; exact hI 10 _
            have gz42 := Hd.mk hz42
            have hz42 : z42 = A 10 (10 * (A 0 12) + x1).toNat := hz42
            refine lv_if_eq (tgt := 185) hx hb (dk_at dkX12_door__5 0 rfl) (by decide) (fun c43 => ?_) (fun c43 => ?_)
            · have c43 : z42 = 0 := (i_eq0 (rb rz42 (by decide) (by decide))).mp c43
              refine lv_iconst (v := iI 0) hx hb (dk_at dkX12_door__5 3 rfl) (by decide +kernel) ?_
              exact RET 0 _ _ _ _ _ ⟨rfl, hk1 _ ⟨0 + 1, (u_d_X12_door__1 ⟨f13, ⟨f14, ⟨z15, gz15.out, (Or.inl ⟨c16, (Or.inr (Or.inr (Or.inr (Or.inr (Or.inr (Or.inr (Or.inr (Or.inl ⟨c17, ⟨z39, ghw41, ⟨z42, gz42.out, (Or.inl ⟨c43, rfl⟩)⟩⟩⟩))))))))⟩)⟩⟩⟩)⟩, by omega⟩ hP hS (dk_at dkX12_door__5 4 rfl)
            · have c43 : ¬ z42 = 0 := mt (i_eq0 (rb rz42 (by decide) (by decide))).mpr c43
              refine lv_iconst (v := iI 1) hx hb (dk_at dkX12_door__5 1 rfl) (by decide +kernel) ?_
              refine lv_goto (tgt := 186) hx hb (dk_at dkX12_door__5 2 rfl) (by decide) ?_
              exact RET 1 _ _ _ _ _ ⟨rfl, hk1 _ ⟨0 + 1, (u_d_X12_door__1 ⟨f13, ⟨f14, ⟨z15, gz15.out, (Or.inl ⟨c16, (Or.inr (Or.inr (Or.inr (Or.inr (Or.inr (Or.inr (Or.inr (Or.inl ⟨c17, ⟨z39, ghw41, ⟨z42, gz42.out, (Or.inr ⟨c43, rfl⟩)⟩⟩⟩))))))))⟩)⟩⟩⟩)⟩, by omega⟩ hP hS (dk_at dkX12_door__5 4 rfl)
          · refine tp_i (y := iI 7) (congrArg iI c17) ?_
            refine lv_tableIn (off := 133) (tgt := 187) hx hb (dk_at dkX12_door__1 15 rfl) (by decide +kernel) (by decide +kernel) (by decide +kernel) (by decide) ?_
            refine lv_aload_n hx hb (dk_at dkX12_door__5 5 rfl) rfl (lv_at hl 2 rfl) ?_
            refine lv_iload_n hx hb (dk_at dkX12_door__5 6 rfl) rfl (lv_at hl 3 rfl) ?_
            refine x_calli (As := [.int (iI x1)]) (rest := []) ⟨hx, hb, hml, hown, hts⟩ (mc_X12_isDead l dC dI cB cI cJ cZ cQ q _ x1 hI (by omega)) (cwV 1 hts (goodV wlq_5_4 wlq_5_5 wlq_5_6 wlq_0_8 wlq_4_55) rfl rfl rfl (by decide +kernel) ⟨Nat.le_of_ble_eq_true rfl, Nat.le_of_ble_eq_true rfl⟩) hK hDD hA0 hP hS 0 12 wm0 rfl rfl hl.1 (Nat.le_of_ble_eq_true rfl) (dk_at dkX12_door__5 7 rfl) (fun z44 A45 H locs hw46 hP hS => ?_)
            obtain ⟨rfl, hw46⟩ := hw46
            have ghw46 : q_X12_isDead x1 A z44 := hw46
            have hw46 := hw46.2
            refine lv_if_eq (tgt := 199) hx hb (dk_at dkX12_door__5 8 rfl) (by decide) (fun c47 => ?_) (fun c47 => ?_)
            · have c47 : z44 = 0 := (i_eq0 (rb hw46 (by decide) (by decide))).mp c47
              refine lv_iconst (v := iI 0) hx hb (dk_at dkX12_door__5 11 rfl) (by decide +kernel) ?_
              exact RET 0 _ _ _ _ _ ⟨rfl, hk1 _ ⟨0 + 1, (u_d_X12_door__1 ⟨f13, ⟨f14, ⟨z15, gz15.out, (Or.inl ⟨c16, (Or.inr (Or.inr (Or.inr (Or.inr (Or.inr (Or.inr (Or.inr (Or.inr ⟨c17, ⟨z44, ghw46, (Or.inl ⟨c47, rfl⟩)⟩⟩))))))))⟩)⟩⟩⟩)⟩, by omega⟩ hP hS (dk_at dkX12_door__5 12 rfl)
            · have c47 : ¬ z44 = 0 := mt (i_eq0 (rb hw46 (by decide) (by decide))).mpr c47
              refine lv_iconst (v := iI 1) hx hb (dk_at dkX12_door__5 9 rfl) (by decide +kernel) ?_
              refine lv_goto (tgt := 200) hx hb (dk_at dkX12_door__5 10 rfl) (by decide) ?_
              exact RET 1 _ _ _ _ _ ⟨rfl, hk1 _ ⟨0 + 1, (u_d_X12_door__1 ⟨f13, ⟨f14, ⟨z15, gz15.out, (Or.inl ⟨c16, (Or.inr (Or.inr (Or.inr (Or.inr (Or.inr (Or.inr (Or.inr (Or.inr ⟨c17, ⟨z44, ghw46, (Or.inr ⟨c47, rfl⟩)⟩⟩))))))))⟩)⟩⟩⟩)⟩, by omega⟩ hP hS (dk_at dkX12_door__5 12 rfl)
        · have c16 : ¬ z15 ≤ z5 := mt (i_le (rb rz15 (by decide) (by decide)) (rb f13 (by decide) (by decide))).mpr c16
          refine lv_iload_n hx hb (dk_at dkX12_door__1 1 rfl) rfl (lv_at hl 1 rfl) ?_
          refine lv_aload_n hx hb (dk_at dkX12_door__1 2 rfl) rfl (lv_at hl 2 rfl) ?_
          refine lv_iload hx hb (dk_at dkX12_door__1 3 rfl) (lv_at hl 0 rfl) ?_
          refine lv_iload_n hx hb (dk_at dkX12_door__1 4 rfl) rfl (lv_at hl 3 rfl) ?_
          refine x_calli (As := [.int (iI z5), .int (iI x1)]) (rest := [.int (iI z6)]) ⟨hx, hb, hml, hown, hts⟩ (mc_X12_inRow l dC dI cB cI cJ cZ cQ q _ z5 x1 hI (by omega) hx1) (cwV 2 hts (goodV wlq_4_52 wlq_4_53 wlq_4_54 wlq_0_8 wlq_4_43) rfl rfl rfl (by decide +kernel) ⟨Nat.le_of_ble_eq_true rfl, Nat.le_of_ble_eq_true rfl⟩) hK hDD hA0 hP hS 0 12 wm0 rfl rfl hl.1 (Nat.le_of_ble_eq_true rfl) (dk_at dkX12_door__1 5 rfl) (fun z48 A49 H locs hw50 hP hS => ?_)
          obtain ⟨rfl, hw50⟩ := hw50
          have ghw50 : q_X12_inRow z5 x1 A z48 := hw50
          have hw50 := hw50.2
          have J45_52 : ∀ (z53 : Int) (H : Heap) (locs : List Loc) (ls : Array Slot), (0 ≤ z53 ∧ z53 ≤ 1) → ((z53 = 0 ∧ z48 = 0) ∨ (z53 = 1 ∧ ¬ z48 = 0)) → (∀ (z : Int), (∃ mm1 : Nat, (d_X12_door__2 (fun z5' z6' => d_X12_door__1 x1 x2 A z mm1 z5' z6') z5 z6 z z53)) → r_X12_door_ x1 x2 A z) → va_P (dC, dI) vwCl (WM cI cJ cZ q A) H → va_S AS s.heap H locs → lv_has ls 5 [(4, .int (iI z5)), (3, .int (iI z6)), (0, .ref (q 0)), (1, .int (iI x1)), (2, .int (iI x2))] → W p l e (headSpec ws_mc_X12_door_ ({ frames := 3, cells := 0, slots := 0, locals := 67 } : Room)).room s m [.ref (q 0), .int (iI x1), .int (iI x2)].toArray below meth c H locs 0 0 Q (F0 m 45 ls [.int (iI z53), .int (iI z6)]) := by
            intro z53 H locs ls f55 f56 hk2 hP hS hl
            refine x_addv (v := z6 + z53) hx hb (dk_at dkX12_door__1 10 rfl) (by omega) ?_
            refine x_absE (fun z57 gz57 hz57 => ?_)
            refine lv_istore_n (lv' := [(3, .int (iI z57)), (4, .int (iI z5)), (0, .ref (q 0)), (1, .int (iI x1)), (2, .int (iI x2))]) hx hb (dk_at dkX12_door__1 11 rfl) rfl hl (by decide) rfl (fun ls hl => ?_)
            refine lv_iinc (v := iI (z5 + 1)) (lv' := [(4, .int (iI (z5 + 1))), (3, .int (iI z57)), (0, .ref (q 0)), (1, .int (iI x1)), (2, .int (iI x2))]) hx hb (dk_at dkX12_door__1 12 rfl) hl (k := 1) rfl (i_inc (by omega)) (by decide) rfl (fun ls hl => ?_)
            refine lv_goto (tgt := 15) hx hb (dk_at dkX12_door__1 13 rfl) (by decide) ?_
            exact ih10 _ (by omega) (z5 + 1) z57 _ _ _ (by omega) (by omega) (by omega) (fun zq ⟨mm1, hq⟩ => hk2 _ ⟨mm1, (u_d_X12_door__2 ⟨f55, ⟨z57, gz57.out, hq⟩⟩)⟩) rfl hP hS (lv_sub hl [0, 1, 2, 3, 4] rfl)
          refine lv_if_eq (tgt := 44) hx hb (dk_at dkX12_door__1 6 rfl) (by decide) (fun c51 => ?_) (fun c51 => ?_)
          · have c51 : z48 = 0 := (i_eq0 (rb hw50 (by decide) (by decide))).mp c51
            refine lv_iconst (v := iI 0) hx hb (dk_at dkX12_door__1 9 rfl) (by decide +kernel) ?_
            exact J45_52 0 _ _ _ (by omega) (by omega) (fun zq ⟨mm1, hq⟩ => hk1 _ ⟨mm1 + 1, (u_d_X12_door__1 ⟨f13, ⟨f14, ⟨z15, gz15.out, (Or.inr ⟨c16, ⟨z48, ghw50, (Or.inl ⟨c51, hq⟩)⟩⟩)⟩⟩⟩)⟩) hP hS (lv_sub hl [0, 1, 2, 3, 4] rfl)
          · have c51 : ¬ z48 = 0 := mt (i_eq0 (rb hw50 (by decide) (by decide))).mpr c51
            refine lv_iconst (v := iI 1) hx hb (dk_at dkX12_door__1 7 rfl) (by decide +kernel) ?_
            refine lv_goto (tgt := 45) hx hb (dk_at dkX12_door__1 8 rfl) (by decide) ?_
            exact J45_52 1 _ _ _ (by omega) (by omega) (fun zq ⟨mm1, hq⟩ => hk1 _ ⟨mm1 + 1, (u_d_X12_door__1 ⟨f13, ⟨f14, ⟨z15, gz15.out, (Or.inr ⟨c16, ⟨z48, ghw50, (Or.inr ⟨c51, hq⟩)⟩⟩)⟩⟩⟩)⟩) hP hS (lv_sub hl [0, 1, 2, 3, 4] rfl)
    exact L15_9 _ 0 0 _ _ _ (by omega) (by omega) (by omega) (fun zq ⟨mm1, hq⟩ => (u_r_X12_door_ ⟨z1, ghw3, (Or.inl ⟨c4, ⟨mm1, hq⟩⟩)⟩)) rfl hP hS (lv_sub hl [0, 1, 2, 3, 4] rfl)
  · have c4 : z1 = 0 := (i_eq0 (rb rz1 (by decide) (by decide))).mp c4
    clear hw3
    refine lv_iconst (v := iI (-1)) hx hb (dk_at dkX12_door__0 4 rfl) (by decide +kernel) ?_
    exact RET (-1) _ _ _ _ _ ⟨rfl, (u_r_X12_door_ ⟨z1, ghw3, (Or.inr ⟨c4, rfl⟩)⟩), by omega⟩ hP hS (dk_at dkX12_door__0 5 rfl)

abbrev tr_r_X12_key_ (x1 : Int) (x2 : Int) (A : St) (z : Int) : Prop := (∃ z1 : Int, q_X12_isKey x1 A z1 ∧ (((¬ z1 = 0) ∧ (((¬ x2 = 0) ∧ (((¬ x2 = 1) ∧ (((¬ x2 = 2) ∧ (z = (-1))) ∨ ((x2 = 2) ∧ (∃ z8 : Int, q_X12_topOf x1 A z8 ∧ (z = z8))))) ∨ ((x2 = 1) ∧ (∃ z11 : Int, q_X12_key4 x1 A z11 ∧ (∃ z14 : Int, z14 = A 14 (4 * (A 0 12) + x1).toNat ∧ (z = z14)))))) ∨ ((x2 = 0) ∧ (∃ z15 : Int, q_X12_key4 x1 A z15 ∧ (∃ z18 : Int, z18 = A 13 (4 * (A 0 12) + x1).toNat ∧ (z = z18)))))) ∨ ((z1 = 0) ∧ (z = (-1)))))
def r_X12_key_ (x1 : Int) (x2 : Int) (A : St) (z : Int) : Prop := tr_r_X12_key_ x1 x2 A z
theorem u_r_X12_key_ {x1 : Int} {x2 : Int} {A : St} {z : Int} (h : tr_r_X12_key_ x1 x2 A z) : r_X12_key_ x1 x2 A z := h
def ws_mc_X12_key_ : List Cond := .code yX12_key_ cX12_key_ 3 (some .int) :: WX
set_option maxHeartbeats 4000000 in
set_option maxRecDepth 100000 in
theorem mc_X12_key_ (l : Launch) (dC : Nat → ClassId) (dI : Nat → Nat → Nat) (cB cI cJ cZ cQ : ClassId) (q : Nat → Nat) (A : St) (x1 x2 : Int) (hI : IM A) (hx1 : (-2147483648 : Int) ≤ x1 ∧ x1 ≤ 2147483647) (hx2 : (-2147483648 : Int) ≤ x2 ∧ x2 ≤ 2147483647) : XMi l yX12_key_ ws_mc_X12_key_ ({ frames := 2, cells := 0, slots := 0, locals := 43 } : Room) (dC, dI) (tyA cB cI cJ cZ cQ) (WM cI cJ cZ q) A [.ref (q 0), .int (iI x1), .int (iI x2)] (fun z u => A = u ∧ r_X12_key_ x1 x2 A z ∧ (-2147483648 ≤ z ∧ z ≤ 2147483647)) := by
  refine x_meti (cc := cX12_key_) (maxL := 3) WM_adr (by decide +kernel) rfl (Nat.le_of_ble_eq_true rfl) (fun p e s m below meth c Q AS ls hx hb hml hown hts hK hDD hA0 hP hS hl RET => ?_)
  have hown : s.vm.findClass RX12 = some m.cls := hown
  have hl : lv_has ls 3 [(0, .ref (q 0)), (1, .int (iI x1)), (2, .int (iI x2))] := hl
  have hiX12 : ∀ w ∈ u_ws RX12 TX12 85, w ∈ ws_mc_X12_key_ := fun w h => List.mem_cons_of_mem _ (wx_lay w h)
  obtain ⟨H, hHe⟩ : ∃ H : Heap, H = s.heap := ⟨_, rfl⟩
  rw [← hHe] at hP
  have hS : va_S AS s.heap H [] := by rw [hHe]; exact hS
  suffices hgo : ∀ locs : List Loc, va_S AS s.heap H locs → W p l e (headSpec ws_mc_X12_key_ ({ frames := 2, cells := 0, slots := 0, locals := 43 } : Room)).room s m [.ref (q 0), .int (iI x1), .int (iI x2)].toArray below meth c H locs 0 0 Q (F0 m 0 ls []) by
    have := hgo [] hS
    rw [hHe] at this
    exact this
  clear hS hHe
  intro locs hS
  refine lv_aload_n hx hb (dk_at dkX12_key__0 0 rfl) rfl (lv_at hl 0 rfl) ?_
  refine lv_iload_n hx hb (dk_at dkX12_key__0 1 rfl) rfl (lv_at hl 1 rfl) ?_
  have r_A_0_12 : (0 : Int) ≤ (A 0 12) ∧ (A 0 12) ≤ 1 := hI 0 12
  refine x_calli (As := [.int (iI x1)]) (rest := []) ⟨hx, hb, hml, hown, hts⟩ (mc_X12_isKeyB l dC dI cB cI cJ cZ cQ q _ x1 hI hx1) (cwV 1 hts (goodV wlq_5_18 wlq_5_19 wlq_5_20 wlq_0_8 wlq_4_39) rfl rfl rfl (by decide +kernel) ⟨Nat.le_of_ble_eq_true rfl, Nat.le_of_ble_eq_true rfl⟩) hK hDD hA0 hP hS 0 12 wm0 rfl rfl hl.1 (Nat.le_of_ble_eq_true rfl) (dk_at dkX12_key__0 2 rfl) (fun z1 A2 H locs hw3 hP hS => ?_)
  obtain ⟨rfl, hw3⟩ := hw3
  have ghw3 : q_X12_isKey x1 A z1 := hw3
  have hw3 := hw3.2
  have rz1 : 0 ≤ z1 ∧ z1 ≤ 1 := hw3.1
  refine lv_if_ne (tgt := 12) hx hb (dk_at dkX12_key__0 3 rfl) (by decide) (fun c4 => ?_) (fun c4 => ?_)
  · have c4 : ¬ z1 = 0 := mt (i_eq0 (rb rz1 (by decide) (by decide))).mpr c4
    have hw3b := hw3.2.mp (by omega)
    clear hw3
    refine lv_iload_n hx hb (dk_at dkX12_key__0 6 rfl) rfl (lv_at hl 2 rfl) ?_
    refine lv_if_ne (tgt := 29) hx hb (dk_at dkX12_key__0 7 rfl) (by decide) (fun c5 => ?_) (fun c5 => ?_)
    · have c5 : ¬ x2 = 0 := mt (i_eq0 hx2).mpr c5
      refine lv_iload_n hx hb (dk_at dkX12_key__0 15 rfl) rfl (lv_at hl 2 rfl) ?_
      refine lv_iconst (v := iI 1) hx hb (dk_at dkX12_key__1 0 rfl) (by decide +kernel) ?_
      refine lv_icmp_ne (tgt := 47) hx hb (dk_at dkX12_key__1 1 rfl) (by decide) (fun c6 => ?_) (fun c6 => ?_)
      · have c6 : ¬ x2 = 1 := mt (i_eq hx2 ⟨by decide, by decide⟩).mpr c6
        refine lv_iload_n hx hb (dk_at dkX12_key__1 9 rfl) rfl (lv_at hl 2 rfl) ?_
        refine lv_iconst (v := iI 2) hx hb (dk_at dkX12_key__1 10 rfl) (by decide +kernel) ?_
        refine lv_icmp_ne (tgt := 60) hx hb (dk_at dkX12_key__1 11 rfl) (by decide) (fun c7 => ?_) (fun c7 => ?_)
        · have c7 : ¬ x2 = 2 := mt (i_eq hx2 ⟨by decide, by decide⟩).mpr c7
          refine lv_iconst (v := iI (-1)) hx hb (dk_at dkX12_key__2 0 rfl) (by decide +kernel) ?_
          exact RET (-1) _ _ _ _ _ ⟨rfl, (u_r_X12_key_ ⟨z1, ghw3, (Or.inl ⟨c4, (Or.inl ⟨c5, (Or.inl ⟨c6, (Or.inl ⟨c7, rfl⟩)⟩)⟩)⟩)⟩), by omega⟩ hP hS (dk_at dkX12_key__2 1 rfl)
        · have c7 : x2 = 2 := (i_eq hx2 ⟨by decide, by decide⟩).mp c7
          refine lv_aload_n hx hb (dk_at dkX12_key__1 12 rfl) rfl (lv_at hl 0 rfl) ?_
          refine lv_iload_n hx hb (dk_at dkX12_key__1 13 rfl) rfl (lv_at hl 1 rfl) ?_
          refine x_calli (As := [.int (iI x1)]) (rest := []) ⟨hx, hb, hml, hown, hts⟩ (mc_X12_topOf l dC dI cB cI cJ cZ cQ q _ x1 hI (by omega)) (cwV 1 hts (goodV wlq_5_21 wlq_5_22 wlq_5_23 wlq_0_8 wlq_4_47) rfl rfl rfl (by decide +kernel) ⟨Nat.le_of_ble_eq_true rfl, Nat.le_of_ble_eq_true rfl⟩) hK hDD hA0 hP hS 0 12 wm0 rfl rfl hl.1 (Nat.le_of_ble_eq_true rfl) (dk_at dkX12_key__1 14 rfl) (fun z8 A9 H locs hw10 hP hS => ?_)
          obtain ⟨rfl, hw10⟩ := hw10
          have ghw10 : q_X12_topOf x1 A z8 := hw10
          have hw10 := hw10.2
          refine lv_goto (tgt := 61) hx hb (dk_at dkX12_key__1 15 rfl) (by decide) ?_
          exact RET z8 _ _ _ _ _ ⟨rfl, (u_r_X12_key_ ⟨z1, ghw3, (Or.inl ⟨c4, (Or.inl ⟨c5, (Or.inl ⟨c6, (Or.inr ⟨c7, ⟨z8, ghw10, rfl⟩⟩)⟩)⟩)⟩)⟩), by omega⟩ hP hS (dk_at dkX12_key__2 1 rfl)
      · have c6 : x2 = 1 := (i_eq hx2 ⟨by decide, by decide⟩).mp c6
        refine lv_aload_n hx hb (dk_at dkX12_key__1 2 rfl) rfl (lv_at hl 0 rfl) ?_
        refine va_get (D := (dC, dI)) (ci := 12) (v := .ref (q 14)) (C := RX12) (T := TX12) (N := 85) hx hb hts hiX12 hown hK hP 0 wm0 rfl 25 (by decide) (hts _ (List.mem_cons_of_mem _ wlq_2_59)) (fun _ h9 => h9) rfl (dk_at dkX12_key__1 3 rfl) ?_
        refine lv_aload_n hx hb (dk_at dkX12_key__1 4 rfl) rfl (lv_at hl 0 rfl) ?_
        refine lv_iload_n hx hb (dk_at dkX12_key__1 5 rfl) rfl (lv_at hl 1 rfl) ?_
        refine x_calli (As := [.int (iI x1)]) (rest := [.ref (q 14)]) ⟨hx, hb, hml, hown, hts⟩ (mc_X12_key4 l dC dI cB cI cJ cZ cQ q _ x1 hI (by omega)) (cwV 1 hts (goodV wlq_4_44 wlq_4_45 wlq_4_46 wlq_0_8 wlq_4_41) rfl rfl rfl (by decide +kernel) ⟨Nat.le_of_ble_eq_true rfl, Nat.le_of_ble_eq_true rfl⟩) hK hDD hA0 hP hS 0 12 wm0 rfl rfl hl.1 (Nat.le_of_ble_eq_true rfl) (dk_at dkX12_key__1 6 rfl) (fun z11 A12 H locs hw13 hP hS => ?_)
        obtain ⟨rfl, hw13⟩ := hw13
        have ghw13 : q_X12_key4 x1 A z11 := hw13
        have hw13 := hw13.2
        refine tp_i (y := iI (4 * (A 0 12) + x1)) (congrArg iI (show z11 = 4 * (A 0 12) + x1 by omega)) ?_
        clear hw13
        refine x_iald hx hb hK hP 14 1 wm14 rfl (by omega) (by decide) (dk_at dkX12_key__1 7 rfl) (fun z14 hz14 => ?_)
        have rz14 : (0 : Int) ≤ z14 ∧ z14 ≤ 6 := by rw [hz14]; exact hI 14 _
        have gz14 := Hd.mk hz14
        have hz14 : z14 = A 14 (4 * (A 0 12) + x1).toNat := hz14
        refine lv_goto (tgt := 61) hx hb (dk_at dkX12_key__1 8 rfl) (by decide) ?_
        exact RET z14 _ _ _ _ _ ⟨rfl, (u_r_X12_key_ ⟨z1, ghw3, (Or.inl ⟨c4, (Or.inl ⟨c5, (Or.inr ⟨c6, ⟨z11, ghw13, ⟨z14, gz14.out, rfl⟩⟩⟩)⟩)⟩)⟩), by omega⟩ hP hS (dk_at dkX12_key__2 1 rfl)
    · have c5 : x2 = 0 := (i_eq0 hx2).mp c5
      refine lv_aload_n hx hb (dk_at dkX12_key__0 8 rfl) rfl (lv_at hl 0 rfl) ?_
      refine va_get (D := (dC, dI)) (ci := 12) (v := .ref (q 13)) (C := RX12) (T := TX12) (N := 85) hx hb hts hiX12 hown hK hP 0 wm0 rfl 24 (by decide) (hts _ (List.mem_cons_of_mem _ wlq_2_58)) (fun _ h9 => h9) rfl (dk_at dkX12_key__0 9 rfl) ?_
      refine lv_aload_n hx hb (dk_at dkX12_key__0 10 rfl) rfl (lv_at hl 0 rfl) ?_
      refine lv_iload_n hx hb (dk_at dkX12_key__0 11 rfl) rfl (lv_at hl 1 rfl) ?_
      refine x_calli (As := [.int (iI x1)]) (rest := [.ref (q 13)]) ⟨hx, hb, hml, hown, hts⟩ (mc_X12_key4 l dC dI cB cI cJ cZ cQ q _ x1 hI (by omega)) (cwV 1 hts (goodV wlq_4_44 wlq_4_45 wlq_4_46 wlq_0_8 wlq_4_41) rfl rfl rfl (by decide +kernel) ⟨Nat.le_of_ble_eq_true rfl, Nat.le_of_ble_eq_true rfl⟩) hK hDD hA0 hP hS 0 12 wm0 rfl rfl hl.1 (Nat.le_of_ble_eq_true rfl) (dk_at dkX12_key__0 12 rfl) (fun z15 A16 H locs hw17 hP hS => ?_)
      obtain ⟨rfl, hw17⟩ := hw17
      have ghw17 : q_X12_key4 x1 A z15 := hw17
      have hw17 := hw17.2
      refine tp_i (y := iI (4 * (A 0 12) + x1)) (congrArg iI (show z15 = 4 * (A 0 12) + x1 by omega)) ?_
      clear hw17
      refine x_iald hx hb hK hP 13 1 wm13 rfl (by omega) (by decide) (dk_at dkX12_key__0 13 rfl) (fun z18 hz18 => ?_)
      have rz18 : (0 : Int) ≤ z18 ∧ z18 ≤ 40 := by rw [hz18]; exact hI 13 _
      have gz18 := Hd.mk hz18
      have hz18 : z18 = A 13 (4 * (A 0 12) + x1).toNat := hz18
      refine lv_goto (tgt := 61) hx hb (dk_at dkX12_key__0 14 rfl) (by decide) ?_
      exact RET z18 _ _ _ _ _ ⟨rfl, (u_r_X12_key_ ⟨z1, ghw3, (Or.inl ⟨c4, (Or.inr ⟨c5, ⟨z15, ghw17, ⟨z18, gz18.out, rfl⟩⟩⟩)⟩)⟩), by omega⟩ hP hS (dk_at dkX12_key__2 1 rfl)
  · have c4 : z1 = 0 := (i_eq0 (rb rz1 (by decide) (by decide))).mp c4
    clear hw3
    refine lv_iconst (v := iI (-1)) hx hb (dk_at dkX12_key__0 4 rfl) (by decide +kernel) ?_
    refine lv_goto (tgt := 61) hx hb (dk_at dkX12_key__0 5 rfl) (by decide) ?_
    exact RET (-1) _ _ _ _ _ ⟨rfl, (u_r_X12_key_ ⟨z1, ghw3, (Or.inr ⟨c4, rfl⟩)⟩), by omega⟩ hP hS (dk_at dkX12_key__2 1 rfl)

abbrev tr_r_X12_in (x1 : Int) (x2 : Int) (A : St) (z : Int) : Prop := (∃ z1 : Int, q_X12_isKey x1 A z1 ∧ (((z1 = 0) ∧ (z = (-1))) ∨ ((¬ z1 = 0) ∧ (∃ z5 : Int, q_X12_key4 x1 A z5 ∧ (∃ z8 : Int, z8 = A 14 (4 * (A 0 12) + x1).toNat ∧ (∃ z9 : Int, q_X12_is x2 0 (z8 - 1) A z9 ∧ (((¬ z9 = 0) ∧ (∃ z13 : Int, q_X12_key4 x1 A z13 ∧ (∃ z16 : Int, z16 = A 15 (40 * (A 0 12) + 10 * x1 + x2).toNat ∧ (z = z16)))) ∨ ((z9 = 0) ∧ (z = (-1))))))))))
def r_X12_in (x1 : Int) (x2 : Int) (A : St) (z : Int) : Prop := tr_r_X12_in x1 x2 A z
theorem u_r_X12_in {x1 : Int} {x2 : Int} {A : St} {z : Int} (h : tr_r_X12_in x1 x2 A z) : r_X12_in x1 x2 A z := h
def ws_mc_X12_in : List Cond := .code yX12_in cX12_in 3 (some .int) :: WX
set_option maxHeartbeats 4000000 in
set_option maxRecDepth 100000 in
theorem mc_X12_in (l : Launch) (dC : Nat → ClassId) (dI : Nat → Nat → Nat) (cB cI cJ cZ cQ : ClassId) (q : Nat → Nat) (A : St) (x1 x2 : Int) (hI : IM A) (hx1 : (-2147483648 : Int) ≤ x1 ∧ x1 ≤ 2147483647) (hx2 : (-2147483648 : Int) ≤ x2 ∧ x2 ≤ 2147483647) : XMi l yX12_in ws_mc_X12_in ({ frames := 2, cells := 0, slots := 0, locals := 43 } : Room) (dC, dI) (tyA cB cI cJ cZ cQ) (WM cI cJ cZ q) A [.ref (q 0), .int (iI x1), .int (iI x2)] (fun z u => A = u ∧ r_X12_in x1 x2 A z ∧ (-2147483648 ≤ z ∧ z ≤ 2147483647)) := by
  refine x_meti (cc := cX12_in) (maxL := 3) WM_adr (by decide +kernel) rfl (Nat.le_of_ble_eq_true rfl) (fun p e s m below meth c Q AS ls hx hb hml hown hts hK hDD hA0 hP hS hl RET => ?_)
  have hown : s.vm.findClass RX12 = some m.cls := hown
  have hl : lv_has ls 3 [(0, .ref (q 0)), (1, .int (iI x1)), (2, .int (iI x2))] := hl
  have hiX12 : ∀ w ∈ u_ws RX12 TX12 85, w ∈ ws_mc_X12_in := fun w h => List.mem_cons_of_mem _ (wx_lay w h)
  obtain ⟨H, hHe⟩ : ∃ H : Heap, H = s.heap := ⟨_, rfl⟩
  rw [← hHe] at hP
  have hS : va_S AS s.heap H [] := by rw [hHe]; exact hS
  suffices hgo : ∀ locs : List Loc, va_S AS s.heap H locs → W p l e (headSpec ws_mc_X12_in ({ frames := 2, cells := 0, slots := 0, locals := 43 } : Room)).room s m [.ref (q 0), .int (iI x1), .int (iI x2)].toArray below meth c H locs 0 0 Q (F0 m 0 ls []) by
    have := hgo [] hS
    rw [hHe] at this
    exact this
  clear hS hHe
  intro locs hS
  refine lv_aload_n hx hb (dk_at dkX12_in_0 0 rfl) rfl (lv_at hl 0 rfl) ?_
  refine lv_iload_n hx hb (dk_at dkX12_in_0 1 rfl) rfl (lv_at hl 1 rfl) ?_
  have r_A_0_12 : (0 : Int) ≤ (A 0 12) ∧ (A 0 12) ≤ 1 := hI 0 12
  refine x_calli (As := [.int (iI x1)]) (rest := []) ⟨hx, hb, hml, hown, hts⟩ (mc_X12_isKeyB l dC dI cB cI cJ cZ cQ q _ x1 hI hx1) (cwV 1 hts (goodV wlq_5_18 wlq_5_19 wlq_5_20 wlq_0_8 wlq_4_39) rfl rfl rfl (by decide +kernel) ⟨Nat.le_of_ble_eq_true rfl, Nat.le_of_ble_eq_true rfl⟩) hK hDD hA0 hP hS 0 12 wm0 rfl rfl hl.1 (Nat.le_of_ble_eq_true rfl) (dk_at dkX12_in_0 2 rfl) (fun z1 A2 H locs hw3 hP hS => ?_)
  obtain ⟨rfl, hw3⟩ := hw3
  have ghw3 : q_X12_isKey x1 A z1 := hw3
  have hw3 := hw3.2
  have rz1 : 0 ≤ z1 ∧ z1 ≤ 1 := hw3.1
  refine lv_if_eq (tgt := 28) hx hb (dk_at dkX12_in_0 3 rfl) (by decide) (fun c4 => ?_) (fun c4 => ?_)
  · have c4 : z1 = 0 := (i_eq0 (rb rz1 (by decide) (by decide))).mp c4
    clear hw3
    refine lv_iconst (v := iI (-1)) hx hb (dk_at dkX12_in_1 0 rfl) (by decide +kernel) ?_
    refine lv_goto (tgt := 47) hx hb (dk_at dkX12_in_1 1 rfl) (by decide) ?_
    exact RET (-1) _ _ _ _ _ ⟨rfl, (u_r_X12_in ⟨z1, ghw3, (Or.inl ⟨c4, rfl⟩)⟩), by omega⟩ hP hS (dk_at dkX12_in_1 12 rfl)
  · have c4 : ¬ z1 = 0 := mt (i_eq0 (rb rz1 (by decide) (by decide))).mpr c4
    have hw3b := hw3.2.mp (by omega)
    clear hw3
    refine lv_iload_n hx hb (dk_at dkX12_in_0 4 rfl) rfl (lv_at hl 2 rfl) ?_
    refine lv_iconst (v := iI 0) hx hb (dk_at dkX12_in_0 5 rfl) (by decide +kernel) ?_
    refine lv_aload_n hx hb (dk_at dkX12_in_0 6 rfl) rfl (lv_at hl 0 rfl) ?_
    refine va_get (D := (dC, dI)) (ci := 12) (v := .ref (q 14)) (C := RX12) (T := TX12) (N := 85) hx hb hts hiX12 hown hK hP 0 wm0 rfl 25 (by decide) (hts _ (List.mem_cons_of_mem _ wlq_2_59)) (fun _ h9 => h9) rfl (dk_at dkX12_in_0 7 rfl) ?_
    refine lv_aload_n hx hb (dk_at dkX12_in_0 8 rfl) rfl (lv_at hl 0 rfl) ?_
    refine lv_iload_n hx hb (dk_at dkX12_in_0 9 rfl) rfl (lv_at hl 1 rfl) ?_
    refine x_calli (As := [.int (iI x1)]) (rest := [.ref (q 14), .int (iI 0), .int (iI x2)]) ⟨hx, hb, hml, hown, hts⟩ (mc_X12_key4 l dC dI cB cI cJ cZ cQ q _ x1 hI (by omega)) (cwV 1 hts (goodV wlq_4_44 wlq_4_45 wlq_4_46 wlq_0_8 wlq_4_41) rfl rfl rfl (by decide +kernel) ⟨Nat.le_of_ble_eq_true rfl, Nat.le_of_ble_eq_true rfl⟩) hK hDD hA0 hP hS 0 12 wm0 rfl rfl hl.1 (Nat.le_of_ble_eq_true rfl) (dk_at dkX12_in_0 10 rfl) (fun z5 A6 H locs hw7 hP hS => ?_)
    obtain ⟨rfl, hw7⟩ := hw7
    have ghw7 : q_X12_key4 x1 A z5 := hw7
    have hw7 := hw7.2
    refine tp_i (y := iI (4 * (A 0 12) + x1)) (congrArg iI (show z5 = 4 * (A 0 12) + x1 by omega)) ?_
    clear hw7
    refine x_iald hx hb hK hP 14 1 wm14 rfl (by omega) (by decide) (dk_at dkX12_in_0 11 rfl) (fun z8 hz8 => ?_)
    have rz8 : (0 : Int) ≤ z8 ∧ z8 ≤ 6 := by rw [hz8]; exact hI 14 _
    have gz8 := Hd.mk hz8
    have hz8 : z8 = A 14 (4 * (A 0 12) + x1).toNat := hz8
    refine lv_iconst (v := iI 1) hx hb (dk_at dkX12_in_0 12 rfl) (by decide +kernel) ?_
    refine x_subv (v := z8 - 1) hx hb (dk_at dkX12_in_0 13 rfl) (by omega) ?_
    refine x_callSi (As := [.int (iI x2), .int (iI 0), .int (iI (z8 - 1))]) (rest := []) ⟨hx, hb, hml, hown, hts⟩ (mc_X12_is l dC dI cB cI cJ cZ cQ q _ x2 0 (z8 - 1) hI hx2 ⟨by decide, by decide⟩ (by omega)) (va_cwS 3 hts (goodS wlq_1_27 wlq_1_28 wlq_0_8 wlq_0_0) rfl rfl rfl (by decide +kernel) ⟨Nat.le_of_ble_eq_true rfl, Nat.le_of_ble_eq_true rfl⟩) hK hDD hA0 hP hS rfl hl.1 (Nat.le_of_ble_eq_true rfl) (dk_at dkX12_in_0 14 rfl) (fun z9 A10 H locs hw11 hP hS => ?_)
    obtain ⟨rfl, hw11⟩ := hw11
    have ghw11 : q_X12_is x2 0 (z8 - 1) A z9 := hw11
    have hw11 := hw11.2
    have rz9 : 0 ≤ z9 ∧ z9 ≤ 1 := hw11.1
    refine lv_if_ne (tgt := 32) hx hb (dk_at dkX12_in_0 15 rfl) (by decide) (fun c12 => ?_) (fun c12 => ?_)
    · have c12 : ¬ z9 = 0 := mt (i_eq0 (rb rz9 (by decide) (by decide))).mpr c12
      have hw11b := hw11.2.mp (by omega)
      clear hw11
      refine lv_aload_n hx hb (dk_at dkX12_in_1 2 rfl) rfl (lv_at hl 0 rfl) ?_
      refine va_get (D := (dC, dI)) (ci := 12) (v := .ref (q 15)) (C := RX12) (T := TX12) (N := 85) hx hb hts hiX12 hown hK hP 0 wm0 rfl 26 (by decide) (hts _ (List.mem_cons_of_mem _ wlq_3_7)) (fun _ h9 => h9) rfl (dk_at dkX12_in_1 3 rfl) ?_
      refine lv_bipush (v := iI 10) hx hb (dk_at dkX12_in_1 4 rfl) (by decide +kernel) ?_
      refine lv_aload_n hx hb (dk_at dkX12_in_1 5 rfl) rfl (lv_at hl 0 rfl) ?_
      refine lv_iload_n hx hb (dk_at dkX12_in_1 6 rfl) rfl (lv_at hl 1 rfl) ?_
      refine x_calli (As := [.int (iI x1)]) (rest := [.int (iI 10), .ref (q 15)]) ⟨hx, hb, hml, hown, hts⟩ (mc_X12_key4 l dC dI cB cI cJ cZ cQ q _ x1 hI (by omega)) (cwV 1 hts (goodV wlq_4_44 wlq_4_45 wlq_4_46 wlq_0_8 wlq_4_41) rfl rfl rfl (by decide +kernel) ⟨Nat.le_of_ble_eq_true rfl, Nat.le_of_ble_eq_true rfl⟩) hK hDD hA0 hP hS 0 12 wm0 rfl rfl hl.1 (Nat.le_of_ble_eq_true rfl) (dk_at dkX12_in_1 7 rfl) (fun z13 A14 H locs hw15 hP hS => ?_)
      obtain ⟨rfl, hw15⟩ := hw15
      have ghw15 : q_X12_key4 x1 A z13 := hw15
      have hw15 := hw15.2
      refine tp_i (y := iI (4 * (A 0 12) + x1)) (congrArg iI (show z13 = 4 * (A 0 12) + x1 by omega)) ?_
      clear hw15
      refine x_mulv (v := 40 * (A 0 12) + 10 * x1) hx hb (dk_at dkX12_in_1 8 rfl) (by omega) ?_
      refine lv_iload_n hx hb (dk_at dkX12_in_1 9 rfl) rfl (lv_at hl 2 rfl) ?_
      refine x_addv (v := 40 * (A 0 12) + 10 * x1 + x2) hx hb (dk_at dkX12_in_1 10 rfl) (by omega) ?_
      refine x_iald hx hb hK hP 15 1 wm15 rfl (by omega) (by decide) (dk_at dkX12_in_1 11 rfl) (fun z16 hz16 => ?_)
      have rz16 : (0 : Int) ≤ z16 ∧ z16 ≤ 9 := by rw [hz16]; exact hI 15 _
      have gz16 := Hd.mk hz16
      have hz16 : z16 = A 15 (40 * (A 0 12) + 10 * x1 + x2).toNat := hz16
      exact RET z16 _ _ _ _ _ ⟨rfl, (u_r_X12_in ⟨z1, ghw3, (Or.inr ⟨c4, ⟨z5, ghw7, ⟨z8, gz8.out, ⟨z9, ghw11, (Or.inl ⟨c12, ⟨z13, ghw15, ⟨z16, gz16.out, rfl⟩⟩⟩)⟩⟩⟩⟩)⟩), by omega⟩ hP hS (dk_at dkX12_in_1 12 rfl)
    · have c12 : z9 = 0 := (i_eq0 (rb rz9 (by decide) (by decide))).mp c12
      have hw11b := mt hw11.2.mpr (by omega)
      clear hw11
      refine lv_iconst (v := iI (-1)) hx hb (dk_at dkX12_in_1 0 rfl) (by decide +kernel) ?_
      refine lv_goto (tgt := 47) hx hb (dk_at dkX12_in_1 1 rfl) (by decide) ?_
      exact RET (-1) _ _ _ _ _ ⟨rfl, (u_r_X12_in ⟨z1, ghw3, (Or.inr ⟨c4, ⟨z5, ghw7, ⟨z8, gz8.out, ⟨z9, ghw11, (Or.inr ⟨c12, rfl⟩)⟩⟩⟩⟩)⟩), by omega⟩ hP hS (dk_at dkX12_in_1 12 rfl)

abbrev tr_d_X12_keysOf_2 (K1 : Int → Int → Prop) (z1 : Int) (z2 : Int) (z : Int) (z20 : Int) : Prop := ((0 ≤ z20 ∧ z20 ≤ 8) ∧ (∃ z23 : Int, z23 = oOr z2 z20 ∧ (K1 (z1 + 1) z23)))
def d_X12_keysOf_2 (K1 : Int → Int → Prop) (z1 : Int) (z2 : Int) (z : Int) (z20 : Int) : Prop := tr_d_X12_keysOf_2 K1 z1 z2 z z20
theorem u_d_X12_keysOf_2 {K1 : Int → Int → Prop} {z1 : Int} {z2 : Int} {z : Int} {z20 : Int} (h : tr_d_X12_keysOf_2 K1 z1 z2 z z20) : d_X12_keysOf_2 K1 z1 z2 z z20 := h
abbrev tr_d_X12_keysOf_1 (x1 : Int) (A : St) (z : Int) (K1 : Int → Int → Prop) (z1 : Int) (z2 : Int) : Prop := ((0 ≤ z1 ∧ z1 ≤ 2147483647) ∧ ((-2147483648 ≤ z2 ∧ z2 ≤ 2147483647) ∧ (∃ z11 : Int, z11 = A 11 ((A 0 12)).toNat ∧ (((z11 ≤ z1) ∧ (z = z2)) ∨ ((¬ z11 ≤ z1) ∧ (∃ z13 : Int, q_X12_key4 z1 A z13 ∧ (∃ z16 : Int, z16 = A 13 (4 * (A 0 12) + z1).toNat ∧ (((¬ z16 = x1) ∧ (d_X12_keysOf_2 K1 z1 z2 z 0)) ∨ ((z16 = x1) ∧ (∃ z19 : Int, z19 = oShl 1 z1 ∧ (d_X12_keysOf_2 K1 z1 z2 z z19)))))))))))
def d_X12_keysOf_1 (x1 : Int) (A : St) (z : Int) : Nat → Int → Int → Prop
  | 0, _, _ => False
  | nn9 + 1, z1, z2 => tr_d_X12_keysOf_1 x1 A z (fun z1 z2 => d_X12_keysOf_1 x1 A z nn9 z1 z2) z1 z2
theorem u_d_X12_keysOf_1 {x1 : Int} {A : St} {z : Int} {nn9 : Nat} {z1 : Int} {z2 : Int} (h : tr_d_X12_keysOf_1 x1 A z (fun z1 z2 => d_X12_keysOf_1 x1 A z nn9 z1 z2) z1 z2) : d_X12_keysOf_1 x1 A z (nn9 + 1) z1 z2 := h
abbrev tr_r_X12_keysOf (x1 : Int) (A : St) (z : Int) : Prop := (∃ nn9 : Nat, d_X12_keysOf_1 x1 A z nn9 0 0)
def r_X12_keysOf (x1 : Int) (A : St) (z : Int) : Prop := tr_r_X12_keysOf x1 A z
theorem u_r_X12_keysOf {x1 : Int} {A : St} {z : Int} (h : tr_r_X12_keysOf x1 A z) : r_X12_keysOf x1 A z := h
def q_X12_keysOf (x1 : Int) (A : St) (z : Int) : Prop := r_X12_keysOf x1 A z ∧ (-2147483648 ≤ z ∧ z ≤ 2147483647)
def ws_mc_X12_keysOf : List Cond := .code yX12_keysOf cX12_keysOf 4 (some .int) :: WX
set_option maxHeartbeats 4000000 in
set_option maxRecDepth 100000 in
theorem mc_X12_keysOf (l : Launch) (dC : Nat → ClassId) (dI : Nat → Nat → Nat) (cB cI cJ cZ cQ : ClassId) (q : Nat → Nat) (A : St) (x1 : Int) (hI : IM A) (hx1 : (-2147483648 : Int) ≤ x1 ∧ x1 ≤ 2147483647) : XMi l yX12_keysOf ws_mc_X12_keysOf ({ frames := 1, cells := 0, slots := 0, locals := 21 } : Room) (dC, dI) (tyA cB cI cJ cZ cQ) (WM cI cJ cZ q) A [.ref (q 0), .int (iI x1)] (fun z u => A = u ∧ r_X12_keysOf x1 A z ∧ (-2147483648 ≤ z ∧ z ≤ 2147483647)) := by
  refine x_meti (cc := cX12_keysOf) (maxL := 4) WM_adr (by decide +kernel) rfl (Nat.le_of_ble_eq_true rfl) (fun p e s m below meth c Q AS ls hx hb hml hown hts hK hDD hA0 hP hS hl RET => ?_)
  have hown : s.vm.findClass RX12 = some m.cls := hown
  have hl : lv_has ls 4 [(0, .ref (q 0)), (1, .int (iI x1))] := hl
  have hiX12 : ∀ w ∈ u_ws RX12 TX12 85, w ∈ ws_mc_X12_keysOf := fun w h => List.mem_cons_of_mem _ (wx_lay w h)
  obtain ⟨H, hHe⟩ : ∃ H : Heap, H = s.heap := ⟨_, rfl⟩
  rw [← hHe] at hP
  have hS : va_S AS s.heap H [] := by rw [hHe]; exact hS
  suffices hgo : ∀ locs : List Loc, va_S AS s.heap H locs → W p l e (headSpec ws_mc_X12_keysOf ({ frames := 1, cells := 0, slots := 0, locals := 21 } : Room)).room s m [.ref (q 0), .int (iI x1)].toArray below meth c H locs 0 0 Q (F0 m 0 ls []) by
    have := hgo [] hS
    rw [hHe] at this
    exact this
  clear hS hHe
  intro locs hS
  refine lv_iconst (v := iI 0) hx hb (dk_at dkX12_keysOf_0 0 rfl) (by decide +kernel) ?_
  refine lv_istore_n (lv' := [(2, .int (iI 0)), (0, .ref (q 0)), (1, .int (iI x1))]) hx hb (dk_at dkX12_keysOf_0 1 rfl) rfl hl (by decide) rfl (fun ls hl => ?_)
  refine lv_iconst (v := iI 0) hx hb (dk_at dkX12_keysOf_0 2 rfl) (by decide +kernel) ?_
  refine lv_istore_n (lv' := [(3, .int (iI 0)), (2, .int (iI 0)), (0, .ref (q 0)), (1, .int (iI x1))]) hx hb (dk_at dkX12_keysOf_0 3 rfl) rfl hl (by decide) rfl (fun ls hl => ?_)
  have L4_5 : ∀ (n7 : Nat) (z1 z2 : Int) (H : Heap) (locs : List Loc) (ls : Array Slot), (0 ≤ z1) → (0 ≤ z1 ∧ z1 ≤ 2147483647) → (-2147483648 ≤ z2 ∧ z2 ≤ 2147483647) → (∀ (z : Int), (∃ mm1 : Nat, (d_X12_keysOf_1 x1 A z mm1 z1 z2)) → r_X12_keysOf x1 A z) → ((A 11 ((A 0 12)).toNat - z1 + 1).toNat = n7) → va_P (dC, dI) vwCl (WM cI cJ cZ q A) H → va_S AS s.heap H locs → lv_has ls 4 [(3, .int (iI z1)), (2, .int (iI z2)), (0, .ref (q 0)), (1, .int (iI x1))] → W p l e (headSpec ws_mc_X12_keysOf ({ frames := 1, cells := 0, slots := 0, locals := 21 } : Room)).room s m [.ref (q 0), .int (iI x1)].toArray below meth c H locs 0 0 Q (F0 m 4 ls []) := by
    intro n7
    induction n7 using Nat.strongRecOn with
    | ind n7 ih6 =>
      intro z1 z2 H locs ls f8 f9 f10 hk1 hn7 hP hS hl
      refine lv_iload_n hx hb (dk_at dkX12_keysOf_0 4 rfl) rfl (lv_at hl 0 rfl) ?_
      refine lv_aload_n hx hb (dk_at dkX12_keysOf_0 5 rfl) rfl (lv_at hl 2 rfl) ?_
      refine va_get (D := (dC, dI)) (ci := 12) (v := .ref (q 11)) (C := RX12) (T := TX12) (N := 85) hx hb hts hiX12 hown hK hP 0 wm0 rfl 22 (by decide) (hts _ (List.mem_cons_of_mem _ wlq_1_14)) (fun _ h9 => h9) rfl (dk_at dkX12_keysOf_0 6 rfl) ?_
      refine lv_aload_n hx hb (dk_at dkX12_keysOf_0 7 rfl) rfl (lv_at hl 2 rfl) ?_
      refine va_get (D := (dC, dI)) (ci := 12) (v := .int (iI (A 0 12))) (C := RX12) (T := TX12) (N := 85) hx hb hts hiX12 hown hK hP 0 wm0 rfl 12 (by decide) (hts _ (List.mem_cons_of_mem _ wlq_4_14)) (fun _ h9 => h9) rfl (dk_at dkX12_keysOf_0 8 rfl) ?_
      have r_A_0_12 : (0 : Int) ≤ (A 0 12) ∧ (A 0 12) ≤ 1 := hI 0 12
      refine x_iald hx hb hK hP 11 1 wm11 rfl (by omega) (by decide) (dk_at dkX12_keysOf_0 9 rfl) (fun z11 hz11 => ?_)
      have rz11 : (0 : Int) ≤ z11 ∧ z11 ≤ 4 := by rw [hz11]; exact hI 11 _
      have gz11 := Hd.mk hz11
      have hz11 : z11 = A 11 ((A 0 12)).toNat := hz11
      refine lv_icmp_ge (tgt := 47) hx hb (dk_at dkX12_keysOf_0 10 rfl) (by decide) (fun c12 => ?_) (fun c12 => ?_)
      · have c12 : z11 ≤ z1 := (i_le (rb rz11 (by decide) (by decide)) (rb f9 (by decide) (by decide))).mp c12
        refine lv_iload_n hx hb (dk_at dkX12_keysOf_1 13 rfl) rfl (lv_at hl 1 rfl) ?_
        exact RET z2 _ _ _ _ _ ⟨rfl, hk1 _ ⟨0 + 1, (u_d_X12_keysOf_1 ⟨f9, ⟨f10, ⟨z11, gz11.out, (Or.inl ⟨c12, rfl⟩)⟩⟩⟩)⟩, by omega⟩ hP hS (dk_at dkX12_keysOf_1 14 rfl)
      · have c12 : ¬ z11 ≤ z1 := mt (i_le (rb rz11 (by decide) (by decide)) (rb f9 (by decide) (by decide))).mpr c12
        refine lv_iload_n hx hb (dk_at dkX12_keysOf_0 11 rfl) rfl (lv_at hl 1 rfl) ?_
        refine lv_aload_n hx hb (dk_at dkX12_keysOf_0 12 rfl) rfl (lv_at hl 2 rfl) ?_
        refine va_get (D := (dC, dI)) (ci := 12) (v := .ref (q 13)) (C := RX12) (T := TX12) (N := 85) hx hb hts hiX12 hown hK hP 0 wm0 rfl 24 (by decide) (hts _ (List.mem_cons_of_mem _ wlq_2_58)) (fun _ h9 => h9) rfl (dk_at dkX12_keysOf_0 13 rfl) ?_
        refine lv_aload_n hx hb (dk_at dkX12_keysOf_0 14 rfl) rfl (lv_at hl 2 rfl) ?_
        refine lv_iload_n hx hb (dk_at dkX12_keysOf_0 15 rfl) rfl (lv_at hl 0 rfl) ?_
        refine x_calli (As := [.int (iI z1)]) (rest := [.ref (q 13), .int (iI z2)]) ⟨hx, hb, hml, hown, hts⟩ (mc_X12_key4 l dC dI cB cI cJ cZ cQ q _ z1 hI (by omega)) (cwV 1 hts (goodV wlq_4_44 wlq_4_45 wlq_4_46 wlq_0_8 wlq_4_41) rfl rfl rfl (by decide +kernel) ⟨Nat.le_of_ble_eq_true rfl, Nat.le_of_ble_eq_true rfl⟩) hK hDD hA0 hP hS 0 12 wm0 rfl rfl hl.1 (Nat.le_of_ble_eq_true rfl) (dk_at dkX12_keysOf_1 0 rfl) (fun z13 A14 H locs hw15 hP hS => ?_)
        obtain ⟨rfl, hw15⟩ := hw15
        have ghw15 : q_X12_key4 z1 A z13 := hw15
        have hw15 := hw15.2
        refine tp_i (y := iI (4 * (A 0 12) + z1)) (congrArg iI (show z13 = 4 * (A 0 12) + z1 by omega)) ?_
        clear hw15
        refine x_iald hx hb hK hP 13 1 wm13 rfl (by omega) (by decide) (dk_at dkX12_keysOf_1 1 rfl) (fun z16 hz16 => ?_)
        have rz16 : (0 : Int) ≤ z16 ∧ z16 ≤ 40 := by rw [hz16]; exact hI 13 _
        have gz16 := Hd.mk hz16
        have hz16 : z16 = A 13 (4 * (A 0 12) + z1).toNat := hz16
        refine lv_iload_n hx hb (dk_at dkX12_keysOf_1 2 rfl) rfl (lv_at hl 3 rfl) ?_
        have J39_18 : ∀ (z20 : Int) (H : Heap) (locs : List Loc) (ls : Array Slot), (0 ≤ z20 ∧ z20 ≤ 8) → (∀ (z : Int), (∃ mm1 : Nat, (d_X12_keysOf_2 (fun z1' z2' => d_X12_keysOf_1 x1 A z mm1 z1' z2') z1 z2 z z20)) → r_X12_keysOf x1 A z) → va_P (dC, dI) vwCl (WM cI cJ cZ q A) H → va_S AS s.heap H locs → lv_has ls 4 [(3, .int (iI z1)), (2, .int (iI z2)), (0, .ref (q 0)), (1, .int (iI x1))] → W p l e (headSpec ws_mc_X12_keysOf ({ frames := 1, cells := 0, slots := 0, locals := 21 } : Room)).room s m [.ref (q 0), .int (iI x1)].toArray below meth c H locs 0 0 Q (F0 m 39 ls [.int (iI z20), .int (iI z2)]) := by
          intro z20 H locs ls f22 hk2 hP hS hl
          refine lv_ior hx hb (dk_at dkX12_keysOf_1 9 rfl) ?_
          refine x_absE (fun z23 gz23 hz23 => ?_)
          refine lv_istore_n (lv' := [(2, .int (iI z23)), (3, .int (iI z1)), (0, .ref (q 0)), (1, .int (iI x1))]) hx hb (dk_at dkX12_keysOf_1 10 rfl) rfl hl (by decide) rfl (fun ls hl => ?_)
          refine lv_iinc (v := iI (z1 + 1)) (lv' := [(3, .int (iI (z1 + 1))), (2, .int (iI z23)), (0, .ref (q 0)), (1, .int (iI x1))]) hx hb (dk_at dkX12_keysOf_1 11 rfl) hl (k := 1) rfl (i_inc (by omega)) (by decide) rfl (fun ls hl => ?_)
          refine lv_goto (tgt := 4) hx hb (dk_at dkX12_keysOf_1 12 rfl) (by decide) ?_
          exact ih6 _ (by omega) (z1 + 1) z23 _ _ _ (by omega) (by omega) (by omega) (fun zq ⟨mm1, hq⟩ => hk2 _ ⟨mm1, (u_d_X12_keysOf_2 ⟨f22, ⟨z23, gz23.out, hq⟩⟩)⟩) rfl hP hS (lv_sub hl [0, 1, 2, 3] rfl)
        refine lv_icmp_ne (tgt := 38) hx hb (dk_at dkX12_keysOf_1 3 rfl) (by decide) (fun c17 => ?_) (fun c17 => ?_)
        · have c17 : ¬ z16 = x1 := mt (i_eq (rb rz16 (by decide) (by decide)) hx1).mpr c17
          refine lv_iconst (v := iI 0) hx hb (dk_at dkX12_keysOf_1 8 rfl) (by decide +kernel) ?_
          exact J39_18 0 _ _ _ (by omega) (fun zq ⟨mm1, hq⟩ => hk1 _ ⟨mm1 + 1, (u_d_X12_keysOf_1 ⟨f9, ⟨f10, ⟨z11, gz11.out, (Or.inr ⟨c12, ⟨z13, ghw15, ⟨z16, gz16.out, (Or.inl ⟨c17, hq⟩)⟩⟩⟩)⟩⟩⟩)⟩) hP hS (lv_sub hl [0, 1, 2, 3] rfl)
        · have c17 : z16 = x1 := (i_eq (rb rz16 (by decide) (by decide)) hx1).mp c17
          refine lv_iconst (v := iI 1) hx hb (dk_at dkX12_keysOf_1 4 rfl) (by decide +kernel) ?_
          refine lv_iload_n hx hb (dk_at dkX12_keysOf_1 5 rfl) rfl (lv_at hl 0 rfl) ?_
          refine x_shl1E (M := 3) (t := 8) hx hb (dk_at dkX12_keysOf_1 6 rfl) (by omega) (by decide) (by decide) (fun z19 gz19 hz19 => ?_)
          refine lv_goto (tgt := 39) hx hb (dk_at dkX12_keysOf_1 7 rfl) (by decide) ?_
          exact J39_18 z19 _ _ _ (by omega) (fun zq ⟨mm1, hq⟩ => hk1 _ ⟨mm1 + 1, (u_d_X12_keysOf_1 ⟨f9, ⟨f10, ⟨z11, gz11.out, (Or.inr ⟨c12, ⟨z13, ghw15, ⟨z16, gz16.out, (Or.inr ⟨c17, ⟨z19, gz19.out, hq⟩⟩)⟩⟩⟩)⟩⟩⟩)⟩) hP hS (lv_sub hl [0, 1, 2, 3] rfl)
  exact L4_5 _ 0 0 _ _ _ (by omega) (by omega) (by omega) (fun zq ⟨mm1, hq⟩ => (u_r_X12_keysOf ⟨mm1, hq⟩)) rfl hP hS (lv_sub hl [0, 1, 2, 3] rfl)

abbrev tr_d_X12_bitsOf_1 (z : Int) (K1 : Int → Int → Prop) (z1 : Int) (z2 : Int) : Prop := ((-2147483648 ≤ z1 ∧ z1 ≤ 2147483647) ∧ ((-2147483648 ≤ z2 ∧ z2 ≤ 2147483647) ∧ (((z1 = 0) ∧ (z = z2)) ∨ ((¬ z1 = 0) ∧ (∃ z10 : Int, z10 = oAnd z1 1 ∧ (∃ z11 : Int, z11 = oWrap (z2 + z10) ∧ (∃ z12 : Int, z12 = (z1 % 4294967296) / 2 ∧ (K1 z12 z11))))))))
def d_X12_bitsOf_1 (z : Int) : Nat → Int → Int → Prop
  | 0, _, _ => False
  | nn9 + 1, z1, z2 => tr_d_X12_bitsOf_1 z (fun z1 z2 => d_X12_bitsOf_1 z nn9 z1 z2) z1 z2
theorem u_d_X12_bitsOf_1 {z : Int} {nn9 : Nat} {z1 : Int} {z2 : Int} (h : tr_d_X12_bitsOf_1 z (fun z1 z2 => d_X12_bitsOf_1 z nn9 z1 z2) z1 z2) : d_X12_bitsOf_1 z (nn9 + 1) z1 z2 := h
abbrev tr_r_X12_bitsOf (x1 : Int) (A : St) (z : Int) : Prop := (∃ nn9 : Nat, d_X12_bitsOf_1 z nn9 x1 0)
def r_X12_bitsOf (x1 : Int) (A : St) (z : Int) : Prop := tr_r_X12_bitsOf x1 A z
theorem u_r_X12_bitsOf {x1 : Int} {A : St} {z : Int} (h : tr_r_X12_bitsOf x1 A z) : r_X12_bitsOf x1 A z := h
def q_X12_bitsOf (x1 : Int) (A : St) (z : Int) : Prop := r_X12_bitsOf x1 A z ∧ (-2147483648 ≤ z ∧ z ≤ 2147483647)
def ws_mc_X12_bitsOf : List Cond := .code yX12_bitsOf cX12_bitsOf 3 (some .int) :: WX
set_option maxHeartbeats 4000000 in
set_option maxRecDepth 100000 in
theorem mc_X12_bitsOf (l : Launch) (dC : Nat → ClassId) (dI : Nat → Nat → Nat) (cB cI cJ cZ cQ : ClassId) (q : Nat → Nat) (A : St) (x1 : Int) (hI : IM A) (hx1 : (-2147483648 : Int) ≤ x1 ∧ x1 ≤ 2147483647) : XMi l yX12_bitsOf ws_mc_X12_bitsOf ({ frames := 0, cells := 0, slots := 0, locals := 0 } : Room) (dC, dI) (tyA cB cI cJ cZ cQ) (WM cI cJ cZ q) A [.int (iI x1)] (fun z u => A = u ∧ r_X12_bitsOf x1 A z ∧ (-2147483648 ≤ z ∧ z ≤ 2147483647)) := by
  refine x_meti (cc := cX12_bitsOf) (maxL := 3) WM_adr (by decide +kernel) rfl (Nat.le_of_ble_eq_true rfl) (fun p e s m below meth c Q AS ls hx hb hml hown hts hK hDD hA0 hP hS hl RET => ?_)
  have hown : s.vm.findClass RX12 = some m.cls := hown
  have hl : lv_has ls 3 [(0, .int (iI x1))] := hl
  obtain ⟨H, hHe⟩ : ∃ H : Heap, H = s.heap := ⟨_, rfl⟩
  rw [← hHe] at hP
  have hS : va_S AS s.heap H [] := by rw [hHe]; exact hS
  suffices hgo : ∀ locs : List Loc, va_S AS s.heap H locs → W p l e (headSpec ws_mc_X12_bitsOf ({ frames := 0, cells := 0, slots := 0, locals := 0 } : Room)).room s m [.int (iI x1)].toArray below meth c H locs 0 0 Q (F0 m 0 ls []) by
    have := hgo [] hS
    rw [hHe] at this
    exact this
  clear hS hHe
  intro locs hS
  refine lv_iconst (v := iI 0) hx hb (dk_at dkX12_bitsOf_0 0 rfl) (by decide +kernel) ?_
  refine lv_istore_n (lv' := [(1, .int (iI 0)), (0, .int (iI x1))]) hx hb (dk_at dkX12_bitsOf_0 1 rfl) rfl hl (by decide) rfl (fun ls hl => ?_)
  refine lv_iload_n hx hb (dk_at dkX12_bitsOf_0 2 rfl) rfl (lv_at hl 1 rfl) ?_
  refine lv_istore_n (lv' := [(2, .int (iI x1)), (1, .int (iI 0)), (0, .int (iI x1))]) hx hb (dk_at dkX12_bitsOf_0 3 rfl) rfl hl (by decide) rfl (fun ls hl => ?_)
  have L4_4 : ∀ (n6 : Nat) (z1 z2 : Int) (H : Heap) (locs : List Loc) (ls : Array Slot), (-2147483648 ≤ z1 ∧ z1 ≤ 2147483647) → (-2147483648 ≤ z2 ∧ z2 ≤ 2147483647) → (∀ (z : Int), (∃ mm1 : Nat, (d_X12_bitsOf_1 z mm1 z1 z2)) → r_X12_bitsOf x1 A z) → ((z1 % 4294967296).toNat = n6) → va_P (dC, dI) vwCl (WM cI cJ cZ q A) H → va_S AS s.heap H locs → lv_has ls 3 [(2, .int (iI z1)), (1, .int (iI z2)), (0, .int (iI x1))] → W p l e (headSpec ws_mc_X12_bitsOf ({ frames := 0, cells := 0, slots := 0, locals := 0 } : Room)).room s m [.int (iI x1)].toArray below meth c H locs 0 0 Q (F0 m 4 ls []) := by
    intro n6
    induction n6 using Nat.strongRecOn with
    | ind n6 ih5 =>
      intro z1 z2 H locs ls f7 f8 hk1 hn6 hP hS hl
      refine lv_iload_n hx hb (dk_at dkX12_bitsOf_0 4 rfl) rfl (lv_at hl 0 rfl) ?_
      refine lv_if_eq (tgt := 21) hx hb (dk_at dkX12_bitsOf_0 5 rfl) (by decide) (fun c9 => ?_) (fun c9 => ?_)
      · have c9 : z1 = 0 := (i_eq0 f7).mp c9
        refine lv_iload_n hx hb (dk_at dkX12_bitsOf_1 1 rfl) rfl (lv_at hl 1 rfl) ?_
        exact RET z2 _ _ _ _ _ ⟨rfl, hk1 _ ⟨0 + 1, (u_d_X12_bitsOf_1 ⟨f7, ⟨f8, (Or.inl ⟨c9, rfl⟩)⟩⟩)⟩, by omega⟩ hP hS (dk_at dkX12_bitsOf_1 2 rfl)
      · have c9 : ¬ z1 = 0 := mt (i_eq0 f7).mpr c9
        refine lv_iload_n hx hb (dk_at dkX12_bitsOf_0 6 rfl) rfl (lv_at hl 1 rfl) ?_
        refine lv_iload_n hx hb (dk_at dkX12_bitsOf_0 7 rfl) rfl (lv_at hl 0 rfl) ?_
        refine lv_iconst (v := iI 1) hx hb (dk_at dkX12_bitsOf_0 8 rfl) (by decide +kernel) ?_
        refine lv_iand hx hb (dk_at dkX12_bitsOf_0 9 rfl) ?_
        refine x_andE (b := 1) (by omega) (fun z10 gz10 hz10 => ?_)
        refine x_addv (v := z2 + z10) hx hb (dk_at dkX12_bitsOf_0 10 rfl) (by omega) ?_
        refine x_absE (fun z11 gz11 hz11 => ?_)
        refine lv_istore_n (lv' := [(1, .int (iI z11)), (2, .int (iI z1)), (0, .int (iI x1))]) hx hb (dk_at dkX12_bitsOf_0 11 rfl) rfl hl (by decide) rfl (fun ls hl => ?_)
        refine lv_iload_n hx hb (dk_at dkX12_bitsOf_0 12 rfl) rfl (lv_at hl 1 rfl) ?_
        refine lv_iconst (v := iI 1) hx hb (dk_at dkX12_bitsOf_0 13 rfl) (by decide +kernel) ?_
        refine x_ushr1 hx hb (dk_at dkX12_bitsOf_0 14 rfl) (by omega) (fun z12 hz12 => ?_)
        refine lv_istore_n (lv' := [(2, .int (iI z12)), (1, .int (iI z11)), (0, .int (iI x1))]) hx hb (dk_at dkX12_bitsOf_0 15 rfl) rfl hl (by decide) rfl (fun ls hl => ?_)
        refine lv_goto (tgt := 4) hx hb (dk_at dkX12_bitsOf_1 0 rfl) (by decide) ?_
        exact ih5 _ (by omega) z12 z11 _ _ _ (by omega) (by omega) (fun zq ⟨mm1, hq⟩ => hk1 _ ⟨mm1 + 1, (u_d_X12_bitsOf_1 ⟨f7, ⟨f8, (Or.inr ⟨c9, ⟨z10, gz10.out, ⟨z11, gz11.out, ⟨z12, hz12, hq⟩⟩⟩⟩)⟩⟩)⟩) rfl hP hS (lv_sub hl [0, 1, 2] rfl)
  exact L4_4 _ x1 0 _ _ _ (by omega) (by omega) (fun zq ⟨mm1, hq⟩ => (u_r_X12_bitsOf ⟨mm1, hq⟩)) rfl hP hS (lv_sub hl [0, 1, 2] rfl)
theorem dkX12_opened_0 : dkq cX12_opened [(0, .aload_n 0, 1), (1, .iload_n 2, 1), (2, .invokevirtual 513, 3), (5, .istore_n 3, 1), (6, .aload_n 0, 1), (7, .getfield 86, 3), (10, .aload_n 0, 1), (11, .iload_n 2, 1), (12, .invokevirtual 484, 3), (15, .iaload, 1), (16, .iload_n 1, 1), (17, .if_icmp .ne 21, 3), (20, .iload_n 3, 1), (21, .iconst (-1), 1), (22, .if_icmp .eq 16, 3), (25, .aload_n 0, 1)] = true := by decide +kernel
theorem dkX12_opened_1 : dkq cX12_opened [(26, .aload_n 0, 1), (27, .iload_n 1, 1), (28, .invokevirtual 520, 3), (31, .iload_n 3, 1), (32, .invokevirtual 523, 3), (35, .ifCond .ne 5, 3), (38, .iconst (-1), 1), (39, .ireturn, 1), (40, .aload_n 0, 1), (41, .getfield 89, 3), (44, .aload_n 0, 1), (45, .iload_n 2, 1), (46, .invokevirtual 484, 3), (49, .dup2, 1), (50, .iaload, 1), (51, .iconst 1, 1)] = true := by decide +kernel
theorem dkX12_opened_2 : dkq cX12_opened [(52, .isub, 1), (53, .iastore, 1), (54, .iload_n 3, 1), (55, .ireturn, 1)] = true := by decide +kernel
theorem dkX12_closed_0 : dkq cX12_closed [(0, .aload_n 0, 1), (1, .getfield 86, 3), (4, .aload_n 0, 1), (5, .iload_n 2, 1), (6, .invokevirtual 484, 3), (9, .iaload, 1), (10, .iload_n 1, 1), (11, .if_icmp .ne 40, 3), (14, .aload_n 0, 1), (15, .aload_n 0, 1), (16, .iload_n 1, 1), (17, .invokevirtual 520, 3), (20, .iload_n 3, 1), (21, .invokevirtual 523, 3), (24, .ifCond .eq 27, 3), (27, .aload_n 0, 1)] = true := by decide +kernel
theorem dkX12_closed_1 : dkq cX12_closed [(28, .iload_n 2, 1), (29, .iload_n 3, 1), (30, .invokevirtual 490, 3), (33, .ifCond .ne 18, 3), (36, .aload_n 0, 1), (37, .getfield 89, 3), (40, .aload_n 0, 1), (41, .iload_n 2, 1), (42, .invokevirtual 484, 3), (45, .iaload, 1), (46, .bipush 6, 2), (48, .if_icmp .ne 5, 3), (51, .iconst (-1), 1), (52, .ireturn, 1), (53, .aload_n 0, 1), (54, .getfield 92, 3)] = true := by decide +kernel
theorem dkX12_closed_2 : dkq cX12_closed [(57, .bipush 10, 2), (59, .aload_n 0, 1), (60, .iload_n 2, 1), (61, .invokevirtual 484, 3), (64, .imul, 1), (65, .aload_n 0, 1), (66, .getfield 89, 3), (69, .aload_n 0, 1), (70, .iload_n 2, 1), (71, .invokevirtual 484, 3), (74, .iaload, 1), (75, .iadd, 1), (76, .iload_n 3, 1), (77, .iastore, 1), (78, .aload_n 0, 1), (79, .getfield 89, 3)] = true := by decide +kernel
theorem dkX12_closed_3 : dkq cX12_closed [(82, .aload_n 0, 1), (83, .iload_n 2, 1), (84, .invokevirtual 484, 3), (87, .dup2, 1), (88, .iaload, 1), (89, .iconst 1, 1), (90, .iadd, 1), (91, .iastore, 1), (92, .aload_n 0, 1), (93, .getfield 89, 3), (96, .aload_n 0, 1), (97, .iload_n 2, 1), (98, .invokevirtual 484, 3), (101, .iaload, 1), (102, .ireturn, 1)] = true := by decide +kernel
theorem dkX12_open_0 : dkq cX12_open [(0, .aload_n 0, 1), (1, .iload_n 1, 1), (2, .invokevirtual 539, 3), (5, .ifCond .eq 20, 3), (8, .aload_n 0, 1), (9, .iload_n 2, 1), (10, .invokevirtual 510, 3), (13, .ifCond .eq 12, 3), (16, .aload_n 0, 1), (17, .iload_n 1, 1), (18, .iload_n 2, 1), (19, .invokevirtual 545, 3), (22, .goto 4, 3), (25, .iconst (-1), 1), (26, .istore_n 3, 1), (27, .iload_n 3, 1)] = true := by decide +kernel
theorem dkX12_open_1 : dkq cX12_open [(28, .iconst (-1), 1), (29, .if_icmp .ne 11, 3), (32, .aload_n 0, 1), (33, .iconst 2, 1), (34, .invokevirtual 271, 3), (37, .goto 4, 3), (40, .iload_n 3, 1), (41, .ireturn, 1)] = true := by decide +kernel
theorem dkX12_shut_0 : dkq cX12_shut [(0, .aload_n 0, 1), (1, .iload_n 1, 1), (2, .invokevirtual 539, 3), (5, .ifCond .eq 29, 3), (8, .aload_n 0, 1), (9, .iload_n 2, 1), (10, .invokevirtual 510, 3), (13, .ifCond .eq 21, 3), (16, .aload_n 0, 1), (17, .iload_n 3, 1), (18, .invokevirtual 507, 3), (21, .ifCond .eq 13, 3), (24, .aload_n 0, 1), (25, .iload_n 1, 1), (26, .iload_n 2, 1), (27, .iload_n 3, 1)] = true := by decide +kernel
theorem dkX12_shut_1 : dkq cX12_shut [(28, .invokevirtual 548, 3), (31, .goto 4, 3), (34, .iconst (-1), 1), (35, .istore 4, 2), (37, .iload 4, 2), (39, .iconst (-1), 1), (40, .if_icmp .ne 11, 3), (43, .aload_n 0, 1), (44, .iconst 2, 1), (45, .invokevirtual 271, 3), (48, .goto 5, 3), (51, .iload 4, 2), (53, .ireturn, 1)] = true := by decide +kernel
theorem dkX12_lend_0 : dkq cX12_lend [(0, .aload_n 0, 1), (1, .iload_n 1, 1), (2, .invokevirtual 539, 3), (5, .ifCond .eq 28, 3), (8, .aload_n 0, 1), (9, .iload_n 2, 1), (10, .invokevirtual 510, 3), (13, .ifCond .eq 20, 3), (16, .aload_n 0, 1), (17, .iload_n 3, 1), (18, .invokevirtual 539, 3), (21, .ifCond .eq 12, 3), (24, .iload_n 1, 1), (25, .iload_n 3, 1), (26, .if_icmp .eq 7, 3), (29, .iconst 1, 1)] = true := by decide +kernel
theorem dkX12_lend_1 : dkq cX12_lend [(30, .goto 4, 3), (33, .iconst 0, 1), (34, .istore 4, 2), (36, .iload 4, 2), (38, .ifCond .eq 30, 3), (41, .aload_n 0, 1), (42, .getfield 86, 3), (45, .aload_n 0, 1), (46, .iload_n 2, 1), (47, .invokevirtual 484, 3), (50, .iaload, 1), (51, .iload_n 1, 1), (52, .if_icmp .ne 16, 3), (55, .aload_n 0, 1), (56, .iload_n 1, 1), (57, .invokevirtual 520, 3)] = true := by decide +kernel
theorem dkX12_lend_2 : dkq cX12_lend [(60, .aload_n 0, 1), (61, .iload_n 3, 1), (62, .invokevirtual 520, 3), (65, .if_icmp .eq 17, 3), (68, .aload_n 0, 1), (69, .iconst 3, 1), (70, .invokevirtual 271, 3), (73, .ifCond .lt 7, 3), (80, .iconst 0, 1), (81, .ireturn, 1), (82, .aload_n 0, 1), (83, .getfield 86, 3), (86, .aload_n 0, 1), (87, .iload_n 2, 1), (88, .invokevirtual 484, 3), (91, .iload_n 3, 1)] = true := by decide +kernel
theorem dkX12_lend_3 : dkq cX12_lend [(92, .iastore, 1), (93, .iconst 1, 1), (94, .ireturn, 1)] = true := by decide +kernel
theorem dkX12_isOpenBox_0 : dkq cX12_isOpenBox [(0, .aload_n 0, 1), (1, .iload_n 2, 1), (2, .invokevirtual 507, 3), (5, .ifCond .eq 46, 3), (8, .aload_n 0, 1), (9, .getfield 70, 3), (12, .aload_n 0, 1), (13, .iload_n 2, 1), (14, .invokevirtual 487, 3), (17, .baload, 1), (18, .ifCond .eq 33, 3), (21, .aload_n 0, 1), (22, .getfield 64, 3), (25, .aload_n 0, 1), (26, .iload_n 2, 1), (27, .invokevirtual 487, 3)] = true := by decide +kernel
theorem dkX12_isOpenBox_1 : dkq cX12_isOpenBox [(30, .iaload, 1), (31, .aload_n 0, 1), (32, .iload_n 1, 1), (33, .invokevirtual 520, 3), (36, .if_icmp .ne 15, 3), (39, .aload_n 0, 1), (40, .iload_n 2, 1), (41, .invokevirtual 493, 3), (44, .ifCond .ne 7, 3), (47, .iconst 1, 1), (48, .goto 4, 3), (51, .iconst 0, 1), (52, .ireturn, 1)] = true := by decide +kernel
theorem dkX12_take_0 : dkq cX12_take [(0, .aload_n 0, 1), (1, .iload_n 1, 1), (2, .invokevirtual 539, 3), (5, .ifCond .eq 11, 3), (8, .aload_n 0, 1), (9, .iload_n 2, 1), (10, .invokevirtual 510, 3), (13, .ifCond .ne 17, 3), (16, .aload_n 0, 1), (17, .iconst 3, 1), (18, .invokevirtual 271, 3), (21, .ifCond .lt 7, 3), (28, .iconst 0, 1), (29, .ireturn, 1), (30, .aload_n 0, 1), (31, .getfield 86, 3)] = true := by decide +kernel
theorem dkX12_take_1 : dkq cX12_take [(34, .aload_n 0, 1), (35, .iload_n 2, 1), (36, .invokevirtual 484, 3), (39, .iaload, 1), (40, .istore_n 3, 1), (41, .iload_n 3, 1), (42, .bipush 10, 2), (44, .aload_n 0, 1), (45, .iload_n 1, 1), (46, .invokevirtual 520, 3), (49, .iadd, 1), (50, .if_icmp .eq 27, 3), (53, .iload_n 3, 1), (54, .bipush 20, 2), (56, .if_icmp .lt 25, 3), (59, .iload_n 3, 1)] = true := by decide +kernel
theorem dkX12_take_2 : dkq cX12_take [(60, .bipush 40, 2), (62, .if_icmp .ge 19, 3), (65, .aload_n 0, 1), (66, .iload_n 1, 1), (67, .iload_n 3, 1), (68, .bipush 20, 2), (70, .isub, 1), (71, .invokevirtual 552, 3), (74, .ifCond .eq 7, 3), (77, .iconst 1, 1), (78, .goto 4, 3), (81, .iconst 0, 1), (82, .istore 4, 2), (84, .iload 4, 2), (86, .ifCond .ne 17, 3), (89, .aload_n 0, 1)] = true := by decide +kernel
theorem dkX12_take_3 : dkq cX12_take [(90, .iconst 3, 1), (91, .invokevirtual 271, 3), (94, .ifCond .lt 7, 3), (101, .iconst 0, 1), (102, .ireturn, 1), (103, .aload_n 0, 1), (104, .getfield 86, 3), (107, .aload_n 0, 1), (108, .iload_n 2, 1), (109, .invokevirtual 484, 3), (112, .iload_n 1, 1), (113, .iastore, 1), (114, .iconst 1, 1), (115, .ireturn, 1)] = true := by decide +kernel
theorem dkX12_lay_0 : dkq cX12_lay [(0, .aload_n 0, 1), (1, .iload_n 1, 1), (2, .invokevirtual 539, 3), (5, .ifCond .eq 43, 3), (8, .aload_n 0, 1), (9, .iload_n 2, 1), (10, .invokevirtual 510, 3), (13, .ifCond .eq 35, 3), (16, .aload_n 0, 1), (17, .getfield 86, 3), (20, .aload_n 0, 1), (21, .iload_n 2, 1), (22, .invokevirtual 484, 3), (25, .iaload, 1), (26, .iload_n 1, 1), (27, .if_icmp .ne 21, 3)] = true := by decide +kernel
theorem dkX12_lay_1 : dkq cX12_lay [(30, .iload_n 3, 1), (31, .iconst (-1), 1), (32, .if_icmp .eq 12, 3), (35, .aload_n 0, 1), (36, .iload_n 1, 1), (37, .iload_n 3, 1), (38, .invokevirtual 552, 3), (41, .ifCond .eq 7, 3), (44, .iconst 1, 1), (45, .goto 4, 3), (48, .iconst 0, 1), (49, .istore 4, 2), (51, .iload 4, 2), (53, .ifCond .ne 17, 3), (56, .aload_n 0, 1), (57, .iconst 3, 1)] = true := by decide +kernel
theorem dkX12_lay_2 : dkq cX12_lay [(58, .invokevirtual 271, 3), (61, .ifCond .lt 7, 3), (68, .iconst 0, 1), (69, .ireturn, 1), (70, .aload_n 0, 1), (71, .getfield 86, 3), (74, .aload_n 0, 1), (75, .iload_n 2, 1), (76, .invokevirtual 484, 3), (79, .iload_n 3, 1), (80, .iconst (-1), 1), (81, .if_icmp .ne 14, 3), (84, .bipush 10, 2), (86, .aload_n 0, 1), (87, .iload_n 1, 1), (88, .invokevirtual 520, 3)] = true := by decide +kernel
theorem dkX12_lay_3 : dkq cX12_lay [(91, .iadd, 1), (92, .goto 7, 3), (95, .bipush 20, 2), (97, .iload_n 3, 1), (98, .iadd, 1), (99, .iastore, 1), (100, .iconst 1, 1), (101, .ireturn, 1)] = true := by decide +kernel
theorem dkX12_snap_0 : dkq cX12_snap [(0, .aload_n 0, 1), (1, .iload_n 1, 1), (2, .invokevirtual 510, 3), (5, .ifCond .eq 18, 3), (8, .aload_n 0, 1), (9, .getfield 86, 3), (12, .aload_n 0, 1), (13, .iload_n 1, 1), (14, .invokevirtual 484, 3), (17, .iaload, 1), (18, .bipush 40, 2), (20, .if_icmp .ne 9, 3), (23, .aload_n 0, 1), (24, .iconst 3, 1), (25, .invokevirtual 271, 3), (28, .ireturn, 1)] = true := by decide +kernel
theorem dkX12_snap_1 : dkq cX12_snap [(29, .aload_n 0, 1), (30, .getfield 86, 3), (33, .aload_n 0, 1), (34, .iload_n 1, 1), (35, .invokevirtual 484, 3), (38, .bipush 40, 2), (40, .iastore, 1), (41, .aload_n 0, 1), (42, .getfield 89, 3), (45, .aload_n 0, 1), (46, .iload_n 1, 1), (47, .invokevirtual 484, 3), (50, .iaload, 1), (51, .ireturn, 1)] = true := by decide +kernel
theorem dkX12_notes_0 : dkq cX12_notes [(0, .iconst 0, 1), (1, .istore_n 1, 1), (2, .iload_n 1, 1), (3, .iconst 3, 1), (4, .if_icmp .ge 28, 3), (7, .aload_n 0, 1), (8, .getfield 198, 3), (11, .iload_n 1, 1), (12, .aload_n 0, 1), (13, .getfield 101, 3), (16, .iconst 3, 1), (17, .aload_n 0, 1), (18, .getfield 48, 3), (21, .imul, 1), (22, .iload_n 1, 1), (23, .iadd, 1)] = true := by decide +kernel
theorem dkX12_notes_1 : dkq cX12_notes [(24, .iaload, 1), (25, .iastore, 1), (26, .iinc 1 1, 3), (29, .goto (-27), 3), (32, .iconst 0, 1), (33, .istore_n 1, 1), (34, .iload_n 1, 1), (35, .iconst 4, 1), (36, .if_icmp .ge 25, 3), (39, .aload_n 0, 1), (40, .getfield 201, 3), (43, .iload_n 1, 1), (44, .aload_n 0, 1), (45, .getfield 89, 3), (48, .aload_n 0, 1), (49, .iload_n 1, 1)] = true := by decide +kernel
theorem dkX12_notes_2 : dkq cX12_notes [(50, .invokevirtual 484, 3), (53, .iaload, 1), (54, .iastore, 1), (55, .iinc 1 1, 3), (58, .goto (-24), 3), (61, .iconst 0, 1), (62, .istore_n 1, 1), (63, .iload_n 1, 1), (64, .bipush 40, 2), (66, .if_icmp .ge 29, 3), (69, .aload_n 0, 1), (70, .getfield 204, 3), (73, .iload_n 1, 1), (74, .aload_n 0, 1), (75, .getfield 92, 3), (78, .bipush 40, 2)] = true := by decide +kernel
theorem dkX12_notes_3 : dkq cX12_notes [(80, .aload_n 0, 1), (81, .getfield 48, 3), (84, .imul, 1), (85, .iload_n 1, 1), (86, .iadd, 1), (87, .iaload, 1), (88, .iastore, 1), (89, .iinc 1 1, 3), (92, .goto (-29), 3), (95, .return_, 1)] = true := by decide +kernel
theorem dkX12_back_0 : dkq cX12_back [(0, .iconst 0, 1), (1, .istore_n 1, 1), (2, .iload_n 1, 1), (3, .iconst 3, 1), (4, .if_icmp .ge 28, 3), (7, .aload_n 0, 1), (8, .getfield 101, 3), (11, .iconst 3, 1), (12, .aload_n 0, 1), (13, .getfield 48, 3), (16, .imul, 1), (17, .iload_n 1, 1), (18, .iadd, 1), (19, .aload_n 0, 1), (20, .getfield 198, 3), (23, .iload_n 1, 1)] = true := by decide +kernel
theorem dkX12_back_1 : dkq cX12_back [(24, .iaload, 1), (25, .iastore, 1), (26, .iinc 1 1, 3), (29, .goto (-27), 3), (32, .iconst 0, 1), (33, .istore_n 1, 1), (34, .iload_n 1, 1), (35, .iconst 4, 1), (36, .if_icmp .ge 25, 3), (39, .aload_n 0, 1), (40, .getfield 89, 3), (43, .aload_n 0, 1), (44, .iload_n 1, 1), (45, .invokevirtual 484, 3), (48, .aload_n 0, 1), (49, .getfield 201, 3)] = true := by decide +kernel
theorem dkX12_back_2 : dkq cX12_back [(52, .iload_n 1, 1), (53, .iaload, 1), (54, .iastore, 1), (55, .iinc 1 1, 3), (58, .goto (-24), 3), (61, .iconst 0, 1), (62, .istore_n 1, 1), (63, .iload_n 1, 1), (64, .bipush 40, 2), (66, .if_icmp .ge 29, 3), (69, .aload_n 0, 1), (70, .getfield 92, 3), (73, .bipush 40, 2), (75, .aload_n 0, 1), (76, .getfield 48, 3), (79, .imul, 1)] = true := by decide +kernel
theorem dkX12_back_3 : dkq cX12_back [(80, .iload_n 1, 1), (81, .iadd, 1), (82, .aload_n 0, 1), (83, .getfield 204, 3), (86, .iload_n 1, 1), (87, .iaload, 1), (88, .iastore, 1), (89, .iinc 1 1, 3), (92, .goto (-29), 3), (95, .return_, 1)] = true := by decide +kernel
theorem dkX12_firstKey_0 : dkq cX12_firstKey [(0, .iconst 0, 1), (1, .istore_n 3, 1), (2, .iload_n 3, 1), (3, .aload_n 0, 1), (4, .getfield 80, 3), (7, .aload_n 0, 1), (8, .getfield 48, 3), (11, .iaload, 1), (12, .if_icmp .ge 34, 3), (15, .aload_n 0, 1), (16, .getfield 86, 3), (19, .aload_n 0, 1), (20, .iload_n 3, 1), (21, .invokevirtual 484, 3), (24, .iaload, 1), (25, .iload_n 1, 1)] = true := by decide +kernel
theorem dkX12_firstKey_1 : dkq cX12_firstKey [(26, .if_icmp .ne 14, 3), (29, .aload_n 0, 1), (30, .iload_n 3, 1), (31, .iload_n 2, 1), (32, .invokevirtual 490, 3), (35, .ifCond .ne 5, 3), (38, .iload_n 3, 1), (39, .ireturn, 1), (40, .iinc 3 1, 3), (43, .goto (-41), 3), (46, .iconst (-1), 1), (47, .ireturn, 1)] = true := by decide +kernel
