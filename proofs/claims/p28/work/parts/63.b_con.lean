abbrev tr_r_X12_nameOf_0 (x1 : Int) (x2 : Int) (x3 : Int) (A : St) (z : Int) : Prop := (((x2 < 0 ∨ 3 < x2) ∧ (∃ z2 : Int, z2 = A 20 (4 * x1 + x3).toNat ∧ (z = z2))) ∨ (x2 = 0 ∧ (∃ z3 : Int, z3 = A 3 (8 * x1 + x3).toNat ∧ (z = z3))) ∨ (x2 = 1 ∧ (∃ z4 : Int, z4 = A 5 (10 * x1 + x3).toNat ∧ (z = z4))) ∨ (x2 = 2 ∧ (∃ z5 : Int, z5 = A 12 (4 * x1 + x3).toNat ∧ (z = z5))) ∨ (x2 = 3 ∧ (∃ z6 : Int, z6 = A 17 (3 * x1 + x3).toNat ∧ (z = z6))))
def r_X12_nameOf_0 (x1 : Int) (x2 : Int) (x3 : Int) (A : St) (z : Int) : Prop := tr_r_X12_nameOf_0 x1 x2 x3 A z
theorem u_r_X12_nameOf_0 {x1 : Int} {x2 : Int} {x3 : Int} {A : St} {z : Int} (h : tr_r_X12_nameOf_0 x1 x2 x3 A z) : r_X12_nameOf_0 x1 x2 x3 A z := h
def q_X12_nameOf_0 (x1 : Int) (x2 : Int) (x3 : Int) (A : St) (z : Int) : Prop := r_X12_nameOf_0 x1 x2 x3 A z ∧ ((-9223372036854775808 ≤ z ∧ z ≤ 9223372036854775807) ∧ z = A 3 (8 * x1 + x3).toNat)
def ws_mb_X12_nameOf_0 : List Cond := .code yX12_nameOf cX12_nameOf 4 (some .long) :: WX
set_option maxHeartbeats 4000000 in
set_option maxRecDepth 100000 in
theorem mb_X12_nameOf_0 (l : Launch) (dC : Nat → ClassId) (dI : Nat → Nat → Nat) (cB cI cJ cZ cQ : ClassId) (q : Nat → Nat) (A : St) (x1 x2 x3 : Int) (hI : IM A) (hx1 : (0 : Int) ≤ x1 ∧ x1 ≤ 1) (hx2 : (0 : Int) ≤ x2 ∧ x2 ≤ 0) (hx3 : (0 : Int) ≤ x3 ∧ x3 ≤ 7) : XMl l yX12_nameOf ws_mb_X12_nameOf_0 ({ frames := 0, cells := 0, slots := 0, locals := 0 } : Room) (dC, dI) (tyA cB cI cJ cZ cQ) (WM cI cJ cZ q) A [.ref (q 0), .int (iI x1), .int (iI x2), .int (iI x3)] (fun z u => A = u ∧ r_X12_nameOf_0 x1 x2 x3 A z ∧ ((-9223372036854775808 ≤ z ∧ z ≤ 9223372036854775807) ∧ z = A 3 (8 * x1 + x3).toNat)) := by
  refine x_metl (cc := cX12_nameOf) (maxL := 4) WM_adr (by decide +kernel) rfl (Nat.le_of_ble_eq_true rfl) (fun p e s m below meth c Q AS ls hx hb hml hown hts hK hDD hA0 hP hS hl RET => ?_)
  have hown : s.vm.findClass RX12 = some m.cls := hown
  have hl : lv_has ls 4 [(0, .ref (q 0)), (1, .int (iI x1)), (2, .int (iI x2)), (3, .int (iI x3))] := hl
  have hiX12 : ∀ w ∈ u_ws RX12 TX12 85, w ∈ ws_mb_X12_nameOf_0 := fun w h => List.mem_cons_of_mem _ (wx_lay w h)
  obtain ⟨H, hHe⟩ : ∃ H : Heap, H = s.heap := ⟨_, rfl⟩
  rw [← hHe] at hP
  have hS : va_S AS s.heap H [] := by rw [hHe]; exact hS
  suffices hgo : ∀ locs : List Loc, va_S AS s.heap H locs → W p l e (headSpec ws_mb_X12_nameOf_0 ({ frames := 0, cells := 0, slots := 0, locals := 0 } : Room)).room s m [.ref (q 0), .int (iI x1), .int (iI x2), .int (iI x3)].toArray below meth c H locs 0 0 Q (F0 m 0 ls []) by
    have := hgo [] hS
    rw [hHe] at this
    exact this
  clear hS hHe
  intro locs hS
  refine lv_iload_n hx hb (dk_at dkX12_nameOf_0 0 rfl) rfl (lv_at hl 2 rfl) ?_
  rcases (show (x2 < 0 ∨ 3 < x2) ∨ x2 = 0 ∨ x2 = 1 ∨ x2 = 2 ∨ x2 = 3 by omega) with c1 | c1 | c1 | c1 | c1
  · refine lv_tableOut (tgt := 78) hx hb (dk_at dkX12_nameOf_0 1 rfl) (by rw [iI_toInt (rb hx2 (by decide) (by decide))]; exact c1) (by decide) ?_
    refine lv_aload_n hx hb (dk_at dkX12_nameOf_2 6 rfl) rfl (lv_at hl 0 rfl) ?_
    refine va_get (D := (dC, dI)) (ci := 12) (v := .ref (q 20)) (C := RX12) (T := TX12) (N := 85) hx hb hts hiX12 hown hK hP 0 wm0 rfl 31 (by decide) (hts _ (List.mem_cons_of_mem _ wlq_1_25)) (fun _ h9 => h9) rfl (dk_at dkX12_nameOf_2 7 rfl) ?_
    refine lv_iconst (v := iI 4) hx hb (dk_at dkX12_nameOf_2 8 rfl) (by decide +kernel) ?_
    refine lv_iload_n hx hb (dk_at dkX12_nameOf_2 9 rfl) rfl (lv_at hl 1 rfl) ?_
    refine x_mulv (v := 4 * x1) hx hb (dk_at dkX12_nameOf_2 10 rfl) (by omega) ?_
    refine lv_iload_n hx hb (dk_at dkX12_nameOf_2 11 rfl) rfl (lv_at hl 3 rfl) ?_
    refine x_addv (v := 4 * x1 + x3) hx hb (dk_at dkX12_nameOf_2 12 rfl) (by omega) ?_
    refine x_lald hx hb hK hP 20 2 wm20 rfl (by omega) (by decide) (dk_at dkX12_nameOf_2 13 rfl) (fun z2 hz2 => ?_)
    have rz2 : (-9223372036854775808 : Int) ≤ z2 ∧ z2 ≤ 9223372036854775807 := by rw [hz2]; exact hI 20 _
    have gz2 := Hd.mk hz2
    have hz2 : z2 = A 20 (4 * x1 + x3).toNat := hz2
    exact RET z2 _ _ _ _ _ ⟨rfl, (u_r_X12_nameOf_0 (Or.inl ⟨c1, ⟨z2, gz2.out, rfl⟩⟩)), by omega⟩ hP hS (dk_at dkX12_nameOf_2 14 rfl)
  · refine tp_i (y := iI 0) (congrArg iI c1) ?_
    refine lv_tableIn (off := 31) (tgt := 32) hx hb (dk_at dkX12_nameOf_0 1 rfl) (by decide +kernel) (by decide +kernel) (by decide +kernel) (by decide) ?_
    refine lv_aload_n hx hb (dk_at dkX12_nameOf_0 2 rfl) rfl (lv_at hl 0 rfl) ?_
    refine va_get (D := (dC, dI)) (ci := 12) (v := .ref (q 3)) (C := RX12) (T := TX12) (N := 85) hx hb hts hiX12 hown hK hP 0 wm0 rfl 14 (by decide) (hts _ (List.mem_cons_of_mem _ wlq_1_21)) (fun _ h9 => h9) rfl (dk_at dkX12_nameOf_0 3 rfl) ?_
    refine lv_bipush (v := iI 8) hx hb (dk_at dkX12_nameOf_0 4 rfl) (by decide +kernel) ?_
    refine lv_iload_n hx hb (dk_at dkX12_nameOf_0 5 rfl) rfl (lv_at hl 1 rfl) ?_
    refine x_mulv (v := 8 * x1) hx hb (dk_at dkX12_nameOf_0 6 rfl) (by omega) ?_
    refine lv_iload_n hx hb (dk_at dkX12_nameOf_0 7 rfl) rfl (lv_at hl 3 rfl) ?_
    refine x_addv (v := 8 * x1 + x3) hx hb (dk_at dkX12_nameOf_0 8 rfl) (by omega) ?_
    refine x_lald hx hb hK hP 3 2 wm3 rfl (by omega) (by decide) (dk_at dkX12_nameOf_0 9 rfl) (fun z3 hz3 => ?_)
    have rz3 : (-9223372036854775808 : Int) ≤ z3 ∧ z3 ≤ 9223372036854775807 := by rw [hz3]; exact hI 3 _
    have gz3 := Hd.mk hz3
    have hz3 : z3 = A 3 (8 * x1 + x3).toNat := hz3
    exact RET z3 _ _ _ _ _ ⟨rfl, (u_r_X12_nameOf_0 (Or.inr (Or.inl ⟨c1, ⟨z3, gz3.out, rfl⟩⟩))), by omega⟩ hP hS (dk_at dkX12_nameOf_0 10 rfl)
  · refine tp_i (y := iI 1) (congrArg iI c1) ?_
    refine lv_tableIn (off := 43) (tgt := 44) hx hb (dk_at dkX12_nameOf_0 1 rfl) (by decide +kernel) (by decide +kernel) (by decide +kernel) (by decide) ?_
    refine lv_aload_n hx hb (dk_at dkX12_nameOf_0 11 rfl) rfl (lv_at hl 0 rfl) ?_
    refine va_get (D := (dC, dI)) (ci := 12) (v := .ref (q 5)) (C := RX12) (T := TX12) (N := 85) hx hb hts hiX12 hown hK hP 0 wm0 rfl 16 (by decide) (hts _ (List.mem_cons_of_mem _ wlq_1_22)) (fun _ h9 => h9) rfl (dk_at dkX12_nameOf_0 12 rfl) ?_
    refine lv_bipush (v := iI 10) hx hb (dk_at dkX12_nameOf_0 13 rfl) (by decide +kernel) ?_
    refine lv_iload_n hx hb (dk_at dkX12_nameOf_0 14 rfl) rfl (lv_at hl 1 rfl) ?_
    refine x_mulv (v := 10 * x1) hx hb (dk_at dkX12_nameOf_0 15 rfl) (by omega) ?_
    refine lv_iload_n hx hb (dk_at dkX12_nameOf_1 0 rfl) rfl (lv_at hl 3 rfl) ?_
    refine x_addv (v := 10 * x1 + x3) hx hb (dk_at dkX12_nameOf_1 1 rfl) (by omega) ?_
    refine x_lald hx hb hK hP 5 2 wm5 rfl (by omega) (by decide) (dk_at dkX12_nameOf_1 2 rfl) (fun z4 hz4 => ?_)
    have rz4 : (-9223372036854775808 : Int) ≤ z4 ∧ z4 ≤ 9223372036854775807 := by rw [hz4]; exact hI 5 _
    have gz4 := Hd.mk hz4
    have hz4 : z4 = A 5 (10 * x1 + x3).toNat := hz4
    exact RET z4 _ _ _ _ _ ⟨rfl, (u_r_X12_nameOf_0 (Or.inr (Or.inr (Or.inl ⟨c1, ⟨z4, gz4.out, rfl⟩⟩)))), by omega⟩ hP hS (dk_at dkX12_nameOf_1 3 rfl)
  · refine tp_i (y := iI 2) (congrArg iI c1) ?_
    refine lv_tableIn (off := 55) (tgt := 56) hx hb (dk_at dkX12_nameOf_0 1 rfl) (by decide +kernel) (by decide +kernel) (by decide +kernel) (by decide) ?_
    refine lv_aload_n hx hb (dk_at dkX12_nameOf_1 4 rfl) rfl (lv_at hl 0 rfl) ?_
    refine va_get (D := (dC, dI)) (ci := 12) (v := .ref (q 12)) (C := RX12) (T := TX12) (N := 85) hx hb hts hiX12 hown hK hP 0 wm0 rfl 23 (by decide) (hts _ (List.mem_cons_of_mem _ wlq_1_23)) (fun _ h9 => h9) rfl (dk_at dkX12_nameOf_1 5 rfl) ?_
    refine lv_iconst (v := iI 4) hx hb (dk_at dkX12_nameOf_1 6 rfl) (by decide +kernel) ?_
    refine lv_iload_n hx hb (dk_at dkX12_nameOf_1 7 rfl) rfl (lv_at hl 1 rfl) ?_
    refine x_mulv (v := 4 * x1) hx hb (dk_at dkX12_nameOf_1 8 rfl) (by omega) ?_
    refine lv_iload_n hx hb (dk_at dkX12_nameOf_1 9 rfl) rfl (lv_at hl 3 rfl) ?_
    refine x_addv (v := 4 * x1 + x3) hx hb (dk_at dkX12_nameOf_1 10 rfl) (by omega) ?_
    refine x_lald hx hb hK hP 12 2 wm12 rfl (by omega) (by decide) (dk_at dkX12_nameOf_1 11 rfl) (fun z5 hz5 => ?_)
    have rz5 : (-9223372036854775808 : Int) ≤ z5 ∧ z5 ≤ 9223372036854775807 := by rw [hz5]; exact hI 12 _
    have gz5 := Hd.mk hz5
    have hz5 : z5 = A 12 (4 * x1 + x3).toNat := hz5
    exact RET z5 _ _ _ _ _ ⟨rfl, (u_r_X12_nameOf_0 (Or.inr (Or.inr (Or.inr (Or.inl ⟨c1, ⟨z5, gz5.out, rfl⟩⟩))))), by omega⟩ hP hS (dk_at dkX12_nameOf_1 12 rfl)
  · refine tp_i (y := iI 3) (congrArg iI c1) ?_
    refine lv_tableIn (off := 66) (tgt := 67) hx hb (dk_at dkX12_nameOf_0 1 rfl) (by decide +kernel) (by decide +kernel) (by decide +kernel) (by decide) ?_
    refine lv_aload_n hx hb (dk_at dkX12_nameOf_1 13 rfl) rfl (lv_at hl 0 rfl) ?_
    refine va_get (D := (dC, dI)) (ci := 12) (v := .ref (q 17)) (C := RX12) (T := TX12) (N := 85) hx hb hts hiX12 hown hK hP 0 wm0 rfl 28 (by decide) (hts _ (List.mem_cons_of_mem _ wlq_1_24)) (fun _ h9 => h9) rfl (dk_at dkX12_nameOf_1 14 rfl) ?_
    refine lv_iconst (v := iI 3) hx hb (dk_at dkX12_nameOf_1 15 rfl) (by decide +kernel) ?_
    refine lv_iload_n hx hb (dk_at dkX12_nameOf_2 0 rfl) rfl (lv_at hl 1 rfl) ?_
    refine x_mulv (v := 3 * x1) hx hb (dk_at dkX12_nameOf_2 1 rfl) (by omega) ?_
    refine lv_iload_n hx hb (dk_at dkX12_nameOf_2 2 rfl) rfl (lv_at hl 3 rfl) ?_
    refine x_addv (v := 3 * x1 + x3) hx hb (dk_at dkX12_nameOf_2 3 rfl) (by omega) ?_
    refine x_lald hx hb hK hP 17 2 wm17 rfl (by omega) (by decide) (dk_at dkX12_nameOf_2 4 rfl) (fun z6 hz6 => ?_)
    have rz6 : (-9223372036854775808 : Int) ≤ z6 ∧ z6 ≤ 9223372036854775807 := by rw [hz6]; exact hI 17 _
    have gz6 := Hd.mk hz6
    have hz6 : z6 = A 17 (3 * x1 + x3).toNat := hz6
    exact RET z6 _ _ _ _ _ ⟨rfl, (u_r_X12_nameOf_0 (Or.inr (Or.inr (Or.inr (Or.inr ⟨c1, ⟨z6, gz6.out, rfl⟩⟩))))), by omega⟩ hP hS (dk_at dkX12_nameOf_2 5 rfl)

abbrev tr_r_X12_nameOf_1 (x1 : Int) (x2 : Int) (x3 : Int) (A : St) (z : Int) : Prop := (((x2 < 0 ∨ 3 < x2) ∧ (∃ z2 : Int, z2 = A 20 (4 * x1 + x3).toNat ∧ (z = z2))) ∨ (x2 = 0 ∧ (∃ z3 : Int, z3 = A 3 (8 * x1 + x3).toNat ∧ (z = z3))) ∨ (x2 = 1 ∧ (∃ z4 : Int, z4 = A 5 (10 * x1 + x3).toNat ∧ (z = z4))) ∨ (x2 = 2 ∧ (∃ z5 : Int, z5 = A 12 (4 * x1 + x3).toNat ∧ (z = z5))) ∨ (x2 = 3 ∧ (∃ z6 : Int, z6 = A 17 (3 * x1 + x3).toNat ∧ (z = z6))))
def r_X12_nameOf_1 (x1 : Int) (x2 : Int) (x3 : Int) (A : St) (z : Int) : Prop := tr_r_X12_nameOf_1 x1 x2 x3 A z
theorem u_r_X12_nameOf_1 {x1 : Int} {x2 : Int} {x3 : Int} {A : St} {z : Int} (h : tr_r_X12_nameOf_1 x1 x2 x3 A z) : r_X12_nameOf_1 x1 x2 x3 A z := h
def q_X12_nameOf_1 (x1 : Int) (x2 : Int) (x3 : Int) (A : St) (z : Int) : Prop := r_X12_nameOf_1 x1 x2 x3 A z ∧ ((-9223372036854775808 ≤ z ∧ z ≤ 9223372036854775807) ∧ z = A 5 (10 * x1 + x3).toNat)
def ws_mb_X12_nameOf_1 : List Cond := .code yX12_nameOf cX12_nameOf 4 (some .long) :: WX
set_option maxHeartbeats 4000000 in
set_option maxRecDepth 100000 in
theorem mb_X12_nameOf_1 (l : Launch) (dC : Nat → ClassId) (dI : Nat → Nat → Nat) (cB cI cJ cZ cQ : ClassId) (q : Nat → Nat) (A : St) (x1 x2 x3 : Int) (hI : IM A) (hx1 : (0 : Int) ≤ x1 ∧ x1 ≤ 1) (hx2 : (1 : Int) ≤ x2 ∧ x2 ≤ 1) (hx3 : (0 : Int) ≤ x3 ∧ x3 ≤ 9) : XMl l yX12_nameOf ws_mb_X12_nameOf_1 ({ frames := 0, cells := 0, slots := 0, locals := 0 } : Room) (dC, dI) (tyA cB cI cJ cZ cQ) (WM cI cJ cZ q) A [.ref (q 0), .int (iI x1), .int (iI x2), .int (iI x3)] (fun z u => A = u ∧ r_X12_nameOf_1 x1 x2 x3 A z ∧ ((-9223372036854775808 ≤ z ∧ z ≤ 9223372036854775807) ∧ z = A 5 (10 * x1 + x3).toNat)) := by
  refine x_metl (cc := cX12_nameOf) (maxL := 4) WM_adr (by decide +kernel) rfl (Nat.le_of_ble_eq_true rfl) (fun p e s m below meth c Q AS ls hx hb hml hown hts hK hDD hA0 hP hS hl RET => ?_)
  have hown : s.vm.findClass RX12 = some m.cls := hown
  have hl : lv_has ls 4 [(0, .ref (q 0)), (1, .int (iI x1)), (2, .int (iI x2)), (3, .int (iI x3))] := hl
  have hiX12 : ∀ w ∈ u_ws RX12 TX12 85, w ∈ ws_mb_X12_nameOf_1 := fun w h => List.mem_cons_of_mem _ (wx_lay w h)
  obtain ⟨H, hHe⟩ : ∃ H : Heap, H = s.heap := ⟨_, rfl⟩
  rw [← hHe] at hP
  have hS : va_S AS s.heap H [] := by rw [hHe]; exact hS
  suffices hgo : ∀ locs : List Loc, va_S AS s.heap H locs → W p l e (headSpec ws_mb_X12_nameOf_1 ({ frames := 0, cells := 0, slots := 0, locals := 0 } : Room)).room s m [.ref (q 0), .int (iI x1), .int (iI x2), .int (iI x3)].toArray below meth c H locs 0 0 Q (F0 m 0 ls []) by
    have := hgo [] hS
    rw [hHe] at this
    exact this
  clear hS hHe
  intro locs hS
  refine lv_iload_n hx hb (dk_at dkX12_nameOf_0 0 rfl) rfl (lv_at hl 2 rfl) ?_
  rcases (show (x2 < 0 ∨ 3 < x2) ∨ x2 = 0 ∨ x2 = 1 ∨ x2 = 2 ∨ x2 = 3 by omega) with c1 | c1 | c1 | c1 | c1
  · refine lv_tableOut (tgt := 78) hx hb (dk_at dkX12_nameOf_0 1 rfl) (by rw [iI_toInt (rb hx2 (by decide) (by decide))]; exact c1) (by decide) ?_
    refine lv_aload_n hx hb (dk_at dkX12_nameOf_2 6 rfl) rfl (lv_at hl 0 rfl) ?_
    refine va_get (D := (dC, dI)) (ci := 12) (v := .ref (q 20)) (C := RX12) (T := TX12) (N := 85) hx hb hts hiX12 hown hK hP 0 wm0 rfl 31 (by decide) (hts _ (List.mem_cons_of_mem _ wlq_1_25)) (fun _ h9 => h9) rfl (dk_at dkX12_nameOf_2 7 rfl) ?_
    refine lv_iconst (v := iI 4) hx hb (dk_at dkX12_nameOf_2 8 rfl) (by decide +kernel) ?_
    refine lv_iload_n hx hb (dk_at dkX12_nameOf_2 9 rfl) rfl (lv_at hl 1 rfl) ?_
    refine x_mulv (v := 4 * x1) hx hb (dk_at dkX12_nameOf_2 10 rfl) (by omega) ?_
    refine lv_iload_n hx hb (dk_at dkX12_nameOf_2 11 rfl) rfl (lv_at hl 3 rfl) ?_
    refine x_addv (v := 4 * x1 + x3) hx hb (dk_at dkX12_nameOf_2 12 rfl) (by omega) ?_
    refine x_lald hx hb hK hP 20 2 wm20 rfl (by omega) (by decide) (dk_at dkX12_nameOf_2 13 rfl) (fun z2 hz2 => ?_)
    have rz2 : (-9223372036854775808 : Int) ≤ z2 ∧ z2 ≤ 9223372036854775807 := by rw [hz2]; exact hI 20 _
    have gz2 := Hd.mk hz2
    have hz2 : z2 = A 20 (4 * x1 + x3).toNat := hz2
    exact RET z2 _ _ _ _ _ ⟨rfl, (u_r_X12_nameOf_1 (Or.inl ⟨c1, ⟨z2, gz2.out, rfl⟩⟩)), by omega⟩ hP hS (dk_at dkX12_nameOf_2 14 rfl)
  · refine tp_i (y := iI 0) (congrArg iI c1) ?_
    refine lv_tableIn (off := 31) (tgt := 32) hx hb (dk_at dkX12_nameOf_0 1 rfl) (by decide +kernel) (by decide +kernel) (by decide +kernel) (by decide) ?_
    refine lv_aload_n hx hb (dk_at dkX12_nameOf_0 2 rfl) rfl (lv_at hl 0 rfl) ?_
    refine va_get (D := (dC, dI)) (ci := 12) (v := .ref (q 3)) (C := RX12) (T := TX12) (N := 85) hx hb hts hiX12 hown hK hP 0 wm0 rfl 14 (by decide) (hts _ (List.mem_cons_of_mem _ wlq_1_21)) (fun _ h9 => h9) rfl (dk_at dkX12_nameOf_0 3 rfl) ?_
    refine lv_bipush (v := iI 8) hx hb (dk_at dkX12_nameOf_0 4 rfl) (by decide +kernel) ?_
    refine lv_iload_n hx hb (dk_at dkX12_nameOf_0 5 rfl) rfl (lv_at hl 1 rfl) ?_
    refine x_mulv (v := 8 * x1) hx hb (dk_at dkX12_nameOf_0 6 rfl) (by omega) ?_
    refine lv_iload_n hx hb (dk_at dkX12_nameOf_0 7 rfl) rfl (lv_at hl 3 rfl) ?_
    refine x_addv (v := 8 * x1 + x3) hx hb (dk_at dkX12_nameOf_0 8 rfl) (by omega) ?_
    refine x_lald hx hb hK hP 3 2 wm3 rfl (by omega) (by decide) (dk_at dkX12_nameOf_0 9 rfl) (fun z3 hz3 => ?_)
    have rz3 : (-9223372036854775808 : Int) ≤ z3 ∧ z3 ≤ 9223372036854775807 := by rw [hz3]; exact hI 3 _
    have gz3 := Hd.mk hz3
    have hz3 : z3 = A 3 (8 * x1 + x3).toNat := hz3
    exact RET z3 _ _ _ _ _ ⟨rfl, (u_r_X12_nameOf_1 (Or.inr (Or.inl ⟨c1, ⟨z3, gz3.out, rfl⟩⟩))), by omega⟩ hP hS (dk_at dkX12_nameOf_0 10 rfl)
  · refine tp_i (y := iI 1) (congrArg iI c1) ?_
    refine lv_tableIn (off := 43) (tgt := 44) hx hb (dk_at dkX12_nameOf_0 1 rfl) (by decide +kernel) (by decide +kernel) (by decide +kernel) (by decide) ?_
    refine lv_aload_n hx hb (dk_at dkX12_nameOf_0 11 rfl) rfl (lv_at hl 0 rfl) ?_
    refine va_get (D := (dC, dI)) (ci := 12) (v := .ref (q 5)) (C := RX12) (T := TX12) (N := 85) hx hb hts hiX12 hown hK hP 0 wm0 rfl 16 (by decide) (hts _ (List.mem_cons_of_mem _ wlq_1_22)) (fun _ h9 => h9) rfl (dk_at dkX12_nameOf_0 12 rfl) ?_
    refine lv_bipush (v := iI 10) hx hb (dk_at dkX12_nameOf_0 13 rfl) (by decide +kernel) ?_
    refine lv_iload_n hx hb (dk_at dkX12_nameOf_0 14 rfl) rfl (lv_at hl 1 rfl) ?_
    refine x_mulv (v := 10 * x1) hx hb (dk_at dkX12_nameOf_0 15 rfl) (by omega) ?_
    refine lv_iload_n hx hb (dk_at dkX12_nameOf_1 0 rfl) rfl (lv_at hl 3 rfl) ?_
    refine x_addv (v := 10 * x1 + x3) hx hb (dk_at dkX12_nameOf_1 1 rfl) (by omega) ?_
    refine x_lald hx hb hK hP 5 2 wm5 rfl (by omega) (by decide) (dk_at dkX12_nameOf_1 2 rfl) (fun z4 hz4 => ?_)
    have rz4 : (-9223372036854775808 : Int) ≤ z4 ∧ z4 ≤ 9223372036854775807 := by rw [hz4]; exact hI 5 _
    have gz4 := Hd.mk hz4
    have hz4 : z4 = A 5 (10 * x1 + x3).toNat := hz4
    exact RET z4 _ _ _ _ _ ⟨rfl, (u_r_X12_nameOf_1 (Or.inr (Or.inr (Or.inl ⟨c1, ⟨z4, gz4.out, rfl⟩⟩)))), by omega⟩ hP hS (dk_at dkX12_nameOf_1 3 rfl)
  · refine tp_i (y := iI 2) (congrArg iI c1) ?_
    refine lv_tableIn (off := 55) (tgt := 56) hx hb (dk_at dkX12_nameOf_0 1 rfl) (by decide +kernel) (by decide +kernel) (by decide +kernel) (by decide) ?_
    refine lv_aload_n hx hb (dk_at dkX12_nameOf_1 4 rfl) rfl (lv_at hl 0 rfl) ?_
    refine va_get (D := (dC, dI)) (ci := 12) (v := .ref (q 12)) (C := RX12) (T := TX12) (N := 85) hx hb hts hiX12 hown hK hP 0 wm0 rfl 23 (by decide) (hts _ (List.mem_cons_of_mem _ wlq_1_23)) (fun _ h9 => h9) rfl (dk_at dkX12_nameOf_1 5 rfl) ?_
    refine lv_iconst (v := iI 4) hx hb (dk_at dkX12_nameOf_1 6 rfl) (by decide +kernel) ?_
    refine lv_iload_n hx hb (dk_at dkX12_nameOf_1 7 rfl) rfl (lv_at hl 1 rfl) ?_
    refine x_mulv (v := 4 * x1) hx hb (dk_at dkX12_nameOf_1 8 rfl) (by omega) ?_
    refine lv_iload_n hx hb (dk_at dkX12_nameOf_1 9 rfl) rfl (lv_at hl 3 rfl) ?_
    refine x_addv (v := 4 * x1 + x3) hx hb (dk_at dkX12_nameOf_1 10 rfl) (by omega) ?_
    refine x_lald hx hb hK hP 12 2 wm12 rfl (by omega) (by decide) (dk_at dkX12_nameOf_1 11 rfl) (fun z5 hz5 => ?_)
    have rz5 : (-9223372036854775808 : Int) ≤ z5 ∧ z5 ≤ 9223372036854775807 := by rw [hz5]; exact hI 12 _
    have gz5 := Hd.mk hz5
    have hz5 : z5 = A 12 (4 * x1 + x3).toNat := hz5
    exact RET z5 _ _ _ _ _ ⟨rfl, (u_r_X12_nameOf_1 (Or.inr (Or.inr (Or.inr (Or.inl ⟨c1, ⟨z5, gz5.out, rfl⟩⟩))))), by omega⟩ hP hS (dk_at dkX12_nameOf_1 12 rfl)
  · refine tp_i (y := iI 3) (congrArg iI c1) ?_
    refine lv_tableIn (off := 66) (tgt := 67) hx hb (dk_at dkX12_nameOf_0 1 rfl) (by decide +kernel) (by decide +kernel) (by decide +kernel) (by decide) ?_
    refine lv_aload_n hx hb (dk_at dkX12_nameOf_1 13 rfl) rfl (lv_at hl 0 rfl) ?_
    refine va_get (D := (dC, dI)) (ci := 12) (v := .ref (q 17)) (C := RX12) (T := TX12) (N := 85) hx hb hts hiX12 hown hK hP 0 wm0 rfl 28 (by decide) (hts _ (List.mem_cons_of_mem _ wlq_1_24)) (fun _ h9 => h9) rfl (dk_at dkX12_nameOf_1 14 rfl) ?_
    refine lv_iconst (v := iI 3) hx hb (dk_at dkX12_nameOf_1 15 rfl) (by decide +kernel) ?_
    refine lv_iload_n hx hb (dk_at dkX12_nameOf_2 0 rfl) rfl (lv_at hl 1 rfl) ?_
    refine x_mulv (v := 3 * x1) hx hb (dk_at dkX12_nameOf_2 1 rfl) (by omega) ?_
    refine lv_iload_n hx hb (dk_at dkX12_nameOf_2 2 rfl) rfl (lv_at hl 3 rfl) ?_
    refine x_addv (v := 3 * x1 + x3) hx hb (dk_at dkX12_nameOf_2 3 rfl) (by omega) ?_
    refine x_lald hx hb hK hP 17 2 wm17 rfl (by omega) (by decide) (dk_at dkX12_nameOf_2 4 rfl) (fun z6 hz6 => ?_)
    have rz6 : (-9223372036854775808 : Int) ≤ z6 ∧ z6 ≤ 9223372036854775807 := by rw [hz6]; exact hI 17 _
    have gz6 := Hd.mk hz6
    have hz6 : z6 = A 17 (3 * x1 + x3).toNat := hz6
    exact RET z6 _ _ _ _ _ ⟨rfl, (u_r_X12_nameOf_1 (Or.inr (Or.inr (Or.inr (Or.inr ⟨c1, ⟨z6, gz6.out, rfl⟩⟩))))), by omega⟩ hP hS (dk_at dkX12_nameOf_2 5 rfl)

abbrev tr_r_X12_nameOf_2 (x1 : Int) (x2 : Int) (x3 : Int) (A : St) (z : Int) : Prop := (((x2 < 0 ∨ 3 < x2) ∧ (∃ z2 : Int, z2 = A 20 (4 * x1 + x3).toNat ∧ (z = z2))) ∨ (x2 = 0 ∧ (∃ z3 : Int, z3 = A 3 (8 * x1 + x3).toNat ∧ (z = z3))) ∨ (x2 = 1 ∧ (∃ z4 : Int, z4 = A 5 (10 * x1 + x3).toNat ∧ (z = z4))) ∨ (x2 = 2 ∧ (∃ z5 : Int, z5 = A 12 (4 * x1 + x3).toNat ∧ (z = z5))) ∨ (x2 = 3 ∧ (∃ z6 : Int, z6 = A 17 (3 * x1 + x3).toNat ∧ (z = z6))))
def r_X12_nameOf_2 (x1 : Int) (x2 : Int) (x3 : Int) (A : St) (z : Int) : Prop := tr_r_X12_nameOf_2 x1 x2 x3 A z
theorem u_r_X12_nameOf_2 {x1 : Int} {x2 : Int} {x3 : Int} {A : St} {z : Int} (h : tr_r_X12_nameOf_2 x1 x2 x3 A z) : r_X12_nameOf_2 x1 x2 x3 A z := h
def q_X12_nameOf_2 (x1 : Int) (x2 : Int) (x3 : Int) (A : St) (z : Int) : Prop := r_X12_nameOf_2 x1 x2 x3 A z ∧ ((-9223372036854775808 ≤ z ∧ z ≤ 9223372036854775807) ∧ z = A 12 (4 * x1 + x3).toNat)
def ws_mb_X12_nameOf_2 : List Cond := .code yX12_nameOf cX12_nameOf 4 (some .long) :: WX
set_option maxHeartbeats 4000000 in
set_option maxRecDepth 100000 in
theorem mb_X12_nameOf_2 (l : Launch) (dC : Nat → ClassId) (dI : Nat → Nat → Nat) (cB cI cJ cZ cQ : ClassId) (q : Nat → Nat) (A : St) (x1 x2 x3 : Int) (hI : IM A) (hx1 : (0 : Int) ≤ x1 ∧ x1 ≤ 1) (hx2 : (2 : Int) ≤ x2 ∧ x2 ≤ 2) (hx3 : (0 : Int) ≤ x3 ∧ x3 ≤ 3) : XMl l yX12_nameOf ws_mb_X12_nameOf_2 ({ frames := 0, cells := 0, slots := 0, locals := 0 } : Room) (dC, dI) (tyA cB cI cJ cZ cQ) (WM cI cJ cZ q) A [.ref (q 0), .int (iI x1), .int (iI x2), .int (iI x3)] (fun z u => A = u ∧ r_X12_nameOf_2 x1 x2 x3 A z ∧ ((-9223372036854775808 ≤ z ∧ z ≤ 9223372036854775807) ∧ z = A 12 (4 * x1 + x3).toNat)) := by
  refine x_metl (cc := cX12_nameOf) (maxL := 4) WM_adr (by decide +kernel) rfl (Nat.le_of_ble_eq_true rfl) (fun p e s m below meth c Q AS ls hx hb hml hown hts hK hDD hA0 hP hS hl RET => ?_)
  have hown : s.vm.findClass RX12 = some m.cls := hown
  have hl : lv_has ls 4 [(0, .ref (q 0)), (1, .int (iI x1)), (2, .int (iI x2)), (3, .int (iI x3))] := hl
  have hiX12 : ∀ w ∈ u_ws RX12 TX12 85, w ∈ ws_mb_X12_nameOf_2 := fun w h => List.mem_cons_of_mem _ (wx_lay w h)
  obtain ⟨H, hHe⟩ : ∃ H : Heap, H = s.heap := ⟨_, rfl⟩
  rw [← hHe] at hP
  have hS : va_S AS s.heap H [] := by rw [hHe]; exact hS
  suffices hgo : ∀ locs : List Loc, va_S AS s.heap H locs → W p l e (headSpec ws_mb_X12_nameOf_2 ({ frames := 0, cells := 0, slots := 0, locals := 0 } : Room)).room s m [.ref (q 0), .int (iI x1), .int (iI x2), .int (iI x3)].toArray below meth c H locs 0 0 Q (F0 m 0 ls []) by
    have := hgo [] hS
    rw [hHe] at this
    exact this
  clear hS hHe
  intro locs hS
  refine lv_iload_n hx hb (dk_at dkX12_nameOf_0 0 rfl) rfl (lv_at hl 2 rfl) ?_
  rcases (show (x2 < 0 ∨ 3 < x2) ∨ x2 = 0 ∨ x2 = 1 ∨ x2 = 2 ∨ x2 = 3 by omega) with c1 | c1 | c1 | c1 | c1
  · refine lv_tableOut (tgt := 78) hx hb (dk_at dkX12_nameOf_0 1 rfl) (by rw [iI_toInt (rb hx2 (by decide) (by decide))]; exact c1) (by decide) ?_
    refine lv_aload_n hx hb (dk_at dkX12_nameOf_2 6 rfl) rfl (lv_at hl 0 rfl) ?_
    refine va_get (D := (dC, dI)) (ci := 12) (v := .ref (q 20)) (C := RX12) (T := TX12) (N := 85) hx hb hts hiX12 hown hK hP 0 wm0 rfl 31 (by decide) (hts _ (List.mem_cons_of_mem _ wlq_1_25)) (fun _ h9 => h9) rfl (dk_at dkX12_nameOf_2 7 rfl) ?_
    refine lv_iconst (v := iI 4) hx hb (dk_at dkX12_nameOf_2 8 rfl) (by decide +kernel) ?_
    refine lv_iload_n hx hb (dk_at dkX12_nameOf_2 9 rfl) rfl (lv_at hl 1 rfl) ?_
    refine x_mulv (v := 4 * x1) hx hb (dk_at dkX12_nameOf_2 10 rfl) (by omega) ?_
    refine lv_iload_n hx hb (dk_at dkX12_nameOf_2 11 rfl) rfl (lv_at hl 3 rfl) ?_
    refine x_addv (v := 4 * x1 + x3) hx hb (dk_at dkX12_nameOf_2 12 rfl) (by omega) ?_
    refine x_lald hx hb hK hP 20 2 wm20 rfl (by omega) (by decide) (dk_at dkX12_nameOf_2 13 rfl) (fun z2 hz2 => ?_)
    have rz2 : (-9223372036854775808 : Int) ≤ z2 ∧ z2 ≤ 9223372036854775807 := by rw [hz2]; exact hI 20 _
    have gz2 := Hd.mk hz2
    have hz2 : z2 = A 20 (4 * x1 + x3).toNat := hz2
    exact RET z2 _ _ _ _ _ ⟨rfl, (u_r_X12_nameOf_2 (Or.inl ⟨c1, ⟨z2, gz2.out, rfl⟩⟩)), by omega⟩ hP hS (dk_at dkX12_nameOf_2 14 rfl)
  · refine tp_i (y := iI 0) (congrArg iI c1) ?_
    refine lv_tableIn (off := 31) (tgt := 32) hx hb (dk_at dkX12_nameOf_0 1 rfl) (by decide +kernel) (by decide +kernel) (by decide +kernel) (by decide) ?_
    refine lv_aload_n hx hb (dk_at dkX12_nameOf_0 2 rfl) rfl (lv_at hl 0 rfl) ?_
    refine va_get (D := (dC, dI)) (ci := 12) (v := .ref (q 3)) (C := RX12) (T := TX12) (N := 85) hx hb hts hiX12 hown hK hP 0 wm0 rfl 14 (by decide) (hts _ (List.mem_cons_of_mem _ wlq_1_21)) (fun _ h9 => h9) rfl (dk_at dkX12_nameOf_0 3 rfl) ?_
    refine lv_bipush (v := iI 8) hx hb (dk_at dkX12_nameOf_0 4 rfl) (by decide +kernel) ?_
    refine lv_iload_n hx hb (dk_at dkX12_nameOf_0 5 rfl) rfl (lv_at hl 1 rfl) ?_
    refine x_mulv (v := 8 * x1) hx hb (dk_at dkX12_nameOf_0 6 rfl) (by omega) ?_
    refine lv_iload_n hx hb (dk_at dkX12_nameOf_0 7 rfl) rfl (lv_at hl 3 rfl) ?_
    refine x_addv (v := 8 * x1 + x3) hx hb (dk_at dkX12_nameOf_0 8 rfl) (by omega) ?_
    refine x_lald hx hb hK hP 3 2 wm3 rfl (by omega) (by decide) (dk_at dkX12_nameOf_0 9 rfl) (fun z3 hz3 => ?_)
    have rz3 : (-9223372036854775808 : Int) ≤ z3 ∧ z3 ≤ 9223372036854775807 := by rw [hz3]; exact hI 3 _
    have gz3 := Hd.mk hz3
    have hz3 : z3 = A 3 (8 * x1 + x3).toNat := hz3
    exact RET z3 _ _ _ _ _ ⟨rfl, (u_r_X12_nameOf_2 (Or.inr (Or.inl ⟨c1, ⟨z3, gz3.out, rfl⟩⟩))), by omega⟩ hP hS (dk_at dkX12_nameOf_0 10 rfl)
  · refine tp_i (y := iI 1) (congrArg iI c1) ?_
    refine lv_tableIn (off := 43) (tgt := 44) hx hb (dk_at dkX12_nameOf_0 1 rfl) (by decide +kernel) (by decide +kernel) (by decide +kernel) (by decide) ?_
    refine lv_aload_n hx hb (dk_at dkX12_nameOf_0 11 rfl) rfl (lv_at hl 0 rfl) ?_
    refine va_get (D := (dC, dI)) (ci := 12) (v := .ref (q 5)) (C := RX12) (T := TX12) (N := 85) hx hb hts hiX12 hown hK hP 0 wm0 rfl 16 (by decide) (hts _ (List.mem_cons_of_mem _ wlq_1_22)) (fun _ h9 => h9) rfl (dk_at dkX12_nameOf_0 12 rfl) ?_
    refine lv_bipush (v := iI 10) hx hb (dk_at dkX12_nameOf_0 13 rfl) (by decide +kernel) ?_
    refine lv_iload_n hx hb (dk_at dkX12_nameOf_0 14 rfl) rfl (lv_at hl 1 rfl) ?_
    refine x_mulv (v := 10 * x1) hx hb (dk_at dkX12_nameOf_0 15 rfl) (by omega) ?_
    refine lv_iload_n hx hb (dk_at dkX12_nameOf_1 0 rfl) rfl (lv_at hl 3 rfl) ?_
    refine x_addv (v := 10 * x1 + x3) hx hb (dk_at dkX12_nameOf_1 1 rfl) (by omega) ?_
    refine x_lald hx hb hK hP 5 2 wm5 rfl (by omega) (by decide) (dk_at dkX12_nameOf_1 2 rfl) (fun z4 hz4 => ?_)
    have rz4 : (-9223372036854775808 : Int) ≤ z4 ∧ z4 ≤ 9223372036854775807 := by rw [hz4]; exact hI 5 _
    have gz4 := Hd.mk hz4
    have hz4 : z4 = A 5 (10 * x1 + x3).toNat := hz4
    exact RET z4 _ _ _ _ _ ⟨rfl, (u_r_X12_nameOf_2 (Or.inr (Or.inr (Or.inl ⟨c1, ⟨z4, gz4.out, rfl⟩⟩)))), by omega⟩ hP hS (dk_at dkX12_nameOf_1 3 rfl)
  · refine tp_i (y := iI 2) (congrArg iI c1) ?_
    refine lv_tableIn (off := 55) (tgt := 56) hx hb (dk_at dkX12_nameOf_0 1 rfl) (by decide +kernel) (by decide +kernel) (by decide +kernel) (by decide) ?_
    refine lv_aload_n hx hb (dk_at dkX12_nameOf_1 4 rfl) rfl (lv_at hl 0 rfl) ?_
    refine va_get (D := (dC, dI)) (ci := 12) (v := .ref (q 12)) (C := RX12) (T := TX12) (N := 85) hx hb hts hiX12 hown hK hP 0 wm0 rfl 23 (by decide) (hts _ (List.mem_cons_of_mem _ wlq_1_23)) (fun _ h9 => h9) rfl (dk_at dkX12_nameOf_1 5 rfl) ?_
    refine lv_iconst (v := iI 4) hx hb (dk_at dkX12_nameOf_1 6 rfl) (by decide +kernel) ?_
    refine lv_iload_n hx hb (dk_at dkX12_nameOf_1 7 rfl) rfl (lv_at hl 1 rfl) ?_
    refine x_mulv (v := 4 * x1) hx hb (dk_at dkX12_nameOf_1 8 rfl) (by omega) ?_
    refine lv_iload_n hx hb (dk_at dkX12_nameOf_1 9 rfl) rfl (lv_at hl 3 rfl) ?_
    refine x_addv (v := 4 * x1 + x3) hx hb (dk_at dkX12_nameOf_1 10 rfl) (by omega) ?_
    refine x_lald hx hb hK hP 12 2 wm12 rfl (by omega) (by decide) (dk_at dkX12_nameOf_1 11 rfl) (fun z5 hz5 => ?_)
    have rz5 : (-9223372036854775808 : Int) ≤ z5 ∧ z5 ≤ 9223372036854775807 := by rw [hz5]; exact hI 12 _
    have gz5 := Hd.mk hz5
    have hz5 : z5 = A 12 (4 * x1 + x3).toNat := hz5
    exact RET z5 _ _ _ _ _ ⟨rfl, (u_r_X12_nameOf_2 (Or.inr (Or.inr (Or.inr (Or.inl ⟨c1, ⟨z5, gz5.out, rfl⟩⟩))))), by omega⟩ hP hS (dk_at dkX12_nameOf_1 12 rfl)
  · refine tp_i (y := iI 3) (congrArg iI c1) ?_
    refine lv_tableIn (off := 66) (tgt := 67) hx hb (dk_at dkX12_nameOf_0 1 rfl) (by decide +kernel) (by decide +kernel) (by decide +kernel) (by decide) ?_
    refine lv_aload_n hx hb (dk_at dkX12_nameOf_1 13 rfl) rfl (lv_at hl 0 rfl) ?_
    refine va_get (D := (dC, dI)) (ci := 12) (v := .ref (q 17)) (C := RX12) (T := TX12) (N := 85) hx hb hts hiX12 hown hK hP 0 wm0 rfl 28 (by decide) (hts _ (List.mem_cons_of_mem _ wlq_1_24)) (fun _ h9 => h9) rfl (dk_at dkX12_nameOf_1 14 rfl) ?_
    refine lv_iconst (v := iI 3) hx hb (dk_at dkX12_nameOf_1 15 rfl) (by decide +kernel) ?_
    refine lv_iload_n hx hb (dk_at dkX12_nameOf_2 0 rfl) rfl (lv_at hl 1 rfl) ?_
    refine x_mulv (v := 3 * x1) hx hb (dk_at dkX12_nameOf_2 1 rfl) (by omega) ?_
    refine lv_iload_n hx hb (dk_at dkX12_nameOf_2 2 rfl) rfl (lv_at hl 3 rfl) ?_
    refine x_addv (v := 3 * x1 + x3) hx hb (dk_at dkX12_nameOf_2 3 rfl) (by omega) ?_
    refine x_lald hx hb hK hP 17 2 wm17 rfl (by omega) (by decide) (dk_at dkX12_nameOf_2 4 rfl) (fun z6 hz6 => ?_)
    have rz6 : (-9223372036854775808 : Int) ≤ z6 ∧ z6 ≤ 9223372036854775807 := by rw [hz6]; exact hI 17 _
    have gz6 := Hd.mk hz6
    have hz6 : z6 = A 17 (3 * x1 + x3).toNat := hz6
    exact RET z6 _ _ _ _ _ ⟨rfl, (u_r_X12_nameOf_2 (Or.inr (Or.inr (Or.inr (Or.inr ⟨c1, ⟨z6, gz6.out, rfl⟩⟩))))), by omega⟩ hP hS (dk_at dkX12_nameOf_2 5 rfl)

abbrev tr_r_X12_nameOf_3 (x1 : Int) (x2 : Int) (x3 : Int) (A : St) (z : Int) : Prop := (((x2 < 0 ∨ 3 < x2) ∧ (∃ z2 : Int, z2 = A 20 (4 * x1 + x3).toNat ∧ (z = z2))) ∨ (x2 = 0 ∧ (∃ z3 : Int, z3 = A 3 (8 * x1 + x3).toNat ∧ (z = z3))) ∨ (x2 = 1 ∧ (∃ z4 : Int, z4 = A 5 (10 * x1 + x3).toNat ∧ (z = z4))) ∨ (x2 = 2 ∧ (∃ z5 : Int, z5 = A 12 (4 * x1 + x3).toNat ∧ (z = z5))) ∨ (x2 = 3 ∧ (∃ z6 : Int, z6 = A 17 (3 * x1 + x3).toNat ∧ (z = z6))))
def r_X12_nameOf_3 (x1 : Int) (x2 : Int) (x3 : Int) (A : St) (z : Int) : Prop := tr_r_X12_nameOf_3 x1 x2 x3 A z
theorem u_r_X12_nameOf_3 {x1 : Int} {x2 : Int} {x3 : Int} {A : St} {z : Int} (h : tr_r_X12_nameOf_3 x1 x2 x3 A z) : r_X12_nameOf_3 x1 x2 x3 A z := h
def q_X12_nameOf_3 (x1 : Int) (x2 : Int) (x3 : Int) (A : St) (z : Int) : Prop := r_X12_nameOf_3 x1 x2 x3 A z ∧ ((-9223372036854775808 ≤ z ∧ z ≤ 9223372036854775807) ∧ z = A 17 (3 * x1 + x3).toNat)
def ws_mb_X12_nameOf_3 : List Cond := .code yX12_nameOf cX12_nameOf 4 (some .long) :: WX
set_option maxHeartbeats 4000000 in
set_option maxRecDepth 100000 in
theorem mb_X12_nameOf_3 (l : Launch) (dC : Nat → ClassId) (dI : Nat → Nat → Nat) (cB cI cJ cZ cQ : ClassId) (q : Nat → Nat) (A : St) (x1 x2 x3 : Int) (hI : IM A) (hx1 : (0 : Int) ≤ x1 ∧ x1 ≤ 1) (hx2 : (3 : Int) ≤ x2 ∧ x2 ≤ 3) (hx3 : (0 : Int) ≤ x3 ∧ x3 ≤ 2) : XMl l yX12_nameOf ws_mb_X12_nameOf_3 ({ frames := 0, cells := 0, slots := 0, locals := 0 } : Room) (dC, dI) (tyA cB cI cJ cZ cQ) (WM cI cJ cZ q) A [.ref (q 0), .int (iI x1), .int (iI x2), .int (iI x3)] (fun z u => A = u ∧ r_X12_nameOf_3 x1 x2 x3 A z ∧ ((-9223372036854775808 ≤ z ∧ z ≤ 9223372036854775807) ∧ z = A 17 (3 * x1 + x3).toNat)) := by
  refine x_metl (cc := cX12_nameOf) (maxL := 4) WM_adr (by decide +kernel) rfl (Nat.le_of_ble_eq_true rfl) (fun p e s m below meth c Q AS ls hx hb hml hown hts hK hDD hA0 hP hS hl RET => ?_)
  have hown : s.vm.findClass RX12 = some m.cls := hown
  have hl : lv_has ls 4 [(0, .ref (q 0)), (1, .int (iI x1)), (2, .int (iI x2)), (3, .int (iI x3))] := hl
  have hiX12 : ∀ w ∈ u_ws RX12 TX12 85, w ∈ ws_mb_X12_nameOf_3 := fun w h => List.mem_cons_of_mem _ (wx_lay w h)
  obtain ⟨H, hHe⟩ : ∃ H : Heap, H = s.heap := ⟨_, rfl⟩
  rw [← hHe] at hP
  have hS : va_S AS s.heap H [] := by rw [hHe]; exact hS
  suffices hgo : ∀ locs : List Loc, va_S AS s.heap H locs → W p l e (headSpec ws_mb_X12_nameOf_3 ({ frames := 0, cells := 0, slots := 0, locals := 0 } : Room)).room s m [.ref (q 0), .int (iI x1), .int (iI x2), .int (iI x3)].toArray below meth c H locs 0 0 Q (F0 m 0 ls []) by
    have := hgo [] hS
    rw [hHe] at this
    exact this
  clear hS hHe
  intro locs hS
  refine lv_iload_n hx hb (dk_at dkX12_nameOf_0 0 rfl) rfl (lv_at hl 2 rfl) ?_
  rcases (show (x2 < 0 ∨ 3 < x2) ∨ x2 = 0 ∨ x2 = 1 ∨ x2 = 2 ∨ x2 = 3 by omega) with c1 | c1 | c1 | c1 | c1
  · refine lv_tableOut (tgt := 78) hx hb (dk_at dkX12_nameOf_0 1 rfl) (by rw [iI_toInt (rb hx2 (by decide) (by decide))]; exact c1) (by decide) ?_
    refine lv_aload_n hx hb (dk_at dkX12_nameOf_2 6 rfl) rfl (lv_at hl 0 rfl) ?_
    refine va_get (D := (dC, dI)) (ci := 12) (v := .ref (q 20)) (C := RX12) (T := TX12) (N := 85) hx hb hts hiX12 hown hK hP 0 wm0 rfl 31 (by decide) (hts _ (List.mem_cons_of_mem _ wlq_1_25)) (fun _ h9 => h9) rfl (dk_at dkX12_nameOf_2 7 rfl) ?_
    refine lv_iconst (v := iI 4) hx hb (dk_at dkX12_nameOf_2 8 rfl) (by decide +kernel) ?_
    refine lv_iload_n hx hb (dk_at dkX12_nameOf_2 9 rfl) rfl (lv_at hl 1 rfl) ?_
    refine x_mulv (v := 4 * x1) hx hb (dk_at dkX12_nameOf_2 10 rfl) (by omega) ?_
    refine lv_iload_n hx hb (dk_at dkX12_nameOf_2 11 rfl) rfl (lv_at hl 3 rfl) ?_
    refine x_addv (v := 4 * x1 + x3) hx hb (dk_at dkX12_nameOf_2 12 rfl) (by omega) ?_
    refine x_lald hx hb hK hP 20 2 wm20 rfl (by omega) (by decide) (dk_at dkX12_nameOf_2 13 rfl) (fun z2 hz2 => ?_)
    have rz2 : (-9223372036854775808 : Int) ≤ z2 ∧ z2 ≤ 9223372036854775807 := by rw [hz2]; exact hI 20 _
    have gz2 := Hd.mk hz2
    have hz2 : z2 = A 20 (4 * x1 + x3).toNat := hz2
    exact RET z2 _ _ _ _ _ ⟨rfl, (u_r_X12_nameOf_3 (Or.inl ⟨c1, ⟨z2, gz2.out, rfl⟩⟩)), by omega⟩ hP hS (dk_at dkX12_nameOf_2 14 rfl)
  · refine tp_i (y := iI 0) (congrArg iI c1) ?_
    refine lv_tableIn (off := 31) (tgt := 32) hx hb (dk_at dkX12_nameOf_0 1 rfl) (by decide +kernel) (by decide +kernel) (by decide +kernel) (by decide) ?_
    refine lv_aload_n hx hb (dk_at dkX12_nameOf_0 2 rfl) rfl (lv_at hl 0 rfl) ?_
    refine va_get (D := (dC, dI)) (ci := 12) (v := .ref (q 3)) (C := RX12) (T := TX12) (N := 85) hx hb hts hiX12 hown hK hP 0 wm0 rfl 14 (by decide) (hts _ (List.mem_cons_of_mem _ wlq_1_21)) (fun _ h9 => h9) rfl (dk_at dkX12_nameOf_0 3 rfl) ?_
    refine lv_bipush (v := iI 8) hx hb (dk_at dkX12_nameOf_0 4 rfl) (by decide +kernel) ?_
    refine lv_iload_n hx hb (dk_at dkX12_nameOf_0 5 rfl) rfl (lv_at hl 1 rfl) ?_
    refine x_mulv (v := 8 * x1) hx hb (dk_at dkX12_nameOf_0 6 rfl) (by omega) ?_
    refine lv_iload_n hx hb (dk_at dkX12_nameOf_0 7 rfl) rfl (lv_at hl 3 rfl) ?_
    refine x_addv (v := 8 * x1 + x3) hx hb (dk_at dkX12_nameOf_0 8 rfl) (by omega) ?_
    refine x_lald hx hb hK hP 3 2 wm3 rfl (by omega) (by decide) (dk_at dkX12_nameOf_0 9 rfl) (fun z3 hz3 => ?_)
    have rz3 : (-9223372036854775808 : Int) ≤ z3 ∧ z3 ≤ 9223372036854775807 := by rw [hz3]; exact hI 3 _
    have gz3 := Hd.mk hz3
    have hz3 : z3 = A 3 (8 * x1 + x3).toNat := hz3
    exact RET z3 _ _ _ _ _ ⟨rfl, (u_r_X12_nameOf_3 (Or.inr (Or.inl ⟨c1, ⟨z3, gz3.out, rfl⟩⟩))), by omega⟩ hP hS (dk_at dkX12_nameOf_0 10 rfl)
  · refine tp_i (y := iI 1) (congrArg iI c1) ?_
    refine lv_tableIn (off := 43) (tgt := 44) hx hb (dk_at dkX12_nameOf_0 1 rfl) (by decide +kernel) (by decide +kernel) (by decide +kernel) (by decide) ?_
    refine lv_aload_n hx hb (dk_at dkX12_nameOf_0 11 rfl) rfl (lv_at hl 0 rfl) ?_
    refine va_get (D := (dC, dI)) (ci := 12) (v := .ref (q 5)) (C := RX12) (T := TX12) (N := 85) hx hb hts hiX12 hown hK hP 0 wm0 rfl 16 (by decide) (hts _ (List.mem_cons_of_mem _ wlq_1_22)) (fun _ h9 => h9) rfl (dk_at dkX12_nameOf_0 12 rfl) ?_
    refine lv_bipush (v := iI 10) hx hb (dk_at dkX12_nameOf_0 13 rfl) (by decide +kernel) ?_
    refine lv_iload_n hx hb (dk_at dkX12_nameOf_0 14 rfl) rfl (lv_at hl 1 rfl) ?_
    refine x_mulv (v := 10 * x1) hx hb (dk_at dkX12_nameOf_0 15 rfl) (by omega) ?_
    refine lv_iload_n hx hb (dk_at dkX12_nameOf_1 0 rfl) rfl (lv_at hl 3 rfl) ?_
    refine x_addv (v := 10 * x1 + x3) hx hb (dk_at dkX12_nameOf_1 1 rfl) (by omega) ?_
    refine x_lald hx hb hK hP 5 2 wm5 rfl (by omega) (by decide) (dk_at dkX12_nameOf_1 2 rfl) (fun z4 hz4 => ?_)
    have rz4 : (-9223372036854775808 : Int) ≤ z4 ∧ z4 ≤ 9223372036854775807 := by rw [hz4]; exact hI 5 _
    have gz4 := Hd.mk hz4
    have hz4 : z4 = A 5 (10 * x1 + x3).toNat := hz4
    exact RET z4 _ _ _ _ _ ⟨rfl, (u_r_X12_nameOf_3 (Or.inr (Or.inr (Or.inl ⟨c1, ⟨z4, gz4.out, rfl⟩⟩)))), by omega⟩ hP hS (dk_at dkX12_nameOf_1 3 rfl)
  · refine tp_i (y := iI 2) (congrArg iI c1) ?_
    refine lv_tableIn (off := 55) (tgt := 56) hx hb (dk_at dkX12_nameOf_0 1 rfl) (by decide +kernel) (by decide +kernel) (by decide +kernel) (by decide) ?_
    refine lv_aload_n hx hb (dk_at dkX12_nameOf_1 4 rfl) rfl (lv_at hl 0 rfl) ?_
    refine va_get (D := (dC, dI)) (ci := 12) (v := .ref (q 12)) (C := RX12) (T := TX12) (N := 85) hx hb hts hiX12 hown hK hP 0 wm0 rfl 23 (by decide) (hts _ (List.mem_cons_of_mem _ wlq_1_23)) (fun _ h9 => h9) rfl (dk_at dkX12_nameOf_1 5 rfl) ?_
    refine lv_iconst (v := iI 4) hx hb (dk_at dkX12_nameOf_1 6 rfl) (by decide +kernel) ?_
    refine lv_iload_n hx hb (dk_at dkX12_nameOf_1 7 rfl) rfl (lv_at hl 1 rfl) ?_
    refine x_mulv (v := 4 * x1) hx hb (dk_at dkX12_nameOf_1 8 rfl) (by omega) ?_
    refine lv_iload_n hx hb (dk_at dkX12_nameOf_1 9 rfl) rfl (lv_at hl 3 rfl) ?_
    refine x_addv (v := 4 * x1 + x3) hx hb (dk_at dkX12_nameOf_1 10 rfl) (by omega) ?_
    refine x_lald hx hb hK hP 12 2 wm12 rfl (by omega) (by decide) (dk_at dkX12_nameOf_1 11 rfl) (fun z5 hz5 => ?_)
    have rz5 : (-9223372036854775808 : Int) ≤ z5 ∧ z5 ≤ 9223372036854775807 := by rw [hz5]; exact hI 12 _
    have gz5 := Hd.mk hz5
    have hz5 : z5 = A 12 (4 * x1 + x3).toNat := hz5
    exact RET z5 _ _ _ _ _ ⟨rfl, (u_r_X12_nameOf_3 (Or.inr (Or.inr (Or.inr (Or.inl ⟨c1, ⟨z5, gz5.out, rfl⟩⟩))))), by omega⟩ hP hS (dk_at dkX12_nameOf_1 12 rfl)
  · refine tp_i (y := iI 3) (congrArg iI c1) ?_
    refine lv_tableIn (off := 66) (tgt := 67) hx hb (dk_at dkX12_nameOf_0 1 rfl) (by decide +kernel) (by decide +kernel) (by decide +kernel) (by decide) ?_
    refine lv_aload_n hx hb (dk_at dkX12_nameOf_1 13 rfl) rfl (lv_at hl 0 rfl) ?_
    refine va_get (D := (dC, dI)) (ci := 12) (v := .ref (q 17)) (C := RX12) (T := TX12) (N := 85) hx hb hts hiX12 hown hK hP 0 wm0 rfl 28 (by decide) (hts _ (List.mem_cons_of_mem _ wlq_1_24)) (fun _ h9 => h9) rfl (dk_at dkX12_nameOf_1 14 rfl) ?_
    refine lv_iconst (v := iI 3) hx hb (dk_at dkX12_nameOf_1 15 rfl) (by decide +kernel) ?_
    refine lv_iload_n hx hb (dk_at dkX12_nameOf_2 0 rfl) rfl (lv_at hl 1 rfl) ?_
    refine x_mulv (v := 3 * x1) hx hb (dk_at dkX12_nameOf_2 1 rfl) (by omega) ?_
    refine lv_iload_n hx hb (dk_at dkX12_nameOf_2 2 rfl) rfl (lv_at hl 3 rfl) ?_
    refine x_addv (v := 3 * x1 + x3) hx hb (dk_at dkX12_nameOf_2 3 rfl) (by omega) ?_
    refine x_lald hx hb hK hP 17 2 wm17 rfl (by omega) (by decide) (dk_at dkX12_nameOf_2 4 rfl) (fun z6 hz6 => ?_)
    have rz6 : (-9223372036854775808 : Int) ≤ z6 ∧ z6 ≤ 9223372036854775807 := by rw [hz6]; exact hI 17 _
    have gz6 := Hd.mk hz6
    have hz6 : z6 = A 17 (3 * x1 + x3).toNat := hz6
    exact RET z6 _ _ _ _ _ ⟨rfl, (u_r_X12_nameOf_3 (Or.inr (Or.inr (Or.inr (Or.inr ⟨c1, ⟨z6, gz6.out, rfl⟩⟩))))), by omega⟩ hP hS (dk_at dkX12_nameOf_2 5 rfl)

abbrev tr_r_X12_nameOf_4 (x1 : Int) (x2 : Int) (x3 : Int) (A : St) (z : Int) : Prop := (((x2 < 0 ∨ 3 < x2) ∧ (∃ z2 : Int, z2 = A 20 (4 * x1 + x3).toNat ∧ (z = z2))) ∨ (x2 = 0 ∧ (∃ z3 : Int, z3 = A 3 (8 * x1 + x3).toNat ∧ (z = z3))) ∨ (x2 = 1 ∧ (∃ z4 : Int, z4 = A 5 (10 * x1 + x3).toNat ∧ (z = z4))) ∨ (x2 = 2 ∧ (∃ z5 : Int, z5 = A 12 (4 * x1 + x3).toNat ∧ (z = z5))) ∨ (x2 = 3 ∧ (∃ z6 : Int, z6 = A 17 (3 * x1 + x3).toNat ∧ (z = z6))))
def r_X12_nameOf_4 (x1 : Int) (x2 : Int) (x3 : Int) (A : St) (z : Int) : Prop := tr_r_X12_nameOf_4 x1 x2 x3 A z
theorem u_r_X12_nameOf_4 {x1 : Int} {x2 : Int} {x3 : Int} {A : St} {z : Int} (h : tr_r_X12_nameOf_4 x1 x2 x3 A z) : r_X12_nameOf_4 x1 x2 x3 A z := h
def q_X12_nameOf_4 (x1 : Int) (x2 : Int) (x3 : Int) (A : St) (z : Int) : Prop := r_X12_nameOf_4 x1 x2 x3 A z ∧ ((-9223372036854775808 ≤ z ∧ z ≤ 9223372036854775807) ∧ z = A 20 (4 * x1 + x3).toNat)
def ws_mb_X12_nameOf_4 : List Cond := .code yX12_nameOf cX12_nameOf 4 (some .long) :: WX
set_option maxHeartbeats 4000000 in
set_option maxRecDepth 100000 in
theorem mb_X12_nameOf_4 (l : Launch) (dC : Nat → ClassId) (dI : Nat → Nat → Nat) (cB cI cJ cZ cQ : ClassId) (q : Nat → Nat) (A : St) (x1 x2 x3 : Int) (hI : IM A) (hx1 : (0 : Int) ≤ x1 ∧ x1 ≤ 1) (hx2 : (4 : Int) ≤ x2 ∧ x2 ≤ 4) (hx3 : (0 : Int) ≤ x3 ∧ x3 ≤ 3) : XMl l yX12_nameOf ws_mb_X12_nameOf_4 ({ frames := 0, cells := 0, slots := 0, locals := 0 } : Room) (dC, dI) (tyA cB cI cJ cZ cQ) (WM cI cJ cZ q) A [.ref (q 0), .int (iI x1), .int (iI x2), .int (iI x3)] (fun z u => A = u ∧ r_X12_nameOf_4 x1 x2 x3 A z ∧ ((-9223372036854775808 ≤ z ∧ z ≤ 9223372036854775807) ∧ z = A 20 (4 * x1 + x3).toNat)) := by
  refine x_metl (cc := cX12_nameOf) (maxL := 4) WM_adr (by decide +kernel) rfl (Nat.le_of_ble_eq_true rfl) (fun p e s m below meth c Q AS ls hx hb hml hown hts hK hDD hA0 hP hS hl RET => ?_)
  have hown : s.vm.findClass RX12 = some m.cls := hown
  have hl : lv_has ls 4 [(0, .ref (q 0)), (1, .int (iI x1)), (2, .int (iI x2)), (3, .int (iI x3))] := hl
  have hiX12 : ∀ w ∈ u_ws RX12 TX12 85, w ∈ ws_mb_X12_nameOf_4 := fun w h => List.mem_cons_of_mem _ (wx_lay w h)
  obtain ⟨H, hHe⟩ : ∃ H : Heap, H = s.heap := ⟨_, rfl⟩
  rw [← hHe] at hP
  have hS : va_S AS s.heap H [] := by rw [hHe]; exact hS
  suffices hgo : ∀ locs : List Loc, va_S AS s.heap H locs → W p l e (headSpec ws_mb_X12_nameOf_4 ({ frames := 0, cells := 0, slots := 0, locals := 0 } : Room)).room s m [.ref (q 0), .int (iI x1), .int (iI x2), .int (iI x3)].toArray below meth c H locs 0 0 Q (F0 m 0 ls []) by
    have := hgo [] hS
    rw [hHe] at this
    exact this
  clear hS hHe
  intro locs hS
  refine lv_iload_n hx hb (dk_at dkX12_nameOf_0 0 rfl) rfl (lv_at hl 2 rfl) ?_
  rcases (show (x2 < 0 ∨ 3 < x2) ∨ x2 = 0 ∨ x2 = 1 ∨ x2 = 2 ∨ x2 = 3 by omega) with c1 | c1 | c1 | c1 | c1
  · refine lv_tableOut (tgt := 78) hx hb (dk_at dkX12_nameOf_0 1 rfl) (by rw [iI_toInt (rb hx2 (by decide) (by decide))]; exact c1) (by decide) ?_
    refine lv_aload_n hx hb (dk_at dkX12_nameOf_2 6 rfl) rfl (lv_at hl 0 rfl) ?_
    refine va_get (D := (dC, dI)) (ci := 12) (v := .ref (q 20)) (C := RX12) (T := TX12) (N := 85) hx hb hts hiX12 hown hK hP 0 wm0 rfl 31 (by decide) (hts _ (List.mem_cons_of_mem _ wlq_1_25)) (fun _ h9 => h9) rfl (dk_at dkX12_nameOf_2 7 rfl) ?_
    refine lv_iconst (v := iI 4) hx hb (dk_at dkX12_nameOf_2 8 rfl) (by decide +kernel) ?_
    refine lv_iload_n hx hb (dk_at dkX12_nameOf_2 9 rfl) rfl (lv_at hl 1 rfl) ?_
    refine x_mulv (v := 4 * x1) hx hb (dk_at dkX12_nameOf_2 10 rfl) (by omega) ?_
    refine lv_iload_n hx hb (dk_at dkX12_nameOf_2 11 rfl) rfl (lv_at hl 3 rfl) ?_
    refine x_addv (v := 4 * x1 + x3) hx hb (dk_at dkX12_nameOf_2 12 rfl) (by omega) ?_
    refine x_lald hx hb hK hP 20 2 wm20 rfl (by omega) (by decide) (dk_at dkX12_nameOf_2 13 rfl) (fun z2 hz2 => ?_)
    have rz2 : (-9223372036854775808 : Int) ≤ z2 ∧ z2 ≤ 9223372036854775807 := by rw [hz2]; exact hI 20 _
    have gz2 := Hd.mk hz2
    have hz2 : z2 = A 20 (4 * x1 + x3).toNat := hz2
    exact RET z2 _ _ _ _ _ ⟨rfl, (u_r_X12_nameOf_4 (Or.inl ⟨c1, ⟨z2, gz2.out, rfl⟩⟩)), by omega⟩ hP hS (dk_at dkX12_nameOf_2 14 rfl)
  · refine tp_i (y := iI 0) (congrArg iI c1) ?_
    refine lv_tableIn (off := 31) (tgt := 32) hx hb (dk_at dkX12_nameOf_0 1 rfl) (by decide +kernel) (by decide +kernel) (by decide +kernel) (by decide) ?_
    refine lv_aload_n hx hb (dk_at dkX12_nameOf_0 2 rfl) rfl (lv_at hl 0 rfl) ?_
    refine va_get (D := (dC, dI)) (ci := 12) (v := .ref (q 3)) (C := RX12) (T := TX12) (N := 85) hx hb hts hiX12 hown hK hP 0 wm0 rfl 14 (by decide) (hts _ (List.mem_cons_of_mem _ wlq_1_21)) (fun _ h9 => h9) rfl (dk_at dkX12_nameOf_0 3 rfl) ?_
    refine lv_bipush (v := iI 8) hx hb (dk_at dkX12_nameOf_0 4 rfl) (by decide +kernel) ?_
    refine lv_iload_n hx hb (dk_at dkX12_nameOf_0 5 rfl) rfl (lv_at hl 1 rfl) ?_
    refine x_mulv (v := 8 * x1) hx hb (dk_at dkX12_nameOf_0 6 rfl) (by omega) ?_
    refine lv_iload_n hx hb (dk_at dkX12_nameOf_0 7 rfl) rfl (lv_at hl 3 rfl) ?_
    refine x_addv (v := 8 * x1 + x3) hx hb (dk_at dkX12_nameOf_0 8 rfl) (by omega) ?_
    refine x_lald hx hb hK hP 3 2 wm3 rfl (by omega) (by decide) (dk_at dkX12_nameOf_0 9 rfl) (fun z3 hz3 => ?_)
    have rz3 : (-9223372036854775808 : Int) ≤ z3 ∧ z3 ≤ 9223372036854775807 := by rw [hz3]; exact hI 3 _
    have gz3 := Hd.mk hz3
    have hz3 : z3 = A 3 (8 * x1 + x3).toNat := hz3
    exact RET z3 _ _ _ _ _ ⟨rfl, (u_r_X12_nameOf_4 (Or.inr (Or.inl ⟨c1, ⟨z3, gz3.out, rfl⟩⟩))), by omega⟩ hP hS (dk_at dkX12_nameOf_0 10 rfl)
  · refine tp_i (y := iI 1) (congrArg iI c1) ?_
    refine lv_tableIn (off := 43) (tgt := 44) hx hb (dk_at dkX12_nameOf_0 1 rfl) (by decide +kernel) (by decide +kernel) (by decide +kernel) (by decide) ?_
    refine lv_aload_n hx hb (dk_at dkX12_nameOf_0 11 rfl) rfl (lv_at hl 0 rfl) ?_
    refine va_get (D := (dC, dI)) (ci := 12) (v := .ref (q 5)) (C := RX12) (T := TX12) (N := 85) hx hb hts hiX12 hown hK hP 0 wm0 rfl 16 (by decide) (hts _ (List.mem_cons_of_mem _ wlq_1_22)) (fun _ h9 => h9) rfl (dk_at dkX12_nameOf_0 12 rfl) ?_
    refine lv_bipush (v := iI 10) hx hb (dk_at dkX12_nameOf_0 13 rfl) (by decide +kernel) ?_
    refine lv_iload_n hx hb (dk_at dkX12_nameOf_0 14 rfl) rfl (lv_at hl 1 rfl) ?_
    refine x_mulv (v := 10 * x1) hx hb (dk_at dkX12_nameOf_0 15 rfl) (by omega) ?_
    refine lv_iload_n hx hb (dk_at dkX12_nameOf_1 0 rfl) rfl (lv_at hl 3 rfl) ?_
    refine x_addv (v := 10 * x1 + x3) hx hb (dk_at dkX12_nameOf_1 1 rfl) (by omega) ?_
    refine x_lald hx hb hK hP 5 2 wm5 rfl (by omega) (by decide) (dk_at dkX12_nameOf_1 2 rfl) (fun z4 hz4 => ?_)
    have rz4 : (-9223372036854775808 : Int) ≤ z4 ∧ z4 ≤ 9223372036854775807 := by rw [hz4]; exact hI 5 _
    have gz4 := Hd.mk hz4
    have hz4 : z4 = A 5 (10 * x1 + x3).toNat := hz4
    exact RET z4 _ _ _ _ _ ⟨rfl, (u_r_X12_nameOf_4 (Or.inr (Or.inr (Or.inl ⟨c1, ⟨z4, gz4.out, rfl⟩⟩)))), by omega⟩ hP hS (dk_at dkX12_nameOf_1 3 rfl)
  · refine tp_i (y := iI 2) (congrArg iI c1) ?_
    refine lv_tableIn (off := 55) (tgt := 56) hx hb (dk_at dkX12_nameOf_0 1 rfl) (by decide +kernel) (by decide +kernel) (by decide +kernel) (by decide) ?_
    refine lv_aload_n hx hb (dk_at dkX12_nameOf_1 4 rfl) rfl (lv_at hl 0 rfl) ?_
    refine va_get (D := (dC, dI)) (ci := 12) (v := .ref (q 12)) (C := RX12) (T := TX12) (N := 85) hx hb hts hiX12 hown hK hP 0 wm0 rfl 23 (by decide) (hts _ (List.mem_cons_of_mem _ wlq_1_23)) (fun _ h9 => h9) rfl (dk_at dkX12_nameOf_1 5 rfl) ?_
    refine lv_iconst (v := iI 4) hx hb (dk_at dkX12_nameOf_1 6 rfl) (by decide +kernel) ?_
    refine lv_iload_n hx hb (dk_at dkX12_nameOf_1 7 rfl) rfl (lv_at hl 1 rfl) ?_
    refine x_mulv (v := 4 * x1) hx hb (dk_at dkX12_nameOf_1 8 rfl) (by omega) ?_
    refine lv_iload_n hx hb (dk_at dkX12_nameOf_1 9 rfl) rfl (lv_at hl 3 rfl) ?_
    refine x_addv (v := 4 * x1 + x3) hx hb (dk_at dkX12_nameOf_1 10 rfl) (by omega) ?_
    refine x_lald hx hb hK hP 12 2 wm12 rfl (by omega) (by decide) (dk_at dkX12_nameOf_1 11 rfl) (fun z5 hz5 => ?_)
    have rz5 : (-9223372036854775808 : Int) ≤ z5 ∧ z5 ≤ 9223372036854775807 := by rw [hz5]; exact hI 12 _
    have gz5 := Hd.mk hz5
    have hz5 : z5 = A 12 (4 * x1 + x3).toNat := hz5
    exact RET z5 _ _ _ _ _ ⟨rfl, (u_r_X12_nameOf_4 (Or.inr (Or.inr (Or.inr (Or.inl ⟨c1, ⟨z5, gz5.out, rfl⟩⟩))))), by omega⟩ hP hS (dk_at dkX12_nameOf_1 12 rfl)
  · refine tp_i (y := iI 3) (congrArg iI c1) ?_
    refine lv_tableIn (off := 66) (tgt := 67) hx hb (dk_at dkX12_nameOf_0 1 rfl) (by decide +kernel) (by decide +kernel) (by decide +kernel) (by decide) ?_
    refine lv_aload_n hx hb (dk_at dkX12_nameOf_1 13 rfl) rfl (lv_at hl 0 rfl) ?_
    refine va_get (D := (dC, dI)) (ci := 12) (v := .ref (q 17)) (C := RX12) (T := TX12) (N := 85) hx hb hts hiX12 hown hK hP 0 wm0 rfl 28 (by decide) (hts _ (List.mem_cons_of_mem _ wlq_1_24)) (fun _ h9 => h9) rfl (dk_at dkX12_nameOf_1 14 rfl) ?_
    refine lv_iconst (v := iI 3) hx hb (dk_at dkX12_nameOf_1 15 rfl) (by decide +kernel) ?_
    refine lv_iload_n hx hb (dk_at dkX12_nameOf_2 0 rfl) rfl (lv_at hl 1 rfl) ?_
    refine x_mulv (v := 3 * x1) hx hb (dk_at dkX12_nameOf_2 1 rfl) (by omega) ?_
    refine lv_iload_n hx hb (dk_at dkX12_nameOf_2 2 rfl) rfl (lv_at hl 3 rfl) ?_
    refine x_addv (v := 3 * x1 + x3) hx hb (dk_at dkX12_nameOf_2 3 rfl) (by omega) ?_
    refine x_lald hx hb hK hP 17 2 wm17 rfl (by omega) (by decide) (dk_at dkX12_nameOf_2 4 rfl) (fun z6 hz6 => ?_)
    have rz6 : (-9223372036854775808 : Int) ≤ z6 ∧ z6 ≤ 9223372036854775807 := by rw [hz6]; exact hI 17 _
    have gz6 := Hd.mk hz6
    have hz6 : z6 = A 17 (3 * x1 + x3).toNat := hz6
    exact RET z6 _ _ _ _ _ ⟨rfl, (u_r_X12_nameOf_4 (Or.inr (Or.inr (Or.inr (Or.inr ⟨c1, ⟨z6, gz6.out, rfl⟩⟩))))), by omega⟩ hP hS (dk_at dkX12_nameOf_2 5 rfl)

abbrev tr_d_X12_named_0_1 (x1 : Int) (x2 : Int) (z2 : Int) (A : St) (z : Int) (K1 : Int → Prop) (z3 : Int) : Prop := ((0 ≤ z3 ∧ z3 ≤ 8) ∧ (((z2 ≤ z3) ∧ (z = (-1))) ∨ ((¬ z2 ≤ z3) ∧ (∃ z13 : Int, q_X12_nameOf_0 (A 0 47) x1 z3 A z13 ∧ (∃ z16 : Int, ((-1 ≤ z16 ∧ z16 ≤ 1) ∧ (z16 = 0 ↔ z13 = x2) ∧ (z16 < 0 ↔ z13 < x2)) ∧ (((¬ z16 = 0) ∧ (K1 (z3 + 1))) ∨ ((z16 = 0) ∧ (z = z3))))))))
def d_X12_named_0_1 (x1 : Int) (x2 : Int) (z2 : Int) (A : St) (z : Int) : Nat → Int → Prop
  | 0, _ => False
  | nn9 + 1, z3 => tr_d_X12_named_0_1 x1 x2 z2 A z (fun z3 => d_X12_named_0_1 x1 x2 z2 A z nn9 z3) z3
theorem u_d_X12_named_0_1 {x1 : Int} {x2 : Int} {z2 : Int} {A : St} {z : Int} {nn9 : Nat} {z3 : Int} (h : tr_d_X12_named_0_1 x1 x2 z2 A z (fun z3 => d_X12_named_0_1 x1 x2 z2 A z nn9 z3) z3) : d_X12_named_0_1 x1 x2 z2 A z (nn9 + 1) z3 := h
abbrev tr_r_X12_named_0 (x1 : Int) (x2 : Int) (A : St) (z : Int) : Prop := (∃ z2 : Int, z2 = A 2 ((A 0 47)).toNat ∧ (∃ nn9 : Nat, d_X12_named_0_1 x1 x2 z2 A z nn9 0))
def r_X12_named_0 (x1 : Int) (x2 : Int) (A : St) (z : Int) : Prop := tr_r_X12_named_0 x1 x2 A z
theorem u_r_X12_named_0 {x1 : Int} {x2 : Int} {A : St} {z : Int} (h : tr_r_X12_named_0 x1 x2 A z) : r_X12_named_0 x1 x2 A z := h
def q_X12_named_0 (x1 : Int) (x2 : Int) (A : St) (z : Int) : Prop := r_X12_named_0 x1 x2 A z ∧ (-1 ≤ z ∧ z ≤ 7 ∧ z = lk (A 3) (8 * A 0 47).toNat x2 (A 2 (A 0 47).toNat).toNat)
def ws_mb_X12_named_0 : List Cond := .code yX12_named cX12_named 6 (some .int) :: WX
set_option maxHeartbeats 4000000 in
set_option maxRecDepth 100000 in
theorem mb_X12_named_0 (l : Launch) (dC : Nat → ClassId) (dI : Nat → Nat → Nat) (cB cI cJ cZ cQ : ClassId) (q : Nat → Nat) (A : St) (x1 x2 : Int) (hI : IM A) (hx1 : (0 : Int) ≤ x1 ∧ x1 ≤ 0) (hx2 : (-9223372036854775808 : Int) ≤ x2 ∧ x2 ≤ 9223372036854775807) : XMi l yX12_named ws_mb_X12_named_0 ({ frames := 1, cells := 0, slots := 0, locals := 23 } : Room) (dC, dI) (tyA cB cI cJ cZ cQ) (WM cI cJ cZ q) A [.ref (q 0), .int (iI x1), .long (jI x2)] (fun z u => A = u ∧ r_X12_named_0 x1 x2 A z ∧ (-1 ≤ z ∧ z ≤ 7 ∧ z = lk (A 3) (8 * A 0 47).toNat x2 (A 2 (A 0 47).toNat).toNat)) := by
  refine x_meti (cc := cX12_named) (maxL := 6) WM_adr (by decide +kernel) rfl (Nat.le_of_ble_eq_true rfl) (fun p e s m below meth c Q AS ls hx hb hml hown hts hK hDD hA0 hP hS hl RET => ?_)
  have hown : s.vm.findClass RX12 = some m.cls := hown
  have hl : lv_has ls 6 [(0, .ref (q 0)), (1, .int (iI x1)), (2, .long (jI x2))] := hl
  have hiX12 : ∀ w ∈ u_ws RX12 TX12 85, w ∈ ws_mb_X12_named_0 := fun w h => List.mem_cons_of_mem _ (wx_lay w h)
  obtain ⟨H, hHe⟩ : ∃ H : Heap, H = s.heap := ⟨_, rfl⟩
  rw [← hHe] at hP
  have hS : va_S AS s.heap H [] := by rw [hHe]; exact hS
  suffices hgo : ∀ locs : List Loc, va_S AS s.heap H locs → W p l e (headSpec ws_mb_X12_named_0 ({ frames := 1, cells := 0, slots := 0, locals := 23 } : Room)).room s m [.ref (q 0), .int (iI x1), .long (jI x2)].toArray below meth c H locs 0 0 Q (F0 m 0 ls []) by
    have := hgo [] hS
    rw [hHe] at this
    exact this
  clear hS hHe
  intro locs hS
  refine lv_iload_n hx hb (dk_at dkX12_named_0 0 rfl) rfl (lv_at hl 1 rfl) ?_
  refine lv_if_ne (tgt := 16) hx hb (dk_at dkX12_named_0 1 rfl) (by decide) (fun c1 => False.elim (by have c1 : ¬ x1 = 0 := mt (i_eq0 (rb hx1 (by decide) (by decide))).mpr c1; omega)) (fun _ => ?_)
  refine lv_aload_n hx hb (dk_at dkX12_named_0 2 rfl) rfl (lv_at hl 0 rfl) ?_
  refine va_get (D := (dC, dI)) (ci := 12) (v := .ref (q 2)) (C := RX12) (T := TX12) (N := 85) hx hb hts hiX12 hown hK hP 0 wm0 rfl 13 (by decide) (hts _ (List.mem_cons_of_mem _ wlq_1_11)) (fun _ h9 => h9) rfl (dk_at dkX12_named_0 3 rfl) ?_
  refine lv_aload_n hx hb (dk_at dkX12_named_0 4 rfl) rfl (lv_at hl 0 rfl) ?_
  refine va_get (D := (dC, dI)) (ci := 12) (v := .int (iI (A 0 47))) (C := RX12) (T := TX12) (N := 85) hx hb hts hiX12 hown hK hP 0 wm0 rfl 47 (by decide) (hts _ (List.mem_cons_of_mem _ wlq_1_12)) (fun _ h9 => h9) rfl (dk_at dkX12_named_0 5 rfl) ?_
  have r_A_0_47 : (0 : Int) ≤ (A 0 47) ∧ (A 0 47) ≤ 1 := hI 0 47
  refine x_iald hx hb hK hP 2 1 wm2 rfl (by omega) (by decide) (dk_at dkX12_named_0 6 rfl) (fun z2 hz2 => ?_)
  have rz2 : (0 : Int) ≤ z2 ∧ z2 ≤ 8 := by rw [hz2]; exact hI 2 _
  have gz2 := Hd.mk hz2
  have hz2 : z2 = A 2 ((A 0 47)).toNat := hz2
  refine lv_goto (tgt := 76) hx hb (dk_at dkX12_named_0 7 rfl) (by decide) ?_
  refine lv_istore (lv' := [(4, .int (iI z2)), (0, .ref (q 0)), (1, .int (iI x1)), (2, .long (jI x2))]) hx hb (dk_at dkX12_named_2 8 rfl) hl (by decide) rfl (fun ls hl => ?_)
  refine lv_iconst (v := iI 0) hx hb (dk_at dkX12_named_2 9 rfl) (by decide +kernel) ?_
  refine lv_istore (lv' := [(5, .int (iI 0)), (4, .int (iI z2)), (0, .ref (q 0)), (1, .int (iI x1)), (2, .long (jI x2))]) hx hb (dk_at dkX12_named_2 10 rfl) hl (by decide) rfl (fun ls hl => ?_)
  have L81_5 : ∀ (n7 : Nat) (z3 : Int) (H : Heap) (locs : List Loc) (ls : Array Slot), (0 ≤ z3) → (0 ≤ z3 ∧ z3 ≤ 8) → (z3 ≤ z2) → (Hd (lk (A 3) (8 * A 0 47).toNat x2 z3.toNat = -1)) → (∀ (z : Int), (∃ mm1 : Nat, (d_X12_named_0_1 x1 x2 z2 A z mm1 z3)) → r_X12_named_0 x1 x2 A z) → ((z2 - z3 + 1).toNat = n7) → va_P (dC, dI) vwCl (WM cI cJ cZ q A) H → va_S AS s.heap H locs → lv_has ls 6 [(5, .int (iI z3)), (4, .int (iI z2)), (0, .ref (q 0)), (1, .int (iI x1)), (2, .long (jI x2))] → W p l e (headSpec ws_mb_X12_named_0 ({ frames := 1, cells := 0, slots := 0, locals := 23 } : Room)).room s m [.ref (q 0), .int (iI x1), .long (jI x2)].toArray below meth c H locs 0 0 Q (F0 m 81 ls []) := by
    intro n7
    induction n7 using Nat.strongRecOn with
    | ind n7 ih6 =>
      intro z3 H locs ls f8 f9 f10 f11 hk1 hn7 hP hS hl
      refine lv_iload hx hb (dk_at dkX12_named_2 11 rfl) (lv_at hl 0 rfl) ?_
      refine lv_iload hx hb (dk_at dkX12_named_2 12 rfl) (lv_at hl 1 rfl) ?_
      refine lv_icmp_ge (tgt := 113) hx hb (dk_at dkX12_named_2 13 rfl) (by decide) (fun c12 => ?_) (fun c12 => ?_)
      · have c12 : z2 ≤ z3 := (i_le (rb rz2 (by decide) (by decide)) (rb f9 (by decide) (by decide))).mp c12
        refine lv_iconst (v := iI (-1)) hx hb (dk_at dkX12_named_3 11 rfl) (by decide +kernel) ?_
        exact RET (-1) _ _ _ _ _ ⟨rfl, hk1 _ ⟨0 + 1, (u_d_X12_named_0_1 ⟨f9, (Or.inl ⟨c12, rfl⟩)⟩)⟩, ⟨by decide, by decide, (by rw [show A 2 (A 0 47).toNat = z3 by omega]; exact f11.out.symm)⟩⟩ hP hS (dk_at dkX12_named_3 12 rfl)
      · have c12 : ¬ z2 ≤ z3 := mt (i_le (rb rz2 (by decide) (by decide)) (rb f9 (by decide) (by decide))).mpr c12
        refine lv_aload_n hx hb (dk_at dkX12_named_2 14 rfl) rfl (lv_at hl 2 rfl) ?_
        refine lv_aload_n hx hb (dk_at dkX12_named_2 15 rfl) rfl (lv_at hl 2 rfl) ?_
        refine va_get (D := (dC, dI)) (ci := 12) (v := .int (iI (A 0 47))) (C := RX12) (T := TX12) (N := 85) hx hb hts hiX12 hown hK hP 0 wm0 rfl 47 (by decide) (hts _ (List.mem_cons_of_mem _ wlq_1_12)) (fun _ h9 => h9) rfl (dk_at dkX12_named_3 0 rfl) ?_
        refine lv_iload_n hx hb (dk_at dkX12_named_3 1 rfl) rfl (lv_at hl 3 rfl) ?_
        refine lv_iload hx hb (dk_at dkX12_named_3 2 rfl) (lv_at hl 0 rfl) ?_
        refine x_calll (As := [.int (iI (A 0 47)), .int (iI x1), .int (iI z3)]) (rest := []) ⟨hx, hb, hml, hown, hts⟩ (mb_X12_nameOf_0 l dC dI cB cI cJ cZ cQ q _ (A 0 47) x1 z3 hI r_A_0_47 hx1 (by omega)) (cwV 3 hts (goodV wlq_1_17 wlq_1_18 wlq_1_19 wlq_0_8 wlq_1_20) rfl rfl rfl (by decide +kernel) ⟨Nat.le_of_ble_eq_true rfl, Nat.le_of_ble_eq_true rfl⟩) hK hDD hA0 hP hS 0 12 wm0 rfl rfl hl.1 (Nat.le_of_ble_eq_true rfl) (dk_at dkX12_named_3 3 rfl) (fun z13 A14 H locs hw15 hP hS => ?_)
        obtain ⟨rfl, hw15⟩ := hw15
        have ghw15 : q_X12_nameOf_0 (A 0 47) x1 z3 A z13 := hw15
        have hw15 := hw15.2
        refine lv_lload_n hx hb (dk_at dkX12_named_3 4 rfl) rfl (lv_at hl 4 rfl) ?_
        refine x_lcmp hx hb (dk_at dkX12_named_3 5 rfl) (by omega) (by omega) (fun z16 hz16 hz16b hz16c => ?_)
        have gz16 := Hd.mk (And.intro hz16 (And.intro hz16b hz16c))
        refine lv_if_ne (tgt := 107) hx hb (dk_at dkX12_named_3 6 rfl) (by decide) (fun c17 => ?_) (fun c17 => ?_)
        · have c17 : ¬ z16 = 0 := mt (i_eq0 (by omega)).mpr c17
          refine lv_iinc (v := iI (z3 + 1)) (lv' := [(5, .int (iI (z3 + 1))), (4, .int (iI z2)), (0, .ref (q 0)), (1, .int (iI x1)), (2, .long (jI x2))]) hx hb (dk_at dkX12_named_3 9 rfl) hl (k := 0) rfl (i_inc (by omega)) (by decide) rfl (fun ls hl => ?_)
          refine lv_goto (tgt := 81) hx hb (dk_at dkX12_named_3 10 rfl) (by decide) ?_
          exact ih6 _ (by omega) (z3 + 1) _ _ _ (by omega) (by omega) (by omega) (by exact Hd.mk (lk_step (c := 8 * (A 0 47) + z3) (by omega) (by omega) f11.out rfl (by omega))) (fun zq ⟨mm1, hq⟩ => hk1 _ ⟨mm1 + 1, (u_d_X12_named_0_1 ⟨f9, (Or.inr ⟨c12, ⟨z13, ghw15, ⟨z16, gz16.out, (Or.inl ⟨c17, hq⟩)⟩⟩⟩)⟩)⟩) rfl hP hS (lv_sub hl [0, 1, 2, 3, 4] rfl)
        · have c17 : z16 = 0 := (i_eq0 (by omega)).mp c17
          refine lv_iload hx hb (dk_at dkX12_named_3 7 rfl) (lv_at hl 0 rfl) ?_
          exact RET z3 _ _ _ _ _ ⟨rfl, hk1 _ ⟨0 + 1, (u_d_X12_named_0_1 ⟨f9, (Or.inr ⟨c12, ⟨z13, ghw15, ⟨z16, gz16.out, (Or.inr ⟨c17, rfl⟩)⟩⟩⟩)⟩)⟩, ⟨by omega, by omega, (lk_found (c := 8 * (A 0 47) + z3) (by omega) (by omega) f11.out rfl (by omega) (by omega)).symm⟩⟩ hP hS (dk_at dkX12_named_3 8 rfl)
  exact L81_5 _ 0 _ _ _ (by omega) (by omega) (by omega) (by exact Hd.mk rfl) (fun zq ⟨mm1, hq⟩ => (u_r_X12_named_0 ⟨z2, gz2.out, ⟨mm1, hq⟩⟩)) rfl hP hS (lv_sub hl [0, 1, 2, 3, 4] rfl)

abbrev tr_d_X12_named_1_1 (x1 : Int) (x2 : Int) (z3 : Int) (A : St) (z : Int) (K1 : Int → Prop) (z4 : Int) : Prop := ((0 ≤ z4 ∧ z4 ≤ 10) ∧ (((z3 ≤ z4) ∧ (z = (-1))) ∨ ((¬ z3 ≤ z4) ∧ (∃ z14 : Int, q_X12_nameOf_1 (A 0 47) x1 z4 A z14 ∧ (∃ z17 : Int, ((-1 ≤ z17 ∧ z17 ≤ 1) ∧ (z17 = 0 ↔ z14 = x2) ∧ (z17 < 0 ↔ z14 < x2)) ∧ (((¬ z17 = 0) ∧ (K1 (z4 + 1))) ∨ ((z17 = 0) ∧ (z = z4))))))))
def d_X12_named_1_1 (x1 : Int) (x2 : Int) (z3 : Int) (A : St) (z : Int) : Nat → Int → Prop
  | 0, _ => False
  | nn9 + 1, z4 => tr_d_X12_named_1_1 x1 x2 z3 A z (fun z4 => d_X12_named_1_1 x1 x2 z3 A z nn9 z4) z4
theorem u_d_X12_named_1_1 {x1 : Int} {x2 : Int} {z3 : Int} {A : St} {z : Int} {nn9 : Nat} {z4 : Int} (h : tr_d_X12_named_1_1 x1 x2 z3 A z (fun z4 => d_X12_named_1_1 x1 x2 z3 A z nn9 z4) z4) : d_X12_named_1_1 x1 x2 z3 A z (nn9 + 1) z4 := h
abbrev tr_r_X12_named_1 (x1 : Int) (x2 : Int) (A : St) (z : Int) : Prop := (∃ z3 : Int, z3 = A 4 ((A 0 47)).toNat ∧ (∃ nn9 : Nat, d_X12_named_1_1 x1 x2 z3 A z nn9 0))
def r_X12_named_1 (x1 : Int) (x2 : Int) (A : St) (z : Int) : Prop := tr_r_X12_named_1 x1 x2 A z
theorem u_r_X12_named_1 {x1 : Int} {x2 : Int} {A : St} {z : Int} (h : tr_r_X12_named_1 x1 x2 A z) : r_X12_named_1 x1 x2 A z := h
def q_X12_named_1 (x1 : Int) (x2 : Int) (A : St) (z : Int) : Prop := r_X12_named_1 x1 x2 A z ∧ (-1 ≤ z ∧ z ≤ 9 ∧ z = lk (A 5) (10 * A 0 47).toNat x2 (A 4 (A 0 47).toNat).toNat)
def ws_mb_X12_named_1 : List Cond := .code yX12_named cX12_named 6 (some .int) :: WX
set_option maxHeartbeats 4000000 in
set_option maxRecDepth 100000 in
theorem mb_X12_named_1 (l : Launch) (dC : Nat → ClassId) (dI : Nat → Nat → Nat) (cB cI cJ cZ cQ : ClassId) (q : Nat → Nat) (A : St) (x1 x2 : Int) (hI : IM A) (hx1 : (1 : Int) ≤ x1 ∧ x1 ≤ 1) (hx2 : (-9223372036854775808 : Int) ≤ x2 ∧ x2 ≤ 9223372036854775807) : XMi l yX12_named ws_mb_X12_named_1 ({ frames := 1, cells := 0, slots := 0, locals := 23 } : Room) (dC, dI) (tyA cB cI cJ cZ cQ) (WM cI cJ cZ q) A [.ref (q 0), .int (iI x1), .long (jI x2)] (fun z u => A = u ∧ r_X12_named_1 x1 x2 A z ∧ (-1 ≤ z ∧ z ≤ 9 ∧ z = lk (A 5) (10 * A 0 47).toNat x2 (A 4 (A 0 47).toNat).toNat)) := by
  refine x_meti (cc := cX12_named) (maxL := 6) WM_adr (by decide +kernel) rfl (Nat.le_of_ble_eq_true rfl) (fun p e s m below meth c Q AS ls hx hb hml hown hts hK hDD hA0 hP hS hl RET => ?_)
  have hown : s.vm.findClass RX12 = some m.cls := hown
  have hl : lv_has ls 6 [(0, .ref (q 0)), (1, .int (iI x1)), (2, .long (jI x2))] := hl
  have hiX12 : ∀ w ∈ u_ws RX12 TX12 85, w ∈ ws_mb_X12_named_1 := fun w h => List.mem_cons_of_mem _ (wx_lay w h)
  obtain ⟨H, hHe⟩ : ∃ H : Heap, H = s.heap := ⟨_, rfl⟩
  rw [← hHe] at hP
  have hS : va_S AS s.heap H [] := by rw [hHe]; exact hS
  suffices hgo : ∀ locs : List Loc, va_S AS s.heap H locs → W p l e (headSpec ws_mb_X12_named_1 ({ frames := 1, cells := 0, slots := 0, locals := 23 } : Room)).room s m [.ref (q 0), .int (iI x1), .long (jI x2)].toArray below meth c H locs 0 0 Q (F0 m 0 ls []) by
    have := hgo [] hS
    rw [hHe] at this
    exact this
  clear hS hHe
  intro locs hS
  refine lv_iload_n hx hb (dk_at dkX12_named_0 0 rfl) rfl (lv_at hl 1 rfl) ?_
  refine lv_if_ne (tgt := 16) hx hb (dk_at dkX12_named_0 1 rfl) (by decide) (fun _ => ?_) (fun c1 => False.elim (by have c1 : x1 = 0 := (i_eq0 (rb hx1 (by decide) (by decide))).mp c1; omega))
  refine lv_iload_n hx hb (dk_at dkX12_named_0 8 rfl) rfl (lv_at hl 1 rfl) ?_
  refine lv_iconst (v := iI 1) hx hb (dk_at dkX12_named_0 9 rfl) (by decide +kernel) ?_
  refine lv_icmp_ne (tgt := 33) hx hb (dk_at dkX12_named_0 10 rfl) (by decide) (fun c2 => False.elim (by have c2 : ¬ x1 = 1 := mt (i_eq (rb hx1 (by decide) (by decide)) ⟨by decide, by decide⟩).mpr c2; omega)) (fun _ => ?_)
  refine lv_aload_n hx hb (dk_at dkX12_named_0 11 rfl) rfl (lv_at hl 0 rfl) ?_
  refine va_get (D := (dC, dI)) (ci := 12) (v := .ref (q 4)) (C := RX12) (T := TX12) (N := 85) hx hb hts hiX12 hown hK hP 0 wm0 rfl 15 (by decide) (hts _ (List.mem_cons_of_mem _ wlq_1_13)) (fun _ h9 => h9) rfl (dk_at dkX12_named_0 12 rfl) ?_
  refine lv_aload_n hx hb (dk_at dkX12_named_0 13 rfl) rfl (lv_at hl 0 rfl) ?_
  refine va_get (D := (dC, dI)) (ci := 12) (v := .int (iI (A 0 47))) (C := RX12) (T := TX12) (N := 85) hx hb hts hiX12 hown hK hP 0 wm0 rfl 47 (by decide) (hts _ (List.mem_cons_of_mem _ wlq_1_12)) (fun _ h9 => h9) rfl (dk_at dkX12_named_0 14 rfl) ?_
  have r_A_0_47 : (0 : Int) ≤ (A 0 47) ∧ (A 0 47) ≤ 1 := hI 0 47
  refine x_iald hx hb hK hP 4 1 wm4 rfl (by omega) (by decide) (dk_at dkX12_named_0 15 rfl) (fun z3 hz3 => ?_)
  have rz3 : (0 : Int) ≤ z3 ∧ z3 ≤ 10 := by rw [hz3]; exact hI 4 _
  have gz3 := Hd.mk hz3
  have hz3 : z3 = A 4 ((A 0 47)).toNat := hz3
  refine lv_goto (tgt := 76) hx hb (dk_at dkX12_named_1 0 rfl) (by decide) ?_
  refine lv_istore (lv' := [(4, .int (iI z3)), (0, .ref (q 0)), (1, .int (iI x1)), (2, .long (jI x2))]) hx hb (dk_at dkX12_named_2 8 rfl) hl (by decide) rfl (fun ls hl => ?_)
  refine lv_iconst (v := iI 0) hx hb (dk_at dkX12_named_2 9 rfl) (by decide +kernel) ?_
  refine lv_istore (lv' := [(5, .int (iI 0)), (4, .int (iI z3)), (0, .ref (q 0)), (1, .int (iI x1)), (2, .long (jI x2))]) hx hb (dk_at dkX12_named_2 10 rfl) hl (by decide) rfl (fun ls hl => ?_)
  have L81_6 : ∀ (n8 : Nat) (z4 : Int) (H : Heap) (locs : List Loc) (ls : Array Slot), (0 ≤ z4) → (0 ≤ z4 ∧ z4 ≤ 10) → (z4 ≤ z3) → (Hd (lk (A 5) (10 * A 0 47).toNat x2 z4.toNat = -1)) → (∀ (z : Int), (∃ mm1 : Nat, (d_X12_named_1_1 x1 x2 z3 A z mm1 z4)) → r_X12_named_1 x1 x2 A z) → ((z3 - z4 + 1).toNat = n8) → va_P (dC, dI) vwCl (WM cI cJ cZ q A) H → va_S AS s.heap H locs → lv_has ls 6 [(5, .int (iI z4)), (4, .int (iI z3)), (0, .ref (q 0)), (1, .int (iI x1)), (2, .long (jI x2))] → W p l e (headSpec ws_mb_X12_named_1 ({ frames := 1, cells := 0, slots := 0, locals := 23 } : Room)).room s m [.ref (q 0), .int (iI x1), .long (jI x2)].toArray below meth c H locs 0 0 Q (F0 m 81 ls []) := by
    intro n8
    induction n8 using Nat.strongRecOn with
    | ind n8 ih7 =>
      intro z4 H locs ls f9 f10 f11 f12 hk1 hn8 hP hS hl
      refine lv_iload hx hb (dk_at dkX12_named_2 11 rfl) (lv_at hl 0 rfl) ?_
      refine lv_iload hx hb (dk_at dkX12_named_2 12 rfl) (lv_at hl 1 rfl) ?_
      refine lv_icmp_ge (tgt := 113) hx hb (dk_at dkX12_named_2 13 rfl) (by decide) (fun c13 => ?_) (fun c13 => ?_)
      · have c13 : z3 ≤ z4 := (i_le (rb rz3 (by decide) (by decide)) (rb f10 (by decide) (by decide))).mp c13
        refine lv_iconst (v := iI (-1)) hx hb (dk_at dkX12_named_3 11 rfl) (by decide +kernel) ?_
        exact RET (-1) _ _ _ _ _ ⟨rfl, hk1 _ ⟨0 + 1, (u_d_X12_named_1_1 ⟨f10, (Or.inl ⟨c13, rfl⟩)⟩)⟩, ⟨by decide, by decide, (by rw [show A 4 (A 0 47).toNat = z4 by omega]; exact f12.out.symm)⟩⟩ hP hS (dk_at dkX12_named_3 12 rfl)
      · have c13 : ¬ z3 ≤ z4 := mt (i_le (rb rz3 (by decide) (by decide)) (rb f10 (by decide) (by decide))).mpr c13
        refine lv_aload_n hx hb (dk_at dkX12_named_2 14 rfl) rfl (lv_at hl 2 rfl) ?_
        refine lv_aload_n hx hb (dk_at dkX12_named_2 15 rfl) rfl (lv_at hl 2 rfl) ?_
        refine va_get (D := (dC, dI)) (ci := 12) (v := .int (iI (A 0 47))) (C := RX12) (T := TX12) (N := 85) hx hb hts hiX12 hown hK hP 0 wm0 rfl 47 (by decide) (hts _ (List.mem_cons_of_mem _ wlq_1_12)) (fun _ h9 => h9) rfl (dk_at dkX12_named_3 0 rfl) ?_
        refine lv_iload_n hx hb (dk_at dkX12_named_3 1 rfl) rfl (lv_at hl 3 rfl) ?_
        refine lv_iload hx hb (dk_at dkX12_named_3 2 rfl) (lv_at hl 0 rfl) ?_
        refine x_calll (As := [.int (iI (A 0 47)), .int (iI x1), .int (iI z4)]) (rest := []) ⟨hx, hb, hml, hown, hts⟩ (mb_X12_nameOf_1 l dC dI cB cI cJ cZ cQ q _ (A 0 47) x1 z4 hI r_A_0_47 hx1 (by omega)) (cwV 3 hts (goodV wlq_1_17 wlq_1_18 wlq_1_19 wlq_0_8 wlq_1_20) rfl rfl rfl (by decide +kernel) ⟨Nat.le_of_ble_eq_true rfl, Nat.le_of_ble_eq_true rfl⟩) hK hDD hA0 hP hS 0 12 wm0 rfl rfl hl.1 (Nat.le_of_ble_eq_true rfl) (dk_at dkX12_named_3 3 rfl) (fun z14 A15 H locs hw16 hP hS => ?_)
        obtain ⟨rfl, hw16⟩ := hw16
        have ghw16 : q_X12_nameOf_1 (A 0 47) x1 z4 A z14 := hw16
        have hw16 := hw16.2
        refine lv_lload_n hx hb (dk_at dkX12_named_3 4 rfl) rfl (lv_at hl 4 rfl) ?_
        refine x_lcmp hx hb (dk_at dkX12_named_3 5 rfl) (by omega) (by omega) (fun z17 hz17 hz17b hz17c => ?_)
        have gz17 := Hd.mk (And.intro hz17 (And.intro hz17b hz17c))
        refine lv_if_ne (tgt := 107) hx hb (dk_at dkX12_named_3 6 rfl) (by decide) (fun c18 => ?_) (fun c18 => ?_)
        · have c18 : ¬ z17 = 0 := mt (i_eq0 (by omega)).mpr c18
          refine lv_iinc (v := iI (z4 + 1)) (lv' := [(5, .int (iI (z4 + 1))), (4, .int (iI z3)), (0, .ref (q 0)), (1, .int (iI x1)), (2, .long (jI x2))]) hx hb (dk_at dkX12_named_3 9 rfl) hl (k := 0) rfl (i_inc (by omega)) (by decide) rfl (fun ls hl => ?_)
          refine lv_goto (tgt := 81) hx hb (dk_at dkX12_named_3 10 rfl) (by decide) ?_
          exact ih7 _ (by omega) (z4 + 1) _ _ _ (by omega) (by omega) (by omega) (by exact Hd.mk (lk_step (c := 10 * (A 0 47) + z4) (by omega) (by omega) f12.out rfl (by omega))) (fun zq ⟨mm1, hq⟩ => hk1 _ ⟨mm1 + 1, (u_d_X12_named_1_1 ⟨f10, (Or.inr ⟨c13, ⟨z14, ghw16, ⟨z17, gz17.out, (Or.inl ⟨c18, hq⟩)⟩⟩⟩)⟩)⟩) rfl hP hS (lv_sub hl [0, 1, 2, 3, 4] rfl)
        · have c18 : z17 = 0 := (i_eq0 (by omega)).mp c18
          refine lv_iload hx hb (dk_at dkX12_named_3 7 rfl) (lv_at hl 0 rfl) ?_
          exact RET z4 _ _ _ _ _ ⟨rfl, hk1 _ ⟨0 + 1, (u_d_X12_named_1_1 ⟨f10, (Or.inr ⟨c13, ⟨z14, ghw16, ⟨z17, gz17.out, (Or.inr ⟨c18, rfl⟩)⟩⟩⟩)⟩)⟩, ⟨by omega, by omega, (lk_found (c := 10 * (A 0 47) + z4) (by omega) (by omega) f12.out rfl (by omega) (by omega)).symm⟩⟩ hP hS (dk_at dkX12_named_3 8 rfl)
  exact L81_6 _ 0 _ _ _ (by omega) (by omega) (by omega) (by exact Hd.mk rfl) (fun zq ⟨mm1, hq⟩ => (u_r_X12_named_1 ⟨z3, gz3.out, ⟨mm1, hq⟩⟩)) rfl hP hS (lv_sub hl [0, 1, 2, 3, 4] rfl)

abbrev tr_d_X12_named_2_1 (x1 : Int) (x2 : Int) (z4 : Int) (A : St) (z : Int) (K1 : Int → Prop) (z5 : Int) : Prop := ((0 ≤ z5 ∧ z5 ≤ 4) ∧ (((z4 ≤ z5) ∧ (z = (-1))) ∨ ((¬ z4 ≤ z5) ∧ (∃ z15 : Int, q_X12_nameOf_2 (A 0 47) x1 z5 A z15 ∧ (∃ z18 : Int, ((-1 ≤ z18 ∧ z18 ≤ 1) ∧ (z18 = 0 ↔ z15 = x2) ∧ (z18 < 0 ↔ z15 < x2)) ∧ (((¬ z18 = 0) ∧ (K1 (z5 + 1))) ∨ ((z18 = 0) ∧ (z = z5))))))))
def d_X12_named_2_1 (x1 : Int) (x2 : Int) (z4 : Int) (A : St) (z : Int) : Nat → Int → Prop
  | 0, _ => False
  | nn9 + 1, z5 => tr_d_X12_named_2_1 x1 x2 z4 A z (fun z5 => d_X12_named_2_1 x1 x2 z4 A z nn9 z5) z5
theorem u_d_X12_named_2_1 {x1 : Int} {x2 : Int} {z4 : Int} {A : St} {z : Int} {nn9 : Nat} {z5 : Int} (h : tr_d_X12_named_2_1 x1 x2 z4 A z (fun z5 => d_X12_named_2_1 x1 x2 z4 A z nn9 z5) z5) : d_X12_named_2_1 x1 x2 z4 A z (nn9 + 1) z5 := h
abbrev tr_r_X12_named_2 (x1 : Int) (x2 : Int) (A : St) (z : Int) : Prop := (∃ z4 : Int, z4 = A 11 ((A 0 47)).toNat ∧ (∃ nn9 : Nat, d_X12_named_2_1 x1 x2 z4 A z nn9 0))
def r_X12_named_2 (x1 : Int) (x2 : Int) (A : St) (z : Int) : Prop := tr_r_X12_named_2 x1 x2 A z
theorem u_r_X12_named_2 {x1 : Int} {x2 : Int} {A : St} {z : Int} (h : tr_r_X12_named_2 x1 x2 A z) : r_X12_named_2 x1 x2 A z := h
def q_X12_named_2 (x1 : Int) (x2 : Int) (A : St) (z : Int) : Prop := r_X12_named_2 x1 x2 A z ∧ (-1 ≤ z ∧ z ≤ 3 ∧ z = lk (A 12) (4 * A 0 47).toNat x2 (A 11 (A 0 47).toNat).toNat)
def ws_mb_X12_named_2 : List Cond := .code yX12_named cX12_named 6 (some .int) :: WX
set_option maxHeartbeats 4000000 in
set_option maxRecDepth 100000 in
theorem mb_X12_named_2 (l : Launch) (dC : Nat → ClassId) (dI : Nat → Nat → Nat) (cB cI cJ cZ cQ : ClassId) (q : Nat → Nat) (A : St) (x1 x2 : Int) (hI : IM A) (hx1 : (2 : Int) ≤ x1 ∧ x1 ≤ 2) (hx2 : (-9223372036854775808 : Int) ≤ x2 ∧ x2 ≤ 9223372036854775807) : XMi l yX12_named ws_mb_X12_named_2 ({ frames := 1, cells := 0, slots := 0, locals := 23 } : Room) (dC, dI) (tyA cB cI cJ cZ cQ) (WM cI cJ cZ q) A [.ref (q 0), .int (iI x1), .long (jI x2)] (fun z u => A = u ∧ r_X12_named_2 x1 x2 A z ∧ (-1 ≤ z ∧ z ≤ 3 ∧ z = lk (A 12) (4 * A 0 47).toNat x2 (A 11 (A 0 47).toNat).toNat)) := by
  refine x_meti (cc := cX12_named) (maxL := 6) WM_adr (by decide +kernel) rfl (Nat.le_of_ble_eq_true rfl) (fun p e s m below meth c Q AS ls hx hb hml hown hts hK hDD hA0 hP hS hl RET => ?_)
  have hown : s.vm.findClass RX12 = some m.cls := hown
  have hl : lv_has ls 6 [(0, .ref (q 0)), (1, .int (iI x1)), (2, .long (jI x2))] := hl
  have hiX12 : ∀ w ∈ u_ws RX12 TX12 85, w ∈ ws_mb_X12_named_2 := fun w h => List.mem_cons_of_mem _ (wx_lay w h)
  obtain ⟨H, hHe⟩ : ∃ H : Heap, H = s.heap := ⟨_, rfl⟩
  rw [← hHe] at hP
  have hS : va_S AS s.heap H [] := by rw [hHe]; exact hS
  suffices hgo : ∀ locs : List Loc, va_S AS s.heap H locs → W p l e (headSpec ws_mb_X12_named_2 ({ frames := 1, cells := 0, slots := 0, locals := 23 } : Room)).room s m [.ref (q 0), .int (iI x1), .long (jI x2)].toArray below meth c H locs 0 0 Q (F0 m 0 ls []) by
    have := hgo [] hS
    rw [hHe] at this
    exact this
  clear hS hHe
  intro locs hS
  refine lv_iload_n hx hb (dk_at dkX12_named_0 0 rfl) rfl (lv_at hl 1 rfl) ?_
  refine lv_if_ne (tgt := 16) hx hb (dk_at dkX12_named_0 1 rfl) (by decide) (fun _ => ?_) (fun c1 => False.elim (by have c1 : x1 = 0 := (i_eq0 (rb hx1 (by decide) (by decide))).mp c1; omega))
  refine lv_iload_n hx hb (dk_at dkX12_named_0 8 rfl) rfl (lv_at hl 1 rfl) ?_
  refine lv_iconst (v := iI 1) hx hb (dk_at dkX12_named_0 9 rfl) (by decide +kernel) ?_
  refine lv_icmp_ne (tgt := 33) hx hb (dk_at dkX12_named_0 10 rfl) (by decide) (fun _ => ?_) (fun c2 => False.elim (by have c2 : x1 = 1 := (i_eq (rb hx1 (by decide) (by decide)) ⟨by decide, by decide⟩).mp c2; omega))
  refine lv_iload_n hx hb (dk_at dkX12_named_1 1 rfl) rfl (lv_at hl 1 rfl) ?_
  refine lv_iconst (v := iI 2) hx hb (dk_at dkX12_named_1 2 rfl) (by decide +kernel) ?_
  refine lv_icmp_ne (tgt := 50) hx hb (dk_at dkX12_named_1 3 rfl) (by decide) (fun c3 => False.elim (by have c3 : ¬ x1 = 2 := mt (i_eq (rb hx1 (by decide) (by decide)) ⟨by decide, by decide⟩).mpr c3; omega)) (fun _ => ?_)
  refine lv_aload_n hx hb (dk_at dkX12_named_1 4 rfl) rfl (lv_at hl 0 rfl) ?_
  refine va_get (D := (dC, dI)) (ci := 12) (v := .ref (q 11)) (C := RX12) (T := TX12) (N := 85) hx hb hts hiX12 hown hK hP 0 wm0 rfl 22 (by decide) (hts _ (List.mem_cons_of_mem _ wlq_1_14)) (fun _ h9 => h9) rfl (dk_at dkX12_named_1 5 rfl) ?_
  refine lv_aload_n hx hb (dk_at dkX12_named_1 6 rfl) rfl (lv_at hl 0 rfl) ?_
  refine va_get (D := (dC, dI)) (ci := 12) (v := .int (iI (A 0 47))) (C := RX12) (T := TX12) (N := 85) hx hb hts hiX12 hown hK hP 0 wm0 rfl 47 (by decide) (hts _ (List.mem_cons_of_mem _ wlq_1_12)) (fun _ h9 => h9) rfl (dk_at dkX12_named_1 7 rfl) ?_
  have r_A_0_47 : (0 : Int) ≤ (A 0 47) ∧ (A 0 47) ≤ 1 := hI 0 47
  refine x_iald hx hb hK hP 11 1 wm11 rfl (by omega) (by decide) (dk_at dkX12_named_1 8 rfl) (fun z4 hz4 => ?_)
  have rz4 : (0 : Int) ≤ z4 ∧ z4 ≤ 4 := by rw [hz4]; exact hI 11 _
  have gz4 := Hd.mk hz4
  have hz4 : z4 = A 11 ((A 0 47)).toNat := hz4
  refine lv_goto (tgt := 76) hx hb (dk_at dkX12_named_1 9 rfl) (by decide) ?_
  refine lv_istore (lv' := [(4, .int (iI z4)), (0, .ref (q 0)), (1, .int (iI x1)), (2, .long (jI x2))]) hx hb (dk_at dkX12_named_2 8 rfl) hl (by decide) rfl (fun ls hl => ?_)
  refine lv_iconst (v := iI 0) hx hb (dk_at dkX12_named_2 9 rfl) (by decide +kernel) ?_
  refine lv_istore (lv' := [(5, .int (iI 0)), (4, .int (iI z4)), (0, .ref (q 0)), (1, .int (iI x1)), (2, .long (jI x2))]) hx hb (dk_at dkX12_named_2 10 rfl) hl (by decide) rfl (fun ls hl => ?_)
  have L81_7 : ∀ (n9 : Nat) (z5 : Int) (H : Heap) (locs : List Loc) (ls : Array Slot), (0 ≤ z5) → (0 ≤ z5 ∧ z5 ≤ 4) → (z5 ≤ z4) → (Hd (lk (A 12) (4 * A 0 47).toNat x2 z5.toNat = -1)) → (∀ (z : Int), (∃ mm1 : Nat, (d_X12_named_2_1 x1 x2 z4 A z mm1 z5)) → r_X12_named_2 x1 x2 A z) → ((z4 - z5 + 1).toNat = n9) → va_P (dC, dI) vwCl (WM cI cJ cZ q A) H → va_S AS s.heap H locs → lv_has ls 6 [(5, .int (iI z5)), (4, .int (iI z4)), (0, .ref (q 0)), (1, .int (iI x1)), (2, .long (jI x2))] → W p l e (headSpec ws_mb_X12_named_2 ({ frames := 1, cells := 0, slots := 0, locals := 23 } : Room)).room s m [.ref (q 0), .int (iI x1), .long (jI x2)].toArray below meth c H locs 0 0 Q (F0 m 81 ls []) := by
    intro n9
    induction n9 using Nat.strongRecOn with
    | ind n9 ih8 =>
      intro z5 H locs ls f10 f11 f12 f13 hk1 hn9 hP hS hl
      refine lv_iload hx hb (dk_at dkX12_named_2 11 rfl) (lv_at hl 0 rfl) ?_
      refine lv_iload hx hb (dk_at dkX12_named_2 12 rfl) (lv_at hl 1 rfl) ?_
      refine lv_icmp_ge (tgt := 113) hx hb (dk_at dkX12_named_2 13 rfl) (by decide) (fun c14 => ?_) (fun c14 => ?_)
      · have c14 : z4 ≤ z5 := (i_le (rb rz4 (by decide) (by decide)) (rb f11 (by decide) (by decide))).mp c14
        refine lv_iconst (v := iI (-1)) hx hb (dk_at dkX12_named_3 11 rfl) (by decide +kernel) ?_
        exact RET (-1) _ _ _ _ _ ⟨rfl, hk1 _ ⟨0 + 1, (u_d_X12_named_2_1 ⟨f11, (Or.inl ⟨c14, rfl⟩)⟩)⟩, ⟨by decide, by decide, (by rw [show A 11 (A 0 47).toNat = z5 by omega]; exact f13.out.symm)⟩⟩ hP hS (dk_at dkX12_named_3 12 rfl)
      · have c14 : ¬ z4 ≤ z5 := mt (i_le (rb rz4 (by decide) (by decide)) (rb f11 (by decide) (by decide))).mpr c14
        refine lv_aload_n hx hb (dk_at dkX12_named_2 14 rfl) rfl (lv_at hl 2 rfl) ?_
        refine lv_aload_n hx hb (dk_at dkX12_named_2 15 rfl) rfl (lv_at hl 2 rfl) ?_
        refine va_get (D := (dC, dI)) (ci := 12) (v := .int (iI (A 0 47))) (C := RX12) (T := TX12) (N := 85) hx hb hts hiX12 hown hK hP 0 wm0 rfl 47 (by decide) (hts _ (List.mem_cons_of_mem _ wlq_1_12)) (fun _ h9 => h9) rfl (dk_at dkX12_named_3 0 rfl) ?_
        refine lv_iload_n hx hb (dk_at dkX12_named_3 1 rfl) rfl (lv_at hl 3 rfl) ?_
        refine lv_iload hx hb (dk_at dkX12_named_3 2 rfl) (lv_at hl 0 rfl) ?_
        refine x_calll (As := [.int (iI (A 0 47)), .int (iI x1), .int (iI z5)]) (rest := []) ⟨hx, hb, hml, hown, hts⟩ (mb_X12_nameOf_2 l dC dI cB cI cJ cZ cQ q _ (A 0 47) x1 z5 hI r_A_0_47 hx1 (by omega)) (cwV 3 hts (goodV wlq_1_17 wlq_1_18 wlq_1_19 wlq_0_8 wlq_1_20) rfl rfl rfl (by decide +kernel) ⟨Nat.le_of_ble_eq_true rfl, Nat.le_of_ble_eq_true rfl⟩) hK hDD hA0 hP hS 0 12 wm0 rfl rfl hl.1 (Nat.le_of_ble_eq_true rfl) (dk_at dkX12_named_3 3 rfl) (fun z15 A16 H locs hw17 hP hS => ?_)
        obtain ⟨rfl, hw17⟩ := hw17
        have ghw17 : q_X12_nameOf_2 (A 0 47) x1 z5 A z15 := hw17
        have hw17 := hw17.2
        refine lv_lload_n hx hb (dk_at dkX12_named_3 4 rfl) rfl (lv_at hl 4 rfl) ?_
        refine x_lcmp hx hb (dk_at dkX12_named_3 5 rfl) (by omega) (by omega) (fun z18 hz18 hz18b hz18c => ?_)
        have gz18 := Hd.mk (And.intro hz18 (And.intro hz18b hz18c))
        refine lv_if_ne (tgt := 107) hx hb (dk_at dkX12_named_3 6 rfl) (by decide) (fun c19 => ?_) (fun c19 => ?_)
        · have c19 : ¬ z18 = 0 := mt (i_eq0 (by omega)).mpr c19
          refine lv_iinc (v := iI (z5 + 1)) (lv' := [(5, .int (iI (z5 + 1))), (4, .int (iI z4)), (0, .ref (q 0)), (1, .int (iI x1)), (2, .long (jI x2))]) hx hb (dk_at dkX12_named_3 9 rfl) hl (k := 0) rfl (i_inc (by omega)) (by decide) rfl (fun ls hl => ?_)
          refine lv_goto (tgt := 81) hx hb (dk_at dkX12_named_3 10 rfl) (by decide) ?_
          exact ih8 _ (by omega) (z5 + 1) _ _ _ (by omega) (by omega) (by omega) (by exact Hd.mk (lk_step (c := 4 * (A 0 47) + z5) (by omega) (by omega) f13.out rfl (by omega))) (fun zq ⟨mm1, hq⟩ => hk1 _ ⟨mm1 + 1, (u_d_X12_named_2_1 ⟨f11, (Or.inr ⟨c14, ⟨z15, ghw17, ⟨z18, gz18.out, (Or.inl ⟨c19, hq⟩)⟩⟩⟩)⟩)⟩) rfl hP hS (lv_sub hl [0, 1, 2, 3, 4] rfl)
        · have c19 : z18 = 0 := (i_eq0 (by omega)).mp c19
          refine lv_iload hx hb (dk_at dkX12_named_3 7 rfl) (lv_at hl 0 rfl) ?_
          exact RET z5 _ _ _ _ _ ⟨rfl, hk1 _ ⟨0 + 1, (u_d_X12_named_2_1 ⟨f11, (Or.inr ⟨c14, ⟨z15, ghw17, ⟨z18, gz18.out, (Or.inr ⟨c19, rfl⟩)⟩⟩⟩)⟩)⟩, ⟨by omega, by omega, (lk_found (c := 4 * (A 0 47) + z5) (by omega) (by omega) f13.out rfl (by omega) (by omega)).symm⟩⟩ hP hS (dk_at dkX12_named_3 8 rfl)
  exact L81_7 _ 0 _ _ _ (by omega) (by omega) (by omega) (by exact Hd.mk rfl) (fun zq ⟨mm1, hq⟩ => (u_r_X12_named_2 ⟨z4, gz4.out, ⟨mm1, hq⟩⟩)) rfl hP hS (lv_sub hl [0, 1, 2, 3, 4] rfl)

abbrev tr_d_X12_named_3_1 (x1 : Int) (x2 : Int) (z5 : Int) (A : St) (z : Int) (K1 : Int → Prop) (z6 : Int) : Prop := ((0 ≤ z6 ∧ z6 ≤ 3) ∧ (((z5 ≤ z6) ∧ (z = (-1))) ∨ ((¬ z5 ≤ z6) ∧ (∃ z16 : Int, q_X12_nameOf_3 (A 0 47) x1 z6 A z16 ∧ (∃ z19 : Int, ((-1 ≤ z19 ∧ z19 ≤ 1) ∧ (z19 = 0 ↔ z16 = x2) ∧ (z19 < 0 ↔ z16 < x2)) ∧ (((¬ z19 = 0) ∧ (K1 (z6 + 1))) ∨ ((z19 = 0) ∧ (z = z6))))))))
def d_X12_named_3_1 (x1 : Int) (x2 : Int) (z5 : Int) (A : St) (z : Int) : Nat → Int → Prop
  | 0, _ => False
  | nn9 + 1, z6 => tr_d_X12_named_3_1 x1 x2 z5 A z (fun z6 => d_X12_named_3_1 x1 x2 z5 A z nn9 z6) z6
theorem u_d_X12_named_3_1 {x1 : Int} {x2 : Int} {z5 : Int} {A : St} {z : Int} {nn9 : Nat} {z6 : Int} (h : tr_d_X12_named_3_1 x1 x2 z5 A z (fun z6 => d_X12_named_3_1 x1 x2 z5 A z nn9 z6) z6) : d_X12_named_3_1 x1 x2 z5 A z (nn9 + 1) z6 := h
abbrev tr_r_X12_named_3 (x1 : Int) (x2 : Int) (A : St) (z : Int) : Prop := (∃ z5 : Int, z5 = A 16 ((A 0 47)).toNat ∧ (∃ nn9 : Nat, d_X12_named_3_1 x1 x2 z5 A z nn9 0))
def r_X12_named_3 (x1 : Int) (x2 : Int) (A : St) (z : Int) : Prop := tr_r_X12_named_3 x1 x2 A z
theorem u_r_X12_named_3 {x1 : Int} {x2 : Int} {A : St} {z : Int} (h : tr_r_X12_named_3 x1 x2 A z) : r_X12_named_3 x1 x2 A z := h
def q_X12_named_3 (x1 : Int) (x2 : Int) (A : St) (z : Int) : Prop := r_X12_named_3 x1 x2 A z ∧ (-1 ≤ z ∧ z ≤ 2 ∧ z = lk (A 17) (3 * A 0 47).toNat x2 (A 16 (A 0 47).toNat).toNat)
def ws_mb_X12_named_3 : List Cond := .code yX12_named cX12_named 6 (some .int) :: WX
set_option maxHeartbeats 4000000 in
set_option maxRecDepth 100000 in
theorem mb_X12_named_3 (l : Launch) (dC : Nat → ClassId) (dI : Nat → Nat → Nat) (cB cI cJ cZ cQ : ClassId) (q : Nat → Nat) (A : St) (x1 x2 : Int) (hI : IM A) (hx1 : (3 : Int) ≤ x1 ∧ x1 ≤ 3) (hx2 : (-9223372036854775808 : Int) ≤ x2 ∧ x2 ≤ 9223372036854775807) : XMi l yX12_named ws_mb_X12_named_3 ({ frames := 1, cells := 0, slots := 0, locals := 23 } : Room) (dC, dI) (tyA cB cI cJ cZ cQ) (WM cI cJ cZ q) A [.ref (q 0), .int (iI x1), .long (jI x2)] (fun z u => A = u ∧ r_X12_named_3 x1 x2 A z ∧ (-1 ≤ z ∧ z ≤ 2 ∧ z = lk (A 17) (3 * A 0 47).toNat x2 (A 16 (A 0 47).toNat).toNat)) := by
  refine x_meti (cc := cX12_named) (maxL := 6) WM_adr (by decide +kernel) rfl (Nat.le_of_ble_eq_true rfl) (fun p e s m below meth c Q AS ls hx hb hml hown hts hK hDD hA0 hP hS hl RET => ?_)
  have hown : s.vm.findClass RX12 = some m.cls := hown
  have hl : lv_has ls 6 [(0, .ref (q 0)), (1, .int (iI x1)), (2, .long (jI x2))] := hl
  have hiX12 : ∀ w ∈ u_ws RX12 TX12 85, w ∈ ws_mb_X12_named_3 := fun w h => List.mem_cons_of_mem _ (wx_lay w h)
  obtain ⟨H, hHe⟩ : ∃ H : Heap, H = s.heap := ⟨_, rfl⟩
  rw [← hHe] at hP
  have hS : va_S AS s.heap H [] := by rw [hHe]; exact hS
  suffices hgo : ∀ locs : List Loc, va_S AS s.heap H locs → W p l e (headSpec ws_mb_X12_named_3 ({ frames := 1, cells := 0, slots := 0, locals := 23 } : Room)).room s m [.ref (q 0), .int (iI x1), .long (jI x2)].toArray below meth c H locs 0 0 Q (F0 m 0 ls []) by
    have := hgo [] hS
    rw [hHe] at this
    exact this
  clear hS hHe
  intro locs hS
  refine lv_iload_n hx hb (dk_at dkX12_named_0 0 rfl) rfl (lv_at hl 1 rfl) ?_
  refine lv_if_ne (tgt := 16) hx hb (dk_at dkX12_named_0 1 rfl) (by decide) (fun _ => ?_) (fun c1 => False.elim (by have c1 : x1 = 0 := (i_eq0 (rb hx1 (by decide) (by decide))).mp c1; omega))
  refine lv_iload_n hx hb (dk_at dkX12_named_0 8 rfl) rfl (lv_at hl 1 rfl) ?_
  refine lv_iconst (v := iI 1) hx hb (dk_at dkX12_named_0 9 rfl) (by decide +kernel) ?_
  refine lv_icmp_ne (tgt := 33) hx hb (dk_at dkX12_named_0 10 rfl) (by decide) (fun _ => ?_) (fun c2 => False.elim (by have c2 : x1 = 1 := (i_eq (rb hx1 (by decide) (by decide)) ⟨by decide, by decide⟩).mp c2; omega))
  refine lv_iload_n hx hb (dk_at dkX12_named_1 1 rfl) rfl (lv_at hl 1 rfl) ?_
  refine lv_iconst (v := iI 2) hx hb (dk_at dkX12_named_1 2 rfl) (by decide +kernel) ?_
  refine lv_icmp_ne (tgt := 50) hx hb (dk_at dkX12_named_1 3 rfl) (by decide) (fun _ => ?_) (fun c3 => False.elim (by have c3 : x1 = 2 := (i_eq (rb hx1 (by decide) (by decide)) ⟨by decide, by decide⟩).mp c3; omega))
  refine lv_iload_n hx hb (dk_at dkX12_named_1 10 rfl) rfl (lv_at hl 1 rfl) ?_
  refine lv_iconst (v := iI 3) hx hb (dk_at dkX12_named_1 11 rfl) (by decide +kernel) ?_
  refine lv_icmp_ne (tgt := 67) hx hb (dk_at dkX12_named_1 12 rfl) (by decide) (fun c4 => False.elim (by have c4 : ¬ x1 = 3 := mt (i_eq (rb hx1 (by decide) (by decide)) ⟨by decide, by decide⟩).mpr c4; omega)) (fun _ => ?_)
  refine lv_aload_n hx hb (dk_at dkX12_named_1 13 rfl) rfl (lv_at hl 0 rfl) ?_
  refine va_get (D := (dC, dI)) (ci := 12) (v := .ref (q 16)) (C := RX12) (T := TX12) (N := 85) hx hb hts hiX12 hown hK hP 0 wm0 rfl 27 (by decide) (hts _ (List.mem_cons_of_mem _ wlq_1_15)) (fun _ h9 => h9) rfl (dk_at dkX12_named_1 14 rfl) ?_
  refine lv_aload_n hx hb (dk_at dkX12_named_1 15 rfl) rfl (lv_at hl 0 rfl) ?_
  refine va_get (D := (dC, dI)) (ci := 12) (v := .int (iI (A 0 47))) (C := RX12) (T := TX12) (N := 85) hx hb hts hiX12 hown hK hP 0 wm0 rfl 47 (by decide) (hts _ (List.mem_cons_of_mem _ wlq_1_12)) (fun _ h9 => h9) rfl (dk_at dkX12_named_2 0 rfl) ?_
  have r_A_0_47 : (0 : Int) ≤ (A 0 47) ∧ (A 0 47) ≤ 1 := hI 0 47
  refine x_iald hx hb hK hP 16 1 wm16 rfl (by omega) (by decide) (dk_at dkX12_named_2 1 rfl) (fun z5 hz5 => ?_)
  have rz5 : (0 : Int) ≤ z5 ∧ z5 ≤ 3 := by rw [hz5]; exact hI 16 _
  have gz5 := Hd.mk hz5
  have hz5 : z5 = A 16 ((A 0 47)).toNat := hz5
  refine lv_goto (tgt := 76) hx hb (dk_at dkX12_named_2 2 rfl) (by decide) ?_
  refine lv_istore (lv' := [(4, .int (iI z5)), (0, .ref (q 0)), (1, .int (iI x1)), (2, .long (jI x2))]) hx hb (dk_at dkX12_named_2 8 rfl) hl (by decide) rfl (fun ls hl => ?_)
  refine lv_iconst (v := iI 0) hx hb (dk_at dkX12_named_2 9 rfl) (by decide +kernel) ?_
  refine lv_istore (lv' := [(5, .int (iI 0)), (4, .int (iI z5)), (0, .ref (q 0)), (1, .int (iI x1)), (2, .long (jI x2))]) hx hb (dk_at dkX12_named_2 10 rfl) hl (by decide) rfl (fun ls hl => ?_)
  have L81_8 : ∀ (n10 : Nat) (z6 : Int) (H : Heap) (locs : List Loc) (ls : Array Slot), (0 ≤ z6) → (0 ≤ z6 ∧ z6 ≤ 3) → (z6 ≤ z5) → (Hd (lk (A 17) (3 * A 0 47).toNat x2 z6.toNat = -1)) → (∀ (z : Int), (∃ mm1 : Nat, (d_X12_named_3_1 x1 x2 z5 A z mm1 z6)) → r_X12_named_3 x1 x2 A z) → ((z5 - z6 + 1).toNat = n10) → va_P (dC, dI) vwCl (WM cI cJ cZ q A) H → va_S AS s.heap H locs → lv_has ls 6 [(5, .int (iI z6)), (4, .int (iI z5)), (0, .ref (q 0)), (1, .int (iI x1)), (2, .long (jI x2))] → W p l e (headSpec ws_mb_X12_named_3 ({ frames := 1, cells := 0, slots := 0, locals := 23 } : Room)).room s m [.ref (q 0), .int (iI x1), .long (jI x2)].toArray below meth c H locs 0 0 Q (F0 m 81 ls []) := by
    intro n10
    induction n10 using Nat.strongRecOn with
    | ind n10 ih9 =>
      intro z6 H locs ls f11 f12 f13 f14 hk1 hn10 hP hS hl
      refine lv_iload hx hb (dk_at dkX12_named_2 11 rfl) (lv_at hl 0 rfl) ?_
      refine lv_iload hx hb (dk_at dkX12_named_2 12 rfl) (lv_at hl 1 rfl) ?_
      refine lv_icmp_ge (tgt := 113) hx hb (dk_at dkX12_named_2 13 rfl) (by decide) (fun c15 => ?_) (fun c15 => ?_)
      · have c15 : z5 ≤ z6 := (i_le (rb rz5 (by decide) (by decide)) (rb f12 (by decide) (by decide))).mp c15
        refine lv_iconst (v := iI (-1)) hx hb (dk_at dkX12_named_3 11 rfl) (by decide +kernel) ?_
        exact RET (-1) _ _ _ _ _ ⟨rfl, hk1 _ ⟨0 + 1, (u_d_X12_named_3_1 ⟨f12, (Or.inl ⟨c15, rfl⟩)⟩)⟩, ⟨by decide, by decide, (by rw [show A 16 (A 0 47).toNat = z6 by omega]; exact f14.out.symm)⟩⟩ hP hS (dk_at dkX12_named_3 12 rfl)
      · have c15 : ¬ z5 ≤ z6 := mt (i_le (rb rz5 (by decide) (by decide)) (rb f12 (by decide) (by decide))).mpr c15
        refine lv_aload_n hx hb (dk_at dkX12_named_2 14 rfl) rfl (lv_at hl 2 rfl) ?_
        refine lv_aload_n hx hb (dk_at dkX12_named_2 15 rfl) rfl (lv_at hl 2 rfl) ?_
        refine va_get (D := (dC, dI)) (ci := 12) (v := .int (iI (A 0 47))) (C := RX12) (T := TX12) (N := 85) hx hb hts hiX12 hown hK hP 0 wm0 rfl 47 (by decide) (hts _ (List.mem_cons_of_mem _ wlq_1_12)) (fun _ h9 => h9) rfl (dk_at dkX12_named_3 0 rfl) ?_
        refine lv_iload_n hx hb (dk_at dkX12_named_3 1 rfl) rfl (lv_at hl 3 rfl) ?_
        refine lv_iload hx hb (dk_at dkX12_named_3 2 rfl) (lv_at hl 0 rfl) ?_
        refine x_calll (As := [.int (iI (A 0 47)), .int (iI x1), .int (iI z6)]) (rest := []) ⟨hx, hb, hml, hown, hts⟩ (mb_X12_nameOf_3 l dC dI cB cI cJ cZ cQ q _ (A 0 47) x1 z6 hI r_A_0_47 hx1 (by omega)) (cwV 3 hts (goodV wlq_1_17 wlq_1_18 wlq_1_19 wlq_0_8 wlq_1_20) rfl rfl rfl (by decide +kernel) ⟨Nat.le_of_ble_eq_true rfl, Nat.le_of_ble_eq_true rfl⟩) hK hDD hA0 hP hS 0 12 wm0 rfl rfl hl.1 (Nat.le_of_ble_eq_true rfl) (dk_at dkX12_named_3 3 rfl) (fun z16 A17 H locs hw18 hP hS => ?_)
        obtain ⟨rfl, hw18⟩ := hw18
        have ghw18 : q_X12_nameOf_3 (A 0 47) x1 z6 A z16 := hw18
        have hw18 := hw18.2
        refine lv_lload_n hx hb (dk_at dkX12_named_3 4 rfl) rfl (lv_at hl 4 rfl) ?_
        refine x_lcmp hx hb (dk_at dkX12_named_3 5 rfl) (by omega) (by omega) (fun z19 hz19 hz19b hz19c => ?_)
        have gz19 := Hd.mk (And.intro hz19 (And.intro hz19b hz19c))
        refine lv_if_ne (tgt := 107) hx hb (dk_at dkX12_named_3 6 rfl) (by decide) (fun c20 => ?_) (fun c20 => ?_)
        · have c20 : ¬ z19 = 0 := mt (i_eq0 (by omega)).mpr c20
          refine lv_iinc (v := iI (z6 + 1)) (lv' := [(5, .int (iI (z6 + 1))), (4, .int (iI z5)), (0, .ref (q 0)), (1, .int (iI x1)), (2, .long (jI x2))]) hx hb (dk_at dkX12_named_3 9 rfl) hl (k := 0) rfl (i_inc (by omega)) (by decide) rfl (fun ls hl => ?_)
          refine lv_goto (tgt := 81) hx hb (dk_at dkX12_named_3 10 rfl) (by decide) ?_
          exact ih9 _ (by omega) (z6 + 1) _ _ _ (by omega) (by omega) (by omega) (by exact Hd.mk (lk_step (c := 3 * (A 0 47) + z6) (by omega) (by omega) f14.out rfl (by omega))) (fun zq ⟨mm1, hq⟩ => hk1 _ ⟨mm1 + 1, (u_d_X12_named_3_1 ⟨f12, (Or.inr ⟨c15, ⟨z16, ghw18, ⟨z19, gz19.out, (Or.inl ⟨c20, hq⟩)⟩⟩⟩)⟩)⟩) rfl hP hS (lv_sub hl [0, 1, 2, 3, 4] rfl)
        · have c20 : z19 = 0 := (i_eq0 (by omega)).mp c20
          refine lv_iload hx hb (dk_at dkX12_named_3 7 rfl) (lv_at hl 0 rfl) ?_
          exact RET z6 _ _ _ _ _ ⟨rfl, hk1 _ ⟨0 + 1, (u_d_X12_named_3_1 ⟨f12, (Or.inr ⟨c15, ⟨z16, ghw18, ⟨z19, gz19.out, (Or.inr ⟨c20, rfl⟩)⟩⟩⟩)⟩)⟩, ⟨by omega, by omega, (lk_found (c := 3 * (A 0 47) + z6) (by omega) (by omega) f14.out rfl (by omega) (by omega)).symm⟩⟩ hP hS (dk_at dkX12_named_3 8 rfl)
  exact L81_8 _ 0 _ _ _ (by omega) (by omega) (by omega) (by exact Hd.mk rfl) (fun zq ⟨mm1, hq⟩ => (u_r_X12_named_3 ⟨z5, gz5.out, ⟨mm1, hq⟩⟩)) rfl hP hS (lv_sub hl [0, 1, 2, 3, 4] rfl)

abbrev tr_d_X12_named_4_1 (x1 : Int) (x2 : Int) (z5 : Int) (A : St) (z : Int) (K1 : Int → Prop) (z6 : Int) : Prop := ((0 ≤ z6 ∧ z6 ≤ 4) ∧ (((z5 ≤ z6) ∧ (z = (-1))) ∨ ((¬ z5 ≤ z6) ∧ (∃ z16 : Int, q_X12_nameOf_4 (A 0 47) x1 z6 A z16 ∧ (∃ z19 : Int, ((-1 ≤ z19 ∧ z19 ≤ 1) ∧ (z19 = 0 ↔ z16 = x2) ∧ (z19 < 0 ↔ z16 < x2)) ∧ (((¬ z19 = 0) ∧ (K1 (z6 + 1))) ∨ ((z19 = 0) ∧ (z = z6))))))))
def d_X12_named_4_1 (x1 : Int) (x2 : Int) (z5 : Int) (A : St) (z : Int) : Nat → Int → Prop
  | 0, _ => False
  | nn9 + 1, z6 => tr_d_X12_named_4_1 x1 x2 z5 A z (fun z6 => d_X12_named_4_1 x1 x2 z5 A z nn9 z6) z6
theorem u_d_X12_named_4_1 {x1 : Int} {x2 : Int} {z5 : Int} {A : St} {z : Int} {nn9 : Nat} {z6 : Int} (h : tr_d_X12_named_4_1 x1 x2 z5 A z (fun z6 => d_X12_named_4_1 x1 x2 z5 A z nn9 z6) z6) : d_X12_named_4_1 x1 x2 z5 A z (nn9 + 1) z6 := h
abbrev tr_r_X12_named_4 (x1 : Int) (x2 : Int) (A : St) (z : Int) : Prop := (∃ z5 : Int, z5 = A 19 ((A 0 47)).toNat ∧ (∃ nn9 : Nat, d_X12_named_4_1 x1 x2 z5 A z nn9 0))
def r_X12_named_4 (x1 : Int) (x2 : Int) (A : St) (z : Int) : Prop := tr_r_X12_named_4 x1 x2 A z
theorem u_r_X12_named_4 {x1 : Int} {x2 : Int} {A : St} {z : Int} (h : tr_r_X12_named_4 x1 x2 A z) : r_X12_named_4 x1 x2 A z := h
def q_X12_named_4 (x1 : Int) (x2 : Int) (A : St) (z : Int) : Prop := r_X12_named_4 x1 x2 A z ∧ (-1 ≤ z ∧ z ≤ 3 ∧ z = lk (A 20) (4 * A 0 47).toNat x2 (A 19 (A 0 47).toNat).toNat)
def ws_mb_X12_named_4 : List Cond := .code yX12_named cX12_named 6 (some .int) :: WX
set_option maxHeartbeats 4000000 in
set_option maxRecDepth 100000 in
theorem mb_X12_named_4 (l : Launch) (dC : Nat → ClassId) (dI : Nat → Nat → Nat) (cB cI cJ cZ cQ : ClassId) (q : Nat → Nat) (A : St) (x1 x2 : Int) (hI : IM A) (hx1 : (4 : Int) ≤ x1 ∧ x1 ≤ 4) (hx2 : (-9223372036854775808 : Int) ≤ x2 ∧ x2 ≤ 9223372036854775807) : XMi l yX12_named ws_mb_X12_named_4 ({ frames := 1, cells := 0, slots := 0, locals := 23 } : Room) (dC, dI) (tyA cB cI cJ cZ cQ) (WM cI cJ cZ q) A [.ref (q 0), .int (iI x1), .long (jI x2)] (fun z u => A = u ∧ r_X12_named_4 x1 x2 A z ∧ (-1 ≤ z ∧ z ≤ 3 ∧ z = lk (A 20) (4 * A 0 47).toNat x2 (A 19 (A 0 47).toNat).toNat)) := by
  refine x_meti (cc := cX12_named) (maxL := 6) WM_adr (by decide +kernel) rfl (Nat.le_of_ble_eq_true rfl) (fun p e s m below meth c Q AS ls hx hb hml hown hts hK hDD hA0 hP hS hl RET => ?_)
  have hown : s.vm.findClass RX12 = some m.cls := hown
  have hl : lv_has ls 6 [(0, .ref (q 0)), (1, .int (iI x1)), (2, .long (jI x2))] := hl
  have hiX12 : ∀ w ∈ u_ws RX12 TX12 85, w ∈ ws_mb_X12_named_4 := fun w h => List.mem_cons_of_mem _ (wx_lay w h)
  obtain ⟨H, hHe⟩ : ∃ H : Heap, H = s.heap := ⟨_, rfl⟩
  rw [← hHe] at hP
  have hS : va_S AS s.heap H [] := by rw [hHe]; exact hS
  suffices hgo : ∀ locs : List Loc, va_S AS s.heap H locs → W p l e (headSpec ws_mb_X12_named_4 ({ frames := 1, cells := 0, slots := 0, locals := 23 } : Room)).room s m [.ref (q 0), .int (iI x1), .long (jI x2)].toArray below meth c H locs 0 0 Q (F0 m 0 ls []) by
    have := hgo [] hS
    rw [hHe] at this
    exact this
  clear hS hHe
  intro locs hS
  refine lv_iload_n hx hb (dk_at dkX12_named_0 0 rfl) rfl (lv_at hl 1 rfl) ?_
  refine lv_if_ne (tgt := 16) hx hb (dk_at dkX12_named_0 1 rfl) (by decide) (fun _ => ?_) (fun c1 => False.elim (by have c1 : x1 = 0 := (i_eq0 (rb hx1 (by decide) (by decide))).mp c1; omega))
  refine lv_iload_n hx hb (dk_at dkX12_named_0 8 rfl) rfl (lv_at hl 1 rfl) ?_
  refine lv_iconst (v := iI 1) hx hb (dk_at dkX12_named_0 9 rfl) (by decide +kernel) ?_
  refine lv_icmp_ne (tgt := 33) hx hb (dk_at dkX12_named_0 10 rfl) (by decide) (fun _ => ?_) (fun c2 => False.elim (by have c2 : x1 = 1 := (i_eq (rb hx1 (by decide) (by decide)) ⟨by decide, by decide⟩).mp c2; omega))
  refine lv_iload_n hx hb (dk_at dkX12_named_1 1 rfl) rfl (lv_at hl 1 rfl) ?_
  refine lv_iconst (v := iI 2) hx hb (dk_at dkX12_named_1 2 rfl) (by decide +kernel) ?_
  refine lv_icmp_ne (tgt := 50) hx hb (dk_at dkX12_named_1 3 rfl) (by decide) (fun _ => ?_) (fun c3 => False.elim (by have c3 : x1 = 2 := (i_eq (rb hx1 (by decide) (by decide)) ⟨by decide, by decide⟩).mp c3; omega))
  refine lv_iload_n hx hb (dk_at dkX12_named_1 10 rfl) rfl (lv_at hl 1 rfl) ?_
  refine lv_iconst (v := iI 3) hx hb (dk_at dkX12_named_1 11 rfl) (by decide +kernel) ?_
  refine lv_icmp_ne (tgt := 67) hx hb (dk_at dkX12_named_1 12 rfl) (by decide) (fun _ => ?_) (fun c4 => False.elim (by have c4 : x1 = 3 := (i_eq (rb hx1 (by decide) (by decide)) ⟨by decide, by decide⟩).mp c4; omega))
  refine lv_aload_n hx hb (dk_at dkX12_named_2 3 rfl) rfl (lv_at hl 0 rfl) ?_
  refine va_get (D := (dC, dI)) (ci := 12) (v := .ref (q 19)) (C := RX12) (T := TX12) (N := 85) hx hb hts hiX12 hown hK hP 0 wm0 rfl 30 (by decide) (hts _ (List.mem_cons_of_mem _ wlq_1_16)) (fun _ h9 => h9) rfl (dk_at dkX12_named_2 4 rfl) ?_
  refine lv_aload_n hx hb (dk_at dkX12_named_2 5 rfl) rfl (lv_at hl 0 rfl) ?_
  refine va_get (D := (dC, dI)) (ci := 12) (v := .int (iI (A 0 47))) (C := RX12) (T := TX12) (N := 85) hx hb hts hiX12 hown hK hP 0 wm0 rfl 47 (by decide) (hts _ (List.mem_cons_of_mem _ wlq_1_12)) (fun _ h9 => h9) rfl (dk_at dkX12_named_2 6 rfl) ?_
  have r_A_0_47 : (0 : Int) ≤ (A 0 47) ∧ (A 0 47) ≤ 1 := hI 0 47
  refine x_iald hx hb hK hP 19 1 wm19 rfl (by omega) (by decide) (dk_at dkX12_named_2 7 rfl) (fun z5 hz5 => ?_)
  have rz5 : (0 : Int) ≤ z5 ∧ z5 ≤ 4 := by rw [hz5]; exact hI 19 _
  have gz5 := Hd.mk hz5
  have hz5 : z5 = A 19 ((A 0 47)).toNat := hz5
  refine lv_istore (lv' := [(4, .int (iI z5)), (0, .ref (q 0)), (1, .int (iI x1)), (2, .long (jI x2))]) hx hb (dk_at dkX12_named_2 8 rfl) hl (by decide) rfl (fun ls hl => ?_)
  refine lv_iconst (v := iI 0) hx hb (dk_at dkX12_named_2 9 rfl) (by decide +kernel) ?_
  refine lv_istore (lv' := [(5, .int (iI 0)), (4, .int (iI z5)), (0, .ref (q 0)), (1, .int (iI x1)), (2, .long (jI x2))]) hx hb (dk_at dkX12_named_2 10 rfl) hl (by decide) rfl (fun ls hl => ?_)
  have L81_8 : ∀ (n10 : Nat) (z6 : Int) (H : Heap) (locs : List Loc) (ls : Array Slot), (0 ≤ z6) → (0 ≤ z6 ∧ z6 ≤ 4) → (z6 ≤ z5) → (Hd (lk (A 20) (4 * A 0 47).toNat x2 z6.toNat = -1)) → (∀ (z : Int), (∃ mm1 : Nat, (d_X12_named_4_1 x1 x2 z5 A z mm1 z6)) → r_X12_named_4 x1 x2 A z) → ((z5 - z6 + 1).toNat = n10) → va_P (dC, dI) vwCl (WM cI cJ cZ q A) H → va_S AS s.heap H locs → lv_has ls 6 [(5, .int (iI z6)), (4, .int (iI z5)), (0, .ref (q 0)), (1, .int (iI x1)), (2, .long (jI x2))] → W p l e (headSpec ws_mb_X12_named_4 ({ frames := 1, cells := 0, slots := 0, locals := 23 } : Room)).room s m [.ref (q 0), .int (iI x1), .long (jI x2)].toArray below meth c H locs 0 0 Q (F0 m 81 ls []) := by
    intro n10
    induction n10 using Nat.strongRecOn with
    | ind n10 ih9 =>
      intro z6 H locs ls f11 f12 f13 f14 hk1 hn10 hP hS hl
      refine lv_iload hx hb (dk_at dkX12_named_2 11 rfl) (lv_at hl 0 rfl) ?_
      refine lv_iload hx hb (dk_at dkX12_named_2 12 rfl) (lv_at hl 1 rfl) ?_
      refine lv_icmp_ge (tgt := 113) hx hb (dk_at dkX12_named_2 13 rfl) (by decide) (fun c15 => ?_) (fun c15 => ?_)
      · have c15 : z5 ≤ z6 := (i_le (rb rz5 (by decide) (by decide)) (rb f12 (by decide) (by decide))).mp c15
        refine lv_iconst (v := iI (-1)) hx hb (dk_at dkX12_named_3 11 rfl) (by decide +kernel) ?_
        exact RET (-1) _ _ _ _ _ ⟨rfl, hk1 _ ⟨0 + 1, (u_d_X12_named_4_1 ⟨f12, (Or.inl ⟨c15, rfl⟩)⟩)⟩, ⟨by decide, by decide, (by rw [show A 19 (A 0 47).toNat = z6 by omega]; exact f14.out.symm)⟩⟩ hP hS (dk_at dkX12_named_3 12 rfl)
      · have c15 : ¬ z5 ≤ z6 := mt (i_le (rb rz5 (by decide) (by decide)) (rb f12 (by decide) (by decide))).mpr c15
        refine lv_aload_n hx hb (dk_at dkX12_named_2 14 rfl) rfl (lv_at hl 2 rfl) ?_
        refine lv_aload_n hx hb (dk_at dkX12_named_2 15 rfl) rfl (lv_at hl 2 rfl) ?_
        refine va_get (D := (dC, dI)) (ci := 12) (v := .int (iI (A 0 47))) (C := RX12) (T := TX12) (N := 85) hx hb hts hiX12 hown hK hP 0 wm0 rfl 47 (by decide) (hts _ (List.mem_cons_of_mem _ wlq_1_12)) (fun _ h9 => h9) rfl (dk_at dkX12_named_3 0 rfl) ?_
        refine lv_iload_n hx hb (dk_at dkX12_named_3 1 rfl) rfl (lv_at hl 3 rfl) ?_
        refine lv_iload hx hb (dk_at dkX12_named_3 2 rfl) (lv_at hl 0 rfl) ?_
        refine x_calll (As := [.int (iI (A 0 47)), .int (iI x1), .int (iI z6)]) (rest := []) ⟨hx, hb, hml, hown, hts⟩ (mb_X12_nameOf_4 l dC dI cB cI cJ cZ cQ q _ (A 0 47) x1 z6 hI r_A_0_47 hx1 (by omega)) (cwV 3 hts (goodV wlq_1_17 wlq_1_18 wlq_1_19 wlq_0_8 wlq_1_20) rfl rfl rfl (by decide +kernel) ⟨Nat.le_of_ble_eq_true rfl, Nat.le_of_ble_eq_true rfl⟩) hK hDD hA0 hP hS 0 12 wm0 rfl rfl hl.1 (Nat.le_of_ble_eq_true rfl) (dk_at dkX12_named_3 3 rfl) (fun z16 A17 H locs hw18 hP hS => ?_)
        obtain ⟨rfl, hw18⟩ := hw18
        have ghw18 : q_X12_nameOf_4 (A 0 47) x1 z6 A z16 := hw18
        have hw18 := hw18.2
        refine lv_lload_n hx hb (dk_at dkX12_named_3 4 rfl) rfl (lv_at hl 4 rfl) ?_
        refine x_lcmp hx hb (dk_at dkX12_named_3 5 rfl) (by omega) (by omega) (fun z19 hz19 hz19b hz19c => ?_)
        have gz19 := Hd.mk (And.intro hz19 (And.intro hz19b hz19c))
        refine lv_if_ne (tgt := 107) hx hb (dk_at dkX12_named_3 6 rfl) (by decide) (fun c20 => ?_) (fun c20 => ?_)
        · have c20 : ¬ z19 = 0 := mt (i_eq0 (by omega)).mpr c20
          refine lv_iinc (v := iI (z6 + 1)) (lv' := [(5, .int (iI (z6 + 1))), (4, .int (iI z5)), (0, .ref (q 0)), (1, .int (iI x1)), (2, .long (jI x2))]) hx hb (dk_at dkX12_named_3 9 rfl) hl (k := 0) rfl (i_inc (by omega)) (by decide) rfl (fun ls hl => ?_)
          refine lv_goto (tgt := 81) hx hb (dk_at dkX12_named_3 10 rfl) (by decide) ?_
          exact ih9 _ (by omega) (z6 + 1) _ _ _ (by omega) (by omega) (by omega) (by exact Hd.mk (lk_step (c := 4 * (A 0 47) + z6) (by omega) (by omega) f14.out rfl (by omega))) (fun zq ⟨mm1, hq⟩ => hk1 _ ⟨mm1 + 1, (u_d_X12_named_4_1 ⟨f12, (Or.inr ⟨c15, ⟨z16, ghw18, ⟨z19, gz19.out, (Or.inl ⟨c20, hq⟩)⟩⟩⟩)⟩)⟩) rfl hP hS (lv_sub hl [0, 1, 2, 3, 4] rfl)
        · have c20 : z19 = 0 := (i_eq0 (by omega)).mp c20
          refine lv_iload hx hb (dk_at dkX12_named_3 7 rfl) (lv_at hl 0 rfl) ?_
          exact RET z6 _ _ _ _ _ ⟨rfl, hk1 _ ⟨0 + 1, (u_d_X12_named_4_1 ⟨f12, (Or.inr ⟨c15, ⟨z16, ghw18, ⟨z19, gz19.out, (Or.inr ⟨c20, rfl⟩)⟩⟩⟩)⟩)⟩, ⟨by omega, by omega, (lk_found (c := 4 * (A 0 47) + z6) (by omega) (by omega) f14.out rfl (by omega) (by omega)).symm⟩⟩ hP hS (dk_at dkX12_named_3 8 rfl)
  exact L81_8 _ 0 _ _ _ (by omega) (by omega) (by omega) (by exact Hd.mk rfl) (fun zq ⟨mm1, hq⟩ => (u_r_X12_named_4 ⟨z5, gz5.out, ⟨mm1, hq⟩⟩)) rfl hP hS (lv_sub hl [0, 1, 2, 3, 4] rfl)
