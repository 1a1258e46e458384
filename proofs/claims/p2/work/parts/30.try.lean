def ws_mc_X12_is : List Cond := .code yX12_is cX12_is 3 (some .boolean) :: ([])
set_option maxHeartbeats 4000000 in
set_option maxRecDepth 100000 in
theorem mc_X12_is (l : Launch) (dC : Nat → ClassId) (dI : Nat → Nat → Nat) (cB cI cJ cZ cQ : ClassId) (q : Nat → Nat) (A : St) (x1 x2 x3 : Int) (hI : IM A) (hx1 : (-2147483648 : Int) ≤ x1 ∧ x1 ≤ 2147483647) (hx2 : (-2147483648 : Int) ≤ x2 ∧ x2 ≤ 2147483647) (hx3 : (-2147483648 : Int) ≤ x3 ∧ x3 ≤ 2147483647) : XMi l yX12_is ws_mc_X12_is ({ frames := 0, cells := 0, slots := 0, locals := 0 } : Room) (dC, dI) (tyA cB cI cJ cZ cQ) (WM cI cJ cZ q) A [.int (iI x1), .int (iI x2), .int (iI x3)] (fun z u => A = u ∧ ((0 ≤ z ∧ z ≤ 1) ∧ (z = 1 ↔ x2 ≤ x1 ∧ x1 ≤ x3))) := by
  refine x_metz (cc := cX12_is) (maxL := 3) WM_adr (by decide +kernel) rfl (Nat.le_of_ble_eq_true rfl) (fun z u h => h.2.1) (fun p e s m below meth c Q AS ls hx hb hml hown hts hK hDD hA0 hP hS hl RET => ?_)
  have hown : s.vm.findClass RX12 = some m.cls := hown
  have hl : lv_has ls 3 [(0, .int (iI x1)), (1, .int (iI x2)), (2, .int (iI x3))] := hl
  obtain ⟨H, hHe⟩ : ∃ H : Heap, H = s.heap := ⟨_, rfl⟩
  rw [← hHe] at hP
  have hS : va_S AS s.heap H [] := by rw [hHe]; exact hS
  suffices hgo : ∀ locs : List Loc, va_S AS s.heap H locs → W p l e (headSpec ws_mc_X12_is ({ frames := 0, cells := 0, slots := 0, locals := 0 } : Room)).room s m [.int (iI x1), .int (iI x2), .int (iI x3)].toArray below meth c H locs 0 0 Q (F0 m 0 ls []) by
    have := hgo [] hS
    rw [hHe] at this
    exact this
  clear hS hHe
  intro locs hS
  refine lv_iload_n hx hb dX12_is_0 rfl (lv_at hl 0 rfl) ?_
  refine lv_iload_n hx hb dX12_is_1 rfl (lv_at hl 1 rfl) ?_
  refine lv_icmp_lt (tgt := 14) hx hb dX12_is_2 (by decide) (fun c1 => ?_) (fun c1 => ?_)
  · have c1 : x1 < x2 := (i_lt ⟨by omega, by omega⟩ ⟨by omega, by omega⟩).mp c1
    refine lv_iconst (v := iI 0) hx hb dX12_is_14 (by decide +kernel) ?_
    exact RET 0 _ _ _ _ _ ⟨rfl, by omega⟩ hP hS dX12_is_15
  · have c1 : ¬ x1 < x2 := mt (i_lt ⟨by omega, by omega⟩ ⟨by omega, by omega⟩).mpr c1
    refine lv_iload_n hx hb dX12_is_5 rfl (lv_at hl 0 rfl) ?_
    refine lv_iload_n hx hb dX12_is_6 rfl (lv_at hl 2 rfl) ?_
    refine lv_icmp_gt (tgt := 14) hx hb dX12_is_7 (by decide) (fun c2 => ?_) (fun c2 => ?_)
    · have c2 : x3 < x1 := (i_lt ⟨by omega, by omega⟩ ⟨by omega, by omega⟩).mp c2
      refine lv_iconst (v := iI 0) hx hb dX12_is_14 (by decide +kernel) ?_
      exact RET 0 _ _ _ _ _ ⟨rfl, by omega⟩ hP hS dX12_is_15
    · have c2 : ¬ x3 < x1 := mt (i_lt ⟨by omega, by omega⟩ ⟨by omega, by omega⟩).mpr c2
      refine lv_iconst (v := iI 1) hx hb dX12_is_10 (by decide +kernel) ?_
      refine lv_goto (tgt := 15) hx hb dX12_is_11 (by decide) ?_
      exact RET 1 _ _ _ _ _ ⟨rfl, by omega⟩ hP hS dX12_is_15

def ws_mc_X12_isPlace : List Cond := .code yX12_isPlace cX12_isPlace 2 (some .boolean) :: ([.fieldLink RX12 51 "StackKeysModel" "places" "[I", .fieldLink RX12 48 "StackKeysModel" "bank" "I", .methodLink RX12 352 yX12_is, .static yX12_is, .initialized RX12, .code yX12_is cX12_is 3 (some .boolean)] ++ wsX120)
set_option maxRecDepth 20000 in
theorem g_mc_X12_isPlace_0 : GoodIn ws_mc_X12_isPlace (va_wsS RX12 352 yX12_is ws_mc_X12_is) := goodIn_r _ [3, 4, 5, 6] (by decide +kernel) (by decide +kernel)
set_option maxHeartbeats 4000000 in
set_option maxRecDepth 100000 in
theorem mc_X12_isPlace (l : Launch) (dC : Nat → ClassId) (dI : Nat → Nat → Nat) (cB cI cJ cZ cQ : ClassId) (q : Nat → Nat) (A : St) (x1 : Int) (hI : IM A) (hx1 : (-2147483648 : Int) ≤ x1 ∧ x1 ≤ 2147483647) : XMi l yX12_isPlace ws_mc_X12_isPlace ({ frames := 1, cells := 0, slots := 0, locals := 22 } : Room) (dC, dI) (tyA cB cI cJ cZ cQ) (WM cI cJ cZ q) A [.ref (q 0), .int (iI x1)] (fun z u => A = u ∧ ((0 ≤ z ∧ z ≤ 1) ∧ (z = 1 ↔ 0 ≤ x1 ∧ x1 < A 2 (A 0 12).toNat))) := by
  refine x_metz (cc := cX12_isPlace) (maxL := 2) WM_adr (by decide +kernel) rfl (Nat.le_of_ble_eq_true rfl) (fun z u h => h.2.1) (fun p e s m below meth c Q AS ls hx hb hml hown hts hK hDD hA0 hP hS hl RET => ?_)
  have hown : s.vm.findClass RX12 = some m.cls := hown
  have hl : lv_has ls 2 [(0, .ref (q 0)), (1, .int (iI x1))] := hl
  have hiX12 : ∀ w ∈ u_ws RX12 TX12 85, w ∈ ws_mc_X12_isPlace := fun w h => List.mem_cons_of_mem _ (List.mem_append_right _ h)
  obtain ⟨H, hHe⟩ : ∃ H : Heap, H = s.heap := ⟨_, rfl⟩
  rw [← hHe] at hP
  have hS : va_S AS s.heap H [] := by rw [hHe]; exact hS
  suffices hgo : ∀ locs : List Loc, va_S AS s.heap H locs → W p l e (headSpec ws_mc_X12_isPlace ({ frames := 1, cells := 0, slots := 0, locals := 22 } : Room)).room s m [.ref (q 0), .int (iI x1)].toArray below meth c H locs 0 0 Q (F0 m 0 ls []) by
    have := hgo [] hS
    rw [hHe] at this
    exact this
  clear hS hHe
  intro locs hS
  refine lv_iload_n hx hb dX12_isPlace_0 rfl (lv_at hl 1 rfl) ?_
  refine lv_iconst (v := iI 0) hx hb dX12_isPlace_1 (by decide +kernel) ?_
  refine lv_aload_n hx hb dX12_isPlace_2 rfl (lv_at hl 0 rfl) ?_
  refine va_get (D := (dC, dI)) (ci := 12) (v := .ref (q 2)) (C := RX12) (T := TX12) (N := 85) hx hb hts hiX12 hown hK hP 0 wm0 rfl 13 (by decide) (hts _ (List.mem_of_getElem? (i := 1) rfl)) (fun _ h9 => h9) rfl dX12_isPlace_3 ?_
  refine lv_aload_n hx hb dX12_isPlace_6 rfl (lv_at hl 0 rfl) ?_
  refine va_get (D := (dC, dI)) (ci := 12) (v := .int (iI (A 0 12))) (C := RX12) (T := TX12) (N := 85) hx hb hts hiX12 hown hK hP 0 wm0 rfl 12 (by decide) (hts _ (List.mem_of_getElem? (i := 2) rfl)) (fun _ h9 => h9) rfl dX12_isPlace_7 ?_
  have r_A_0_12 : (0 : Int) ≤ (A 0 12) ∧ (A 0 12) ≤ 1 := hI 0 12
  refine x_iald hx hb hK hP 2 1 wm2 rfl ⟨by omega, by omega⟩ (by decide) dX12_isPlace_10 (fun z1 hz1 => ?_)
  have rz1 : (0 : Int) ≤ z1 ∧ z1 ≤ 8 := by rw [hz1]; exact hI 2 _
  have hz1 : z1 = A 2 ((A 0 12)).toNat := hz1
  refine lv_iconst (v := iI 1) hx hb dX12_isPlace_11 (by decide +kernel) ?_
  refine x_subv (v := z1 - 1) hx hb dX12_isPlace_12 (by omega) ?_
  refine x_callSi (As := [.int (iI x1), .int (iI 0), .int (iI (z1 - 1))]) (rest := []) ⟨hx, hb, hml, hown, hts⟩ (mc_X12_is l dC dI cB cI cJ cZ cQ q _ x1 0 (z1 - 1) hI ⟨by omega, by omega⟩ ⟨by omega, by omega⟩ ⟨by omega, by omega⟩) (va_cwS 3 hts g_mc_X12_isPlace_0 rfl rfl rfl (by decide +kernel) ⟨Nat.le_of_ble_eq_true rfl, Nat.le_of_ble_eq_true rfl⟩) hK hDD hA0 hP hS rfl hl.1 (Nat.le_of_ble_eq_true rfl) dX12_isPlace_13 (fun z2 A3 H locs hw4 hP hS => ?_)
  obtain ⟨rfl, hw4⟩ := hw4
  exact RET z2 _ _ _ _ _ ⟨rfl, by omega⟩ hP hS dX12_isPlace_16

def ws_mc_X12_put : List Cond := .code yX12_put cX12_put 3 none :: ([.fieldLink RX12 7 "StackKeysModel" "tape" "[I", .fieldLink RX12 13 "StackKeysModel" "taped" "I"] ++ wsX120)
set_option maxHeartbeats 4000000 in
set_option maxRecDepth 100000 in
theorem mc_X12_put (l : Launch) (dC : Nat → ClassId) (dI : Nat → Nat → Nat) (cB cI cJ cZ cQ : ClassId) (q : Nat → Nat) (A : St) (x1 : Int) (hI : IM A) (hx1 : (-2147483648 : Int) ≤ x1 ∧ x1 ≤ 2147483647) (hp0 : A 0 1 + 4 ≤ 1600) : XMv l yX12_put ws_mc_X12_put ({ frames := 0, cells := 0, slots := 0, locals := 0 } : Room) (dC, dI) (tyA cB cI cJ cZ cQ) (WM cI cJ cZ q) A [.ref (q 0), .int (iI x1)] (fun u => IM u ∧ fr [1] [1] A u ∧ (u 0 1 = A 0 1 + 4)) := by
  refine x_metv (cc := cX12_put) (maxL := 3) WM_adr (by decide +kernel) rfl (Nat.le_of_ble_eq_true rfl) (fun p e s m below meth c Q AS ls hx hb hml hown hts hK hDD hA0 hP hS hl RET => ?_)
  have hown : s.vm.findClass RX12 = some m.cls := hown
  have hl : lv_has ls 3 [(0, .ref (q 0)), (1, .int (iI x1))] := hl
  have hiX12 : ∀ w ∈ u_ws RX12 TX12 85, w ∈ ws_mc_X12_put := fun w h => List.mem_cons_of_mem _ (List.mem_append_right _ h)
  obtain ⟨H, hHe⟩ : ∃ H : Heap, H = s.heap := ⟨_, rfl⟩
  rw [← hHe] at hP
  have hS : va_S AS s.heap H [] := by rw [hHe]; exact hS
  suffices hgo : ∀ locs : List Loc, va_S AS s.heap H locs → W p l e (headSpec ws_mc_X12_put ({ frames := 0, cells := 0, slots := 0, locals := 0 } : Room)).room s m [.ref (q 0), .int (iI x1)].toArray below meth c H locs 0 0 Q (F0 m 0 ls []) by
    have := hgo [] hS
    rw [hHe] at this
    exact this
  clear hS hHe
  intro locs hS
  refine lv_bipush (v := iI 24) hx hb dX12_put_0 (by decide +kernel) ?_
  refine lv_istore_n (lv' := [(2, .int (iI 24)), (0, .ref (q 0)), (1, .int (iI x1))]) hx hb dX12_put_2 rfl hl (by decide) rfl (fun ls hl => ?_)
  have L3_4 : ∀ (n6 : Nat) (z1 : Int) (A3 : St) (H : Heap) (locs : List Loc) (ls : Array Slot), (z1 ≤ 24) → (-2147483648 ≤ z1 ∧ z1 ≤ 24) → (8 * ((A3 0 1) - A 0 1) = 24 - z1) → (-8 ≤ z1) → ((z1 - 0 + 1).toNat = n6) → IM A3 → fr [1] [1] A A3 → va_P (dC, dI) vwCl (WM cI cJ cZ q A3) H → va_S AS s.heap H locs → lv_has ls 3 [(2, .int (iI z1)), (0, .ref (q 0)), (1, .int (iI x1))] → W p l e (headSpec ws_mc_X12_put ({ frames := 0, cells := 0, slots := 0, locals := 0 } : Room)).room s m [.ref (q 0), .int (iI x1)].toArray below meth c H locs 0 0 Q (F0 m 3 ls []) := by
    intro n6
    induction n6 using Nat.strongRecOn with
    | ind n6 ih5 =>
      intro z1 A3 H locs ls f7 f8 f9 f10 hn6 hI hj2 hP hS hl
      refine lv_iload_n hx hb dX12_put_3 rfl (lv_at hl 0 rfl) ?_
      refine lv_if_lt (tgt := 39) hx hb dX12_put_4 (by decide) (fun c11 => ?_) (fun c11 => ?_)
      · have c11 : z1 < 0 := (i_lt0 ⟨by omega, by omega⟩).mp c11
        have r_A3_0_1 : (0 : Int) ≤ (A3 0 1) ∧ (A3 0 1) ≤ 1600 := hI 0 1
        exact RET _ _ _ _ _ ⟨hI, fr.trans (fr.rf) hj2 rfl rfl, by omega⟩ hP hS dX12_put_39
      · have c11 : ¬ z1 < 0 := mt (i_lt0 ⟨by omega, by omega⟩).mpr c11
        refine lv_aload_n hx hb dX12_put_7 rfl (lv_at hl 1 rfl) ?_
        refine va_get (D := (dC, dI)) (ci := 12) (v := .ref (q 1)) (C := RX12) (T := TX12) (N := 85) hx hb hts hiX12 hown hK hP 0 wm0 rfl 0 (by decide) (hts _ (List.mem_of_getElem? (i := 1) rfl)) (fun _ h9 => h9) rfl dX12_put_8 ?_
        refine lv_aload_n hx hb dX12_put_11 rfl (lv_at hl 1 rfl) ?_
        refine va_get (D := (dC, dI)) (ci := 12) (v := .int (iI (A3 0 1))) (C := RX12) (T := TX12) (N := 85) hx hb hts hiX12 hown hK hP 0 wm0 rfl 1 (by decide) (hts _ (List.mem_of_getElem? (i := 2) rfl)) (fun _ h9 => h9) rfl dX12_put_12 ?_
        have r_A3_0_1 : (0 : Int) ≤ (A3 0 1) ∧ (A3 0 1) ≤ 1600 := hI 0 1
        refine lv_iload_n hx hb dX12_put_15 rfl (lv_at hl 2 rfl) ?_
        refine lv_iload_n hx hb dX12_put_16 rfl (lv_at hl 0 rfl) ?_
        refine lv_ishr hx hb dX12_put_17 ?_
        refine x_abs (fun z12 hz12 => ?_)
        refine lv_sipush (v := iI 255) hx hb dX12_put_18 (by decide +kernel) ?_
        refine lv_iand hx hb dX12_put_21 ?_
        refine x_and (b := 255) (by omega) (fun z13 hz13 => ?_)
        refine x_iast hx hb hK hP hDD hS 1 1 wm1 rfl ⟨by omega, by omega⟩ (by decide) dX12_put_22 ws1 (fun H locs hP hS => ?_)
        have hI := hI.st (j := 1) (i := ((A3 0 1)).toNat) (v := z13) (show (0 : Int) ≤ z13 ∧ z13 ≤ 255 from ⟨by omega, by omega⟩)
        refine lv_aload_n hx hb dX12_put_23 rfl (lv_at hl 1 rfl) ?_
        refine lv_dup hx hb dX12_put_24 rfl ?_
        refine va_get (D := (dC, dI)) (ci := 12) (v := .int (iI (A3 0 1))) (C := RX12) (T := TX12) (N := 85) hx hb hts hiX12 hown hK hP 0 wm0 rfl 1 (by decide) (hts _ (List.mem_of_getElem? (i := 2) rfl)) (fun _ h9 => h9) rfl dX12_put_25 ?_
        refine lv_iconst (v := iI 1) hx hb dX12_put_28 (by decide +kernel) ?_
        refine x_addv (v := (A3 0 1) + 1) hx hb dX12_put_29 (by omega) ?_
        refine x_put (D := (dC, dI)) (ci := 12) (v := .int (iI ((A3 0 1) + 1))) (ty := .int) (C := RX12) (T := TX12) (N := 85) hx hb hts hiX12 tyX12 tyX12_ok nmX12 hown hK hP hDD hS 0 wm0 rfl 1 (by decide) (hts _ (List.mem_of_getElem? (i := 2) rfl)) (fun _ h9 => h9) rfl (by decide +kernel) rfl rfl (Nat.le_of_ble_eq_true rfl) dX12_put_30 (wf1 (v := (A3 0 1) + 1)) (fun H locs hP hS => ?_)
        have hI := hI.st (j := 0) (i := 1) (v := (A3 0 1) + 1) (show (0 : Int) ≤ (A3 0 1) + 1 ∧ (A3 0 1) + 1 ≤ 1600 from ⟨by omega, by omega⟩)
        refine lv_iinc (v := iI (z1 - 8)) (lv' := [(2, .int (iI (z1 - 8))), (0, .ref (q 0)), (1, .int (iI x1))]) hx hb dX12_put_33 hl (k := 0) rfl (i_inc (by omega)) (by decide) rfl (fun ls hl => ?_)
        refine lv_goto (tgt := 3) hx hb dX12_put_36 (by decide) ?_
        obtain ⟨A14, hA14⟩ : ∃ A14 : St, A14 = (stA (stA A3 1 ((A3 0 1)).toNat z13) 0 1 ((A3 0 1) + 1)) := ⟨_, rfl⟩
        rw [← hA14] at hP hI
        have e_A14_1 : A14 0 1 = (A3 0 1) + 1 := by rw [hA14]; rfl
        exact ih5 _ (by omega) (z1 - 8) _ _ _ _ (by omega) (by omega) (by omega) (by omega) rfl hI (fr_def hA14 (fr.sf (fr.st (fr.trans (fr.rf) hj2 rfl rfl) (by decide) rfl) rfl)) hP hS (lv_sub hl [0, 1, 2] rfl)
  have r_A_0_1 : (0 : Int) ≤ (A 0 1) ∧ (A 0 1) ≤ 1600 := hI 0 1
  exact L3_4 _ 24 _ _ _ _ (by omega) (by omega) (by omega) (by omega) rfl hI (fr.rf) hP hS (lv_sub hl [0, 1, 2] rfl)

def ws_mc_X12_refuses : List Cond := .code yX12_refuses cX12_refuses 2 (some .int) :: ([.fieldLink RX12 189 "StackKeysModel" "refused" "[I"] ++ wsX120)
set_option maxHeartbeats 4000000 in
set_option maxRecDepth 100000 in
theorem mc_X12_refuses (l : Launch) (dC : Nat → ClassId) (dI : Nat → Nat → Nat) (cB cI cJ cZ cQ : ClassId) (q : Nat → Nat) (A : St) (x1 : Int) (hI : IM A) (hx1 : (0 : Int) ≤ x1 ∧ x1 ≤ 5) : XMi l yX12_refuses ws_mc_X12_refuses ({ frames := 0, cells := 0, slots := 0, locals := 0 } : Room) (dC, dI) (tyA cB cI cJ cZ cQ) (WM cI cJ cZ q) A [.ref (q 0), .int (iI x1)] (fun z u => IM u ∧ fr [41] [] A u ∧ (z = -1)) := by
  refine x_meti (cc := cX12_refuses) (maxL := 2) WM_adr (by decide +kernel) rfl (Nat.le_of_ble_eq_true rfl) (fun p e s m below meth c Q AS ls hx hb hml hown hts hK hDD hA0 hP hS hl RET => ?_)
  have hown : s.vm.findClass RX12 = some m.cls := hown
  have hl : lv_has ls 2 [(0, .ref (q 0)), (1, .int (iI x1))] := hl
  have hiX12 : ∀ w ∈ u_ws RX12 TX12 85, w ∈ ws_mc_X12_refuses := fun w h => List.mem_cons_of_mem _ (List.mem_append_right _ h)
  obtain ⟨H, hHe⟩ : ∃ H : Heap, H = s.heap := ⟨_, rfl⟩
  rw [← hHe] at hP
  have hS : va_S AS s.heap H [] := by rw [hHe]; exact hS
  suffices hgo : ∀ locs : List Loc, va_S AS s.heap H locs → W p l e (headSpec ws_mc_X12_refuses ({ frames := 0, cells := 0, slots := 0, locals := 0 } : Room)).room s m [.ref (q 0), .int (iI x1)].toArray below meth c H locs 0 0 Q (F0 m 0 ls []) by
    have := hgo [] hS
    rw [hHe] at this
    exact this
  clear hS hHe
  intro locs hS
  refine lv_aload_n hx hb dX12_refuses_0 rfl (lv_at hl 0 rfl) ?_
  refine va_get (D := (dC, dI)) (ci := 12) (v := .ref (q 41)) (C := RX12) (T := TX12) (N := 85) hx hb hts hiX12 hown hK hP 0 wm0 rfl 58 (by decide) (hts _ (List.mem_of_getElem? (i := 1) rfl)) (fun _ h9 => h9) rfl dX12_refuses_1 ?_
  refine lv_iload_n hx hb dX12_refuses_4 rfl (lv_at hl 1 rfl) ?_
  refine lv_dup2_11 hx hb dX12_refuses_5 rfl rfl ?_
  refine x_iald hx hb hK hP 41 1 wm41 rfl ⟨by omega, by omega⟩ (by decide) dX12_refuses_6 (fun z1 hz1 => ?_)
  have rz1 : (-2147483648 : Int) ≤ z1 ∧ z1 ≤ 2147483647 := by rw [hz1]; exact hI 41 _
  have hz1 : z1 = A 41 (x1).toNat := hz1
  refine lv_iconst (v := iI 1) hx hb dX12_refuses_7 (by decide +kernel) ?_
  refine x_addv (v := z1 + 1) hx hb dX12_refuses_8 (by omega) ?_
  refine x_abs (fun z2 hz2 => ?_)
  refine x_iast hx hb hK hP hDD hS 41 1 wm41 rfl ⟨by omega, by omega⟩ (by decide) dX12_refuses_9 ws41 (fun H locs hP hS => ?_)
  have hI := hI.st (j := 41) (i := (x1).toNat) (v := z2) (show (-2147483648 : Int) ≤ z2 ∧ z2 ≤ 2147483647 from ⟨by omega, by omega⟩)
  refine lv_iconst (v := iI (-1)) hx hb dX12_refuses_10 (by decide +kernel) ?_
  exact RET (-1) _ _ _ _ _ ⟨hI, fr.st (fr.rf) (by decide) rfl, by omega⟩ hP hS dX12_refuses_11

def ws_mc_X12_feed : List Cond := .code yX12_feed cX12_feed 6 (some .int) :: ([.fieldLink RX12 13 "StackKeysModel" "taped" "I", .methodLink RX12 275 yX12_put, .instanceMethod yX12_put, .selects RX12 yX12_put yX12_put, .initialized RX12, .code yX12_put cX12_put 3 none, .fieldLink RX12 7 "StackKeysModel" "tape" "[I", .methodLink RX12 271 yX12_refuses, .instanceMethod yX12_refuses, .selects RX12 yX12_refuses yX12_refuses, .code yX12_refuses cX12_refuses 2 (some .int), .fieldLink RX12 189 "StackKeysModel" "refused" "[I"] ++ wsX120)
set_option maxRecDepth 20000 in
theorem g_mc_X12_feed_0 : GoodIn ws_mc_X12_feed (wsV RX12 275 RX12 yX12_put ws_mc_X12_put) := goodIn_r _ [2, 3, 4, 5, 6, 7, 1, 13, 14, 15, 16, 17, 18, 19, 20, 21, 22, 23, 24, 25, 26, 27, 28, 29, 30, 31, 32, 33, 34, 35, 36, 37, 38, 39, 40, 41, 42, 43, 44, 45, 46, 47, 48, 49, 50, 51, 52, 53, 54, 55, 56, 57, 58, 59, 60, 61, 62, 63, 64, 65, 66, 67, 68, 69, 70, 71, 72, 73, 74, 75, 76, 77, 78, 79, 80, 81, 82, 83, 84, 85, 86, 87, 88, 89, 90, 91, 92, 93, 94, 95, 96, 97] (by decide +kernel) (by decide +kernel)
set_option maxRecDepth 20000 in
theorem g_mc_X12_feed_1 : GoodIn ws_mc_X12_feed (wsV RX12 275 RX12 yX12_put ws_mc_X12_put) := goodIn_r _ [2, 3, 4, 5, 6, 7, 1, 13, 14, 15, 16, 17, 18, 19, 20, 21, 22, 23, 24, 25, 26, 27, 28, 29, 30, 31, 32, 33, 34, 35, 36, 37, 38, 39, 40, 41, 42, 43, 44, 45, 46, 47, 48, 49, 50, 51, 52, 53, 54, 55, 56, 57, 58, 59, 60, 61, 62, 63, 64, 65, 66, 67, 68, 69, 70, 71, 72, 73, 74, 75, 76, 77, 78, 79, 80, 81, 82, 83, 84, 85, 86, 87, 88, 89, 90, 91, 92, 93, 94, 95, 96, 97] (by decide +kernel) (by decide +kernel)
set_option maxRecDepth 20000 in
theorem g_mc_X12_feed_2 : GoodIn ws_mc_X12_feed (wsV RX12 275 RX12 yX12_put ws_mc_X12_put) := goodIn_r _ [2, 3, 4, 5, 6, 7, 1, 13, 14, 15, 16, 17, 18, 19, 20, 21, 22, 23, 24, 25, 26, 27, 28, 29, 30, 31, 32, 33, 34, 35, 36, 37, 38, 39, 40, 41, 42, 43, 44, 45, 46, 47, 48, 49, 50, 51, 52, 53, 54, 55, 56, 57, 58, 59, 60, 61, 62, 63, 64, 65, 66, 67, 68, 69, 70, 71, 72, 73, 74, 75, 76, 77, 78, 79, 80, 81, 82, 83, 84, 85, 86, 87, 88, 89, 90, 91, 92, 93, 94, 95, 96, 97] (by decide +kernel) (by decide +kernel)
set_option maxRecDepth 20000 in
theorem g_mc_X12_feed_3 : GoodIn ws_mc_X12_feed (wsV RX12 275 RX12 yX12_put ws_mc_X12_put) := goodIn_r _ [2, 3, 4, 5, 6, 7, 1, 13, 14, 15, 16, 17, 18, 19, 20, 21, 22, 23, 24, 25, 26, 27, 28, 29, 30, 31, 32, 33, 34, 35, 36, 37, 38, 39, 40, 41, 42, 43, 44, 45, 46, 47, 48, 49, 50, 51, 52, 53, 54, 55, 56, 57, 58, 59, 60, 61, 62, 63, 64, 65, 66, 67, 68, 69, 70, 71, 72, 73, 74, 75, 76, 77, 78, 79, 80, 81, 82, 83, 84, 85, 86, 87, 88, 89, 90, 91, 92, 93, 94, 95, 96, 97] (by decide +kernel) (by decide +kernel)
set_option maxRecDepth 20000 in
theorem g_mc_X12_feed_4 : GoodIn ws_mc_X12_feed (wsV RX12 275 RX12 yX12_put ws_mc_X12_put) := goodIn_r _ [2, 3, 4, 5, 6, 7, 1, 13, 14, 15, 16, 17, 18, 19, 20, 21, 22, 23, 24, 25, 26, 27, 28, 29, 30, 31, 32, 33, 34, 35, 36, 37, 38, 39, 40, 41, 42, 43, 44, 45, 46, 47, 48, 49, 50, 51, 52, 53, 54, 55, 56, 57, 58, 59, 60, 61, 62, 63, 64, 65, 66, 67, 68, 69, 70, 71, 72, 73, 74, 75, 76, 77, 78, 79, 80, 81, 82, 83, 84, 85, 86, 87, 88, 89, 90, 91, 92, 93, 94, 95, 96, 97] (by decide +kernel) (by decide +kernel)
set_option maxRecDepth 20000 in
theorem g_mc_X12_feed_5 : GoodIn ws_mc_X12_feed (wsV RX12 271 RX12 yX12_refuses ws_mc_X12_refuses) := goodIn_r _ [8, 9, 10, 5, 11, 12, 13, 14, 15, 16, 17, 18, 19, 20, 21, 22, 23, 24, 25, 26, 27, 28, 29, 30, 31, 32, 33, 34, 35, 36, 37, 38, 39, 40, 41, 42, 43, 44, 45, 46, 47, 48, 49, 50, 51, 52, 53, 54, 55, 56, 57, 58, 59, 60, 61, 62, 63, 64, 65, 66, 67, 68, 69, 70, 71, 72, 73, 74, 75, 76, 77, 78, 79, 80, 81, 82, 83, 84, 85, 86, 87, 88, 89, 90, 91, 92, 93, 94, 95, 96, 97] (by decide +kernel) (by decide +kernel)
set_option maxHeartbeats 4000000 in
set_option maxRecDepth 100000 in
theorem mc_X12_feed (l : Launch) (dC : Nat → ClassId) (dI : Nat → Nat → Nat) (cB cI cJ cZ cQ : ClassId) (q : Nat → Nat) (A : St) (x1 x2 x3 x4 x5 : Int) (hI : IM A) (hx1 : (-2147483648 : Int) ≤ x1 ∧ x1 ≤ 2147483647) (hx2 : (-2147483648 : Int) ≤ x2 ∧ x2 ≤ 2147483647) (hx3 : (-2147483648 : Int) ≤ x3 ∧ x3 ≤ 2147483647) (hx4 : (-2147483648 : Int) ≤ x4 ∧ x4 ≤ 2147483647) (hx5 : (-2147483648 : Int) ≤ x5 ∧ x5 ≤ 2147483647) : XMi l yX12_feed ws_mc_X12_feed ({ frames := 1, cells := 0, slots := 0, locals := 22 } : Room) (dC, dI) (tyA cB cI cJ cZ cQ) (WM cI cJ cZ q) A [.ref (q 0), .int (iI x1), .int (iI x2), .int (iI x3), .int (iI x4), .int (iI x5)] (fun z u => IM u ∧ fr [1, 41] [1] A u ∧ ((1600 < A 0 1 + 20 ∧ z = -1 ∧ u 0 1 = A 0 1) ∨ (A 0 1 + 20 ≤ 1600 ∧ z = u 0 1 ∧ u 0 1 = A 0 1 + 20))) := by
  refine x_meti (cc := cX12_feed) (maxL := 6) WM_adr (by decide +kernel) rfl (Nat.le_of_ble_eq_true rfl) (fun p e s m below meth c Q AS ls hx hb hml hown hts hK hDD hA0 hP hS hl RET => ?_)
  have hown : s.vm.findClass RX12 = some m.cls := hown
  have hl : lv_has ls 6 [(0, .ref (q 0)), (1, .int (iI x1)), (2, .int (iI x2)), (3, .int (iI x3)), (4, .int (iI x4)), (5, .int (iI x5))] := hl
  have hiX12 : ∀ w ∈ u_ws RX12 TX12 85, w ∈ ws_mc_X12_feed := fun w h => List.mem_cons_of_mem _ (List.mem_append_right _ h)
  obtain ⟨H, hHe⟩ : ∃ H : Heap, H = s.heap := ⟨_, rfl⟩
  rw [← hHe] at hP
  have hS : va_S AS s.heap H [] := by rw [hHe]; exact hS
  suffices hgo : ∀ locs : List Loc, va_S AS s.heap H locs → W p l e (headSpec ws_mc_X12_feed ({ frames := 1, cells := 0, slots := 0, locals := 22 } : Room)).room s m [.ref (q 0), .int (iI x1), .int (iI x2), .int (iI x3), .int (iI x4), .int (iI x5)].toArray below meth c H locs 0 0 Q (F0 m 0 ls []) by
    have := hgo [] hS
    rw [hHe] at this
    exact this
  clear hS hHe
  intro locs hS
  refine lv_aload_n hx hb dX12_feed_0 rfl (lv_at hl 0 rfl) ?_
  refine va_get (D := (dC, dI)) (ci := 12) (v := .int (iI (A 0 1))) (C := RX12) (T := TX12) (N := 85) hx hb hts hiX12 hown hK hP 0 wm0 rfl 1 (by decide) (hts _ (List.mem_of_getElem? (i := 1) rfl)) (fun _ h9 => h9) rfl dX12_feed_1 ?_
  have r_A_0_1 : (0 : Int) ≤ (A 0 1) ∧ (A 0 1) ≤ 1600 := hI 0 1
  refine lv_bipush (v := iI 20) hx hb dX12_feed_4 (by decide +kernel) ?_
  refine x_addv (v := (A 0 1) + 20) hx hb dX12_feed_6 (by omega) ?_
  refine lv_sipush (v := iI 1600) hx hb dX12_feed_7 (by decide +kernel) ?_
  refine lv_icmp_le (tgt := 19) hx hb dX12_feed_10 (by decide) (fun c1 => ?_) (fun c1 => ?_)
  · have c1 : (A 0 1) + 20 ≤ 1600 := (i_le ⟨by omega, by omega⟩ ⟨by decide, by decide⟩).mp c1
    refine lv_aload_n hx hb dX12_feed_19 rfl (lv_at hl 0 rfl) ?_
    refine lv_iload_n hx hb dX12_feed_20 rfl (lv_at hl 1 rfl) ?_
    refine x_callv (As := [.int (iI x1)]) (rest := []) ⟨hx, hb, hml, hown, hts⟩ (mc_X12_put l dC dI cB cI cJ cZ cQ q _ x1 hI ⟨by omega, by omega⟩ (by omega)) (cwV 1 hts g_mc_X12_feed_0 rfl rfl rfl (by decide +kernel) ⟨Nat.le_of_ble_eq_true rfl, Nat.le_of_ble_eq_true rfl⟩) hK hDD hA0 hP hS 0 12 wm0 rfl rfl hl.1 (Nat.le_of_ble_eq_true rfl) dX12_feed_21 (fun A2 H locs hw3 hP hS => ?_)
    obtain ⟨hI, hf4, hw3⟩ := hw3
    have r_A2_0_1 : (0 : Int) ≤ (A2 0 1) ∧ (A2 0 1) ≤ 1600 := hI 0 1
    refine lv_aload_n hx hb dX12_feed_24 rfl (lv_at hl 0 rfl) ?_
    refine lv_iload_n hx hb dX12_feed_25 rfl (lv_at hl 2 rfl) ?_
    refine x_callv (As := [.int (iI x2)]) (rest := []) ⟨hx, hb, hml, hown, hts⟩ (mc_X12_put l dC dI cB cI cJ cZ cQ q _ x2 hI ⟨by omega, by omega⟩ (by omega)) (cwV 1 hts g_mc_X12_feed_1 rfl rfl rfl (by decide +kernel) ⟨Nat.le_of_ble_eq_true rfl, Nat.le_of_ble_eq_true rfl⟩) hK hDD hA0 hP hS 0 12 wm0 rfl rfl hl.1 (Nat.le_of_ble_eq_true rfl) dX12_feed_26 (fun A5 H locs hw6 hP hS => ?_)
    obtain ⟨hI, hf7, hw6⟩ := hw6
    have r_A5_0_1 : (0 : Int) ≤ (A5 0 1) ∧ (A5 0 1) ≤ 1600 := hI 0 1
    refine lv_aload_n hx hb dX12_feed_29 rfl (lv_at hl 0 rfl) ?_
    refine lv_iload_n hx hb dX12_feed_30 rfl (lv_at hl 3 rfl) ?_
    refine x_callv (As := [.int (iI x3)]) (rest := []) ⟨hx, hb, hml, hown, hts⟩ (mc_X12_put l dC dI cB cI cJ cZ cQ q _ x3 hI ⟨by omega, by omega⟩ (by omega)) (cwV 1 hts g_mc_X12_feed_2 rfl rfl rfl (by decide +kernel) ⟨Nat.le_of_ble_eq_true rfl, Nat.le_of_ble_eq_true rfl⟩) hK hDD hA0 hP hS 0 12 wm0 rfl rfl hl.1 (Nat.le_of_ble_eq_true rfl) dX12_feed_31 (fun A8 H locs hw9 hP hS => ?_)
    obtain ⟨hI, hf10, hw9⟩ := hw9
    have r_A8_0_1 : (0 : Int) ≤ (A8 0 1) ∧ (A8 0 1) ≤ 1600 := hI 0 1
    refine lv_aload_n hx hb dX12_feed_34 rfl (lv_at hl 0 rfl) ?_
    refine lv_iload hx hb dX12_feed_35 (lv_at hl 4 rfl) ?_
    refine x_callv (As := [.int (iI x4)]) (rest := []) ⟨hx, hb, hml, hown, hts⟩ (mc_X12_put l dC dI cB cI cJ cZ cQ q _ x4 hI ⟨by omega, by omega⟩ (by omega)) (cwV 1 hts g_mc_X12_feed_3 rfl rfl rfl (by decide +kernel) ⟨Nat.le_of_ble_eq_true rfl, Nat.le_of_ble_eq_true rfl⟩) hK hDD hA0 hP hS 0 12 wm0 rfl rfl hl.1 (Nat.le_of_ble_eq_true rfl) dX12_feed_37 (fun A11 H locs hw12 hP hS => ?_)
    obtain ⟨hI, hf13, hw12⟩ := hw12
    have r_A11_0_1 : (0 : Int) ≤ (A11 0 1) ∧ (A11 0 1) ≤ 1600 := hI 0 1
    refine lv_aload_n hx hb dX12_feed_40 rfl (lv_at hl 0 rfl) ?_
    refine lv_iload hx hb dX12_feed_41 (lv_at hl 5 rfl) ?_
    refine x_callv (As := [.int (iI x5)]) (rest := []) ⟨hx, hb, hml, hown, hts⟩ (mc_X12_put l dC dI cB cI cJ cZ cQ q _ x5 hI ⟨by omega, by omega⟩ (by omega)) (cwV 1 hts g_mc_X12_feed_4 rfl rfl rfl (by decide +kernel) ⟨Nat.le_of_ble_eq_true rfl, Nat.le_of_ble_eq_true rfl⟩) hK hDD hA0 hP hS 0 12 wm0 rfl rfl hl.1 (Nat.le_of_ble_eq_true rfl) dX12_feed_43 (fun A14 H locs hw15 hP hS => ?_)
    obtain ⟨hI, hf16, hw15⟩ := hw15
    have r_A14_0_1 : (0 : Int) ≤ (A14 0 1) ∧ (A14 0 1) ≤ 1600 := hI 0 1
    refine lv_aload_n hx hb dX12_feed_46 rfl (lv_at hl 0 rfl) ?_
    refine va_get (D := (dC, dI)) (ci := 12) (v := .int (iI (A14 0 1))) (C := RX12) (T := TX12) (N := 85) hx hb hts hiX12 hown hK hP 0 wm0 rfl 1 (by decide) (hts _ (List.mem_of_getElem? (i := 1) rfl)) (fun _ h9 => h9) rfl dX12_feed_47 ?_
    exact RET (A14 0 1) _ _ _ _ _ ⟨hI, fr.trans (fr.trans (fr.trans (fr.trans (fr.trans (fr.rf) hf4 rfl rfl) hf7 rfl rfl) hf10 rfl rfl) hf13 rfl rfl) hf16 rfl rfl, by omega⟩ hP hS dX12_feed_50
  · have c1 : ¬ (A 0 1) + 20 ≤ 1600 := mt (i_le ⟨by omega, by omega⟩ ⟨by decide, by decide⟩).mpr c1
    refine lv_aload_n hx hb dX12_feed_13 rfl (lv_at hl 0 rfl) ?_
    refine lv_iconst (v := iI 0) hx hb dX12_feed_14 (by decide +kernel) ?_
    refine x_calli (As := [.int (iI 0)]) (rest := []) ⟨hx, hb, hml, hown, hts⟩ (mc_X12_refuses l dC dI cB cI cJ cZ cQ q _ 0 hI ⟨by omega, by omega⟩) (cwV 1 hts g_mc_X12_feed_5 rfl rfl rfl (by decide +kernel) ⟨Nat.le_of_ble_eq_true rfl, Nat.le_of_ble_eq_true rfl⟩) hK hDD hA0 hP hS 0 12 wm0 rfl rfl hl.1 (Nat.le_of_ble_eq_true rfl) dX12_feed_15 (fun z17 A18 H locs hw19 hP hS => ?_)
    obtain ⟨hI, hf20, hw19⟩ := hw19
    have e_A18_1 : A18 0 1 = (A 0 1) := (hf20.2 1 rfl)
    exact RET z17 _ _ _ _ _ ⟨hI, fr.trans (fr.rf) hf20 rfl rfl, by omega⟩ hP hS dX12_feed_18

def ws_mc_X12_end : List Cond := .code yX12_end cX12_end 2 (some .boolean) :: ([.fieldLink RX12 13 "StackKeysModel" "taped" "I", .methodLink RX12 271 yX12_refuses, .instanceMethod yX12_refuses, .selects RX12 yX12_refuses yX12_refuses, .initialized RX12, .code yX12_refuses cX12_refuses 2 (some .int), .fieldLink RX12 189 "StackKeysModel" "refused" "[I"] ++ wsX120)
set_option maxRecDepth 20000 in
theorem g_mc_X12_end_0 : GoodIn ws_mc_X12_end (wsV RX12 271 RX12 yX12_refuses ws_mc_X12_refuses) := goodIn_r _ [2, 3, 4, 5, 6, 7, 8, 9, 10, 11, 12, 13, 14, 15, 16, 17, 18, 19, 20, 21, 22, 23, 24, 25, 26, 27, 28, 29, 30, 31, 32, 33, 34, 35, 36, 37, 38, 39, 40, 41, 42, 43, 44, 45, 46, 47, 48, 49, 50, 51, 52, 53, 54, 55, 56, 57, 58, 59, 60, 61, 62, 63, 64, 65, 66, 67, 68, 69, 70, 71, 72, 73, 74, 75, 76, 77, 78, 79, 80, 81, 82, 83, 84, 85, 86, 87, 88, 89, 90, 91, 92] (by decide +kernel) (by decide +kernel)
set_option maxHeartbeats 4000000 in
set_option maxRecDepth 100000 in
theorem mc_X12_end (l : Launch) (dC : Nat → ClassId) (dI : Nat → Nat → Nat) (cB cI cJ cZ cQ : ClassId) (q : Nat → Nat) (A : St) (x1 : Int) (hI : IM A) (hx1 : (-2147483648 : Int) ≤ x1 ∧ x1 ≤ 2147483647) : XMi l yX12_end ws_mc_X12_end ({ frames := 1, cells := 0, slots := 0, locals := 21 } : Room) (dC, dI) (tyA cB cI cJ cZ cQ) (WM cI cJ cZ q) A [.ref (q 0), .int (iI x1)] (fun z u => IM u ∧ fr [41] [1] A u ∧ ((0 ≤ z ∧ z ≤ 1) ∧ ((z = 0 ∧ u 0 1 = A 0 1 ∧ (x1 < 0 ∨ A 0 1 < x1)) ∨ (z = 1 ∧ u 0 1 = x1 ∧ 0 ≤ x1 ∧ x1 ≤ A 0 1)))) := by
  refine x_metz (cc := cX12_end) (maxL := 2) WM_adr (by decide +kernel) rfl (Nat.le_of_ble_eq_true rfl) (fun z u h => h.2.2.1) (fun p e s m below meth c Q AS ls hx hb hml hown hts hK hDD hA0 hP hS hl RET => ?_)
  have hown : s.vm.findClass RX12 = some m.cls := hown
  have hl : lv_has ls 2 [(0, .ref (q 0)), (1, .int (iI x1))] := hl
  have hiX12 : ∀ w ∈ u_ws RX12 TX12 85, w ∈ ws_mc_X12_end := fun w h => List.mem_cons_of_mem _ (List.mem_append_right _ h)
  obtain ⟨H, hHe⟩ : ∃ H : Heap, H = s.heap := ⟨_, rfl⟩
  rw [← hHe] at hP
  have hS : va_S AS s.heap H [] := by rw [hHe]; exact hS
  suffices hgo : ∀ locs : List Loc, va_S AS s.heap H locs → W p l e (headSpec ws_mc_X12_end ({ frames := 1, cells := 0, slots := 0, locals := 21 } : Room)).room s m [.ref (q 0), .int (iI x1)].toArray below meth c H locs 0 0 Q (F0 m 0 ls []) by
    have := hgo [] hS
    rw [hHe] at this
    exact this
  clear hS hHe
  intro locs hS
  refine lv_iload_n hx hb dX12_end_0 rfl (lv_at hl 1 rfl) ?_
  have J12_2 : ∀ (H : Heap) (locs : List Loc) (ls : Array Slot), ((x1 < 0) ∨ (¬ x1 < 0 ∧ ¬ x1 ≤ (A 0 1))) → va_P (dC, dI) vwCl (WM cI cJ cZ q A) H → va_S AS s.heap H locs → lv_has ls 2 [(0, .ref (q 0)), (1, .int (iI x1))] → W p l e (headSpec ws_mc_X12_end ({ frames := 1, cells := 0, slots := 0, locals := 21 } : Room)).room s m [.ref (q 0), .int (iI x1)].toArray below meth c H locs 0 0 Q (F0 m 12 ls []) := by
    intro H locs ls f6 hP hS hl
    refine lv_aload_n hx hb dX12_end_12 rfl (lv_at hl 0 rfl) ?_
    refine lv_iconst (v := iI 0) hx hb dX12_end_13 (by decide +kernel) ?_
    refine x_calli (As := [.int (iI 0)]) (rest := []) ⟨hx, hb, hml, hown, hts⟩ (mc_X12_refuses l dC dI cB cI cJ cZ cQ q _ 0 hI ⟨by omega, by omega⟩) (cwV 1 hts g_mc_X12_end_0 rfl rfl rfl (by decide +kernel) ⟨Nat.le_of_ble_eq_true rfl, Nat.le_of_ble_eq_true rfl⟩) hK hDD hA0 hP hS 0 12 wm0 rfl rfl hl.1 (Nat.le_of_ble_eq_true rfl) dX12_end_14 (fun z7 A8 H locs hw9 hP hS => ?_)
    obtain ⟨hI, hf10, hw9⟩ := hw9
    refine lv_if_lt (tgt := 24) hx hb dX12_end_17 (by decide) (fun c11 => ?_) (fun c11 => ?_)
    · have c11 : z7 < 0 := (i_lt0 ⟨by omega, by omega⟩).mp c11
      refine lv_iconst (v := iI 0) hx hb dX12_end_24 (by decide +kernel) ?_
      have e_A8_1 : A8 0 1 = (A 0 1) := (hf10.2 1 rfl)
      have r_A_0_1 : (0 : Int) ≤ (A 0 1) ∧ (A 0 1) ≤ 1600 := by rw [← e_A8_1]; exact hI 0 1
      exact RET 0 _ _ _ _ _ ⟨hI, fr.trans (fr.rf) hf10 rfl rfl, by omega⟩ hP hS dX12_end_25
    · have c11 : ¬ z7 < 0 := mt (i_lt0 ⟨by omega, by omega⟩).mpr c11
      refine lv_iconst (v := iI 1) hx hb dX12_end_20 (by decide +kernel) ?_
      refine lv_goto (tgt := 25) hx hb dX12_end_21 (by decide) ?_
      have e_A8_1 : A8 0 1 = (A 0 1) := (hf10.2 1 rfl)
      have r_A_0_1 : (0 : Int) ≤ (A 0 1) ∧ (A 0 1) ≤ 1600 := by rw [← e_A8_1]; exact hI 0 1
      exact RET 1 _ _ _ _ _ ⟨hI, fr.trans (fr.rf) hf10 rfl rfl, by omega⟩ hP hS dX12_end_25
  refine lv_if_lt (tgt := 12) hx hb dX12_end_1 (by decide) (fun c1 => ?_) (fun c1 => ?_)
  · have c1 : x1 < 0 := (i_lt0 ⟨by omega, by omega⟩).mp c1
    exact J12_2 _ _ _ (by omega) hP hS (lv_sub hl [0, 1] rfl)
  · have c1 : ¬ x1 < 0 := mt (i_lt0 ⟨by omega, by omega⟩).mpr c1
    refine lv_iload_n hx hb dX12_end_4 rfl (lv_at hl 1 rfl) ?_
    refine lv_aload_n hx hb dX12_end_5 rfl (lv_at hl 0 rfl) ?_
    refine va_get (D := (dC, dI)) (ci := 12) (v := .int (iI (A 0 1))) (C := RX12) (T := TX12) (N := 85) hx hb hts hiX12 hown hK hP 0 wm0 rfl 1 (by decide) (hts _ (List.mem_of_getElem? (i := 1) rfl)) (fun _ h9 => h9) rfl dX12_end_6 ?_
    have r_A_0_1 : (0 : Int) ≤ (A 0 1) ∧ (A 0 1) ≤ 1600 := hI 0 1
    refine lv_icmp_le (tgt := 26) hx hb dX12_end_9 (by decide) (fun c3 => ?_) (fun c3 => ?_)
    · have c3 : x1 ≤ (A 0 1) := (i_le ⟨by omega, by omega⟩ ⟨by omega, by omega⟩).mp c3
      refine lv_aload_n hx hb dX12_end_26 rfl (lv_at hl 0 rfl) ?_
      refine lv_iload_n hx hb dX12_end_27 rfl (lv_at hl 1 rfl) ?_
      refine x_put (D := (dC, dI)) (ci := 12) (v := .int (iI x1)) (ty := .int) (C := RX12) (T := TX12) (N := 85) hx hb hts hiX12 tyX12 tyX12_ok nmX12 hown hK hP hDD hS 0 wm0 rfl 1 (by decide) (hts _ (List.mem_of_getElem? (i := 1) rfl)) (fun _ h9 => h9) rfl (by decide +kernel) rfl rfl (Nat.le_of_ble_eq_true rfl) dX12_end_28 (wf1 (v := x1)) (fun H locs hP hS => ?_)
      have hI := hI.st (j := 0) (i := 1) (v := x1) (show (0 : Int) ≤ x1 ∧ x1 ≤ 1600 from ⟨by omega, by omega⟩)
      refine lv_iconst (v := iI 1) hx hb dX12_end_31 (by decide +kernel) ?_
      obtain ⟨A4, hA4⟩ : ∃ A4 : St, A4 = (stA A 0 1 x1) := ⟨_, rfl⟩
      rw [← hA4] at hP hI
      have e_A4_1 : A4 0 1 = x1 := by rw [hA4]; rfl
      exact RET 1 _ _ _ _ _ ⟨hI, fr_def hA4 (fr.sf (fr.rf) rfl), by omega⟩ hP hS dX12_end_32
    · have c3 : ¬ x1 ≤ (A 0 1) := mt (i_le ⟨by omega, by omega⟩ ⟨by omega, by omega⟩).mpr c3
      exact J12_2 _ _ _ (by omega) hP hS (lv_sub hl [0, 1] rfl)
