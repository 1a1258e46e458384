def ws_kc_X9_keysOf : List Cond := .code yX9_keysOf cX9_keysOf 4 (some .int) :: WY
set_option maxHeartbeats 4000000 in
set_option maxRecDepth 100000 in
theorem kc_X9_keysOf (l : Launch) (dC : Nat → ClassId) (dI : Nat → Nat → Nat) (cB cI cJ cZ cQ : ClassId) (aL aS : Nat) (q : Nat → Nat) (A : St) (ta : Nat) (x1 : Int) (hI : IK A) (hta : isT ta) (hx1 : (-2147483648 : Int) ≤ x1 ∧ x1 ≤ 2147483647) : KMi l yX9_keysOf ws_kc_X9_keysOf ({ frames := 0, cells := 0, slots := 0, locals := 0 } : Room) aL aS (dC, dI) (tyA cB cI cJ cZ cQ) (WK cB cI cJ cZ cQ q) A [.ref (q ta), .int (iI x1)] (fun z u => A = u ∧ (-2147483648 ≤ z ∧ z ≤ 2147483647)) := by
  refine k_meti (cc := cX9_keysOf) (maxL := 4) WK_adr (plainFor_of_name (by decide +kernel)) rfl (Nat.le_of_ble_eq_true rfl) (fun p e s m below meth c Q AS ls hx hb hml hown hts hK hDD hA0 hE RET H locs hP hS hl => ?_)
  have hown : s.vm.findClass RX9 = some m.cls := hown
  have hl : lv_has ls 4 [(0, .ref (q ta)), (1, .int (iI x1))] := hl
  have hiX9 : ∀ w ∈ u_ws RX9 TX9 16, w ∈ ws_kc_X9_keysOf := fun w h => List.mem_cons_of_mem _ (wy_layX9 w h)
  have hiX6 : ∀ w ∈ u_ws RX6 TX6 4, w ∈ ws_kc_X9_keysOf := fun w h => List.mem_cons_of_mem _ (wy_layX6 w h)
  refine lv_iconst (v := iI 0) hx hb dX9_keysOf_0 (by decide +kernel) ?_
  refine lv_istore_n (lv' := [(2, .int (iI 0)), (0, .ref (q ta)), (1, .int (iI x1))]) hx hb dX9_keysOf_1 rfl hl (by decide) rfl (fun ls hl => ?_)
  refine lv_iconst (v := iI 0) hx hb dX9_keysOf_2 (by decide +kernel) ?_
  refine lv_istore_n (lv' := [(3, .int (iI 0)), (2, .int (iI 0)), (0, .ref (q ta)), (1, .int (iI x1))]) hx hb dX9_keysOf_3 rfl hl (by decide) rfl (fun ls hl => ?_)
  have L4_4 : ∀ (n9 : Nat) (z1 z2 : Int) (H : Heap) (locs : List Loc) (ls : Array Slot), (0 ≤ z1 ∧ z1 ≤ 2147483647) → (-2147483648 ≤ z2 ∧ z2 ≤ 2147483647) → ((5 - z1).toNat = n9) → va_P (dC, dI) vwCl (WK cB cI cJ cZ cQ q A) H → va_S AS s.heap H locs → lv_has ls 4 [(3, .int (iI z1)), (2, .int (iI z2)), (0, .ref (q ta)), (1, .int (iI x1))] → W p l e (headSpec ws_kc_X9_keysOf ({ frames := 0, cells := 0, slots := 0, locals := 0 } : Room)).room s m [.ref (q ta), .int (iI x1)].toArray below meth c H locs 0 0 Q (F0 m 4 ls []) := by
    intro n9
    induction n9 using Nat.strongRecOn with
    | ind n9 ih5 =>
      intro z1 z2 H locs ls f6 f7 hn9 hP hS hl
      refine lv_iload_n hx hb dX9_keysOf_4 rfl (lv_at hl 0 rfl) ?_
      refine lv_aload_n hx hb dX9_keysOf_5 rfl (lv_at hl 2 rfl) ?_
      refine va_get (D := (dC, dI)) (ci := 9) (v := .ref (q (ta + 1))) (C := RX9) (T := TX9) (N := 16) hx hb hts hiX9 hown hK hP ta (wkT hta) rfl 0 (by decide) (hts _ (List.mem_cons_of_mem _ (wk_in_0 _ (List.mem_of_getElem? (i := 8) rfl)))) (fun _ h9 => h9) rfl dX9_keysOf_6 ?_
      refine lv_iconst (v := iI 2) hx hb dX9_keysOf_9 (by decide +kernel) ?_
      refine x_iald (Wf := WK cB cI cJ cZ cQ q) hx hb hK hP (ta + 1) 1 (wkTc hta) rfl (by decide) (by decide) dX9_keysOf_10 (fun z10 hz10 => ?_)
      have rz10 : (0 : Int) ≤ z10 ∧ z10 ≤ 4 := by rw [hz10]; exact irTc2 hta hI
      refine lv_icmp_ge (tgt := 39) hx hb dX9_keysOf_11 (by decide) (fun c11 => ?_) (fun c11 => ?_)
      · have c11 : z10 ≤ z1 := (i_le (rb rz10 (by decide) (by decide)) (rb f6 (by decide) (by decide))).mp c11
        refine lv_iload_n hx hb dX9_keysOf_39 rfl (lv_at hl 1 rfl) ?_
        exact RET z2 _ _ _ _ _ ⟨rfl, f7⟩ hP hS dX9_keysOf_40
      · have c11 : ¬ z10 ≤ z1 := mt (i_le (rb rz10 (by decide) (by decide)) (rb f6 (by decide) (by decide))).mpr c11
        refine lv_aload_n hx hb dX9_keysOf_14 rfl (lv_at hl 2 rfl) ?_
        refine va_get (D := (dC, dI)) (ci := 9) (v := .ref (q (ta + 22))) (C := RX9) (T := TX9) (N := 16) hx hb hts hiX9 hown hK hP ta (wkT hta) rfl 14 (by decide) (hts _ (List.mem_cons_of_mem _ (wk_in_0 _ (List.mem_of_getElem? (i := 9) rfl)))) (fun _ h9 => h9) rfl dX9_keysOf_15 ?_
        refine va_get (D := (dC, dI)) (ci := 6) (v := .ref (q ((ta + 22) + 2))) (C := RX6) (T := TX6) (N := 4) hx hb hts hiX6 hown hK hP (ta + 22) (wkS hta.s) rfl 1 (by decide) (hts _ (List.mem_cons_of_mem _ (wk_in_0 _ (List.mem_of_getElem? (i := 10) rfl)))) (fun _ h9 => h9) rfl dX9_keysOf_18 ?_
        refine lv_iload_n hx hb dX9_keysOf_21 rfl (lv_at hl 0 rfl) ?_
        refine x_iald (Wf := WK cB cI cJ cZ cQ q) hx hb hK hP ((ta + 22) + 2) 1 (wkSw hta.s) rfl (by omega) (by decide) dX9_keysOf_22 (fun z12 hz12 => ?_)
        have rz12 : (-2147483648 : Int) ≤ z12 ∧ z12 ≤ 2147483647 := by rw [hz12]; exact irSw hta.s hI
        refine lv_iload_n hx hb dX9_keysOf_23 rfl (lv_at hl 3 rfl) ?_
        have J33_14 : ∀ (z17 : Int) (H : Heap) (locs : List Loc) (ls : Array Slot), (-2147483648 ≤ z17 ∧ z17 ≤ 2147483647) → va_P (dC, dI) vwCl (WK cB cI cJ cZ cQ q A) H → va_S AS s.heap H locs → lv_has ls 4 [(3, .int (iI z1)), (2, .int (iI z17)), (0, .ref (q ta)), (1, .int (iI x1))] → W p l e (headSpec ws_kc_X9_keysOf ({ frames := 0, cells := 0, slots := 0, locals := 0 } : Room)).room s m [.ref (q ta), .int (iI x1)].toArray below meth c H locs 0 0 Q (F0 m 33 ls []) := by
          intro z17 H locs ls f19 hP hS hl
          refine lv_iinc (v := iI (z1 + 1)) (lv' := [(3, .int (iI (z1 + 1))), (2, .int (iI z17)), (0, .ref (q ta)), (1, .int (iI x1))]) hx hb dX9_keysOf_33 hl (k := 0) rfl (i_inc (by omega)) (by decide) rfl (fun ls hl => ?_)
          refine lv_goto (tgt := 4) hx hb dX9_keysOf_36 (by decide) ?_
          exact ih5 _ (by omega) (z1 + 1) z17 _ _ _ (by omega) (by omega) rfl hP hS (lv_sub hl [0, 1, 2, 3] rfl)
        refine lv_icmp_ne (tgt := 33) hx hb dX9_keysOf_24 (by decide) (fun c13 => ?_) (fun c13 => ?_)
        · have c13 : ¬ z12 = x1 := mt (i_eq rz12 hx1).mpr c13
          exact J33_14 z2 _ _ _ (by omega) hP hS (lv_sub hl [0, 1, 2, 3] rfl)
        · have c13 : z12 = x1 := (i_eq rz12 hx1).mp c13
          refine lv_iload_n hx hb dX9_keysOf_27 rfl (lv_at hl 1 rfl) ?_
          refine lv_iconst (v := iI 1) hx hb dX9_keysOf_28 (by decide +kernel) ?_
          refine lv_iload_n hx hb dX9_keysOf_29 rfl (lv_at hl 0 rfl) ?_
          refine lv_ishl hx hb dX9_keysOf_30 ?_
          refine x_abs (fun z15 hz15 => ?_)
          refine lv_ior hx hb dX9_keysOf_31 ?_
          refine x_abs (fun z16 hz16 => ?_)
          refine lv_istore_n (lv' := [(2, .int (iI z16)), (3, .int (iI z1)), (0, .ref (q ta)), (1, .int (iI x1))]) hx hb dX9_keysOf_32 rfl hl (by decide) rfl (fun ls hl => ?_)
          exact J33_14 z16 _ _ _ (by omega) hP hS (lv_sub hl [1, 0, 2, 3] rfl)
  exact L4_4 _ 0 0 _ _ _ (by omega) (by omega) rfl hP hS (lv_sub hl [0, 1, 2, 3] rfl)

def ws_kc_X9_isThere_1_0 : List Cond := .code yX9_isThere cX9_isThere 3 (some .boolean) :: WY
set_option maxHeartbeats 4000000 in
set_option maxRecDepth 100000 in
theorem kc_X9_isThere_1_0 (l : Launch) (dC : Nat → ClassId) (dI : Nat → Nat → Nat) (cB cI cJ cZ cQ : ClassId) (aL aS : Nat) (q : Nat → Nat) (A : St) (ta : Nat) (x2 : Int) (hI : IK A) (hta : isT ta) (hx2 : (-2147483648 : Int) ≤ x2 ∧ x2 ≤ 2147483647) : KMi l yX9_isThere ws_kc_X9_isThere_1_0 ({ frames := 0, cells := 0, slots := 0, locals := 0 } : Room) aL aS (dC, dI) (tyA cB cI cJ cZ cQ) (WK cB cI cJ cZ cQ q) A [.ref (q ta), .int (iI 0), .int (iI x2)] (fun z u => A = u ∧ ((0 ≤ z ∧ z ≤ 1) ∧ (z = 1 → 0 ≤ x2 ∧ x2 ≤ 7))) := by
  refine k_metz (cc := cX9_isThere) (maxL := 3) WK_adr (plainFor_of_name (by decide +kernel)) rfl (Nat.le_of_ble_eq_true rfl) (fun z u h => h.2.1) (fun p e s m below meth c Q AS ls hx hb hml hown hts hK hDD hA0 hE RET H locs hP hS hl => ?_)
  have hown : s.vm.findClass RX9 = some m.cls := hown
  have hl : lv_has ls 3 [(0, .ref (q ta)), (1, .int (iI 0)), (2, .int (iI x2))] := hl
  have hiX9 : ∀ w ∈ u_ws RX9 TX9 16, w ∈ ws_kc_X9_isThere_1_0 := fun w h => List.mem_cons_of_mem _ (wy_layX9 w h)
  refine lv_iload_n hx hb dX9_isThere_0 rfl (lv_at hl 1 rfl) ?_
  refine lv_if_lt (tgt := 28) hx hb dX9_isThere_1 (by decide) (fun c1 => absurd c1 (by decide +kernel)) (fun _ => ?_)
  refine lv_iload_n hx hb dX9_isThere_4 rfl (lv_at hl 1 rfl) ?_
  refine lv_bipush (v := iI 8) hx hb dX9_isThere_5 (by decide +kernel) ?_
  refine lv_icmp_ge (tgt := 28) hx hb dX9_isThere_7 (by decide) (fun c2 => absurd c2 (by decide +kernel)) (fun _ => ?_)
  refine lv_iload_n hx hb dX9_isThere_10 rfl (lv_at hl 2 rfl) ?_
  refine lv_if_lt (tgt := 28) hx hb dX9_isThere_11 (by decide) (fun c3 => ?_) (fun c3 => ?_)
  · have c3 : x2 < 0 := (i_lt0 hx2).mp c3
    refine lv_iconst (v := iI 0) hx hb dX9_isThere_28 (by decide +kernel) ?_
    exact RET 0 _ _ _ _ _ ⟨rfl, by omega⟩ hP hS dX9_isThere_29
  · have c3 : ¬ x2 < 0 := mt (i_lt0 hx2).mpr c3
    refine lv_iload_n hx hb dX9_isThere_14 rfl (lv_at hl 2 rfl) ?_
    refine lv_aload_n hx hb dX9_isThere_15 rfl (lv_at hl 0 rfl) ?_
    refine va_get (D := (dC, dI)) (ci := 9) (v := .ref (q (ta + 1))) (C := RX9) (T := TX9) (N := 16) hx hb hts hiX9 hown hK hP ta (wkT hta) rfl 0 (by decide) (hts _ (List.mem_cons_of_mem _ (wk_in_0 _ (List.mem_of_getElem? (i := 8) rfl)))) (fun _ h9 => h9) rfl dX9_isThere_16 ?_
    refine lv_iload_n hx hb dX9_isThere_19 rfl (lv_at hl 1 rfl) ?_
    refine x_iald (Wf := WK cB cI cJ cZ cQ q) hx hb hK hP (ta + 1) 1 (wkTc hta) rfl (by decide) (by decide) dX9_isThere_20 (fun z4 hz4 => ?_)
    have rz4 : (0 : Int) ≤ z4 ∧ z4 ≤ 8 := by rw [hz4]; exact irTc0 hta hI
    refine lv_icmp_ge (tgt := 28) hx hb dX9_isThere_21 (by decide) (fun c5 => ?_) (fun c5 => ?_)
    · have c5 : z4 ≤ x2 := (i_le (rb rz4 (by decide) (by decide)) hx2).mp c5
      refine lv_iconst (v := iI 0) hx hb dX9_isThere_28 (by decide +kernel) ?_
      exact RET 0 _ _ _ _ _ ⟨rfl, by omega⟩ hP hS dX9_isThere_29
    · have c5 : ¬ z4 ≤ x2 := mt (i_le (rb rz4 (by decide) (by decide)) hx2).mpr c5
      refine lv_iconst (v := iI 1) hx hb dX9_isThere_24 (by decide +kernel) ?_
      refine lv_goto (tgt := 29) hx hb dX9_isThere_25 (by decide) ?_
      exact RET 1 _ _ _ _ _ ⟨rfl, by omega⟩ hP hS dX9_isThere_29

def ws_kc_X9_isThere_1_1 : List Cond := .code yX9_isThere cX9_isThere 3 (some .boolean) :: WY
set_option maxHeartbeats 4000000 in
set_option maxRecDepth 100000 in
theorem kc_X9_isThere_1_1 (l : Launch) (dC : Nat → ClassId) (dI : Nat → Nat → Nat) (cB cI cJ cZ cQ : ClassId) (aL aS : Nat) (q : Nat → Nat) (A : St) (ta : Nat) (x2 : Int) (hI : IK A) (hta : isT ta) (hx2 : (-2147483648 : Int) ≤ x2 ∧ x2 ≤ 2147483647) : KMi l yX9_isThere ws_kc_X9_isThere_1_1 ({ frames := 0, cells := 0, slots := 0, locals := 0 } : Room) aL aS (dC, dI) (tyA cB cI cJ cZ cQ) (WK cB cI cJ cZ cQ q) A [.ref (q ta), .int (iI 1), .int (iI x2)] (fun z u => A = u ∧ ((0 ≤ z ∧ z ≤ 1) ∧ (z = 1 → 0 ≤ x2 ∧ x2 ≤ 9))) := by
  refine k_metz (cc := cX9_isThere) (maxL := 3) WK_adr (plainFor_of_name (by decide +kernel)) rfl (Nat.le_of_ble_eq_true rfl) (fun z u h => h.2.1) (fun p e s m below meth c Q AS ls hx hb hml hown hts hK hDD hA0 hE RET H locs hP hS hl => ?_)
  have hown : s.vm.findClass RX9 = some m.cls := hown
  have hl : lv_has ls 3 [(0, .ref (q ta)), (1, .int (iI 1)), (2, .int (iI x2))] := hl
  have hiX9 : ∀ w ∈ u_ws RX9 TX9 16, w ∈ ws_kc_X9_isThere_1_1 := fun w h => List.mem_cons_of_mem _ (wy_layX9 w h)
  refine lv_iload_n hx hb dX9_isThere_0 rfl (lv_at hl 1 rfl) ?_
  refine lv_if_lt (tgt := 28) hx hb dX9_isThere_1 (by decide) (fun c1 => absurd c1 (by decide +kernel)) (fun _ => ?_)
  refine lv_iload_n hx hb dX9_isThere_4 rfl (lv_at hl 1 rfl) ?_
  refine lv_bipush (v := iI 8) hx hb dX9_isThere_5 (by decide +kernel) ?_
  refine lv_icmp_ge (tgt := 28) hx hb dX9_isThere_7 (by decide) (fun c2 => absurd c2 (by decide +kernel)) (fun _ => ?_)
  refine lv_iload_n hx hb dX9_isThere_10 rfl (lv_at hl 2 rfl) ?_
  refine lv_if_lt (tgt := 28) hx hb dX9_isThere_11 (by decide) (fun c3 => ?_) (fun c3 => ?_)
  · have c3 : x2 < 0 := (i_lt0 hx2).mp c3
    refine lv_iconst (v := iI 0) hx hb dX9_isThere_28 (by decide +kernel) ?_
    exact RET 0 _ _ _ _ _ ⟨rfl, by omega⟩ hP hS dX9_isThere_29
  · have c3 : ¬ x2 < 0 := mt (i_lt0 hx2).mpr c3
    refine lv_iload_n hx hb dX9_isThere_14 rfl (lv_at hl 2 rfl) ?_
    refine lv_aload_n hx hb dX9_isThere_15 rfl (lv_at hl 0 rfl) ?_
    refine va_get (D := (dC, dI)) (ci := 9) (v := .ref (q (ta + 1))) (C := RX9) (T := TX9) (N := 16) hx hb hts hiX9 hown hK hP ta (wkT hta) rfl 0 (by decide) (hts _ (List.mem_cons_of_mem _ (wk_in_0 _ (List.mem_of_getElem? (i := 8) rfl)))) (fun _ h9 => h9) rfl dX9_isThere_16 ?_
    refine lv_iload_n hx hb dX9_isThere_19 rfl (lv_at hl 1 rfl) ?_
    refine x_iald (Wf := WK cB cI cJ cZ cQ q) hx hb hK hP (ta + 1) 1 (wkTc hta) rfl (by decide) (by decide) dX9_isThere_20 (fun z4 hz4 => ?_)
    have rz4 : (0 : Int) ≤ z4 ∧ z4 ≤ 10 := by rw [hz4]; exact irTc1 hta hI
    refine lv_icmp_ge (tgt := 28) hx hb dX9_isThere_21 (by decide) (fun c5 => ?_) (fun c5 => ?_)
    · have c5 : z4 ≤ x2 := (i_le (rb rz4 (by decide) (by decide)) hx2).mp c5
      refine lv_iconst (v := iI 0) hx hb dX9_isThere_28 (by decide +kernel) ?_
      exact RET 0 _ _ _ _ _ ⟨rfl, by omega⟩ hP hS dX9_isThere_29
    · have c5 : ¬ z4 ≤ x2 := mt (i_le (rb rz4 (by decide) (by decide)) hx2).mpr c5
      refine lv_iconst (v := iI 1) hx hb dX9_isThere_24 (by decide +kernel) ?_
      refine lv_goto (tgt := 29) hx hb dX9_isThere_25 (by decide) ?_
      exact RET 1 _ _ _ _ _ ⟨rfl, by omega⟩ hP hS dX9_isThere_29

def ws_kc_X9_isThere_1_2 : List Cond := .code yX9_isThere cX9_isThere 3 (some .boolean) :: WY
set_option maxHeartbeats 4000000 in
set_option maxRecDepth 100000 in
theorem kc_X9_isThere_1_2 (l : Launch) (dC : Nat → ClassId) (dI : Nat → Nat → Nat) (cB cI cJ cZ cQ : ClassId) (aL aS : Nat) (q : Nat → Nat) (A : St) (ta : Nat) (x2 : Int) (hI : IK A) (hta : isT ta) (hx2 : (-2147483648 : Int) ≤ x2 ∧ x2 ≤ 2147483647) : KMi l yX9_isThere ws_kc_X9_isThere_1_2 ({ frames := 0, cells := 0, slots := 0, locals := 0 } : Room) aL aS (dC, dI) (tyA cB cI cJ cZ cQ) (WK cB cI cJ cZ cQ q) A [.ref (q ta), .int (iI 2), .int (iI x2)] (fun z u => A = u ∧ ((0 ≤ z ∧ z ≤ 1) ∧ (z = 1 → 0 ≤ x2 ∧ x2 ≤ 3))) := by
  refine k_metz (cc := cX9_isThere) (maxL := 3) WK_adr (plainFor_of_name (by decide +kernel)) rfl (Nat.le_of_ble_eq_true rfl) (fun z u h => h.2.1) (fun p e s m below meth c Q AS ls hx hb hml hown hts hK hDD hA0 hE RET H locs hP hS hl => ?_)
  have hown : s.vm.findClass RX9 = some m.cls := hown
  have hl : lv_has ls 3 [(0, .ref (q ta)), (1, .int (iI 2)), (2, .int (iI x2))] := hl
  have hiX9 : ∀ w ∈ u_ws RX9 TX9 16, w ∈ ws_kc_X9_isThere_1_2 := fun w h => List.mem_cons_of_mem _ (wy_layX9 w h)
  refine lv_iload_n hx hb dX9_isThere_0 rfl (lv_at hl 1 rfl) ?_
  refine lv_if_lt (tgt := 28) hx hb dX9_isThere_1 (by decide) (fun c1 => absurd c1 (by decide +kernel)) (fun _ => ?_)
  refine lv_iload_n hx hb dX9_isThere_4 rfl (lv_at hl 1 rfl) ?_
  refine lv_bipush (v := iI 8) hx hb dX9_isThere_5 (by decide +kernel) ?_
  refine lv_icmp_ge (tgt := 28) hx hb dX9_isThere_7 (by decide) (fun c2 => absurd c2 (by decide +kernel)) (fun _ => ?_)
  refine lv_iload_n hx hb dX9_isThere_10 rfl (lv_at hl 2 rfl) ?_
  refine lv_if_lt (tgt := 28) hx hb dX9_isThere_11 (by decide) (fun c3 => ?_) (fun c3 => ?_)
  · have c3 : x2 < 0 := (i_lt0 hx2).mp c3
    refine lv_iconst (v := iI 0) hx hb dX9_isThere_28 (by decide +kernel) ?_
    exact RET 0 _ _ _ _ _ ⟨rfl, by omega⟩ hP hS dX9_isThere_29
  · have c3 : ¬ x2 < 0 := mt (i_lt0 hx2).mpr c3
    refine lv_iload_n hx hb dX9_isThere_14 rfl (lv_at hl 2 rfl) ?_
    refine lv_aload_n hx hb dX9_isThere_15 rfl (lv_at hl 0 rfl) ?_
    refine va_get (D := (dC, dI)) (ci := 9) (v := .ref (q (ta + 1))) (C := RX9) (T := TX9) (N := 16) hx hb hts hiX9 hown hK hP ta (wkT hta) rfl 0 (by decide) (hts _ (List.mem_cons_of_mem _ (wk_in_0 _ (List.mem_of_getElem? (i := 8) rfl)))) (fun _ h9 => h9) rfl dX9_isThere_16 ?_
    refine lv_iload_n hx hb dX9_isThere_19 rfl (lv_at hl 1 rfl) ?_
    refine x_iald (Wf := WK cB cI cJ cZ cQ q) hx hb hK hP (ta + 1) 1 (wkTc hta) rfl (by decide) (by decide) dX9_isThere_20 (fun z4 hz4 => ?_)
    have rz4 : (0 : Int) ≤ z4 ∧ z4 ≤ 4 := by rw [hz4]; exact irTc2 hta hI
    refine lv_icmp_ge (tgt := 28) hx hb dX9_isThere_21 (by decide) (fun c5 => ?_) (fun c5 => ?_)
    · have c5 : z4 ≤ x2 := (i_le (rb rz4 (by decide) (by decide)) hx2).mp c5
      refine lv_iconst (v := iI 0) hx hb dX9_isThere_28 (by decide +kernel) ?_
      exact RET 0 _ _ _ _ _ ⟨rfl, by omega⟩ hP hS dX9_isThere_29
    · have c5 : ¬ z4 ≤ x2 := mt (i_le (rb rz4 (by decide) (by decide)) hx2).mpr c5
      refine lv_iconst (v := iI 1) hx hb dX9_isThere_24 (by decide +kernel) ?_
      refine lv_goto (tgt := 29) hx hb dX9_isThere_25 (by decide) ?_
      exact RET 1 _ _ _ _ _ ⟨rfl, by omega⟩ hP hS dX9_isThere_29

def ws_kc_X9_isThere_1_3 : List Cond := .code yX9_isThere cX9_isThere 3 (some .boolean) :: WY
set_option maxHeartbeats 4000000 in
set_option maxRecDepth 100000 in
theorem kc_X9_isThere_1_3 (l : Launch) (dC : Nat → ClassId) (dI : Nat → Nat → Nat) (cB cI cJ cZ cQ : ClassId) (aL aS : Nat) (q : Nat → Nat) (A : St) (ta : Nat) (x2 : Int) (hI : IK A) (hta : isT ta) (hx2 : (-2147483648 : Int) ≤ x2 ∧ x2 ≤ 2147483647) : KMi l yX9_isThere ws_kc_X9_isThere_1_3 ({ frames := 0, cells := 0, slots := 0, locals := 0 } : Room) aL aS (dC, dI) (tyA cB cI cJ cZ cQ) (WK cB cI cJ cZ cQ q) A [.ref (q ta), .int (iI 3), .int (iI x2)] (fun z u => A = u ∧ ((0 ≤ z ∧ z ≤ 1) ∧ (z = 1 → 0 ≤ x2 ∧ x2 ≤ 2))) := by
  refine k_metz (cc := cX9_isThere) (maxL := 3) WK_adr (plainFor_of_name (by decide +kernel)) rfl (Nat.le_of_ble_eq_true rfl) (fun z u h => h.2.1) (fun p e s m below meth c Q AS ls hx hb hml hown hts hK hDD hA0 hE RET H locs hP hS hl => ?_)
  have hown : s.vm.findClass RX9 = some m.cls := hown
  have hl : lv_has ls 3 [(0, .ref (q ta)), (1, .int (iI 3)), (2, .int (iI x2))] := hl
  have hiX9 : ∀ w ∈ u_ws RX9 TX9 16, w ∈ ws_kc_X9_isThere_1_3 := fun w h => List.mem_cons_of_mem _ (wy_layX9 w h)
  refine lv_iload_n hx hb dX9_isThere_0 rfl (lv_at hl 1 rfl) ?_
  refine lv_if_lt (tgt := 28) hx hb dX9_isThere_1 (by decide) (fun c1 => absurd c1 (by decide +kernel)) (fun _ => ?_)
  refine lv_iload_n hx hb dX9_isThere_4 rfl (lv_at hl 1 rfl) ?_
  refine lv_bipush (v := iI 8) hx hb dX9_isThere_5 (by decide +kernel) ?_
  refine lv_icmp_ge (tgt := 28) hx hb dX9_isThere_7 (by decide) (fun c2 => absurd c2 (by decide +kernel)) (fun _ => ?_)
  refine lv_iload_n hx hb dX9_isThere_10 rfl (lv_at hl 2 rfl) ?_
  refine lv_if_lt (tgt := 28) hx hb dX9_isThere_11 (by decide) (fun c3 => ?_) (fun c3 => ?_)
  · have c3 : x2 < 0 := (i_lt0 hx2).mp c3
    refine lv_iconst (v := iI 0) hx hb dX9_isThere_28 (by decide +kernel) ?_
    exact RET 0 _ _ _ _ _ ⟨rfl, by omega⟩ hP hS dX9_isThere_29
  · have c3 : ¬ x2 < 0 := mt (i_lt0 hx2).mpr c3
    refine lv_iload_n hx hb dX9_isThere_14 rfl (lv_at hl 2 rfl) ?_
    refine lv_aload_n hx hb dX9_isThere_15 rfl (lv_at hl 0 rfl) ?_
    refine va_get (D := (dC, dI)) (ci := 9) (v := .ref (q (ta + 1))) (C := RX9) (T := TX9) (N := 16) hx hb hts hiX9 hown hK hP ta (wkT hta) rfl 0 (by decide) (hts _ (List.mem_cons_of_mem _ (wk_in_0 _ (List.mem_of_getElem? (i := 8) rfl)))) (fun _ h9 => h9) rfl dX9_isThere_16 ?_
    refine lv_iload_n hx hb dX9_isThere_19 rfl (lv_at hl 1 rfl) ?_
    refine x_iald (Wf := WK cB cI cJ cZ cQ q) hx hb hK hP (ta + 1) 1 (wkTc hta) rfl (by decide) (by decide) dX9_isThere_20 (fun z4 hz4 => ?_)
    have rz4 : (0 : Int) ≤ z4 ∧ z4 ≤ 3 := by rw [hz4]; exact irTc3 hta hI
    refine lv_icmp_ge (tgt := 28) hx hb dX9_isThere_21 (by decide) (fun c5 => ?_) (fun c5 => ?_)
    · have c5 : z4 ≤ x2 := (i_le (rb rz4 (by decide) (by decide)) hx2).mp c5
      refine lv_iconst (v := iI 0) hx hb dX9_isThere_28 (by decide +kernel) ?_
      exact RET 0 _ _ _ _ _ ⟨rfl, by omega⟩ hP hS dX9_isThere_29
    · have c5 : ¬ z4 ≤ x2 := mt (i_le (rb rz4 (by decide) (by decide)) hx2).mpr c5
      refine lv_iconst (v := iI 1) hx hb dX9_isThere_24 (by decide +kernel) ?_
      refine lv_goto (tgt := 29) hx hb dX9_isThere_25 (by decide) ?_
      exact RET 1 _ _ _ _ _ ⟨rfl, by omega⟩ hP hS dX9_isThere_29

def ws_kc_X9_isThere_1_4 : List Cond := .code yX9_isThere cX9_isThere 3 (some .boolean) :: WY
set_option maxHeartbeats 4000000 in
set_option maxRecDepth 100000 in
theorem kc_X9_isThere_1_4 (l : Launch) (dC : Nat → ClassId) (dI : Nat → Nat → Nat) (cB cI cJ cZ cQ : ClassId) (aL aS : Nat) (q : Nat → Nat) (A : St) (ta : Nat) (x2 : Int) (hI : IK A) (hta : isT ta) (hx2 : (-2147483648 : Int) ≤ x2 ∧ x2 ≤ 2147483647) : KMi l yX9_isThere ws_kc_X9_isThere_1_4 ({ frames := 0, cells := 0, slots := 0, locals := 0 } : Room) aL aS (dC, dI) (tyA cB cI cJ cZ cQ) (WK cB cI cJ cZ cQ q) A [.ref (q ta), .int (iI 4), .int (iI x2)] (fun z u => A = u ∧ ((0 ≤ z ∧ z ≤ 1) ∧ (z = 1 → 0 ≤ x2 ∧ x2 ≤ 3))) := by
  refine k_metz (cc := cX9_isThere) (maxL := 3) WK_adr (plainFor_of_name (by decide +kernel)) rfl (Nat.le_of_ble_eq_true rfl) (fun z u h => h.2.1) (fun p e s m below meth c Q AS ls hx hb hml hown hts hK hDD hA0 hE RET H locs hP hS hl => ?_)
  have hown : s.vm.findClass RX9 = some m.cls := hown
  have hl : lv_has ls 3 [(0, .ref (q ta)), (1, .int (iI 4)), (2, .int (iI x2))] := hl
  have hiX9 : ∀ w ∈ u_ws RX9 TX9 16, w ∈ ws_kc_X9_isThere_1_4 := fun w h => List.mem_cons_of_mem _ (wy_layX9 w h)
  refine lv_iload_n hx hb dX9_isThere_0 rfl (lv_at hl 1 rfl) ?_
  refine lv_if_lt (tgt := 28) hx hb dX9_isThere_1 (by decide) (fun c1 => absurd c1 (by decide +kernel)) (fun _ => ?_)
  refine lv_iload_n hx hb dX9_isThere_4 rfl (lv_at hl 1 rfl) ?_
  refine lv_bipush (v := iI 8) hx hb dX9_isThere_5 (by decide +kernel) ?_
  refine lv_icmp_ge (tgt := 28) hx hb dX9_isThere_7 (by decide) (fun c2 => absurd c2 (by decide +kernel)) (fun _ => ?_)
  refine lv_iload_n hx hb dX9_isThere_10 rfl (lv_at hl 2 rfl) ?_
  refine lv_if_lt (tgt := 28) hx hb dX9_isThere_11 (by decide) (fun c3 => ?_) (fun c3 => ?_)
  · have c3 : x2 < 0 := (i_lt0 hx2).mp c3
    refine lv_iconst (v := iI 0) hx hb dX9_isThere_28 (by decide +kernel) ?_
    exact RET 0 _ _ _ _ _ ⟨rfl, by omega⟩ hP hS dX9_isThere_29
  · have c3 : ¬ x2 < 0 := mt (i_lt0 hx2).mpr c3
    refine lv_iload_n hx hb dX9_isThere_14 rfl (lv_at hl 2 rfl) ?_
    refine lv_aload_n hx hb dX9_isThere_15 rfl (lv_at hl 0 rfl) ?_
    refine va_get (D := (dC, dI)) (ci := 9) (v := .ref (q (ta + 1))) (C := RX9) (T := TX9) (N := 16) hx hb hts hiX9 hown hK hP ta (wkT hta) rfl 0 (by decide) (hts _ (List.mem_cons_of_mem _ (wk_in_0 _ (List.mem_of_getElem? (i := 8) rfl)))) (fun _ h9 => h9) rfl dX9_isThere_16 ?_
    refine lv_iload_n hx hb dX9_isThere_19 rfl (lv_at hl 1 rfl) ?_
    refine x_iald (Wf := WK cB cI cJ cZ cQ q) hx hb hK hP (ta + 1) 1 (wkTc hta) rfl (by decide) (by decide) dX9_isThere_20 (fun z4 hz4 => ?_)
    have rz4 : (0 : Int) ≤ z4 ∧ z4 ≤ 4 := by rw [hz4]; exact irTc4 hta hI
    refine lv_icmp_ge (tgt := 28) hx hb dX9_isThere_21 (by decide) (fun c5 => ?_) (fun c5 => ?_)
    · have c5 : z4 ≤ x2 := (i_le (rb rz4 (by decide) (by decide)) hx2).mp c5
      refine lv_iconst (v := iI 0) hx hb dX9_isThere_28 (by decide +kernel) ?_
      exact RET 0 _ _ _ _ _ ⟨rfl, by omega⟩ hP hS dX9_isThere_29
    · have c5 : ¬ z4 ≤ x2 := mt (i_le (rb rz4 (by decide) (by decide)) hx2).mpr c5
      refine lv_iconst (v := iI 1) hx hb dX9_isThere_24 (by decide +kernel) ?_
      refine lv_goto (tgt := 29) hx hb dX9_isThere_25 (by decide) ?_
      exact RET 1 _ _ _ _ _ ⟨rfl, by omega⟩ hP hS dX9_isThere_29

def ws_kc_X9_isThere_1_5 : List Cond := .code yX9_isThere cX9_isThere 3 (some .boolean) :: WY
set_option maxHeartbeats 4000000 in
set_option maxRecDepth 100000 in
theorem kc_X9_isThere_1_5 (l : Launch) (dC : Nat → ClassId) (dI : Nat → Nat → Nat) (cB cI cJ cZ cQ : ClassId) (aL aS : Nat) (q : Nat → Nat) (A : St) (ta : Nat) (x2 : Int) (hI : IK A) (hta : isT ta) (hx2 : (-2147483648 : Int) ≤ x2 ∧ x2 ≤ 2147483647) : KMi l yX9_isThere ws_kc_X9_isThere_1_5 ({ frames := 0, cells := 0, slots := 0, locals := 0 } : Room) aL aS (dC, dI) (tyA cB cI cJ cZ cQ) (WK cB cI cJ cZ cQ q) A [.ref (q ta), .int (iI 5), .int (iI x2)] (fun z u => A = u ∧ ((0 ≤ z ∧ z ≤ 1) ∧ (z = 1 → 0 ≤ x2 ∧ x2 ≤ 5))) := by
  refine k_metz (cc := cX9_isThere) (maxL := 3) WK_adr (plainFor_of_name (by decide +kernel)) rfl (Nat.le_of_ble_eq_true rfl) (fun z u h => h.2.1) (fun p e s m below meth c Q AS ls hx hb hml hown hts hK hDD hA0 hE RET H locs hP hS hl => ?_)
  have hown : s.vm.findClass RX9 = some m.cls := hown
  have hl : lv_has ls 3 [(0, .ref (q ta)), (1, .int (iI 5)), (2, .int (iI x2))] := hl
  have hiX9 : ∀ w ∈ u_ws RX9 TX9 16, w ∈ ws_kc_X9_isThere_1_5 := fun w h => List.mem_cons_of_mem _ (wy_layX9 w h)
  refine lv_iload_n hx hb dX9_isThere_0 rfl (lv_at hl 1 rfl) ?_
  refine lv_if_lt (tgt := 28) hx hb dX9_isThere_1 (by decide) (fun c1 => absurd c1 (by decide +kernel)) (fun _ => ?_)
  refine lv_iload_n hx hb dX9_isThere_4 rfl (lv_at hl 1 rfl) ?_
  refine lv_bipush (v := iI 8) hx hb dX9_isThere_5 (by decide +kernel) ?_
  refine lv_icmp_ge (tgt := 28) hx hb dX9_isThere_7 (by decide) (fun c2 => absurd c2 (by decide +kernel)) (fun _ => ?_)
  refine lv_iload_n hx hb dX9_isThere_10 rfl (lv_at hl 2 rfl) ?_
  refine lv_if_lt (tgt := 28) hx hb dX9_isThere_11 (by decide) (fun c3 => ?_) (fun c3 => ?_)
  · have c3 : x2 < 0 := (i_lt0 hx2).mp c3
    refine lv_iconst (v := iI 0) hx hb dX9_isThere_28 (by decide +kernel) ?_
    exact RET 0 _ _ _ _ _ ⟨rfl, by omega⟩ hP hS dX9_isThere_29
  · have c3 : ¬ x2 < 0 := mt (i_lt0 hx2).mpr c3
    refine lv_iload_n hx hb dX9_isThere_14 rfl (lv_at hl 2 rfl) ?_
    refine lv_aload_n hx hb dX9_isThere_15 rfl (lv_at hl 0 rfl) ?_
    refine va_get (D := (dC, dI)) (ci := 9) (v := .ref (q (ta + 1))) (C := RX9) (T := TX9) (N := 16) hx hb hts hiX9 hown hK hP ta (wkT hta) rfl 0 (by decide) (hts _ (List.mem_cons_of_mem _ (wk_in_0 _ (List.mem_of_getElem? (i := 8) rfl)))) (fun _ h9 => h9) rfl dX9_isThere_16 ?_
    refine lv_iload_n hx hb dX9_isThere_19 rfl (lv_at hl 1 rfl) ?_
    refine x_iald (Wf := WK cB cI cJ cZ cQ q) hx hb hK hP (ta + 1) 1 (wkTc hta) rfl (by decide) (by decide) dX9_isThere_20 (fun z4 hz4 => ?_)
    have rz4 : (0 : Int) ≤ z4 ∧ z4 ≤ 6 := by rw [hz4]; exact irTc5 hta hI
    refine lv_icmp_ge (tgt := 28) hx hb dX9_isThere_21 (by decide) (fun c5 => ?_) (fun c5 => ?_)
    · have c5 : z4 ≤ x2 := (i_le (rb rz4 (by decide) (by decide)) hx2).mp c5
      refine lv_iconst (v := iI 0) hx hb dX9_isThere_28 (by decide +kernel) ?_
      exact RET 0 _ _ _ _ _ ⟨rfl, by omega⟩ hP hS dX9_isThere_29
    · have c5 : ¬ z4 ≤ x2 := mt (i_le (rb rz4 (by decide) (by decide)) hx2).mpr c5
      refine lv_iconst (v := iI 1) hx hb dX9_isThere_24 (by decide +kernel) ?_
      refine lv_goto (tgt := 29) hx hb dX9_isThere_25 (by decide) ?_
      exact RET 1 _ _ _ _ _ ⟨rfl, by omega⟩ hP hS dX9_isThere_29

def ws_kc_X9_isThere_1_6 : List Cond := .code yX9_isThere cX9_isThere 3 (some .boolean) :: WY
set_option maxHeartbeats 4000000 in
set_option maxRecDepth 100000 in
theorem kc_X9_isThere_1_6 (l : Launch) (dC : Nat → ClassId) (dI : Nat → Nat → Nat) (cB cI cJ cZ cQ : ClassId) (aL aS : Nat) (q : Nat → Nat) (A : St) (ta : Nat) (x2 : Int) (hI : IK A) (hta : isT ta) (hx2 : (-2147483648 : Int) ≤ x2 ∧ x2 ≤ 2147483647) : KMi l yX9_isThere ws_kc_X9_isThere_1_6 ({ frames := 0, cells := 0, slots := 0, locals := 0 } : Room) aL aS (dC, dI) (tyA cB cI cJ cZ cQ) (WK cB cI cJ cZ cQ q) A [.ref (q ta), .int (iI 6), .int (iI x2)] (fun z u => A = u ∧ ((0 ≤ z ∧ z ≤ 1) ∧ (z = 1 → 0 ≤ x2 ∧ x2 ≤ 5))) := by
  refine k_metz (cc := cX9_isThere) (maxL := 3) WK_adr (plainFor_of_name (by decide +kernel)) rfl (Nat.le_of_ble_eq_true rfl) (fun z u h => h.2.1) (fun p e s m below meth c Q AS ls hx hb hml hown hts hK hDD hA0 hE RET H locs hP hS hl => ?_)
  have hown : s.vm.findClass RX9 = some m.cls := hown
  have hl : lv_has ls 3 [(0, .ref (q ta)), (1, .int (iI 6)), (2, .int (iI x2))] := hl
  have hiX9 : ∀ w ∈ u_ws RX9 TX9 16, w ∈ ws_kc_X9_isThere_1_6 := fun w h => List.mem_cons_of_mem _ (wy_layX9 w h)
  refine lv_iload_n hx hb dX9_isThere_0 rfl (lv_at hl 1 rfl) ?_
  refine lv_if_lt (tgt := 28) hx hb dX9_isThere_1 (by decide) (fun c1 => absurd c1 (by decide +kernel)) (fun _ => ?_)
  refine lv_iload_n hx hb dX9_isThere_4 rfl (lv_at hl 1 rfl) ?_
  refine lv_bipush (v := iI 8) hx hb dX9_isThere_5 (by decide +kernel) ?_
  refine lv_icmp_ge (tgt := 28) hx hb dX9_isThere_7 (by decide) (fun c2 => absurd c2 (by decide +kernel)) (fun _ => ?_)
  refine lv_iload_n hx hb dX9_isThere_10 rfl (lv_at hl 2 rfl) ?_
  refine lv_if_lt (tgt := 28) hx hb dX9_isThere_11 (by decide) (fun c3 => ?_) (fun c3 => ?_)
  · have c3 : x2 < 0 := (i_lt0 hx2).mp c3
    refine lv_iconst (v := iI 0) hx hb dX9_isThere_28 (by decide +kernel) ?_
    exact RET 0 _ _ _ _ _ ⟨rfl, by omega⟩ hP hS dX9_isThere_29
  · have c3 : ¬ x2 < 0 := mt (i_lt0 hx2).mpr c3
    refine lv_iload_n hx hb dX9_isThere_14 rfl (lv_at hl 2 rfl) ?_
    refine lv_aload_n hx hb dX9_isThere_15 rfl (lv_at hl 0 rfl) ?_
    refine va_get (D := (dC, dI)) (ci := 9) (v := .ref (q (ta + 1))) (C := RX9) (T := TX9) (N := 16) hx hb hts hiX9 hown hK hP ta (wkT hta) rfl 0 (by decide) (hts _ (List.mem_cons_of_mem _ (wk_in_0 _ (List.mem_of_getElem? (i := 8) rfl)))) (fun _ h9 => h9) rfl dX9_isThere_16 ?_
    refine lv_iload_n hx hb dX9_isThere_19 rfl (lv_at hl 1 rfl) ?_
    refine x_iald (Wf := WK cB cI cJ cZ cQ q) hx hb hK hP (ta + 1) 1 (wkTc hta) rfl (by decide) (by decide) dX9_isThere_20 (fun z4 hz4 => ?_)
    have rz4 : (0 : Int) ≤ z4 ∧ z4 ≤ 6 := by rw [hz4]; exact irTc6 hta hI
    refine lv_icmp_ge (tgt := 28) hx hb dX9_isThere_21 (by decide) (fun c5 => ?_) (fun c5 => ?_)
    · have c5 : z4 ≤ x2 := (i_le (rb rz4 (by decide) (by decide)) hx2).mp c5
      refine lv_iconst (v := iI 0) hx hb dX9_isThere_28 (by decide +kernel) ?_
      exact RET 0 _ _ _ _ _ ⟨rfl, by omega⟩ hP hS dX9_isThere_29
    · have c5 : ¬ z4 ≤ x2 := mt (i_le (rb rz4 (by decide) (by decide)) hx2).mpr c5
      refine lv_iconst (v := iI 1) hx hb dX9_isThere_24 (by decide +kernel) ?_
      refine lv_goto (tgt := 29) hx hb dX9_isThere_25 (by decide) ?_
      exact RET 1 _ _ _ _ _ ⟨rfl, by omega⟩ hP hS dX9_isThere_29

def ws_kc_X9_isThere_1_7 : List Cond := .code yX9_isThere cX9_isThere 3 (some .boolean) :: WY
set_option maxHeartbeats 4000000 in
set_option maxRecDepth 100000 in
theorem kc_X9_isThere_1_7 (l : Launch) (dC : Nat → ClassId) (dI : Nat → Nat → Nat) (cB cI cJ cZ cQ : ClassId) (aL aS : Nat) (q : Nat → Nat) (A : St) (ta : Nat) (x2 : Int) (hI : IK A) (hta : isT ta) (hx2 : (-2147483648 : Int) ≤ x2 ∧ x2 ≤ 2147483647) : KMi l yX9_isThere ws_kc_X9_isThere_1_7 ({ frames := 0, cells := 0, slots := 0, locals := 0 } : Room) aL aS (dC, dI) (tyA cB cI cJ cZ cQ) (WK cB cI cJ cZ cQ q) A [.ref (q ta), .int (iI 7), .int (iI x2)] (fun z u => A = u ∧ ((0 ≤ z ∧ z ≤ 1) ∧ (z = 1 → 0 ≤ x2 ∧ x2 ≤ 5))) := by
  refine k_metz (cc := cX9_isThere) (maxL := 3) WK_adr (plainFor_of_name (by decide +kernel)) rfl (Nat.le_of_ble_eq_true rfl) (fun z u h => h.2.1) (fun p e s m below meth c Q AS ls hx hb hml hown hts hK hDD hA0 hE RET H locs hP hS hl => ?_)
  have hown : s.vm.findClass RX9 = some m.cls := hown
  have hl : lv_has ls 3 [(0, .ref (q ta)), (1, .int (iI 7)), (2, .int (iI x2))] := hl
  have hiX9 : ∀ w ∈ u_ws RX9 TX9 16, w ∈ ws_kc_X9_isThere_1_7 := fun w h => List.mem_cons_of_mem _ (wy_layX9 w h)
  refine lv_iload_n hx hb dX9_isThere_0 rfl (lv_at hl 1 rfl) ?_
  refine lv_if_lt (tgt := 28) hx hb dX9_isThere_1 (by decide) (fun c1 => absurd c1 (by decide +kernel)) (fun _ => ?_)
  refine lv_iload_n hx hb dX9_isThere_4 rfl (lv_at hl 1 rfl) ?_
  refine lv_bipush (v := iI 8) hx hb dX9_isThere_5 (by decide +kernel) ?_
  refine lv_icmp_ge (tgt := 28) hx hb dX9_isThere_7 (by decide) (fun c2 => absurd c2 (by decide +kernel)) (fun _ => ?_)
  refine lv_iload_n hx hb dX9_isThere_10 rfl (lv_at hl 2 rfl) ?_
  refine lv_if_lt (tgt := 28) hx hb dX9_isThere_11 (by decide) (fun c3 => ?_) (fun c3 => ?_)
  · have c3 : x2 < 0 := (i_lt0 hx2).mp c3
    refine lv_iconst (v := iI 0) hx hb dX9_isThere_28 (by decide +kernel) ?_
    exact RET 0 _ _ _ _ _ ⟨rfl, by omega⟩ hP hS dX9_isThere_29
  · have c3 : ¬ x2 < 0 := mt (i_lt0 hx2).mpr c3
    refine lv_iload_n hx hb dX9_isThere_14 rfl (lv_at hl 2 rfl) ?_
    refine lv_aload_n hx hb dX9_isThere_15 rfl (lv_at hl 0 rfl) ?_
    refine va_get (D := (dC, dI)) (ci := 9) (v := .ref (q (ta + 1))) (C := RX9) (T := TX9) (N := 16) hx hb hts hiX9 hown hK hP ta (wkT hta) rfl 0 (by decide) (hts _ (List.mem_cons_of_mem _ (wk_in_0 _ (List.mem_of_getElem? (i := 8) rfl)))) (fun _ h9 => h9) rfl dX9_isThere_16 ?_
    refine lv_iload_n hx hb dX9_isThere_19 rfl (lv_at hl 1 rfl) ?_
    refine x_iald (Wf := WK cB cI cJ cZ cQ q) hx hb hK hP (ta + 1) 1 (wkTc hta) rfl (by decide) (by decide) dX9_isThere_20 (fun z4 hz4 => ?_)
    have rz4 : (0 : Int) ≤ z4 ∧ z4 ≤ 6 := by rw [hz4]; exact irTc7 hta hI
    refine lv_icmp_ge (tgt := 28) hx hb dX9_isThere_21 (by decide) (fun c5 => ?_) (fun c5 => ?_)
    · have c5 : z4 ≤ x2 := (i_le (rb rz4 (by decide) (by decide)) hx2).mp c5
      refine lv_iconst (v := iI 0) hx hb dX9_isThere_28 (by decide +kernel) ?_
      exact RET 0 _ _ _ _ _ ⟨rfl, by omega⟩ hP hS dX9_isThere_29
    · have c5 : ¬ z4 ≤ x2 := mt (i_le (rb rz4 (by decide) (by decide)) hx2).mpr c5
      refine lv_iconst (v := iI 1) hx hb dX9_isThere_24 (by decide +kernel) ?_
      refine lv_goto (tgt := 29) hx hb dX9_isThere_25 (by decide) ?_
      exact RET 1 _ _ _ _ _ ⟨rfl, by omega⟩ hP hS dX9_isThere_29

def ws_kc_X9_isThere : List Cond := .code yX9_isThere cX9_isThere 3 (some .boolean) :: WY
set_option maxHeartbeats 4000000 in
set_option maxRecDepth 100000 in
theorem kc_X9_isThere (l : Launch) (dC : Nat → ClassId) (dI : Nat → Nat → Nat) (cB cI cJ cZ cQ : ClassId) (aL aS : Nat) (q : Nat → Nat) (A : St) (ta : Nat) (x1 x2 : Int) (hI : IK A) (hta : isT ta) (hx1 : (-2147483648 : Int) ≤ x1 ∧ x1 ≤ 2147483647) (hx2 : (-2147483648 : Int) ≤ x2 ∧ x2 ≤ 2147483647) : KMi l yX9_isThere ws_kc_X9_isThere ({ frames := 0, cells := 0, slots := 0, locals := 0 } : Room) aL aS (dC, dI) (tyA cB cI cJ cZ cQ) (WK cB cI cJ cZ cQ q) A [.ref (q ta), .int (iI x1), .int (iI x2)] (fun z u => A = u ∧ ((0 ≤ z ∧ z ≤ 1) ∧ (z = 1 → 0 ≤ x1 ∧ x1 ≤ 7 ∧ 0 ≤ x2 ∧ x2 ≤ 9))) := by
  refine k_metz (cc := cX9_isThere) (maxL := 3) WK_adr (plainFor_of_name (by decide +kernel)) rfl (Nat.le_of_ble_eq_true rfl) (fun z u h => h.2.1) (fun p e s m below meth c Q AS ls hx hb hml hown hts hK hDD hA0 hE RET H locs hP hS hl => ?_)
  have hown : s.vm.findClass RX9 = some m.cls := hown
  have hl : lv_has ls 3 [(0, .ref (q ta)), (1, .int (iI x1)), (2, .int (iI x2))] := hl
  have hiX9 : ∀ w ∈ u_ws RX9 TX9 16, w ∈ ws_kc_X9_isThere := fun w h => List.mem_cons_of_mem _ (wy_layX9 w h)
  refine lv_iload_n hx hb dX9_isThere_0 rfl (lv_at hl 1 rfl) ?_
  refine lv_if_lt (tgt := 28) hx hb dX9_isThere_1 (by decide) (fun c1 => ?_) (fun c1 => ?_)
  · have c1 : x1 < 0 := (i_lt0 hx1).mp c1
    refine lv_iconst (v := iI 0) hx hb dX9_isThere_28 (by decide +kernel) ?_
    exact RET 0 _ _ _ _ _ ⟨rfl, by omega⟩ hP hS dX9_isThere_29
  · have c1 : ¬ x1 < 0 := mt (i_lt0 hx1).mpr c1
    refine lv_iload_n hx hb dX9_isThere_4 rfl (lv_at hl 1 rfl) ?_
    refine lv_bipush (v := iI 8) hx hb dX9_isThere_5 (by decide +kernel) ?_
    refine lv_icmp_ge (tgt := 28) hx hb dX9_isThere_7 (by decide) (fun c2 => ?_) (fun c2 => ?_)
    · have c2 : 8 ≤ x1 := (i_le ⟨by decide, by decide⟩ hx1).mp c2
      refine lv_iconst (v := iI 0) hx hb dX9_isThere_28 (by decide +kernel) ?_
      exact RET 0 _ _ _ _ _ ⟨rfl, by omega⟩ hP hS dX9_isThere_29
    · have c2 : ¬ 8 ≤ x1 := mt (i_le ⟨by decide, by decide⟩ hx1).mpr c2
      refine lv_iload_n hx hb dX9_isThere_10 rfl (lv_at hl 2 rfl) ?_
      refine lv_if_lt (tgt := 28) hx hb dX9_isThere_11 (by decide) (fun c3 => ?_) (fun c3 => ?_)
      · have c3 : x2 < 0 := (i_lt0 hx2).mp c3
        refine lv_iconst (v := iI 0) hx hb dX9_isThere_28 (by decide +kernel) ?_
        exact RET 0 _ _ _ _ _ ⟨rfl, by omega⟩ hP hS dX9_isThere_29
      · have c3 : ¬ x2 < 0 := mt (i_lt0 hx2).mpr c3
        refine lv_iload_n hx hb dX9_isThere_14 rfl (lv_at hl 2 rfl) ?_
        refine lv_aload_n hx hb dX9_isThere_15 rfl (lv_at hl 0 rfl) ?_
        refine va_get (D := (dC, dI)) (ci := 9) (v := .ref (q (ta + 1))) (C := RX9) (T := TX9) (N := 16) hx hb hts hiX9 hown hK hP ta (wkT hta) rfl 0 (by decide) (hts _ (List.mem_cons_of_mem _ (wk_in_0 _ (List.mem_of_getElem? (i := 8) rfl)))) (fun _ h9 => h9) rfl dX9_isThere_16 ?_
        refine lv_iload_n hx hb dX9_isThere_19 rfl (lv_at hl 1 rfl) ?_
        refine x_iald (Wf := WK cB cI cJ cZ cQ q) hx hb hK hP (ta + 1) 1 (wkTc hta) rfl (by omega) (by decide) dX9_isThere_20 (fun z4 hz4 => ?_)
        have rz4 : (0 : Int) ≤ z4 ∧ z4 ≤ 10 := by rw [hz4]; exact irTc hta hI
        refine lv_icmp_ge (tgt := 28) hx hb dX9_isThere_21 (by decide) (fun c5 => ?_) (fun c5 => ?_)
        · have c5 : z4 ≤ x2 := (i_le (rb rz4 (by decide) (by decide)) hx2).mp c5
          refine lv_iconst (v := iI 0) hx hb dX9_isThere_28 (by decide +kernel) ?_
          exact RET 0 _ _ _ _ _ ⟨rfl, by omega⟩ hP hS dX9_isThere_29
        · have c5 : ¬ z4 ≤ x2 := mt (i_le (rb rz4 (by decide) (by decide)) hx2).mpr c5
          refine lv_iconst (v := iI 1) hx hb dX9_isThere_24 (by decide +kernel) ?_
          refine lv_goto (tgt := 29) hx hb dX9_isThere_25 (by decide) ?_
          exact RET 1 _ _ _ _ _ ⟨rfl, by omega⟩ hP hS dX9_isThere_29

def ws_kc_X0_prepareWants : List Cond := .code yX0_prepareWants cX0_prepareWants 4 none :: WY
set_option maxHeartbeats 4000000 in
set_option maxRecDepth 100000 in
theorem kc_X0_prepareWants (l : Launch) (dC : Nat → ClassId) (dI : Nat → Nat → Nat) (cB cI cJ cZ cQ : ClassId) (aL aS : Nat) (q : Nat → Nat) (A : St) (ta : Nat) (x2 : Int) (hI : IK A) (hta : isT ta) (hx2 : (0 : Int) ≤ x2 ∧ x2 ≤ 2) : KMv l yX0_prepareWants ws_kc_X0_prepareWants ({ frames := 0, cells := 0, slots := 0, locals := 0 } : Room) aL aS (dC, dI) (tyA cB cI cJ cZ cQ) (WK cB cI cJ cZ cQ q) A [.ref (q 6), .ref (q ta), .int (iI x2)] (fun u => IK u ∧ fk [17] [(6, 9)] A u ∧ (True)) := by
  refine k_metv (cc := cX0_prepareWants) (maxL := 4) WK_adr (plainFor_of_name (by decide +kernel)) rfl (Nat.le_of_ble_eq_true rfl) (fun p e s m below meth c Q AS ls hx hb hml hown hts hK hDD hA0 hE RET H locs hP hS hl => ?_)
  have hown : s.vm.findClass RX0 = some m.cls := hown
  have hl : lv_has ls 4 [(0, .ref (q 6)), (1, .ref (q ta)), (2, .int (iI x2))] := hl
  have hiX0 : ∀ w ∈ u_ws RX0 TX0 17, w ∈ ws_kc_X0_prepareWants := fun w h => List.mem_cons_of_mem _ (wy_layX0 w h)
  have hiX9 : ∀ w ∈ u_ws RX9 TX9 16, w ∈ ws_kc_X0_prepareWants := fun w h => List.mem_cons_of_mem _ (wy_layX9 w h)
  refine lv_aload_n hx hb dX0_prepareWants_0 rfl (lv_at hl 0 rfl) ?_
  refine lv_iconst (v := iI 0) hx hb dX0_prepareWants_1 (by decide +kernel) ?_
  refine k_put (Wf := WK cB cI cJ cZ cQ q) (D := (dC, dI)) (ci := 0) (v := .int (iI 0)) (ty := .int) (C := RX0) (T := TX0) (N := 17) hx hb hts hiX0 tyX0 tyX0_ok nmX0 hown hK hP hDD hS 6 (wkAL) rfl 9 (by decide) (hts _ (List.mem_cons_of_mem _ (wk_in_0 _ (List.mem_of_getElem? (i := 29) rfl)))) (fun _ h9 => h9) rfl (by decide +kernel) rfl rfl (Nat.le_of_ble_eq_true rfl) dX0_prepareWants_2 (wfAL_9 (v := 0)) (fun H locs A1 hA1 hP hS => ?_)
  have hI := isAL_9 hA1 hI (show (0 : Int) ≤ 0 ∧ 0 ≤ 2 from ⟨by decide, by decide⟩)
  refine lv_aload_n hx hb dX0_prepareWants_5 rfl (lv_at hl 0 rfl) ?_
  have e2 : A1 6 13 = (A 6 13) := (rd_at hA1 (by decide))
  have r3 : (-2147483648 : Int) ≤ (A 6 13) ∧ (A 6 13) ≤ 2147483647 := by rw [← e2]; exact irAL_13 hI
  refine va_get (D := (dC, dI)) (ci := 0) (v := .int (iI (A1 6 13))) (C := RX0) (T := TX0) (N := 17) hx hb hts hiX0 hown hK hP 6 (wkAL) rfl 13 (by decide) (hts _ (List.mem_cons_of_mem _ (wk_in_0 _ (List.mem_of_getElem? (i := 16) rfl)))) (fun _ h9 => h9) rfl dX0_prepareWants_6 ?_
  refine tp_i (y := iI (A 6 13)) (congrArg iI e2) ?_
  refine lv_iconst (v := iI 2) hx hb dX0_prepareWants_9 (by decide +kernel) ?_
  refine lv_icmp_eq (tgt := 14) hx hb dX0_prepareWants_10 (by decide) (fun c4 => ?_) (fun c4 => ?_)
  · have c4 : (A 6 13) = 2 := (i_eq r3 ⟨by decide, by decide⟩).mp c4
    refine lv_iconst (v := iI 0) hx hb dX0_prepareWants_14 (by decide +kernel) ?_
    refine lv_istore_n (lv' := [(3, .int (iI 0)), (0, .ref (q 6)), (1, .ref (q ta)), (2, .int (iI x2))]) hx hb dX0_prepareWants_15 rfl hl (by decide) rfl (fun ls hl => ?_)
    have L16_8 : ∀ (n14 : Nat) (z5 : Int) (A7 : St) (H : Heap) (locs : List Loc) (ls : Array Slot), (0 ≤ z5 ∧ z5 ≤ 2147483647) → ((5 - z5).toNat = n14) → IK A7 → fk [17] [(6, 9)] A1 A7 → va_P (dC, dI) vwCl (WK cB cI cJ cZ cQ q A7) H → va_S AS s.heap H locs → lv_has ls 4 [(3, .int (iI z5)), (0, .ref (q 6)), (1, .ref (q ta)), (2, .int (iI x2))] → W p l e (headSpec ws_kc_X0_prepareWants ({ frames := 0, cells := 0, slots := 0, locals := 0 } : Room)).room s m [.ref (q 6), .ref (q ta), .int (iI x2)].toArray below meth c H locs 0 0 Q (F0 m 16 ls []) := by
      intro n14
      induction n14 using Nat.strongRecOn with
      | ind n14 ih9 =>
        intro z5 A7 H locs ls f10 hn14 hI hj6 hP hS hl
        refine lv_iload_n hx hb dX0_prepareWants_16 rfl (lv_at hl 0 rfl) ?_
        refine lv_aload_n hx hb dX0_prepareWants_17 rfl (lv_at hl 2 rfl) ?_
        refine va_get (D := (dC, dI)) (ci := 9) (v := .ref (q (ta + 1))) (C := RX9) (T := TX9) (N := 16) hx hb hts hiX9 hown hK hP ta (wkT hta) rfl 0 (by decide) (hts _ (List.mem_cons_of_mem _ (wk_in_0 _ (List.mem_of_getElem? (i := 1) rfl)))) (fun _ h9 => h9) rfl dX0_prepareWants_18 ?_
        refine lv_iconst (v := iI 4) hx hb dX0_prepareWants_21 (by decide +kernel) ?_
        have a16 : ∀ k, A1 (ta + 1) k = A (ta + 1) k := fun k => rd_ne hA1 (by rcases hta with h | h <;> omega) k
        have a15 : ∀ k, A7 (ta + 1) k = A (ta + 1) k := fun k => (hj6 (ta + 1) k (isT.b2 (o := fun b => List.contains [17] (b + 1)) hta rfl rfl) (isT.b2 (o := fun b => fin2 [(6, 9)] (b + 1) k) hta rfl rfl)).trans (a16 k)
        refine x_iald (Wf := WK cB cI cJ cZ cQ q) hx hb hK hP (ta + 1) 1 (wkTc hta) rfl (by decide) (by decide) dX0_prepareWants_22 (fun z17 hz17 => ?_)
        have rz17 : (0 : Int) ≤ z17 ∧ z17 ≤ 4 := by rw [hz17]; exact irTc4 hta hI
        have hz17 : z17 = A (ta + 1) (4 : Int).toNat := hz17.trans (a15 _)
        refine lv_icmp_ge (tgt := 78) hx hb dX0_prepareWants_23 (by decide) (fun c18 => ?_) (fun c18 => ?_)
        · have c18 : z17 ≤ z5 := (i_le (rb rz17 (by decide) (by decide)) (rb f10 (by decide) (by decide))).mp c18
          exact RET _ _ _ _ _ ⟨hI, fk.trans (fk.df (fk.rf) hA1 rfl) hj6 rfl rfl, trivial⟩ hP hS dX0_prepareWants_78
        · have c18 : ¬ z17 ≤ z5 := mt (i_le (rb rz17 (by decide) (by decide)) (rb f10 (by decide) (by decide))).mpr c18
          refine lv_aload_n hx hb dX0_prepareWants_26 rfl (lv_at hl 2 rfl) ?_
          refine va_get (D := (dC, dI)) (ci := 9) (v := .ref (q (ta + 12))) (C := RX9) (T := TX9) (N := 16) hx hb hts hiX9 hown hK hP ta (wkT hta) rfl 6 (by decide) (hts _ (List.mem_cons_of_mem _ (wk_in_0 _ (List.mem_of_getElem? (i := 30) rfl)))) (fun _ h9 => h9) rfl dX0_prepareWants_27 ?_
          refine lv_iload_n hx hb dX0_prepareWants_30 rfl (lv_at hl 3 rfl) ?_
          have a20 : ∀ k, A1 (ta + 12) k = A (ta + 12) k := fun k => rd_ne hA1 (by rcases hta with h | h <;> omega) k
          have a19 : ∀ k, A7 (ta + 12) k = A (ta + 12) k := fun k => (hj6 (ta + 12) k (isT.b2 (o := fun b => List.contains [17] (b + 12)) hta rfl rfl) (isT.b2 (o := fun b => fin2 [(6, 9)] (b + 12) k) hta rfl rfl)).trans (a20 k)
          refine x_iald (Wf := WK cB cI cJ cZ cQ q) hx hb hK hP (ta + 12) 1 (wkTw hta) rfl (by omega) (by decide) dX0_prepareWants_31 (fun z21 hz21 => ?_)
          have rz21 : (-2147483648 : Int) ≤ z21 ∧ z21 ≤ 2147483647 := by rw [hz21]; exact irTw hta hI
          have hz21 : z21 = A (ta + 12) (x2).toNat := hz21.trans (a19 _)
          refine lv_iload_n hx hb dX0_prepareWants_32 rfl (lv_at hl 0 rfl) ?_
          refine lv_ishr hx hb dX0_prepareWants_33 ?_
          refine x_abs (fun z22 hz22 => ?_)
          refine lv_iconst (v := iI 1) hx hb dX0_prepareWants_34 (by decide +kernel) ?_
          refine lv_iand hx hb dX0_prepareWants_35 ?_
          refine x_and (b := 1) (by omega) (fun z23 hz23 => ?_)
          have J72_25 : ∀ (A35 : St) (H : Heap) (locs : List Loc) (ls : Array Slot), IK A35 → fk [17] [(6, 9)] A7 A35 → va_P (dC, dI) vwCl (WK cB cI cJ cZ cQ q A35) H → va_S AS s.heap H locs → lv_has ls 4 [(3, .int (iI z5)), (0, .ref (q 6)), (1, .ref (q ta)), (2, .int (iI x2))] → W p l e (headSpec ws_kc_X0_prepareWants ({ frames := 0, cells := 0, slots := 0, locals := 0 } : Room)).room s m [.ref (q 6), .ref (q ta), .int (iI x2)].toArray below meth c H locs 0 0 Q (F0 m 72 ls []) := by
            intro A35 H locs ls hI hj34 hP hS hl
            refine lv_iinc (v := iI (z5 + 1)) (lv' := [(3, .int (iI (z5 + 1))), (0, .ref (q 6)), (1, .ref (q ta)), (2, .int (iI x2))]) hx hb dX0_prepareWants_72 hl (k := 0) rfl (i_inc (by omega)) (by decide) rfl (fun ls hl => ?_)
            refine lv_goto (tgt := 16) hx hb dX0_prepareWants_75 (by decide) ?_
            exact ih9 _ (by omega) (z5 + 1) _ _ _ _ (by omega) rfl hI (fk.trans (fk.trans (fk.rf) hj6 rfl rfl) hj34 rfl rfl) hP hS (lv_sub hl [0, 1, 2, 3] rfl)
          refine lv_if_eq (tgt := 72) hx hb dX0_prepareWants_36 (by decide) (fun c24 => ?_) (fun c24 => ?_)
          · have c24 : z23 = 0 := (i_eq0 (by omega)).mp c24
            exact J72_25 _ _ _ _ hI (fk.rf) hP hS (lv_sub hl [0, 1, 2, 3] rfl)
          · have c24 : ¬ z23 = 0 := mt (i_eq0 (by omega)).mpr c24
            refine lv_aload_n hx hb dX0_prepareWants_39 rfl (lv_at hl 1 rfl) ?_
            have r26 : (0 : Int) ≤ (A7 6 9) ∧ (A7 6 9) ≤ 2 := irAL_9 hI
            refine va_get (D := (dC, dI)) (ci := 0) (v := .int (iI (A7 6 9))) (C := RX0) (T := TX0) (N := 17) hx hb hts hiX0 hown hK hP 6 (wkAL) rfl 9 (by decide) (hts _ (List.mem_cons_of_mem _ (wk_in_0 _ (List.mem_of_getElem? (i := 29) rfl)))) (fun _ h9 => h9) rfl dX0_prepareWants_40 ?_
            refine lv_iconst (v := iI 2) hx hb dX0_prepareWants_43 (by decide +kernel) ?_
            refine lv_icmp_ge (tgt := 72) hx hb dX0_prepareWants_44 (by decide) (fun c27 => ?_) (fun c27 => ?_)
            · have c27 : 2 ≤ (A7 6 9) := (i_le ⟨by decide, by decide⟩ (rb r26 (by decide) (by decide))).mp c27
              exact J72_25 _ _ _ _ hI (fk.rf) hP hS (lv_sub hl [0, 1, 2, 3] rfl)
            · have c27 : ¬ 2 ≤ (A7 6 9) := mt (i_le ⟨by decide, by decide⟩ (rb r26 (by decide) (by decide))).mpr c27
              refine lv_aload_n hx hb dX0_prepareWants_47 rfl (lv_at hl 1 rfl) ?_
              refine va_get (D := (dC, dI)) (ci := 0) (v := .ref (q 17)) (C := RX0) (T := TX0) (N := 17) hx hb hts hiX0 hown hK hP 6 (wkAL) rfl 6 (by decide) (hts _ (List.mem_cons_of_mem _ (wk_in_0 _ (List.mem_of_getElem? (i := 31) rfl)))) (fun _ h9 => h9) rfl dX0_prepareWants_48 ?_
              refine lv_aload_n hx hb dX0_prepareWants_51 rfl (lv_at hl 1 rfl) ?_
              refine va_get (D := (dC, dI)) (ci := 0) (v := .int (iI (A7 6 9))) (C := RX0) (T := TX0) (N := 17) hx hb hts hiX0 hown hK hP 6 (wkAL) rfl 9 (by decide) (hts _ (List.mem_cons_of_mem _ (wk_in_0 _ (List.mem_of_getElem? (i := 29) rfl)))) (fun _ h9 => h9) rfl dX0_prepareWants_52 ?_
              refine lv_aload_n hx hb dX0_prepareWants_55 rfl (lv_at hl 2 rfl) ?_
              refine va_get (D := (dC, dI)) (ci := 9) (v := .ref (q (ta + 11))) (C := RX9) (T := TX9) (N := 16) hx hb hts hiX9 hown hK hP ta (wkT hta) rfl 5 (by decide) (hts _ (List.mem_cons_of_mem _ (wk_in_0 _ (List.mem_of_getElem? (i := 32) rfl)))) (fun _ h9 => h9) rfl dX0_prepareWants_56 ?_
              refine lv_iload_n hx hb dX0_prepareWants_59 rfl (lv_at hl 0 rfl) ?_
              have a29 : ∀ k, A1 (ta + 11) k = A (ta + 11) k := fun k => rd_ne hA1 (by rcases hta with h | h <;> omega) k
              have a28 : ∀ k, A7 (ta + 11) k = A (ta + 11) k := fun k => (hj6 (ta + 11) k (isT.b2 (o := fun b => List.contains [17] (b + 11)) hta rfl rfl) (isT.b2 (o := fun b => fin2 [(6, 9)] (b + 11) k) hta rfl rfl)).trans (a29 k)
              refine x_iald (Wf := WK cB cI cJ cZ cQ q) hx hb hK hP (ta + 11) 1 (wkTt hta) rfl (by omega) (by decide) dX0_prepareWants_60 (fun z30 hz30 => ?_)
              have rz30 : (-2147483648 : Int) ≤ z30 ∧ z30 ≤ 2147483647 := by rw [hz30]; exact irTt hta hI
              have hz30 : z30 = A (ta + 11) (z5).toNat := hz30.trans (a28 _)
              refine k_iast (Wf := WK cB cI cJ cZ cQ q) hx hb hK hP hDD hS 17 1 (wkALw) rfl (by omega) (by decide) dX0_prepareWants_61 (wsALw) (fun H locs A31 hA31 hP hS => ?_)
              have hI := isALw hA31 hI (show (-2147483648 : Int) ≤ z30 ∧ z30 ≤ 2147483647 from rz30)
              refine lv_aload_n hx hb dX0_prepareWants_62 rfl (lv_at hl 1 rfl) ?_
              refine lv_dup hx hb dX0_prepareWants_63 rfl ?_
              have e32 : A31 6 9 = (A7 6 9) := (rd_ne hA31 (by decide) 9)
              refine va_get (D := (dC, dI)) (ci := 0) (v := .int (iI (A31 6 9))) (C := RX0) (T := TX0) (N := 17) hx hb hts hiX0 hown hK hP 6 (wkAL) rfl 9 (by decide) (hts _ (List.mem_cons_of_mem _ (wk_in_0 _ (List.mem_of_getElem? (i := 29) rfl)))) (fun _ h9 => h9) rfl dX0_prepareWants_64 ?_
              refine tp_i (y := iI (A7 6 9)) (congrArg iI e32) ?_
              refine lv_iconst (v := iI 1) hx hb dX0_prepareWants_67 (by decide +kernel) ?_
              refine x_addv (v := (A7 6 9) + 1) hx hb dX0_prepareWants_68 (by omega) ?_
              refine k_put (Wf := WK cB cI cJ cZ cQ q) (D := (dC, dI)) (ci := 0) (v := .int (iI ((A7 6 9) + 1))) (ty := .int) (C := RX0) (T := TX0) (N := 17) hx hb hts hiX0 tyX0 tyX0_ok nmX0 hown hK hP hDD hS 6 (wkAL) rfl 9 (by decide) (hts _ (List.mem_cons_of_mem _ (wk_in_0 _ (List.mem_of_getElem? (i := 29) rfl)))) (fun _ h9 => h9) rfl (by decide +kernel) rfl rfl (Nat.le_of_ble_eq_true rfl) dX0_prepareWants_69 (wfAL_9 (v := (A7 6 9) + 1)) (fun H locs A33 hA33 hP hS => ?_)
              have hI := isAL_9 hA33 hI (show (0 : Int) ≤ (A7 6 9) + 1 ∧ (A7 6 9) + 1 ≤ 2 from (by omega))
              exact J72_25 _ _ _ _ hI (fk.df (fk.da (fk.rf) hA31 rfl) hA33 rfl) hP hS (lv_sub hl [0, 1, 2, 3] rfl)
    exact L16_8 _ 0 _ _ _ _ (by omega) rfl hI (fk.rf) hP hS (lv_sub hl [0, 1, 2, 3] rfl)
  · have c4 : ¬ (A 6 13) = 2 := mt (i_eq r3 ⟨by decide, by decide⟩).mpr c4
    exact RET _ _ _ _ _ ⟨hI, fk.df (fk.rf) hA1 rfl, trivial⟩ hP hS dX0_prepareWants_13

abbrev tr_r_X6_inRow (ta : Nat) (x1 : Int) (x2 : Int) (A : St) (z : Int) : Prop := (((x1 < 0) ∧ (z = (-1))) ∨ ((¬ x1 < 0) ∧ (((4 ≤ x1) ∧ (z = (-1))) ∨ ((¬ 4 ≤ x1) ∧ (((x2 < 0) ∧ (z = (-1))) ∨ ((¬ x2 < 0) ∧ (∃ z4 : Int, z4 = A (ta + 3) (x1).toNat ∧ (((z4 ≤ x2) ∧ (z = (-1))) ∨ ((¬ z4 ≤ x2) ∧ (∃ z7 : Int, z7 = A (ta + 5 + (x1).toNat) (x2).toNat ∧ (z = z7)))))))))))
def r_X6_inRow (ta : Nat) (x1 : Int) (x2 : Int) (A : St) (z : Int) : Prop := tr_r_X6_inRow ta x1 x2 A z
theorem u_r_X6_inRow {ta : Nat} {x1 : Int} {x2 : Int} {A : St} {z : Int} (h : tr_r_X6_inRow ta x1 x2 A z) : r_X6_inRow ta x1 x2 A z := h
def q_X6_inRow (ta : Nat) (x1 : Int) (x2 : Int) (A : St) (z : Int) : Prop := r_X6_inRow ta x1 x2 A z ∧ ((-2147483648 ≤ z ∧ z ≤ 2147483647) ∧ (z = -1 ∨ 0 ≤ x1 ∧ x1 ≤ 3 ∧ 0 ≤ x2 ∧ x2 ≤ 5 ∧ x2 < A (ta + 3) x1.toNat))
def ws_kc_X6_inRow : List Cond := .code yX6_inRow cX6_inRow 3 (some .int) :: WY
set_option maxHeartbeats 4000000 in
set_option maxRecDepth 100000 in
theorem kc_X6_inRow (l : Launch) (dC : Nat → ClassId) (dI : Nat → Nat → Nat) (cB cI cJ cZ cQ : ClassId) (aL aS : Nat) (q : Nat → Nat) (A : St) (ta : Nat) (x1 x2 : Int) (hI : IK A) (hta : isS ta) (hx1 : (-2147483648 : Int) ≤ x1 ∧ x1 ≤ 2147483647) (hx2 : (-2147483648 : Int) ≤ x2 ∧ x2 ≤ 2147483647) : KMi l yX6_inRow ws_kc_X6_inRow ({ frames := 0, cells := 0, slots := 0, locals := 0 } : Room) aL aS (dC, dI) (tyA cB cI cJ cZ cQ) (WK cB cI cJ cZ cQ q) A [.ref (q ta), .int (iI x1), .int (iI x2)] (fun z u => A = u ∧ r_X6_inRow ta x1 x2 A z ∧ ((-2147483648 ≤ z ∧ z ≤ 2147483647) ∧ (z = -1 ∨ 0 ≤ x1 ∧ x1 ≤ 3 ∧ 0 ≤ x2 ∧ x2 ≤ 5 ∧ x2 < A (ta + 3) x1.toNat))) := by
  refine k_meti (cc := cX6_inRow) (maxL := 3) WK_adr (plainFor_of_name (by decide +kernel)) rfl (Nat.le_of_ble_eq_true rfl) (fun p e s m below meth c Q AS ls hx hb hml hown hts hK hDD hA0 hE RET H locs hP hS hl => ?_)
  have hown : s.vm.findClass RX6 = some m.cls := hown
  have hl : lv_has ls 3 [(0, .ref (q ta)), (1, .int (iI x1)), (2, .int (iI x2))] := hl
  have hiX6 : ∀ w ∈ u_ws RX6 TX6 4, w ∈ ws_kc_X6_inRow := fun w h => List.mem_cons_of_mem _ (wy_layX6 w h)
  refine lv_iload_n hx hb dX6_inRow_0 rfl (lv_at hl 1 rfl) ?_
  refine lv_if_lt (tgt := 29) hx hb dX6_inRow_1 (by decide) (fun c1 => ?_) (fun c1 => ?_)
  · have c1 : x1 < 0 := (i_lt0 hx1).mp c1
    refine lv_iconst (v := iI (-1)) hx hb dX6_inRow_29 (by decide +kernel) ?_
    exact RET (-1) _ _ _ _ _ ⟨rfl, (u_r_X6_inRow (Or.inl ⟨c1, rfl⟩)), by omega⟩ hP hS dX6_inRow_30
  · have c1 : ¬ x1 < 0 := mt (i_lt0 hx1).mpr c1
    refine lv_iload_n hx hb dX6_inRow_4 rfl (lv_at hl 1 rfl) ?_
    refine lv_iconst (v := iI 4) hx hb dX6_inRow_5 (by decide +kernel) ?_
    refine lv_icmp_ge (tgt := 29) hx hb dX6_inRow_6 (by decide) (fun c2 => ?_) (fun c2 => ?_)
    · have c2 : 4 ≤ x1 := (i_le ⟨by decide, by decide⟩ hx1).mp c2
      refine lv_iconst (v := iI (-1)) hx hb dX6_inRow_29 (by decide +kernel) ?_
      exact RET (-1) _ _ _ _ _ ⟨rfl, (u_r_X6_inRow (Or.inr ⟨c1, (Or.inl ⟨c2, rfl⟩)⟩)), by omega⟩ hP hS dX6_inRow_30
    · have c2 : ¬ 4 ≤ x1 := mt (i_le ⟨by decide, by decide⟩ hx1).mpr c2
      refine lv_iload_n hx hb dX6_inRow_9 rfl (lv_at hl 2 rfl) ?_
      refine lv_if_lt (tgt := 29) hx hb dX6_inRow_10 (by decide) (fun c3 => ?_) (fun c3 => ?_)
      · have c3 : x2 < 0 := (i_lt0 hx2).mp c3
        refine lv_iconst (v := iI (-1)) hx hb dX6_inRow_29 (by decide +kernel) ?_
        exact RET (-1) _ _ _ _ _ ⟨rfl, (u_r_X6_inRow (Or.inr ⟨c1, (Or.inr ⟨c2, (Or.inl ⟨c3, rfl⟩)⟩)⟩)), by omega⟩ hP hS dX6_inRow_30
      · have c3 : ¬ x2 < 0 := mt (i_lt0 hx2).mpr c3
        refine lv_iload_n hx hb dX6_inRow_13 rfl (lv_at hl 2 rfl) ?_
        refine lv_aload_n hx hb dX6_inRow_14 rfl (lv_at hl 0 rfl) ?_
        refine va_get (D := (dC, dI)) (ci := 6) (v := .ref (q (ta + 3))) (C := RX6) (T := TX6) (N := 4) hx hb hts hiX6 hown hK hP ta (wkS hta) rfl 2 (by decide) (hts _ (List.mem_cons_of_mem _ (wk_in_0 _ (List.mem_of_getElem? (i := 58) rfl)))) (fun _ h9 => h9) rfl dX6_inRow_15 ?_
        refine lv_iload_n hx hb dX6_inRow_18 rfl (lv_at hl 1 rfl) ?_
        refine x_iald (Wf := WK cB cI cJ cZ cQ q) hx hb hK hP (ta + 3) 1 (wkSz hta) rfl (by omega) (by decide) dX6_inRow_19 (fun z4 hz4 => ?_)
        have rz4 : (0 : Int) ≤ z4 ∧ z4 ≤ 6 := by rw [hz4]; exact irSz hta hI
        have gz4 := Hd.mk hz4
        refine lv_icmp_ge (tgt := 29) hx hb dX6_inRow_20 (by decide) (fun c5 => ?_) (fun c5 => ?_)
        · have c5 : z4 ≤ x2 := (i_le (rb rz4 (by decide) (by decide)) hx2).mp c5
          refine lv_iconst (v := iI (-1)) hx hb dX6_inRow_29 (by decide +kernel) ?_
          exact RET (-1) _ _ _ _ _ ⟨rfl, (u_r_X6_inRow (Or.inr ⟨c1, (Or.inr ⟨c2, (Or.inr ⟨c3, ⟨z4, gz4.out, (Or.inl ⟨c5, rfl⟩)⟩⟩)⟩)⟩)), by omega⟩ hP hS dX6_inRow_30
        · have c5 : ¬ z4 ≤ x2 := mt (i_le (rb rz4 (by decide) (by decide)) hx2).mpr c5
          refine lv_iload_n hx hb dX6_inRow_23 rfl (lv_at hl 2 rfl) ?_
          refine lv_bipush (v := iI 6) hx hb dX6_inRow_24 (by decide +kernel) ?_
          refine lv_icmp_lt (tgt := 31) hx hb dX6_inRow_26 (by decide) (fun _ => ?_) (fun c6 => False.elim (by have c6 : ¬ x2 < 6 := mt (i_lt hx2 ⟨by decide, by decide⟩).mpr c6; omega))
          refine lv_aload_n hx hb dX6_inRow_31 rfl (lv_at hl 0 rfl) ?_
          refine va_get (D := (dC, dI)) (ci := 6) (v := .ref (q (ta + 4))) (C := RX6) (T := TX6) (N := 4) hx hb hts hiX6 hown hK hP ta (wkS hta) rfl 3 (by decide) (hts _ (List.mem_cons_of_mem _ (wk_in_0 _ (List.mem_of_getElem? (i := 59) rfl)))) (fun _ h9 => h9) rfl dX6_inRow_32 ?_
          refine lv_iload_n hx hb dX6_inRow_35 rfl (lv_at hl 1 rfl) ?_
          refine k_aald (Wf := WK cB cI cJ cZ cQ q) hx hb hK hP (ta + 4) 4 (wkSq hta) rfl (by omega) (by decide) (b := q (ta + 5 + (x1).toNat)) (by rcases (show x1 = 0 ∨ x1 = 1 ∨ x1 = 2 ∨ x1 = 3 by omega) with h | h | h | h <;> rw [h] <;> rfl) dX6_inRow_36 ?_
          refine lv_iload_n hx hb dX6_inRow_37 rfl (lv_at hl 2 rfl) ?_
          refine x_iald (Wf := WK cB cI cJ cZ cQ q) hx hb hK hP (ta + 5 + (x1).toNat) 1 (wkSr hta (i := x1) (by omega)) rfl (by omega) (by decide) dX6_inRow_38 (fun z7 hz7 => ?_)
          have rz7 : (-2147483648 : Int) ≤ z7 ∧ z7 ≤ 2147483647 := by rw [hz7]; exact irSr hta (i := x1) (by omega) hI
          have gz7 := Hd.mk hz7
          exact RET z7 _ _ _ _ _ ⟨rfl, (u_r_X6_inRow (Or.inr ⟨c1, (Or.inr ⟨c2, (Or.inr ⟨c3, ⟨z4, gz4.out, (Or.inr ⟨c5, ⟨z7, gz7.out, rfl⟩⟩)⟩⟩)⟩)⟩)), by omega⟩ hP hS dX6_inRow_39

def ws_kc_X6_rowMask : List Cond := .code yX6_rowMask cX6_rowMask 5 (some .int) :: WY
set_option maxHeartbeats 4000000 in
set_option maxRecDepth 100000 in
theorem kc_X6_rowMask (l : Launch) (dC : Nat → ClassId) (dI : Nat → Nat → Nat) (cB cI cJ cZ cQ : ClassId) (aL aS : Nat) (q : Nat → Nat) (A : St) (ta : Nat) (x1 : Int) (hI : IK A) (hta : isS ta) (hx1 : (-2147483648 : Int) ≤ x1 ∧ x1 ≤ 2147483647) : KMi l yX6_rowMask ws_kc_X6_rowMask ({ frames := 1, cells := 0, slots := 0, locals := 22 } : Room) aL aS (dC, dI) (tyA cB cI cJ cZ cQ) (WK cB cI cJ cZ cQ q) A [.ref (q ta), .int (iI x1)] (fun z u => A = u ∧ (-2147483648 ≤ z ∧ z ≤ 2147483647)) := by
  refine k_meti (cc := cX6_rowMask) (maxL := 5) WK_adr (plainFor_of_name (by decide +kernel)) rfl (Nat.le_of_ble_eq_true rfl) (fun p e s m below meth c Q AS ls hx hb hml hown hts hK hDD hA0 hE RET H locs hP hS hl => ?_)
  have hown : s.vm.findClass RX6 = some m.cls := hown
  have hl : lv_has ls 5 [(0, .ref (q ta)), (1, .int (iI x1))] := hl
  refine lv_iconst (v := iI 0) hx hb dX6_rowMask_0 (by decide +kernel) ?_
  refine lv_istore_n (lv' := [(2, .int (iI 0)), (0, .ref (q ta)), (1, .int (iI x1))]) hx hb dX6_rowMask_1 rfl hl (by decide) rfl (fun ls hl => ?_)
  refine lv_iconst (v := iI 0) hx hb dX6_rowMask_2 (by decide +kernel) ?_
  refine lv_istore_n (lv' := [(3, .int (iI 0)), (2, .int (iI 0)), (0, .ref (q ta)), (1, .int (iI x1))]) hx hb dX6_rowMask_3 rfl hl (by decide) rfl (fun ls hl => ?_)
  have L4_4 : ∀ (n8 : Nat) (z1 z2 : Int) (H : Heap) (locs : List Loc) (ls : Array Slot), (0 ≤ z1 ∧ z1 ≤ 2147483647) → (-2147483648 ≤ z2 ∧ z2 ≤ 2147483647) → ((7 - z1).toNat = n8) → va_P (dC, dI) vwCl (WK cB cI cJ cZ cQ q A) H → va_S AS s.heap H locs → lv_has ls 5 [(3, .int (iI z1)), (2, .int (iI z2)), (0, .ref (q ta)), (1, .int (iI x1))] → W p l e (headSpec ws_kc_X6_rowMask ({ frames := 1, cells := 0, slots := 0, locals := 22 } : Room)).room s m [.ref (q ta), .int (iI x1)].toArray below meth c H locs 0 0 Q (F0 m 4 ls []) := by
    intro n8
    induction n8 using Nat.strongRecOn with
    | ind n8 ih5 =>
      intro z1 z2 H locs ls f6 f7 hn8 hP hS hl
      refine lv_iload_n hx hb dX6_rowMask_4 rfl (lv_at hl 0 rfl) ?_
      refine lv_bipush (v := iI 6) hx hb dX6_rowMask_5 (by decide +kernel) ?_
      refine lv_icmp_ge (tgt := 37) hx hb dX6_rowMask_7 (by decide) (fun c9 => ?_) (fun c9 => ?_)
      · have c9 : 6 ≤ z1 := (i_le ⟨by decide, by decide⟩ (rb f6 (by decide) (by decide))).mp c9
        refine lv_iload_n hx hb dX6_rowMask_37 rfl (lv_at hl 1 rfl) ?_
        exact RET z2 _ _ _ _ _ ⟨rfl, f7⟩ hP hS dX6_rowMask_38
      · have c9 : ¬ 6 ≤ z1 := mt (i_le ⟨by decide, by decide⟩ (rb f6 (by decide) (by decide))).mpr c9
        refine lv_aload_n hx hb dX6_rowMask_10 rfl (lv_at hl 2 rfl) ?_
        refine lv_iload_n hx hb dX6_rowMask_11 rfl (lv_at hl 3 rfl) ?_
        refine lv_iload_n hx hb dX6_rowMask_12 rfl (lv_at hl 0 rfl) ?_
        refine k_calli (As := [.int (iI x1), .int (iI z1)]) (rest := []) ⟨hx, hb, hml, hown, hts⟩ hE (kc_X6_inRow l dC dI cB cI cJ cZ cQ aL aS q _ ta x1 z1 hI hta hx1 (rb f6 (by decide) (by decide))) (cwV 2 hts (goodVk (wk_in_0 _ (List.mem_of_getElem? (i := 54) rfl)) (wk_in_0 _ (List.mem_of_getElem? (i := 55) rfl)) (wk_in_0 _ (List.mem_of_getElem? (i := 56) rfl)) (wk_in_0 _ (List.mem_of_getElem? (i := 52) rfl)) (wk_in_0 _ (List.mem_of_getElem? (i := 57) rfl))) rfl rfl rfl (by decide +kernel) ⟨Nat.le_of_ble_eq_true rfl, Nat.le_of_ble_eq_true rfl⟩) hK hDD hA0 hP hS ta 6 (wkS hta) rfl rfl hl.1 (Nat.le_of_ble_eq_true rfl) dX6_rowMask_13 (fun z10 A11 H locs hw12 hP hS => ?_)
        obtain ⟨rfl, hw12⟩ := hw12
        have hw12 := hw12.2
        refine lv_istore (lv' := [(4, .int (iI z10)), (3, .int (iI z1)), (2, .int (iI z2)), (0, .ref (q ta)), (1, .int (iI x1))]) hx hb dX6_rowMask_16 hl (by decide) rfl (fun ls hl => ?_)
        refine lv_iload hx hb dX6_rowMask_18 (lv_at hl 0 rfl) ?_
        refine lv_iconst (v := iI (-1)) hx hb dX6_rowMask_20 (by decide +kernel) ?_
        have J31_14 : ∀ (z17 : Int) (H : Heap) (locs : List Loc) (ls : Array Slot), (-2147483648 ≤ z17 ∧ z17 ≤ 2147483647) → va_P (dC, dI) vwCl (WK cB cI cJ cZ cQ q A) H → va_S AS s.heap H locs → lv_has ls 5 [(4, .int (iI z10)), (3, .int (iI z1)), (2, .int (iI z17)), (0, .ref (q ta)), (1, .int (iI x1))] → W p l e (headSpec ws_kc_X6_rowMask ({ frames := 1, cells := 0, slots := 0, locals := 22 } : Room)).room s m [.ref (q ta), .int (iI x1)].toArray below meth c H locs 0 0 Q (F0 m 31 ls []) := by
          intro z17 H locs ls f19 hP hS hl
          refine lv_iinc (v := iI (z1 + 1)) (lv' := [(3, .int (iI (z1 + 1))), (4, .int (iI z10)), (2, .int (iI z17)), (0, .ref (q ta)), (1, .int (iI x1))]) hx hb dX6_rowMask_31 hl (k := 1) rfl (i_inc (by omega)) (by decide) rfl (fun ls hl => ?_)
          refine lv_goto (tgt := 4) hx hb dX6_rowMask_34 (by decide) ?_
          exact ih5 _ (by omega) (z1 + 1) z17 _ _ _ (by omega) (by omega) rfl hP hS (lv_sub hl [0, 2, 3, 4] rfl)
        refine lv_icmp_eq (tgt := 31) hx hb dX6_rowMask_21 (by decide) (fun c13 => ?_) (fun c13 => ?_)
        · have c13 : z10 = (-1) := (i_eq (by omega) ⟨by decide, by decide⟩).mp c13
          exact J31_14 z2 _ _ _ (by omega) hP hS (lv_sub hl [0, 1, 2, 3, 4] rfl)
        · have c13 : ¬ z10 = (-1) := mt (i_eq (by omega) ⟨by decide, by decide⟩).mpr c13
          refine lv_iload_n hx hb dX6_rowMask_24 rfl (lv_at hl 2 rfl) ?_
          refine lv_iconst (v := iI 1) hx hb dX6_rowMask_25 (by decide +kernel) ?_
          refine lv_iload hx hb dX6_rowMask_26 (lv_at hl 0 rfl) ?_
          refine lv_ishl hx hb dX6_rowMask_28 ?_
          refine x_abs (fun z15 hz15 => ?_)
          refine lv_ior hx hb dX6_rowMask_29 ?_
          refine x_abs (fun z16 hz16 => ?_)
          refine lv_istore_n (lv' := [(2, .int (iI z16)), (4, .int (iI z10)), (3, .int (iI z1)), (0, .ref (q ta)), (1, .int (iI x1))]) hx hb dX6_rowMask_30 rfl hl (by decide) rfl (fun ls hl => ?_)
          exact J31_14 z16 _ _ _ (by omega) hP hS (lv_sub hl [1, 2, 0, 3, 4] rfl)
  exact L4_4 _ 0 0 _ _ _ (by omega) (by omega) rfl hP hS (lv_sub hl [0, 1, 2, 3] rfl)

def ws_kc_X0_prepareKeys : List Cond := .code yX0_prepareKeys cX0_prepareKeys 6 none :: WY
set_option maxHeartbeats 4000000 in
set_option maxRecDepth 100000 in
theorem kc_X0_prepareKeys (l : Launch) (dC : Nat → ClassId) (dI : Nat → Nat → Nat) (cB cI cJ cZ cQ : ClassId) (aL aS : Nat) (q : Nat → Nat) (A : St) (ta : Nat) (x2 : Int) (hI : IK A) (hta : isT ta) (hx2 : (-2147483648 : Int) ≤ x2 ∧ x2 ≤ 2147483647) : KMv l yX0_prepareKeys ws_kc_X0_prepareKeys ({ frames := 2, cells := 0, slots := 0, locals := 46 } : Room) aL aS (dC, dI) (tyA cB cI cJ cZ cQ) (WK cB cI cJ cZ cQ q) A [.ref (q 6), .ref (q ta), .int (iI x2)] (fun u => IK u ∧ fk [9, 10, 11, 12, 13] [(6, 10), (6, 11), (6, 12)] A u ∧ (True)) := by
  refine k_metv (cc := cX0_prepareKeys) (maxL := 6) WK_adr (plainFor_of_name (by decide +kernel)) rfl (Nat.le_of_ble_eq_true rfl) (fun p e s m below meth c Q AS ls hx hb hml hown hts hK hDD hA0 hE RET H locs hP hS hl => ?_)
  have hown : s.vm.findClass RX0 = some m.cls := hown
  have hl : lv_has ls 6 [(0, .ref (q 6)), (1, .ref (q ta)), (2, .int (iI x2))] := hl
  have hiX9 : ∀ w ∈ u_ws RX9 TX9 16, w ∈ ws_kc_X0_prepareKeys := fun w h => List.mem_cons_of_mem _ (wy_layX9 w h)
  have hiX0 : ∀ w ∈ u_ws RX0 TX0 17, w ∈ ws_kc_X0_prepareKeys := fun w h => List.mem_cons_of_mem _ (wy_layX0 w h)
  have hiX6 : ∀ w ∈ u_ws RX6 TX6 4, w ∈ ws_kc_X0_prepareKeys := fun w h => List.mem_cons_of_mem _ (wy_layX6 w h)
  refine lv_aload_n hx hb dX0_prepareKeys_0 rfl (lv_at hl 0 rfl) ?_
  refine lv_aload_n hx hb dX0_prepareKeys_1 rfl (lv_at hl 1 rfl) ?_
  have r1 : (-2147483648 : Int) ≤ (A ta 15) ∧ (A ta 15) ≤ 2147483647 := irT_15 hta hI
  refine va_get (D := (dC, dI)) (ci := 9) (v := .int (iI (A ta 15))) (C := RX9) (T := TX9) (N := 16) hx hb hts hiX9 hown hK hP ta (wkT hta) rfl 15 (by decide) (hts _ (List.mem_cons_of_mem _ (wk_in_0 _ (List.mem_of_getElem? (i := 37) rfl)))) (fun _ h9 => h9) rfl dX0_prepareKeys_2 ?_
  refine k_put (Wf := WK cB cI cJ cZ cQ q) (D := (dC, dI)) (ci := 0) (v := .int (iI (A ta 15))) (ty := .int) (C := RX0) (T := TX0) (N := 17) hx hb hts hiX0 tyX0 tyX0_ok nmX0 hown hK hP hDD hS 6 (wkAL) rfl 12 (by decide) (hts _ (List.mem_cons_of_mem _ (wk_in_0 _ (List.mem_of_getElem? (i := 38) rfl)))) (fun _ h9 => h9) rfl (by decide +kernel) rfl rfl (Nat.le_of_ble_eq_true rfl) dX0_prepareKeys_5 (wfAL_12 (v := (A ta 15))) (fun H locs A2 hA2 hP hS => ?_)
  have hI := isAL_12 hA2 hI (show (-2147483648 : Int) ≤ (A ta 15) ∧ (A ta 15) ≤ 2147483647 from r1)
  refine lv_aload_n hx hb dX0_prepareKeys_8 rfl (lv_at hl 1 rfl) ?_
  refine va_get (D := (dC, dI)) (ci := 9) (v := .ref (q (ta + 1))) (C := RX9) (T := TX9) (N := 16) hx hb hts hiX9 hown hK hP ta (wkT hta) rfl 0 (by decide) (hts _ (List.mem_cons_of_mem _ (wk_in_0 _ (List.mem_of_getElem? (i := 1) rfl)))) (fun _ h9 => h9) rfl dX0_prepareKeys_9 ?_
  refine lv_iconst (v := iI 0) hx hb dX0_prepareKeys_12 (by decide +kernel) ?_
  have a3 : ∀ k, A2 (ta + 1) k = A (ta + 1) k := fun k => rd_ne hA2 (by rcases hta with h | h <;> omega) k
  refine x_iald (Wf := WK cB cI cJ cZ cQ q) hx hb hK hP (ta + 1) 1 (wkTc hta) rfl (by decide) (by decide) dX0_prepareKeys_13 (fun z4 hz4 => ?_)
  have rz4 : (0 : Int) ≤ z4 ∧ z4 ≤ 8 := by rw [hz4]; exact irTc0 hta hI
  have hz4 : z4 = A (ta + 1) (0 : Int).toNat := hz4.trans (a3 _)
  refine lv_istore_n (lv' := [(3, .int (iI z4)), (0, .ref (q 6)), (1, .ref (q ta)), (2, .int (iI x2))]) hx hb dX0_prepareKeys_14 rfl hl (by decide) rfl (fun ls hl => ?_)
  refine lv_iconst (v := iI 0) hx hb dX0_prepareKeys_15 (by decide +kernel) ?_
  refine lv_istore (lv' := [(4, .int (iI 0)), (3, .int (iI z4)), (0, .ref (q 6)), (1, .ref (q ta)), (2, .int (iI x2))]) hx hb dX0_prepareKeys_16 hl (by decide) rfl (fun ls hl => ?_)
  have L18_9 : ∀ (n13 : Nat) (z5 z6 : Int) (A8 : St) (H : Heap) (locs : List Loc) (ls : Array Slot), (0 ≤ z5 ∧ z5 ≤ 2147483647) → (-2147483648 ≤ z6 ∧ z6 ≤ 2147483647) → ((5 - z5).toNat = n13) → IK A8 → fk [9, 10, 11, 12, 13] [(6, 12)] A2 A8 → va_P (dC, dI) vwCl (WK cB cI cJ cZ cQ q A8) H → va_S AS s.heap H locs → lv_has ls 6 [(4, .int (iI z5)), (3, .int (iI z6)), (0, .ref (q 6)), (1, .ref (q ta)), (2, .int (iI x2))] → W p l e (headSpec ws_kc_X0_prepareKeys ({ frames := 2, cells := 0, slots := 0, locals := 46 } : Room)).room s m [.ref (q 6), .ref (q ta), .int (iI x2)].toArray below meth c H locs 0 0 Q (F0 m 18 ls []) := by
    intro n13
    induction n13 using Nat.strongRecOn with
    | ind n13 ih10 =>
      intro z5 z6 A8 H locs ls f11 f12 hn13 hI hj7 hP hS hl
      refine lv_iload hx hb dX0_prepareKeys_18 (lv_at hl 0 rfl) ?_
      refine lv_iconst (v := iI 4) hx hb dX0_prepareKeys_20 (by decide +kernel) ?_
      refine lv_icmp_ge (tgt := 184) hx hb dX0_prepareKeys_21 (by decide) (fun c14 => ?_) (fun c14 => ?_)
      · have c14 : 4 ≤ z5 := (i_le ⟨by decide, by decide⟩ (rb f11 (by decide) (by decide))).mp c14
        refine lv_aload_n hx hb dX0_prepareKeys_184 rfl (lv_at hl 2 rfl) ?_
        refine lv_iload_n hx hb dX0_prepareKeys_185 rfl (lv_at hl 1 rfl) ?_
        refine k_put (Wf := WK cB cI cJ cZ cQ q) (D := (dC, dI)) (ci := 0) (v := .int (iI z6)) (ty := .int) (C := RX0) (T := TX0) (N := 17) hx hb hts hiX0 tyX0 tyX0_ok nmX0 hown hK hP hDD hS 6 (wkAL) rfl 10 (by decide) (hts _ (List.mem_cons_of_mem _ (wk_in_0 _ (List.mem_of_getElem? (i := 43) rfl)))) (fun _ h9 => h9) rfl (by decide +kernel) rfl rfl (Nat.le_of_ble_eq_true rfl) dX0_prepareKeys_186 (wfAL_10 (v := z6)) (fun H locs A15 hA15 hP hS => ?_)
        have hI := isAL_10 hA15 hI (show (-2147483648 : Int) ≤ z6 ∧ z6 ≤ 2147483647 from f12)
        refine lv_aload_n hx hb dX0_prepareKeys_189 rfl (lv_at hl 2 rfl) ?_
        refine lv_iload_n hx hb dX0_prepareKeys_190 rfl (lv_at hl 1 rfl) ?_
        refine lv_aload_n hx hb dX0_prepareKeys_191 rfl (lv_at hl 2 rfl) ?_
        have e18 : A2 6 9 = (A 6 9) := (rd_at hA2 (by decide))
        have e17 : A8 6 9 = (A 6 9) := (hj7 6 9 rfl rfl).trans e18
        have e16 : A15 6 9 = (A 6 9) := (rd_at hA15 (by decide)).trans e17
        have r19 : (0 : Int) ≤ (A 6 9) ∧ (A 6 9) ≤ 2 := by rw [← e16]; exact irAL_9 hI
        refine va_get (D := (dC, dI)) (ci := 0) (v := .int (iI (A15 6 9))) (C := RX0) (T := TX0) (N := 17) hx hb hts hiX0 hown hK hP 6 (wkAL) rfl 9 (by decide) (hts _ (List.mem_cons_of_mem _ (wk_in_0 _ (List.mem_of_getElem? (i := 29) rfl)))) (fun _ h9 => h9) rfl dX0_prepareKeys_192 ?_
        refine tp_i (y := iI (A 6 9)) (congrArg iI e16) ?_
        refine lv_ishl hx hb dX0_prepareKeys_195 ?_
        refine x_abs (fun z20 hz20 => ?_)
        refine lv_ldc (v := 76832) hx hb hown (hts _ (List.mem_cons_of_mem _ (wk_in_0 _ (List.mem_of_getElem? (i := 44) rfl)))) dX0_prepareKeys_196 ?_
        refine tp_i (y := iI 76832) (by decide +kernel) ?_
        refine k_min hx hb (hml.trans hl.1.symm) hown (hts _ (List.mem_cons_of_mem _ (wk_in_0 _ (List.mem_of_getElem? (i := 45) rfl)))) (hts _ (List.mem_cons_of_mem _ (wk_in_0 _ (List.mem_of_getElem? (i := 46) rfl)))) (hts _ (List.mem_cons_of_mem _ (wk_in_0 _ (List.mem_of_getElem? (i := 47) rfl)))) (hts _ (List.mem_cons_of_mem _ (wk_in_0 _ (List.mem_of_getElem? (i := 48) rfl)))) (Nat.le_of_ble_eq_true rfl) (Nat.le_of_ble_eq_true rfl) (Nat.zero_le _) (Nat.zero_le _) hz20 ⟨by decide, by decide⟩ dX0_prepareKeys_198 (fun z21 hz21 => ?_)
        have rz21 : (-2147483648 : Int) ≤ z21 ∧ z21 ≤ 76832 := by omega
        clear hz21
        refine k_put (Wf := WK cB cI cJ cZ cQ q) (D := (dC, dI)) (ci := 0) (v := .int (iI z21)) (ty := .int) (C := RX0) (T := TX0) (N := 17) hx hb hts hiX0 tyX0 tyX0_ok nmX0 hown hK hP hDD hS 6 (wkAL) rfl 11 (by decide) (hts _ (List.mem_cons_of_mem _ (wk_in_0 _ (List.mem_of_getElem? (i := 20) rfl)))) (fun _ h9 => h9) rfl (by decide +kernel) rfl rfl (Nat.le_of_ble_eq_true rfl) dX0_prepareKeys_201 (wfAL_11 (v := z21)) (fun H locs A22 hA22 hP hS => ?_)
        have hI := isAL_11 hA22 hI (show (-2147483648 : Int) ≤ z21 ∧ z21 ≤ 76832 from rz21)
        exact RET _ _ _ _ _ ⟨hI, fk.df (fk.df (fk.trans (fk.df (fk.rf) hA2 rfl) hj7 rfl rfl) hA15 rfl) hA22 rfl, trivial⟩ hP hS dX0_prepareKeys_204
      · have c14 : ¬ 4 ≤ z5 := mt (i_le ⟨by decide, by decide⟩ (rb f11 (by decide) (by decide))).mpr c14
        refine lv_aload_n hx hb dX0_prepareKeys_24 rfl (lv_at hl 2 rfl) ?_
        refine va_get (D := (dC, dI)) (ci := 0) (v := .ref (q 13)) (C := RX0) (T := TX0) (N := 17) hx hb hts hiX0 hown hK hP 6 (wkAL) rfl 2 (by decide) (hts _ (List.mem_cons_of_mem _ (wk_in_0 _ (List.mem_of_getElem? (i := 39) rfl)))) (fun _ h9 => h9) rfl dX0_prepareKeys_25 ?_
        refine lv_iload hx hb dX0_prepareKeys_28 (lv_at hl 0 rfl) ?_
        refine lv_iconst (v := iI 0) hx hb dX0_prepareKeys_30 (by decide +kernel) ?_
        refine k_iast (Wf := WK cB cI cJ cZ cQ q) hx hb hK hP hDD hS 13 1 (wkALu) rfl (by omega) (by decide) dX0_prepareKeys_31 (wsALu) (fun H locs A23 hA23 hP hS => ?_)
        have hI := isALu hA23 hI (show (-2147483648 : Int) ≤ 0 ∧ 0 ≤ 2147483647 from ⟨by decide, by decide⟩)
        refine lv_iload hx hb dX0_prepareKeys_32 (lv_at hl 0 rfl) ?_
        refine lv_aload_n hx hb dX0_prepareKeys_34 rfl (lv_at hl 3 rfl) ?_
        refine va_get (D := (dC, dI)) (ci := 9) (v := .ref (q (ta + 1))) (C := RX9) (T := TX9) (N := 16) hx hb hts hiX9 hown hK hP ta (wkT hta) rfl 0 (by decide) (hts _ (List.mem_cons_of_mem _ (wk_in_0 _ (List.mem_of_getElem? (i := 1) rfl)))) (fun _ h9 => h9) rfl dX0_prepareKeys_35 ?_
        refine lv_iconst (v := iI 2) hx hb dX0_prepareKeys_38 (by decide +kernel) ?_
        have a25 : ∀ k, A8 (ta + 1) k = A (ta + 1) k := fun k => (hj7 (ta + 1) k (isT.b2 (o := fun b => List.contains [9, 10, 11, 12, 13] (b + 1)) hta rfl rfl) (isT.b2 (o := fun b => fin2 [(6, 12)] (b + 1) k) hta rfl rfl)).trans (a3 k)
        have a24 : ∀ k, A23 (ta + 1) k = A (ta + 1) k := fun k => (rd_ne hA23 (by rcases hta with h | h <;> omega) k).trans (a25 k)
        refine x_iald (Wf := WK cB cI cJ cZ cQ q) hx hb hK hP (ta + 1) 1 (wkTc hta) rfl (by decide) (by decide) dX0_prepareKeys_39 (fun z26 hz26 => ?_)
        have rz26 : (0 : Int) ≤ z26 ∧ z26 ≤ 4 := by rw [hz26]; exact irTc2 hta hI
        have hz26 : z26 = A (ta + 1) (2 : Int).toNat := hz26.trans (a24 _)
        have J178_28 : ∀ (z67 : Int) (A69 : St) (H : Heap) (locs : List Loc) (ls : Array Slot), (-2147483648 ≤ z67 ∧ z67 ≤ 2147483647) → IK A69 → fk [9, 10, 11, 12, 13] [(6, 12)] A23 A69 → va_P (dC, dI) vwCl (WK cB cI cJ cZ cQ q A69) H → va_S AS s.heap H locs → lv_has ls 6 [(3, .int (iI z67)), (4, .int (iI z5)), (0, .ref (q 6)), (1, .ref (q ta)), (2, .int (iI x2))] → W p l e (headSpec ws_kc_X0_prepareKeys ({ frames := 2, cells := 0, slots := 0, locals := 46 } : Room)).room s m [.ref (q 6), .ref (q ta), .int (iI x2)].toArray below meth c H locs 0 0 Q (F0 m 178 ls []) := by
          intro z67 A69 H locs ls f70 hI hj68 hP hS hl
          refine lv_iinc (v := iI (z5 + 1)) (lv' := [(4, .int (iI (z5 + 1))), (3, .int (iI z67)), (0, .ref (q 6)), (1, .ref (q ta)), (2, .int (iI x2))]) hx hb dX0_prepareKeys_178 hl (k := 1) rfl (i_inc (by omega)) (by decide) rfl (fun ls hl => ?_)
          refine lv_goto (tgt := 18) hx hb dX0_prepareKeys_181 (by decide) ?_
          exact ih10 _ (by omega) (z5 + 1) z67 _ _ _ _ (by omega) (by omega) rfl hI (fk.trans (fk.da (fk.trans (fk.rf) hj7 rfl rfl) hA23 rfl) hj68 rfl rfl) hP hS (lv_sub hl [0, 1, 2, 3, 4] rfl)
        refine lv_icmp_lt (tgt := 46) hx hb dX0_prepareKeys_40 (by decide) (fun c27 => ?_) (fun c27 => ?_)
        · have c27 : z5 < z26 := (i_lt (rb f11 (by decide) (by decide)) (rb rz26 (by decide) (by decide))).mp c27
          refine lv_iload_n hx hb dX0_prepareKeys_46 rfl (lv_at hl 4 rfl) ?_
          refine lv_iload hx hb dX0_prepareKeys_47 (lv_at hl 0 rfl) ?_
          refine lv_ishr hx hb dX0_prepareKeys_49 ?_
          refine x_abs (fun z29 hz29 => ?_)
          refine lv_iconst (v := iI 1) hx hb dX0_prepareKeys_50 (by decide +kernel) ?_
          refine lv_iand hx hb dX0_prepareKeys_51 ?_
          refine x_and (b := 1) (by omega) (fun z30 hz30 => ?_)
          refine lv_if_ne (tgt := 76) hx hb dX0_prepareKeys_52 (by decide) (fun c31 => ?_) (fun c31 => ?_)
          · have c31 : ¬ z30 = 0 := mt (i_eq0 (by omega)).mpr c31
            refine lv_aload_n hx hb dX0_prepareKeys_76 rfl (lv_at hl 2 rfl) ?_
            refine va_get (D := (dC, dI)) (ci := 0) (v := .ref (q 13)) (C := RX0) (T := TX0) (N := 17) hx hb hts hiX0 hown hK hP 6 (wkAL) rfl 2 (by decide) (hts _ (List.mem_cons_of_mem _ (wk_in_0 _ (List.mem_of_getElem? (i := 39) rfl)))) (fun _ h9 => h9) rfl dX0_prepareKeys_77 ?_
            refine lv_iload hx hb dX0_prepareKeys_80 (lv_at hl 0 rfl) ?_
            refine lv_iload_n hx hb dX0_prepareKeys_82 rfl (lv_at hl 1 rfl) ?_
            refine k_iast (Wf := WK cB cI cJ cZ cQ q) hx hb hK hP hDD hS 13 1 (wkALu) rfl (by omega) (by decide) dX0_prepareKeys_83 (wsALu) (fun H locs A32 hA32 hP hS => ?_)
            have hI := isALu hA32 hI (show (-2147483648 : Int) ≤ z6 ∧ z6 ≤ 2147483647 from f12)
            refine lv_iload_n hx hb dX0_prepareKeys_84 rfl (lv_at hl 1 rfl) ?_
            refine lv_aload_n hx hb dX0_prepareKeys_85 rfl (lv_at hl 3 rfl) ?_
            refine va_get (D := (dC, dI)) (ci := 9) (v := .ref (q (ta + 22))) (C := RX9) (T := TX9) (N := 16) hx hb hts hiX9 hown hK hP ta (wkT hta) rfl 14 (by decide) (hts _ (List.mem_cons_of_mem _ (wk_in_0 _ (List.mem_of_getElem? (i := 18) rfl)))) (fun _ h9 => h9) rfl dX0_prepareKeys_86 ?_
            refine va_get (D := (dC, dI)) (ci := 6) (v := .ref (q ((ta + 22) + 3))) (C := RX6) (T := TX6) (N := 4) hx hb hts hiX6 hown hK hP (ta + 22) (wkS hta.s) rfl 2 (by decide) (hts _ (List.mem_cons_of_mem _ (wk_in_0 _ (List.mem_of_getElem? (i := 40) rfl)))) (fun _ h9 => h9) rfl dX0_prepareKeys_89 ?_
            refine lv_iload hx hb dX0_prepareKeys_92 (lv_at hl 0 rfl) ?_
            have a36 : ∀ k, A2 ((ta + 22) + 3) k = A ((ta + 22) + 3) k := fun k => rd_ne hA2 (by rcases hta.s with h | h | h | h <;> omega) k
            have a35 : ∀ k, A8 ((ta + 22) + 3) k = A ((ta + 22) + 3) k := fun k => (hj7 ((ta + 22) + 3) k (isS.b2 (o := fun b => List.contains [9, 10, 11, 12, 13] (b + 3)) hta.s rfl rfl rfl rfl) (isS.b2 (o := fun b => fin2 [(6, 12)] (b + 3) k) hta.s rfl rfl rfl rfl)).trans (a36 k)
            have a34 : ∀ k, A23 ((ta + 22) + 3) k = A ((ta + 22) + 3) k := fun k => (rd_ne hA23 (by rcases hta.s with h | h | h | h <;> omega) k).trans (a35 k)
            have a33 : ∀ k, A32 ((ta + 22) + 3) k = A ((ta + 22) + 3) k := fun k => (rd_ne hA32 (by rcases hta.s with h | h | h | h <;> omega) k).trans (a34 k)
            refine x_iald (Wf := WK cB cI cJ cZ cQ q) hx hb hK hP ((ta + 22) + 3) 1 (wkSz hta.s) rfl (by omega) (by decide) dX0_prepareKeys_94 (fun z37 hz37 => ?_)
            have rz37 : (0 : Int) ≤ z37 ∧ z37 ≤ 6 := by rw [hz37]; exact irSz hta.s hI
            have hz37 : z37 = A ((ta + 22) + 3) (z5).toNat := hz37.trans (a33 _)
            refine lv_iconst (v := iI 1) hx hb dX0_prepareKeys_95 (by decide +kernel) ?_
            refine x_addv (v := z37 + 1) hx hb dX0_prepareKeys_96 (by omega) ?_
            refine lv_imul hx hb dX0_prepareKeys_97 ?_
            refine x_abs (fun z38 hz38 => ?_)
            refine lv_istore_n (lv' := [(3, .int (iI z38)), (4, .int (iI z5)), (0, .ref (q 6)), (1, .ref (q ta)), (2, .int (iI x2))]) hx hb dX0_prepareKeys_98 rfl hl (by decide) rfl (fun ls hl => ?_)
            refine lv_aload_n hx hb dX0_prepareKeys_99 rfl (lv_at hl 2 rfl) ?_
            refine va_get (D := (dC, dI)) (ci := 0) (v := .ref (q 8)) (C := RX0) (T := TX0) (N := 17) hx hb hts hiX0 hown hK hP 6 (wkAL) rfl 1 (by decide) (hts _ (List.mem_cons_of_mem _ (wk_in_0 _ (List.mem_of_getElem? (i := 41) rfl)))) (fun _ h9 => h9) rfl dX0_prepareKeys_100 ?_
            refine lv_iload hx hb dX0_prepareKeys_103 (lv_at hl 1 rfl) ?_
            refine k_aald (Wf := WK cB cI cJ cZ cQ q) hx hb hK hP 8 4 (wkALq) rfl (by omega) (by decide) (b := q (9 + (z5).toNat)) (by rcases (show z5 = 0 ∨ z5 = 1 ∨ z5 = 2 ∨ z5 = 3 by omega) with h | h | h | h <;> rw [h] <;> rfl) dX0_prepareKeys_105 ?_
            refine lv_iconst (v := iI 0) hx hb dX0_prepareKeys_106 (by decide +kernel) ?_
            refine lv_iconst (v := iI 0) hx hb dX0_prepareKeys_107 (by decide +kernel) ?_
            refine k_iast (Wf := WK cB cI cJ cZ cQ q) hx hb hK hP hDD hS (9 + (z5).toNat) 1 (wkALr (i := z5) (by omega)) rfl (by decide) (by decide) dX0_prepareKeys_108 (wsALr (i := z5) (by omega)) (fun H locs A39 hA39 hP hS => ?_)
            have hI := isALr (i := z5) (by omega) hA39 hI (show (-2147483648 : Int) ≤ 0 ∧ 0 ≤ 2147483647 from ⟨by decide, by decide⟩)
            refine lv_iconst (v := iI 0) hx hb dX0_prepareKeys_109 (by decide +kernel) ?_
            refine lv_istore (lv' := [(5, .int (iI 0)), (3, .int (iI z38)), (4, .int (iI z5)), (0, .ref (q 6)), (1, .ref (q ta)), (2, .int (iI x2))]) hx hb dX0_prepareKeys_110 hl (by decide) rfl (fun ls hl => ?_)
            have L112_43 : ∀ (n49 : Nat) (z40 : Int) (A42 : St) (H : Heap) (locs : List Loc) (ls : Array Slot), (0 ≤ z40 ∧ z40 ≤ 2147483647) → ((7 - z40).toNat = n49) → IK A42 → fk [9, 10, 11, 12] [] A39 A42 → va_P (dC, dI) vwCl (WK cB cI cJ cZ cQ q A42) H → va_S AS s.heap H locs → lv_has ls 6 [(5, .int (iI z40)), (3, .int (iI z38)), (4, .int (iI z5)), (0, .ref (q 6)), (1, .ref (q ta)), (2, .int (iI x2))] → W p l e (headSpec ws_kc_X0_prepareKeys ({ frames := 2, cells := 0, slots := 0, locals := 46 } : Room)).room s m [.ref (q 6), .ref (q ta), .int (iI x2)].toArray below meth c H locs 0 0 Q (F0 m 112 ls []) := by
              intro n49
              induction n49 using Nat.strongRecOn with
              | ind n49 ih44 =>
                intro z40 A42 H locs ls f45 hn49 hI hj41 hP hS hl
                refine lv_iload hx hb dX0_prepareKeys_112 (lv_at hl 0 rfl) ?_
                refine lv_aload_n hx hb dX0_prepareKeys_114 rfl (lv_at hl 4 rfl) ?_
                refine va_get (D := (dC, dI)) (ci := 9) (v := .ref (q (ta + 22))) (C := RX9) (T := TX9) (N := 16) hx hb hts hiX9 hown hK hP ta (wkT hta) rfl 14 (by decide) (hts _ (List.mem_cons_of_mem _ (wk_in_0 _ (List.mem_of_getElem? (i := 18) rfl)))) (fun _ h9 => h9) rfl dX0_prepareKeys_115 ?_
                refine va_get (D := (dC, dI)) (ci := 6) (v := .ref (q ((ta + 22) + 3))) (C := RX6) (T := TX6) (N := 4) hx hb hts hiX6 hown hK hP (ta + 22) (wkS hta.s) rfl 2 (by decide) (hts _ (List.mem_cons_of_mem _ (wk_in_0 _ (List.mem_of_getElem? (i := 40) rfl)))) (fun _ h9 => h9) rfl dX0_prepareKeys_118 ?_
                refine lv_iload hx hb dX0_prepareKeys_121 (lv_at hl 2 rfl) ?_
                have a51 : ∀ k, A39 ((ta + 22) + 3) k = A ((ta + 22) + 3) k := fun k => (rd_ne hA39 (by rcases hta.s with h | h | h | h <;> omega) k).trans (a33 k)
                have a50 : ∀ k, A42 ((ta + 22) + 3) k = A ((ta + 22) + 3) k := fun k => (hj41 ((ta + 22) + 3) k (isS.b2 (o := fun b => List.contains [9, 10, 11, 12] (b + 3)) hta.s rfl rfl rfl rfl) (isS.b2 (o := fun b => fin2 [] (b + 3) k) hta.s rfl rfl rfl rfl)).trans (a51 k)
                refine x_iald (Wf := WK cB cI cJ cZ cQ q) hx hb hK hP ((ta + 22) + 3) 1 (wkSz hta.s) rfl (by omega) (by decide) dX0_prepareKeys_123 (fun z52 hz52 => ?_)
                have rz52 : (0 : Int) ≤ z52 ∧ z52 ≤ 6 := by rw [hz52]; exact irSz hta.s hI
                have hz52 : z52 = A ((ta + 22) + 3) (z5).toNat := hz52.trans (a50 _)
                have ez52 : z52 = z37 := hz52.trans hz37.symm
                refine tp_i (y := iI z37) (congrArg iI ez52) ?_
                refine lv_icmp_ge (tgt := 178) hx hb dX0_prepareKeys_124 (by decide) (fun c53 => ?_) (fun c53 => ?_)
                · have c53 : z37 ≤ z40 := (i_le (rb rz37 (by decide) (by decide)) (rb f45 (by decide) (by decide))).mp c53
                  exact J178_28 z38 _ _ _ _ (by omega) hI (fk.trans (fk.da (fk.da (fk.rf) hA32 rfl) hA39 (by rcases (show z5 = 0 ∨ z5 = 1 ∨ z5 = 2 ∨ z5 = 3 by omega) with g | g | g | g <;> rw [g] <;> rfl)) hj41 rfl rfl) hP hS (lv_sub hl [1, 2, 3, 4, 5] rfl)
                · have c53 : ¬ z37 ≤ z40 := mt (i_le (rb rz37 (by decide) (by decide)) (rb f45 (by decide) (by decide))).mpr c53
                  refine lv_iload hx hb dX0_prepareKeys_127 (lv_at hl 0 rfl) ?_
                  refine lv_bipush (v := iI 6) hx hb dX0_prepareKeys_129 (by decide +kernel) ?_
                  refine lv_icmp_ge (tgt := 178) hx hb dX0_prepareKeys_131 (by decide) (fun c54 => False.elim (by have c54 : 6 ≤ z40 := (i_le ⟨by decide, by decide⟩ (rb f45 (by decide) (by decide))).mp c54; omega)) (fun _ => ?_)
                  refine lv_aload_n hx hb dX0_prepareKeys_134 rfl (lv_at hl 3 rfl) ?_
                  refine va_get (D := (dC, dI)) (ci := 0) (v := .ref (q 8)) (C := RX0) (T := TX0) (N := 17) hx hb hts hiX0 hown hK hP 6 (wkAL) rfl 1 (by decide) (hts _ (List.mem_cons_of_mem _ (wk_in_0 _ (List.mem_of_getElem? (i := 41) rfl)))) (fun _ h9 => h9) rfl dX0_prepareKeys_135 ?_
                  refine lv_iload hx hb dX0_prepareKeys_138 (lv_at hl 2 rfl) ?_
                  refine k_aald (Wf := WK cB cI cJ cZ cQ q) hx hb hK hP 8 4 (wkALq) rfl (by omega) (by decide) (b := q (9 + (z5).toNat)) (by rcases (show z5 = 0 ∨ z5 = 1 ∨ z5 = 2 ∨ z5 = 3 by omega) with h | h | h | h <;> rw [h] <;> rfl) dX0_prepareKeys_140 ?_
                  refine lv_iload hx hb dX0_prepareKeys_141 (lv_at hl 0 rfl) ?_
                  refine lv_iconst (v := iI 1) hx hb dX0_prepareKeys_143 (by decide +kernel) ?_
                  refine x_addv (v := z40 + 1) hx hb dX0_prepareKeys_144 (by omega) ?_
                  refine lv_aload_n hx hb dX0_prepareKeys_145 rfl (lv_at hl 3 rfl) ?_
                  refine va_get (D := (dC, dI)) (ci := 0) (v := .ref (q 8)) (C := RX0) (T := TX0) (N := 17) hx hb hts hiX0 hown hK hP 6 (wkAL) rfl 1 (by decide) (hts _ (List.mem_cons_of_mem _ (wk_in_0 _ (List.mem_of_getElem? (i := 41) rfl)))) (fun _ h9 => h9) rfl dX0_prepareKeys_146 ?_
                  refine lv_iload hx hb dX0_prepareKeys_149 (lv_at hl 2 rfl) ?_
                  refine k_aald (Wf := WK cB cI cJ cZ cQ q) hx hb hK hP 8 4 (wkALq) rfl (by omega) (by decide) (b := q (9 + (z5).toNat)) (by rcases (show z5 = 0 ∨ z5 = 1 ∨ z5 = 2 ∨ z5 = 3 by omega) with h | h | h | h <;> rw [h] <;> rfl) dX0_prepareKeys_151 ?_
                  refine lv_iload hx hb dX0_prepareKeys_152 (lv_at hl 0 rfl) ?_
                  refine x_iald (Wf := WK cB cI cJ cZ cQ q) hx hb hK hP (9 + (z5).toNat) 1 (wkALr (i := z5) (by omega)) rfl (by omega) (by decide) dX0_prepareKeys_154 (fun z55 hz55 => ?_)
                  have rz55 : (-2147483648 : Int) ≤ z55 ∧ z55 ≤ 2147483647 := by rw [hz55]; exact irALr (i := z5) (by omega) hI
                  refine lv_iconst (v := iI 1) hx hb dX0_prepareKeys_155 (by decide +kernel) ?_
                  refine lv_aload_n hx hb dX0_prepareKeys_156 rfl (lv_at hl 4 rfl) ?_
                  refine va_get (D := (dC, dI)) (ci := 9) (v := .ref (q (ta + 22))) (C := RX9) (T := TX9) (N := 16) hx hb hts hiX9 hown hK hP ta (wkT hta) rfl 14 (by decide) (hts _ (List.mem_cons_of_mem _ (wk_in_0 _ (List.mem_of_getElem? (i := 18) rfl)))) (fun _ h9 => h9) rfl dX0_prepareKeys_157 ?_
                  refine va_get (D := (dC, dI)) (ci := 6) (v := .ref (q ((ta + 22) + 4))) (C := RX6) (T := TX6) (N := 4) hx hb hts hiX6 hown hK hP (ta + 22) (wkS hta.s) rfl 3 (by decide) (hts _ (List.mem_cons_of_mem _ (wk_in_0 _ (List.mem_of_getElem? (i := 42) rfl)))) (fun _ h9 => h9) rfl dX0_prepareKeys_160 ?_
                  refine lv_iload hx hb dX0_prepareKeys_163 (lv_at hl 2 rfl) ?_
                  refine k_aald (Wf := WK cB cI cJ cZ cQ q) hx hb hK hP ((ta + 22) + 4) 4 (wkSq hta.s) rfl (by omega) (by decide) (b := q ((ta + 22) + 5 + (z5).toNat)) (by rcases (show z5 = 0 ∨ z5 = 1 ∨ z5 = 2 ∨ z5 = 3 by omega) with h | h | h | h <;> rw [h] <;> rfl) dX0_prepareKeys_165 ?_
                  refine lv_iload hx hb dX0_prepareKeys_166 (lv_at hl 0 rfl) ?_
                  refine x_iald (Wf := WK cB cI cJ cZ cQ q) hx hb hK hP ((ta + 22) + 5 + (z5).toNat) 1 (wkSr hta.s (i := z5) (by omega)) rfl (by omega) (by decide) dX0_prepareKeys_168 (fun z56 hz56 => ?_)
                  have rz56 : (-2147483648 : Int) ≤ z56 ∧ z56 ≤ 2147483647 := by rw [hz56]; exact irSr hta.s (i := z5) (by omega) hI
                  refine lv_ishl hx hb dX0_prepareKeys_169 ?_
                  refine x_abs (fun z57 hz57 => ?_)
                  refine lv_ior hx hb dX0_prepareKeys_170 ?_
                  refine x_abs (fun z58 hz58 => ?_)
                  refine k_iast (Wf := WK cB cI cJ cZ cQ q) hx hb hK hP hDD hS (9 + (z5).toNat) 1 (wkALr (i := z5) (by omega)) rfl (by omega) (by decide) dX0_prepareKeys_171 (wsALr (i := z5) (by omega)) (fun H locs A59 hA59 hP hS => ?_)
                  have hI := isALr (i := z5) (by omega) hA59 hI (show (-2147483648 : Int) ≤ z58 ∧ z58 ≤ 2147483647 from hz58)
                  refine lv_iinc (v := iI (z40 + 1)) (lv' := [(5, .int (iI (z40 + 1))), (3, .int (iI z38)), (4, .int (iI z5)), (0, .ref (q 6)), (1, .ref (q ta)), (2, .int (iI x2))]) hx hb dX0_prepareKeys_172 hl (k := 0) rfl (i_inc (by omega)) (by decide) rfl (fun ls hl => ?_)
                  refine lv_goto (tgt := 112) hx hb dX0_prepareKeys_175 (by decide) ?_
                  exact ih44 _ (by omega) (z40 + 1) _ _ _ _ (by omega) rfl hI (fk.da (fk.trans (fk.rf) hj41 rfl rfl) hA59 (by rcases (show z5 = 0 ∨ z5 = 1 ∨ z5 = 2 ∨ z5 = 3 by omega) with g | g | g | g <;> rw [g] <;> rfl)) hP hS (lv_sub hl [0, 1, 2, 3, 4, 5] rfl)
            exact L112_43 _ 0 _ _ _ _ (by omega) rfl hI (fk.rf) hP hS (lv_sub hl [0, 1, 2, 3, 4, 5] rfl)
          · have c31 : z30 = 0 := (i_eq0 (by omega)).mp c31
            refine lv_aload_n hx hb dX0_prepareKeys_55 rfl (lv_at hl 2 rfl) ?_
            refine lv_dup hx hb dX0_prepareKeys_56 rfl ?_
            have e60 : A23 6 12 = (A8 6 12) := (rd_ne hA23 (by decide) 12)
            have r61 : (-2147483648 : Int) ≤ (A8 6 12) ∧ (A8 6 12) ≤ 2147483647 := by rw [← e60]; exact irAL_12 hI
            refine va_get (D := (dC, dI)) (ci := 0) (v := .int (iI (A23 6 12))) (C := RX0) (T := TX0) (N := 17) hx hb hts hiX0 hown hK hP 6 (wkAL) rfl 12 (by decide) (hts _ (List.mem_cons_of_mem _ (wk_in_0 _ (List.mem_of_getElem? (i := 38) rfl)))) (fun _ h9 => h9) rfl dX0_prepareKeys_57 ?_
            refine tp_i (y := iI (A8 6 12)) (congrArg iI e60) ?_
            refine lv_aload_n hx hb dX0_prepareKeys_60 rfl (lv_at hl 3 rfl) ?_
            refine va_get (D := (dC, dI)) (ci := 9) (v := .ref (q (ta + 22))) (C := RX9) (T := TX9) (N := 16) hx hb hts hiX9 hown hK hP ta (wkT hta) rfl 14 (by decide) (hts _ (List.mem_cons_of_mem _ (wk_in_0 _ (List.mem_of_getElem? (i := 18) rfl)))) (fun _ h9 => h9) rfl dX0_prepareKeys_61 ?_
            refine lv_iload hx hb dX0_prepareKeys_64 (lv_at hl 0 rfl) ?_
            refine k_calli (As := [.int (iI z5)]) (rest := [.int (iI (A8 6 12)), .ref (q 6)]) ⟨hx, hb, hml, hown, hts⟩ hE (kc_X6_rowMask l dC dI cB cI cJ cZ cQ aL aS q _ (ta + 22) z5 hI hta.s (rb f11 (by decide) (by decide))) (cwV 1 hts (goodVk (wk_in_0 _ (List.mem_of_getElem? (i := 49) rfl)) (wk_in_0 _ (List.mem_of_getElem? (i := 50) rfl)) (wk_in_0 _ (List.mem_of_getElem? (i := 51) rfl)) (wk_in_0 _ (List.mem_of_getElem? (i := 52) rfl)) (wk_in_0 _ (List.mem_of_getElem? (i := 53) rfl))) rfl rfl rfl (by decide +kernel) ⟨Nat.le_of_ble_eq_true rfl, Nat.le_of_ble_eq_true rfl⟩) hK hDD hA0 hP hS (ta + 22) 6 (wkS hta.s) rfl rfl hl.1 (Nat.le_of_ble_eq_true rfl) dX0_prepareKeys_66 (fun z62 A63 H locs hw64 hP hS => ?_)
            obtain ⟨rfl, hw64⟩ := hw64
            refine lv_ior hx hb dX0_prepareKeys_69 ?_
            refine x_abs (fun z65 hz65 => ?_)
            refine k_put (Wf := WK cB cI cJ cZ cQ q) (D := (dC, dI)) (ci := 0) (v := .int (iI z65)) (ty := .int) (C := RX0) (T := TX0) (N := 17) hx hb hts hiX0 tyX0 tyX0_ok nmX0 hown hK hP hDD hS 6 (wkAL) rfl 12 (by decide) (hts _ (List.mem_cons_of_mem _ (wk_in_0 _ (List.mem_of_getElem? (i := 38) rfl)))) (fun _ h9 => h9) rfl (by decide +kernel) rfl rfl (Nat.le_of_ble_eq_true rfl) dX0_prepareKeys_70 (wfAL_12 (v := z65)) (fun H locs A66 hA66 hP hS => ?_)
            have hI := isAL_12 hA66 hI (show (-2147483648 : Int) ≤ z65 ∧ z65 ≤ 2147483647 from hz65)
            refine lv_goto (tgt := 178) hx hb dX0_prepareKeys_73 (by decide) ?_
            exact J178_28 z6 _ _ _ _ (by omega) hI (fk.df (fk.rf) hA66 rfl) hP hS (lv_sub hl [1, 0, 2, 3, 4] rfl)
        · have c27 : ¬ z5 < z26 := mt (i_lt (rb f11 (by decide) (by decide)) (rb rz26 (by decide) (by decide))).mpr c27
          refine lv_goto (tgt := 178) hx hb dX0_prepareKeys_43 (by decide) ?_
          exact J178_28 z6 _ _ _ _ (by omega) hI (fk.rf) hP hS (lv_sub hl [1, 0, 2, 3, 4] rfl)
  exact L18_9 _ 0 z4 _ _ _ _ (by omega) (by omega) rfl hI (fk.rf) hP hS (lv_sub hl [0, 1, 2, 3, 4] rfl)

abbrev tr_r_X9_isBox (ta : Nat) (x1 : Int) (A : St) (z : Int) : Prop := (((x1 < 0) ∧ (z = 0)) ∨ ((¬ x1 < 0) ∧ (∃ z2 : Int, z2 = A (ta + 1) (1 : Int).toNat ∧ (((z2 ≤ x1) ∧ (z = 0)) ∨ ((¬ z2 ≤ x1) ∧ (∃ z4 : Int, z4 = A (ta + 10) (x1).toNat ∧ (((¬ z4 = 0) ∧ (z = 0)) ∨ ((z4 = 0) ∧ (z = 1)))))))))
def r_X9_isBox (ta : Nat) (x1 : Int) (A : St) (z : Int) : Prop := tr_r_X9_isBox ta x1 A z
theorem u_r_X9_isBox {ta : Nat} {x1 : Int} {A : St} {z : Int} (h : tr_r_X9_isBox ta x1 A z) : r_X9_isBox ta x1 A z := h
def q_X9_isBox (ta : Nat) (x1 : Int) (A : St) (z : Int) : Prop := r_X9_isBox ta x1 A z ∧ ((0 ≤ z ∧ z ≤ 1) ∧ (z = 1 → 0 ≤ x1 ∧ x1 ≤ 9))
def ws_kc_X9_isBox : List Cond := .code yX9_isBox cX9_isBox 2 (some .boolean) :: WY
set_option maxHeartbeats 4000000 in
set_option maxRecDepth 100000 in
theorem kc_X9_isBox (l : Launch) (dC : Nat → ClassId) (dI : Nat → Nat → Nat) (cB cI cJ cZ cQ : ClassId) (aL aS : Nat) (q : Nat → Nat) (A : St) (ta : Nat) (x1 : Int) (hI : IK A) (hta : isT ta) (hx1 : (-2147483648 : Int) ≤ x1 ∧ x1 ≤ 2147483647) : KMi l yX9_isBox ws_kc_X9_isBox ({ frames := 0, cells := 0, slots := 0, locals := 0 } : Room) aL aS (dC, dI) (tyA cB cI cJ cZ cQ) (WK cB cI cJ cZ cQ q) A [.ref (q ta), .int (iI x1)] (fun z u => A = u ∧ r_X9_isBox ta x1 A z ∧ ((0 ≤ z ∧ z ≤ 1) ∧ (z = 1 → 0 ≤ x1 ∧ x1 ≤ 9))) := by
  refine k_metz (cc := cX9_isBox) (maxL := 2) WK_adr (plainFor_of_name (by decide +kernel)) rfl (Nat.le_of_ble_eq_true rfl) (fun z u h => h.2.2.1) (fun p e s m below meth c Q AS ls hx hb hml hown hts hK hDD hA0 hE RET H locs hP hS hl => ?_)
  have hown : s.vm.findClass RX9 = some m.cls := hown
  have hl : lv_has ls 2 [(0, .ref (q ta)), (1, .int (iI x1))] := hl
  have hiX9 : ∀ w ∈ u_ws RX9 TX9 16, w ∈ ws_kc_X9_isBox := fun w h => List.mem_cons_of_mem _ (wy_layX9 w h)
  refine lv_iload_n hx hb dX9_isBox_0 rfl (lv_at hl 1 rfl) ?_
  refine lv_if_lt (tgt := 27) hx hb dX9_isBox_1 (by decide) (fun c1 => ?_) (fun c1 => ?_)
  · have c1 : x1 < 0 := (i_lt0 hx1).mp c1
    refine lv_iconst (v := iI 0) hx hb dX9_isBox_27 (by decide +kernel) ?_
    exact RET 0 _ _ _ _ _ ⟨rfl, (u_r_X9_isBox (Or.inl ⟨c1, rfl⟩)), by omega⟩ hP hS dX9_isBox_28
  · have c1 : ¬ x1 < 0 := mt (i_lt0 hx1).mpr c1
    refine lv_iload_n hx hb dX9_isBox_4 rfl (lv_at hl 1 rfl) ?_
    refine lv_aload_n hx hb dX9_isBox_5 rfl (lv_at hl 0 rfl) ?_
    refine va_get (D := (dC, dI)) (ci := 9) (v := .ref (q (ta + 1))) (C := RX9) (T := TX9) (N := 16) hx hb hts hiX9 hown hK hP ta (wkT hta) rfl 0 (by decide) (hts _ (List.mem_cons_of_mem _ (wk_in_0 _ (List.mem_of_getElem? (i := 8) rfl)))) (fun _ h9 => h9) rfl dX9_isBox_6 ?_
    refine lv_iconst (v := iI 1) hx hb dX9_isBox_9 (by decide +kernel) ?_
    refine x_iald (Wf := WK cB cI cJ cZ cQ q) hx hb hK hP (ta + 1) 1 (wkTc hta) rfl (by decide) (by decide) dX9_isBox_10 (fun z2 hz2 => ?_)
    have rz2 : (0 : Int) ≤ z2 ∧ z2 ≤ 10 := by rw [hz2]; exact irTc1 hta hI
    have gz2 := Hd.mk hz2
    refine lv_icmp_ge (tgt := 27) hx hb dX9_isBox_11 (by decide) (fun c3 => ?_) (fun c3 => ?_)
    · have c3 : z2 ≤ x1 := (i_le (rb rz2 (by decide) (by decide)) hx1).mp c3
      refine lv_iconst (v := iI 0) hx hb dX9_isBox_27 (by decide +kernel) ?_
      exact RET 0 _ _ _ _ _ ⟨rfl, (u_r_X9_isBox (Or.inr ⟨c1, ⟨z2, gz2.out, (Or.inl ⟨c3, rfl⟩)⟩⟩)), by omega⟩ hP hS dX9_isBox_28
    · have c3 : ¬ z2 ≤ x1 := mt (i_le (rb rz2 (by decide) (by decide)) hx1).mpr c3
      refine lv_aload_n hx hb dX9_isBox_14 rfl (lv_at hl 0 rfl) ?_
      refine va_get (D := (dC, dI)) (ci := 9) (v := .ref (q (ta + 10))) (C := RX9) (T := TX9) (N := 16) hx hb hts hiX9 hown hK hP ta (wkT hta) rfl 4 (by decide) (hts _ (List.mem_cons_of_mem _ (wk_in_1 _ (List.mem_of_getElem? (i := 9) rfl)))) (fun _ h9 => h9) rfl dX9_isBox_15 ?_
      refine lv_iload_n hx hb dX9_isBox_18 rfl (lv_at hl 1 rfl) ?_
      refine x_iald (Wf := WK cB cI cJ cZ cQ q) hx hb hK hP (ta + 10) 1 (wkTm hta) rfl (by omega) (by decide) dX9_isBox_19 (fun z4 hz4 => ?_)
      have rz4 : (-2147483648 : Int) ≤ z4 ∧ z4 ≤ 2147483647 := by rw [hz4]; exact irTm hta hI
      have gz4 := Hd.mk hz4
      refine lv_if_ne (tgt := 27) hx hb dX9_isBox_20 (by decide) (fun c5 => ?_) (fun c5 => ?_)
      · have c5 : ¬ z4 = 0 := mt (i_eq0 rz4).mpr c5
        refine lv_iconst (v := iI 0) hx hb dX9_isBox_27 (by decide +kernel) ?_
        exact RET 0 _ _ _ _ _ ⟨rfl, (u_r_X9_isBox (Or.inr ⟨c1, ⟨z2, gz2.out, (Or.inr ⟨c3, ⟨z4, gz4.out, (Or.inl ⟨c5, rfl⟩)⟩⟩)⟩⟩)), by omega⟩ hP hS dX9_isBox_28
      · have c5 : z4 = 0 := (i_eq0 rz4).mp c5
        refine lv_iconst (v := iI 1) hx hb dX9_isBox_23 (by decide +kernel) ?_
        refine lv_goto (tgt := 28) hx hb dX9_isBox_24 (by decide) ?_
        exact RET 1 _ _ _ _ _ ⟨rfl, (u_r_X9_isBox (Or.inr ⟨c1, ⟨z2, gz2.out, (Or.inr ⟨c3, ⟨z4, gz4.out, (Or.inr ⟨c5, rfl⟩)⟩⟩)⟩⟩)), by omega⟩ hP hS dX9_isBox_28

def ws_kc_X9_isAt : List Cond := .code yX9_isAt cX9_isAt 3 (some .boolean) :: WY
set_option maxHeartbeats 4000000 in
set_option maxRecDepth 100000 in
theorem kc_X9_isAt (l : Launch) (dC : Nat → ClassId) (dI : Nat → Nat → Nat) (cB cI cJ cZ cQ : ClassId) (aL aS : Nat) (q : Nat → Nat) (A : St) (ta : Nat) (x1 x2 : Int) (hI : IK A) (hta : isT ta) (hx1 : (-2147483648 : Int) ≤ x1 ∧ x1 ≤ 2147483647) (hx2 : (-2147483648 : Int) ≤ x2 ∧ x2 ≤ 2147483647) : KMi l yX9_isAt ws_kc_X9_isAt ({ frames := 0, cells := 0, slots := 0, locals := 0 } : Room) aL aS (dC, dI) (tyA cB cI cJ cZ cQ) (WK cB cI cJ cZ cQ q) A [.ref (q ta), .int (iI x1), .int (iI x2)] (fun z u => A = u ∧ ((0 ≤ z ∧ z ≤ 1) ∧ (z = 1 → 0 ≤ x1 ∧ x1 ≤ 9))) := by
  refine k_metz (cc := cX9_isAt) (maxL := 3) WK_adr (plainFor_of_name (by decide +kernel)) rfl (Nat.le_of_ble_eq_true rfl) (fun z u h => h.2.1) (fun p e s m below meth c Q AS ls hx hb hml hown hts hK hDD hA0 hE RET H locs hP hS hl => ?_)
  have hown : s.vm.findClass RX9 = some m.cls := hown
  have hl : lv_has ls 3 [(0, .ref (q ta)), (1, .int (iI x1)), (2, .int (iI x2))] := hl
  have hiX9 : ∀ w ∈ u_ws RX9 TX9 16, w ∈ ws_kc_X9_isAt := fun w h => List.mem_cons_of_mem _ (wy_layX9 w h)
  refine lv_iload_n hx hb dX9_isAt_0 rfl (lv_at hl 1 rfl) ?_
  refine lv_if_lt (tgt := 38) hx hb dX9_isAt_1 (by decide) (fun c1 => ?_) (fun c1 => ?_)
  · have c1 : x1 < 0 := (i_lt0 hx1).mp c1
    refine lv_iconst (v := iI 0) hx hb dX9_isAt_38 (by decide +kernel) ?_
    exact RET 0 _ _ _ _ _ ⟨rfl, by omega⟩ hP hS dX9_isAt_39
  · have c1 : ¬ x1 < 0 := mt (i_lt0 hx1).mpr c1
    refine lv_iload_n hx hb dX9_isAt_4 rfl (lv_at hl 1 rfl) ?_
    refine lv_aload_n hx hb dX9_isAt_5 rfl (lv_at hl 0 rfl) ?_
    refine va_get (D := (dC, dI)) (ci := 9) (v := .ref (q (ta + 1))) (C := RX9) (T := TX9) (N := 16) hx hb hts hiX9 hown hK hP ta (wkT hta) rfl 0 (by decide) (hts _ (List.mem_cons_of_mem _ (wk_in_0 _ (List.mem_of_getElem? (i := 8) rfl)))) (fun _ h9 => h9) rfl dX9_isAt_6 ?_
    refine lv_iconst (v := iI 1) hx hb dX9_isAt_9 (by decide +kernel) ?_
    refine x_iald (Wf := WK cB cI cJ cZ cQ q) hx hb hK hP (ta + 1) 1 (wkTc hta) rfl (by decide) (by decide) dX9_isAt_10 (fun z2 hz2 => ?_)
    have rz2 : (0 : Int) ≤ z2 ∧ z2 ≤ 10 := by rw [hz2]; exact irTc1 hta hI
    refine lv_icmp_ge (tgt := 38) hx hb dX9_isAt_11 (by decide) (fun c3 => ?_) (fun c3 => ?_)
    · have c3 : z2 ≤ x1 := (i_le (rb rz2 (by decide) (by decide)) hx1).mp c3
      refine lv_iconst (v := iI 0) hx hb dX9_isAt_38 (by decide +kernel) ?_
      exact RET 0 _ _ _ _ _ ⟨rfl, by omega⟩ hP hS dX9_isAt_39
    · have c3 : ¬ z2 ≤ x1 := mt (i_le (rb rz2 (by decide) (by decide)) hx1).mpr c3
      refine lv_aload_n hx hb dX9_isAt_14 rfl (lv_at hl 0 rfl) ?_
      refine va_get (D := (dC, dI)) (ci := 9) (v := .ref (q (ta + 8))) (C := RX9) (T := TX9) (N := 16) hx hb hts hiX9 hown hK hP ta (wkT hta) rfl 2 (by decide) (hts _ (List.mem_cons_of_mem _ (wk_in_1 _ (List.mem_of_getElem? (i := 14) rfl)))) (fun _ h9 => h9) rfl dX9_isAt_15 ?_
      refine lv_iload_n hx hb dX9_isAt_18 rfl (lv_at hl 1 rfl) ?_
      refine x_iald (Wf := WK cB cI cJ cZ cQ q) hx hb hK hP (ta + 8) 1 (wkTf hta) rfl (by omega) (by decide) dX9_isAt_19 (fun z4 hz4 => ?_)
      have rz4 : (-2147483648 : Int) ≤ z4 ∧ z4 ≤ 2147483647 := by rw [hz4]; exact irTf hta hI
      refine lv_iload_n hx hb dX9_isAt_20 rfl (lv_at hl 2 rfl) ?_
      refine lv_icmp_eq (tgt := 34) hx hb dX9_isAt_21 (by decide) (fun c5 => ?_) (fun c5 => ?_)
      · have c5 : z4 = x2 := (i_eq rz4 hx2).mp c5
        refine lv_iconst (v := iI 1) hx hb dX9_isAt_34 (by decide +kernel) ?_
        refine lv_goto (tgt := 39) hx hb dX9_isAt_35 (by decide) ?_
        exact RET 1 _ _ _ _ _ ⟨rfl, by omega⟩ hP hS dX9_isAt_39
      · have c5 : ¬ z4 = x2 := mt (i_eq rz4 hx2).mpr c5
        refine lv_aload_n hx hb dX9_isAt_24 rfl (lv_at hl 0 rfl) ?_
        refine va_get (D := (dC, dI)) (ci := 9) (v := .ref (q (ta + 9))) (C := RX9) (T := TX9) (N := 16) hx hb hts hiX9 hown hK hP ta (wkT hta) rfl 3 (by decide) (hts _ (List.mem_cons_of_mem _ (wk_in_1 _ (List.mem_of_getElem? (i := 15) rfl)))) (fun _ h9 => h9) rfl dX9_isAt_25 ?_
        refine lv_iload_n hx hb dX9_isAt_28 rfl (lv_at hl 1 rfl) ?_
        refine x_iald (Wf := WK cB cI cJ cZ cQ q) hx hb hK hP (ta + 9) 1 (wkTs hta) rfl (by omega) (by decide) dX9_isAt_29 (fun z6 hz6 => ?_)
        have rz6 : (-2147483648 : Int) ≤ z6 ∧ z6 ≤ 2147483647 := by rw [hz6]; exact irTs hta hI
        refine lv_iload_n hx hb dX9_isAt_30 rfl (lv_at hl 2 rfl) ?_
        refine lv_icmp_ne (tgt := 38) hx hb dX9_isAt_31 (by decide) (fun c7 => ?_) (fun c7 => ?_)
        · have c7 : ¬ z6 = x2 := mt (i_eq rz6 hx2).mpr c7
          refine lv_iconst (v := iI 0) hx hb dX9_isAt_38 (by decide +kernel) ?_
          exact RET 0 _ _ _ _ _ ⟨rfl, by omega⟩ hP hS dX9_isAt_39
        · have c7 : z6 = x2 := (i_eq rz6 hx2).mp c7
          refine lv_iconst (v := iI 1) hx hb dX9_isAt_34 (by decide +kernel) ?_
          refine lv_goto (tgt := 39) hx hb dX9_isAt_35 (by decide) ?_
          exact RET 1 _ _ _ _ _ ⟨rfl, by omega⟩ hP hS dX9_isAt_39

def ws_kc_X0_prepareDoors : List Cond := .code yX0_prepareDoors cX0_prepareDoors 4 none :: WY
set_option maxHeartbeats 4000000 in
set_option maxRecDepth 100000 in
theorem kc_X0_prepareDoors (l : Launch) (dC : Nat → ClassId) (dI : Nat → Nat → Nat) (cB cI cJ cZ cQ : ClassId) (aL aS : Nat) (q : Nat → Nat) (A : St) (ta : Nat) (hI : IK A) (hta : isT ta) : KMv l yX0_prepareDoors ws_kc_X0_prepareDoors ({ frames := 1, cells := 0, slots := 0, locals := 22 } : Room) aL aS (dC, dI) (tyA cB cI cJ cZ cQ) (WK cB cI cJ cZ cQ q) A [.ref (q 6), .ref (q ta)] (fun u => IK u ∧ fk [15] [] A u ∧ (True)) := by
  refine k_metv (cc := cX0_prepareDoors) (maxL := 4) WK_adr (plainFor_of_name (by decide +kernel)) rfl (Nat.le_of_ble_eq_true rfl) (fun p e s m below meth c Q AS ls hx hb hml hown hts hK hDD hA0 hE RET H locs hP hS hl => ?_)
  have hown : s.vm.findClass RX0 = some m.cls := hown
  have hl : lv_has ls 4 [(0, .ref (q 6)), (1, .ref (q ta))] := hl
  have hiX0 : ∀ w ∈ u_ws RX0 TX0 17, w ∈ ws_kc_X0_prepareDoors := fun w h => List.mem_cons_of_mem _ (wy_layX0 w h)
  have hiX9 : ∀ w ∈ u_ws RX9 TX9 16, w ∈ ws_kc_X0_prepareDoors := fun w h => List.mem_cons_of_mem _ (wy_layX9 w h)
  refine lv_iconst (v := iI 0) hx hb dX0_prepareDoors_0 (by decide +kernel) ?_
  refine lv_istore_n (lv' := [(2, .int (iI 0)), (0, .ref (q 6)), (1, .ref (q ta))]) hx hb dX0_prepareDoors_1 rfl hl (by decide) rfl (fun ls hl => ?_)
  have L2_4 : ∀ (n7 : Nat) (z1 : Int) (A3 : St) (H : Heap) (locs : List Loc) (ls : Array Slot), (0 ≤ z1 ∧ z1 ≤ 2147483647) → ((9 - z1).toNat = n7) → IK A3 → fk [15] [] A A3 → va_P (dC, dI) vwCl (WK cB cI cJ cZ cQ q A3) H → va_S AS s.heap H locs → lv_has ls 4 [(2, .int (iI z1)), (0, .ref (q 6)), (1, .ref (q ta))] → W p l e (headSpec ws_kc_X0_prepareDoors ({ frames := 1, cells := 0, slots := 0, locals := 22 } : Room)).room s m [.ref (q 6), .ref (q ta)].toArray below meth c H locs 0 0 Q (F0 m 2 ls []) := by
    intro n7
    induction n7 using Nat.strongRecOn with
    | ind n7 ih5 =>
      intro z1 A3 H locs ls f6 hn7 hI hj2 hP hS hl
      refine lv_iload_n hx hb dX0_prepareDoors_2 rfl (lv_at hl 0 rfl) ?_
      refine lv_bipush (v := iI 8) hx hb dX0_prepareDoors_3 (by decide +kernel) ?_
      refine lv_icmp_ge (tgt := 68) hx hb dX0_prepareDoors_5 (by decide) (fun c8 => ?_) (fun c8 => ?_)
      · have c8 : 8 ≤ z1 := (i_le ⟨by decide, by decide⟩ (rb f6 (by decide) (by decide))).mp c8
        exact RET _ _ _ _ _ ⟨hI, fk.trans (fk.rf) hj2 rfl rfl, trivial⟩ hP hS dX0_prepareDoors_68
      · have c8 : ¬ 8 ≤ z1 := mt (i_le ⟨by decide, by decide⟩ (rb f6 (by decide) (by decide))).mpr c8
        refine lv_aload_n hx hb dX0_prepareDoors_8 rfl (lv_at hl 1 rfl) ?_
        refine va_get (D := (dC, dI)) (ci := 0) (v := .ref (q 15)) (C := RX0) (T := TX0) (N := 17) hx hb hts hiX0 hown hK hP 6 (wkAL) rfl 4 (by decide) (hts _ (List.mem_cons_of_mem _ (wk_in_1 _ (List.mem_of_getElem? (i := 4) rfl)))) (fun _ h9 => h9) rfl dX0_prepareDoors_9 ?_
        refine lv_iload_n hx hb dX0_prepareDoors_12 rfl (lv_at hl 0 rfl) ?_
        refine lv_iconst (v := iI 0) hx hb dX0_prepareDoors_13 (by decide +kernel) ?_
        refine k_iast (Wf := WK cB cI cJ cZ cQ q) hx hb hK hP hDD hS 15 1 (wkALd) rfl (by omega) (by decide) dX0_prepareDoors_14 (wsALd) (fun H locs A9 hA9 hP hS => ?_)
        have hI := isALd hA9 hI (show (-2147483648 : Int) ≤ 0 ∧ 0 ≤ 2147483647 from ⟨by decide, by decide⟩)
        refine lv_iconst (v := iI 0) hx hb dX0_prepareDoors_15 (by decide +kernel) ?_
        refine lv_istore_n (lv' := [(3, .int (iI 0)), (2, .int (iI z1)), (0, .ref (q 6)), (1, .ref (q ta))]) hx hb dX0_prepareDoors_16 rfl hl (by decide) rfl (fun ls hl => ?_)
        have L17_13 : ∀ (n20 : Nat) (z10 : Int) (A12 : St) (H : Heap) (locs : List Loc) (ls : Array Slot), (0 ≤ z10 ∧ z10 ≤ 2147483647) → ((11 - z10).toNat = n20) → IK A12 → fk [15] [] A9 A12 → va_P (dC, dI) vwCl (WK cB cI cJ cZ cQ q A12) H → va_S AS s.heap H locs → lv_has ls 4 [(3, .int (iI z10)), (2, .int (iI z1)), (0, .ref (q 6)), (1, .ref (q ta))] → W p l e (headSpec ws_kc_X0_prepareDoors ({ frames := 1, cells := 0, slots := 0, locals := 22 } : Room)).room s m [.ref (q 6), .ref (q ta)].toArray below meth c H locs 0 0 Q (F0 m 17 ls []) := by
          intro n20
          induction n20 using Nat.strongRecOn with
          | ind n20 ih14 =>
            intro z10 A12 H locs ls f15 hn20 hI hj11 hP hS hl
            refine lv_iload_n hx hb dX0_prepareDoors_17 rfl (lv_at hl 0 rfl) ?_
            refine lv_aload_n hx hb dX0_prepareDoors_18 rfl (lv_at hl 3 rfl) ?_
            refine va_get (D := (dC, dI)) (ci := 9) (v := .ref (q (ta + 1))) (C := RX9) (T := TX9) (N := 16) hx hb hts hiX9 hown hK hP ta (wkT hta) rfl 0 (by decide) (hts _ (List.mem_cons_of_mem _ (wk_in_0 _ (List.mem_of_getElem? (i := 1) rfl)))) (fun _ h9 => h9) rfl dX0_prepareDoors_19 ?_
            refine lv_iconst (v := iI 1) hx hb dX0_prepareDoors_22 (by decide +kernel) ?_
            have a23 : ∀ k, A3 (ta + 1) k = A (ta + 1) k := fun k => hj2 (ta + 1) k (isT.b2 (o := fun b => List.contains [15] (b + 1)) hta rfl rfl) (isT.b2 (o := fun b => fin2 [] (b + 1) k) hta rfl rfl)
            have a22 : ∀ k, A9 (ta + 1) k = A (ta + 1) k := fun k => (rd_ne hA9 (by rcases hta with h | h <;> omega) k).trans (a23 k)
            have a21 : ∀ k, A12 (ta + 1) k = A (ta + 1) k := fun k => (hj11 (ta + 1) k (isT.b2 (o := fun b => List.contains [15] (b + 1)) hta rfl rfl) (isT.b2 (o := fun b => fin2 [] (b + 1) k) hta rfl rfl)).trans (a22 k)
            refine x_iald (Wf := WK cB cI cJ cZ cQ q) hx hb hK hP (ta + 1) 1 (wkTc hta) rfl (by decide) (by decide) dX0_prepareDoors_23 (fun z24 hz24 => ?_)
            have rz24 : (0 : Int) ≤ z24 ∧ z24 ≤ 10 := by rw [hz24]; exact irTc1 hta hI
            have hz24 : z24 = A (ta + 1) (1 : Int).toNat := hz24.trans (a21 _)
            refine lv_icmp_ge (tgt := 62) hx hb dX0_prepareDoors_24 (by decide) (fun c25 => ?_) (fun c25 => ?_)
            · have c25 : z24 ≤ z10 := (i_le (rb rz24 (by decide) (by decide)) (rb f15 (by decide) (by decide))).mp c25
              refine lv_iinc (v := iI (z1 + 1)) (lv' := [(2, .int (iI (z1 + 1))), (3, .int (iI z10)), (0, .ref (q 6)), (1, .ref (q ta))]) hx hb dX0_prepareDoors_62 hl (k := 1) rfl (i_inc (by omega)) (by decide) rfl (fun ls hl => ?_)
              refine lv_goto (tgt := 2) hx hb dX0_prepareDoors_65 (by decide) ?_
              exact ih5 _ (by omega) (z1 + 1) _ _ _ _ (by omega) rfl hI (fk.trans (fk.da (fk.trans (fk.rf) hj2 rfl rfl) hA9 rfl) hj11 rfl rfl) hP hS (lv_sub hl [0, 2, 3] rfl)
            · have c25 : ¬ z24 ≤ z10 := mt (i_le (rb rz24 (by decide) (by decide)) (rb f15 (by decide) (by decide))).mpr c25
              refine lv_aload_n hx hb dX0_prepareDoors_27 rfl (lv_at hl 3 rfl) ?_
              refine lv_iload_n hx hb dX0_prepareDoors_28 rfl (lv_at hl 0 rfl) ?_
              refine k_calli (As := [.int (iI z10)]) (rest := []) ⟨hx, hb, hml, hown, hts⟩ hE (kc_X9_isBox l dC dI cB cI cJ cZ cQ aL aS q _ ta z10 hI hta (rb f15 (by decide) (by decide))) (cwV 1 hts (goodVk (wk_in_1 _ (List.mem_of_getElem? (i := 5) rfl)) (wk_in_1 _ (List.mem_of_getElem? (i := 6) rfl)) (wk_in_1 _ (List.mem_of_getElem? (i := 7) rfl)) (wk_in_0 _ (List.mem_of_getElem? (i := 6) rfl)) (wk_in_1 _ (List.mem_of_getElem? (i := 8) rfl))) rfl rfl rfl (by decide +kernel) ⟨Nat.le_of_ble_eq_true rfl, Nat.le_of_ble_eq_true rfl⟩) hK hDD hA0 hP hS ta 9 (wkT hta) rfl rfl hl.1 (Nat.le_of_ble_eq_true rfl) dX0_prepareDoors_29 (fun z26 A27 H locs hw28 hP hS => ?_)
              obtain ⟨rfl, hw28⟩ := hw28
              have hw28 := hw28.2
              have rz26 : 0 ≤ z26 ∧ z26 ≤ 1 := hw28.1
              have hw28 := hw28.2
              have J56_30 : ∀ (A40 : St) (H : Heap) (locs : List Loc) (ls : Array Slot), IK A40 → fk [15] [] A12 A40 → va_P (dC, dI) vwCl (WK cB cI cJ cZ cQ q A40) H → va_S AS s.heap H locs → lv_has ls 4 [(3, .int (iI z10)), (2, .int (iI z1)), (0, .ref (q 6)), (1, .ref (q ta))] → W p l e (headSpec ws_kc_X0_prepareDoors ({ frames := 1, cells := 0, slots := 0, locals := 22 } : Room)).room s m [.ref (q 6), .ref (q ta)].toArray below meth c H locs 0 0 Q (F0 m 56 ls []) := by
                intro A40 H locs ls hI hj39 hP hS hl
                clear hw28
                refine lv_iinc (v := iI (z10 + 1)) (lv' := [(3, .int (iI (z10 + 1))), (2, .int (iI z1)), (0, .ref (q 6)), (1, .ref (q ta))]) hx hb dX0_prepareDoors_56 hl (k := 0) rfl (i_inc (by omega)) (by decide) rfl (fun ls hl => ?_)
                refine lv_goto (tgt := 17) hx hb dX0_prepareDoors_59 (by decide) ?_
                exact ih14 _ (by omega) (z10 + 1) _ _ _ _ (by omega) rfl hI (fk.trans (fk.trans (fk.rf) hj11 rfl rfl) hj39 rfl rfl) hP hS (lv_sub hl [0, 1, 2, 3] rfl)
              refine lv_if_ne (tgt := 56) hx hb dX0_prepareDoors_32 (by decide) (fun c29 => ?_) (fun c29 => ?_)
              · have c29 : ¬ z26 = 0 := mt (i_eq0 (rb rz26 (by decide) (by decide))).mpr c29
                have hw28b := hw28 (by omega)
                clear hw28
                exact J56_30 _ _ _ _ hI (fk.rf) hP hS (lv_sub hl [0, 1, 2, 3] rfl)
              · have c29 : z26 = 0 := (i_eq0 (rb rz26 (by decide) (by decide))).mp c29
                clear hw28
                refine lv_aload_n hx hb dX0_prepareDoors_35 rfl (lv_at hl 3 rfl) ?_
                refine lv_iload_n hx hb dX0_prepareDoors_36 rfl (lv_at hl 0 rfl) ?_
                refine lv_iload_n hx hb dX0_prepareDoors_37 rfl (lv_at hl 1 rfl) ?_
                refine k_calli (As := [.int (iI z10), .int (iI z1)]) (rest := []) ⟨hx, hb, hml, hown, hts⟩ hE (kc_X9_isAt l dC dI cB cI cJ cZ cQ aL aS q _ ta z10 z1 hI hta (rb f15 (by decide) (by decide)) (rb f6 (by decide) (by decide))) (cwV 2 hts (goodVk (wk_in_1 _ (List.mem_of_getElem? (i := 10) rfl)) (wk_in_1 _ (List.mem_of_getElem? (i := 11) rfl)) (wk_in_1 _ (List.mem_of_getElem? (i := 12) rfl)) (wk_in_0 _ (List.mem_of_getElem? (i := 6) rfl)) (wk_in_1 _ (List.mem_of_getElem? (i := 13) rfl))) rfl rfl rfl (by decide +kernel) ⟨Nat.le_of_ble_eq_true rfl, Nat.le_of_ble_eq_true rfl⟩) hK hDD hA0 hP hS ta 9 (wkT hta) rfl rfl hl.1 (Nat.le_of_ble_eq_true rfl) dX0_prepareDoors_38 (fun z31 A32 H locs hw33 hP hS => ?_)
                obtain ⟨rfl, hw33⟩ := hw33
                have rz31 : 0 ≤ z31 ∧ z31 ≤ 1 := hw33.1
                have hw33 := hw33.2
                refine lv_if_eq (tgt := 56) hx hb dX0_prepareDoors_41 (by decide) (fun c34 => ?_) (fun c34 => ?_)
                · have c34 : z31 = 0 := (i_eq0 (rb rz31 (by decide) (by decide))).mp c34
                  clear hw33
                  exact J56_30 _ _ _ _ hI (fk.rf) hP hS (lv_sub hl [0, 1, 2, 3] rfl)
                · have c34 : ¬ z31 = 0 := mt (i_eq0 (rb rz31 (by decide) (by decide))).mpr c34
                  have hw33b := hw33 (by omega)
                  clear hw33
                  refine lv_aload_n hx hb dX0_prepareDoors_44 rfl (lv_at hl 2 rfl) ?_
                  refine va_get (D := (dC, dI)) (ci := 0) (v := .ref (q 15)) (C := RX0) (T := TX0) (N := 17) hx hb hts hiX0 hown hK hP 6 (wkAL) rfl 4 (by decide) (hts _ (List.mem_cons_of_mem _ (wk_in_1 _ (List.mem_of_getElem? (i := 4) rfl)))) (fun _ h9 => h9) rfl dX0_prepareDoors_45 ?_
                  refine lv_iload_n hx hb dX0_prepareDoors_48 rfl (lv_at hl 1 rfl) ?_
                  refine lv_dup2_11 hx hb dX0_prepareDoors_49 rfl rfl ?_
                  refine x_iald (Wf := WK cB cI cJ cZ cQ q) hx hb hK hP 15 1 (wkALd) rfl (by omega) (by decide) dX0_prepareDoors_50 (fun z35 hz35 => ?_)
                  have rz35 : (-2147483648 : Int) ≤ z35 ∧ z35 ≤ 2147483647 := by rw [hz35]; exact irALd hI
                  refine lv_iconst (v := iI 1) hx hb dX0_prepareDoors_51 (by decide +kernel) ?_
                  refine lv_iload_n hx hb dX0_prepareDoors_52 rfl (lv_at hl 0 rfl) ?_
                  refine lv_ishl hx hb dX0_prepareDoors_53 ?_
                  refine x_abs (fun z36 hz36 => ?_)
                  refine lv_ior hx hb dX0_prepareDoors_54 ?_
                  refine x_abs (fun z37 hz37 => ?_)
                  refine k_iast (Wf := WK cB cI cJ cZ cQ q) hx hb hK hP hDD hS 15 1 (wkALd) rfl (by omega) (by decide) dX0_prepareDoors_55 (wsALd) (fun H locs A38 hA38 hP hS => ?_)
                  have hI := isALd hA38 hI (show (-2147483648 : Int) ≤ z37 ∧ z37 ≤ 2147483647 from hz37)
                  exact J56_30 _ _ _ _ hI (fk.da (fk.rf) hA38 rfl) hP hS (lv_sub hl [0, 1, 2, 3] rfl)
        exact L17_13 _ 0 _ _ _ _ (by omega) rfl hI (fk.rf) hP hS (lv_sub hl [0, 1, 2, 3] rfl)
  exact L2_4 _ 0 _ _ _ _ (by omega) rfl hI (fk.rf) hP hS (lv_sub hl [0, 1, 2] rfl)

abbrev tr_r_J6_bitCount_0f7a4 (x1 : Int) (A : St) (z : Int) : Prop := (∃ z1 : Int, z1 = oUshr x1 1 ∧ (∃ z2 : Int, z2 = oAnd z1 1431655765 ∧ (∃ z3 : Int, z3 = oWrap (x1 - z2) ∧ (∃ z4 : Int, z4 = oAnd z3 858993459 ∧ (∃ z5 : Int, z5 = oUshr z3 2 ∧ (∃ z6 : Int, z6 = oAnd z5 858993459 ∧ (∃ z7 : Int, z7 = oUshr (z4 + z6) 4 ∧ (∃ z8 : Int, z8 = oWrap (z4 + z6 + z7) ∧ (∃ z9 : Int, z9 = oAnd z8 252645135 ∧ (∃ z10 : Int, z10 = oUshr z9 8 ∧ (∃ z11 : Int, z11 = oWrap (z9 + z10) ∧ (∃ z12 : Int, z12 = oUshr z11 16 ∧ (∃ z13 : Int, z13 = oWrap (z11 + z12) ∧ (∃ z14 : Int, z14 = oAnd z13 63 ∧ (z = z14)))))))))))))))
def r_J6_bitCount_0f7a4 (x1 : Int) (A : St) (z : Int) : Prop := tr_r_J6_bitCount_0f7a4 x1 A z
theorem u_r_J6_bitCount_0f7a4 {x1 : Int} {A : St} {z : Int} (h : tr_r_J6_bitCount_0f7a4 x1 A z) : r_J6_bitCount_0f7a4 x1 A z := h
def q_J6_bitCount_0f7a4 (x1 : Int) (A : St) (z : Int) : Prop := r_J6_bitCount_0f7a4 x1 A z ∧ (0 ≤ z ∧ z ≤ 63)
def ws_kc_J6_bitCount_0f7a4 : List Cond := .code yJ6_bitCount_0f7a4 cJ6_bitCount_0f7a4 1 (some .int) :: WY
set_option maxHeartbeats 4000000 in
set_option maxRecDepth 100000 in
theorem kc_J6_bitCount_0f7a4 (l : Launch) (dC : Nat → ClassId) (dI : Nat → Nat → Nat) (cB cI cJ cZ cQ : ClassId) (aL aS : Nat) (q : Nat → Nat) (A : St) (x1 : Int) (hI : IK A) (hx1 : (-2147483648 : Int) ≤ x1 ∧ x1 ≤ 2147483647) : KMi l yJ6_bitCount_0f7a4 ws_kc_J6_bitCount_0f7a4 ({ frames := 0, cells := 0, slots := 0, locals := 0 } : Room) aL aS (dC, dI) (tyA cB cI cJ cZ cQ) (WK cB cI cJ cZ cQ q) A [.int (iI x1)] (fun z u => A = u ∧ r_J6_bitCount_0f7a4 x1 A z ∧ (0 ≤ z ∧ z ≤ 63)) := by
  refine k_meti (cc := cJ6_bitCount_0f7a4) (maxL := 1) WK_adr (plainFor_of_name (by decide +kernel)) rfl (Nat.le_of_ble_eq_true rfl) (fun p e s m below meth c Q AS ls hx hb hml hown hts hK hDD hA0 hE RET H locs hP hS hl => ?_)
  have hown : s.vm.findClass RJ6 = some m.cls := hown
  have hl : lv_has ls 1 [(0, .int (iI x1))] := hl
  refine lv_iload_n hx hb dJ6_bitCount_0f7a4_0 rfl (lv_at hl 0 rfl) ?_
  refine lv_iload_n hx hb dJ6_bitCount_0f7a4_1 rfl (lv_at hl 0 rfl) ?_
  refine lv_iconst (v := iI 1) hx hb dJ6_bitCount_0f7a4_2 (by decide +kernel) ?_
  refine lv_iushr hx hb dJ6_bitCount_0f7a4_3 rfl ?_
  refine x_absE (fun z1 gz1 hz1 => ?_)
  refine lv_ldcw (v := 1431655765) hx hb hown (hts _ (List.mem_cons_of_mem _ (wk_in_1 _ (List.mem_of_getElem? (i := 20) rfl)))) dJ6_bitCount_0f7a4_4 ?_
  refine tp_i (y := iI 1431655765) (by decide +kernel) ?_
  refine lv_iand hx hb dJ6_bitCount_0f7a4_7 ?_
  refine x_andE (b := 1431655765) (by omega) (fun z2 gz2 hz2 => ?_)
  refine x_subv (v := x1 - z2) hx hb dJ6_bitCount_0f7a4_8 (by omega) ?_
  refine x_absE (fun z3 gz3 hz3 => ?_)
  refine lv_istore_n (lv' := [(0, .int (iI z3))]) hx hb dJ6_bitCount_0f7a4_9 rfl hl (by decide) rfl (fun ls hl => ?_)
  refine lv_iload_n hx hb dJ6_bitCount_0f7a4_10 rfl (lv_at hl 0 rfl) ?_
  refine lv_ldcw (v := 858993459) hx hb hown (hts _ (List.mem_cons_of_mem _ (wk_in_1 _ (List.mem_of_getElem? (i := 21) rfl)))) dJ6_bitCount_0f7a4_11 ?_
  refine tp_i (y := iI 858993459) (by decide +kernel) ?_
  refine lv_iand hx hb dJ6_bitCount_0f7a4_14 ?_
  refine x_andE (b := 858993459) (by omega) (fun z4 gz4 hz4 => ?_)
  refine lv_iload_n hx hb dJ6_bitCount_0f7a4_15 rfl (lv_at hl 0 rfl) ?_
  refine lv_iconst (v := iI 2) hx hb dJ6_bitCount_0f7a4_16 (by decide +kernel) ?_
  refine lv_iushr hx hb dJ6_bitCount_0f7a4_17 rfl ?_
  refine x_absE (fun z5 gz5 hz5 => ?_)
  refine lv_ldcw (v := 858993459) hx hb hown (hts _ (List.mem_cons_of_mem _ (wk_in_1 _ (List.mem_of_getElem? (i := 21) rfl)))) dJ6_bitCount_0f7a4_18 ?_
  refine tp_i (y := iI 858993459) (by decide +kernel) ?_
  refine lv_iand hx hb dJ6_bitCount_0f7a4_21 ?_
  refine x_andE (b := 858993459) (by omega) (fun z6 gz6 hz6 => ?_)
  refine x_addv (v := z4 + z6) hx hb dJ6_bitCount_0f7a4_22 (by omega) ?_
  refine lv_istore_n (lv' := [(0, .int (iI (z4 + z6)))]) hx hb dJ6_bitCount_0f7a4_23 rfl hl (by decide) rfl (fun ls hl => ?_)
  refine lv_iload_n hx hb dJ6_bitCount_0f7a4_24 rfl (lv_at hl 0 rfl) ?_
  refine lv_iload_n hx hb dJ6_bitCount_0f7a4_25 rfl (lv_at hl 0 rfl) ?_
  refine lv_iconst (v := iI 4) hx hb dJ6_bitCount_0f7a4_26 (by decide +kernel) ?_
  refine lv_iushr hx hb dJ6_bitCount_0f7a4_27 rfl ?_
  refine x_absE (fun z7 gz7 hz7 => ?_)
  refine x_addv (v := z4 + z6 + z7) hx hb dJ6_bitCount_0f7a4_28 (by omega) ?_
  refine x_absE (fun z8 gz8 hz8 => ?_)
  refine lv_ldcw (v := 252645135) hx hb hown (hts _ (List.mem_cons_of_mem _ (wk_in_1 _ (List.mem_of_getElem? (i := 22) rfl)))) dJ6_bitCount_0f7a4_29 ?_
  refine tp_i (y := iI 252645135) (by decide +kernel) ?_
  refine lv_iand hx hb dJ6_bitCount_0f7a4_32 ?_
  refine x_andE (b := 252645135) (by omega) (fun z9 gz9 hz9 => ?_)
  refine lv_istore_n (lv' := [(0, .int (iI z9))]) hx hb dJ6_bitCount_0f7a4_33 rfl hl (by decide) rfl (fun ls hl => ?_)
  refine lv_iload_n hx hb dJ6_bitCount_0f7a4_34 rfl (lv_at hl 0 rfl) ?_
  refine lv_iload_n hx hb dJ6_bitCount_0f7a4_35 rfl (lv_at hl 0 rfl) ?_
  refine lv_bipush (v := iI 8) hx hb dJ6_bitCount_0f7a4_36 (by decide +kernel) ?_
  refine lv_iushr hx hb dJ6_bitCount_0f7a4_38 rfl ?_
  refine x_absE (fun z10 gz10 hz10 => ?_)
  refine x_addv (v := z9 + z10) hx hb dJ6_bitCount_0f7a4_39 (by omega) ?_
  refine x_absE (fun z11 gz11 hz11 => ?_)
  refine lv_istore_n (lv' := [(0, .int (iI z11))]) hx hb dJ6_bitCount_0f7a4_40 rfl hl (by decide) rfl (fun ls hl => ?_)
  refine lv_iload_n hx hb dJ6_bitCount_0f7a4_41 rfl (lv_at hl 0 rfl) ?_
  refine lv_iload_n hx hb dJ6_bitCount_0f7a4_42 rfl (lv_at hl 0 rfl) ?_
  refine lv_bipush (v := iI 16) hx hb dJ6_bitCount_0f7a4_43 (by decide +kernel) ?_
  refine lv_iushr hx hb dJ6_bitCount_0f7a4_45 rfl ?_
  refine x_absE (fun z12 gz12 hz12 => ?_)
  refine x_addv (v := z11 + z12) hx hb dJ6_bitCount_0f7a4_46 (by omega) ?_
  refine x_absE (fun z13 gz13 hz13 => ?_)
  refine lv_istore_n (lv' := [(0, .int (iI z13))]) hx hb dJ6_bitCount_0f7a4_47 rfl hl (by decide) rfl (fun ls hl => ?_)
  refine lv_iload_n hx hb dJ6_bitCount_0f7a4_48 rfl (lv_at hl 0 rfl) ?_
  refine lv_bipush (v := iI 63) hx hb dJ6_bitCount_0f7a4_49 (by decide +kernel) ?_
  refine lv_iand hx hb dJ6_bitCount_0f7a4_51 ?_
  refine x_andE (b := 63) (by omega) (fun z14 gz14 hz14 => ?_)
  exact RET z14 _ _ _ _ _ ⟨rfl, (u_r_J6_bitCount_0f7a4 ⟨z1, gz1.out, ⟨z2, gz2.out, ⟨z3, gz3.out, ⟨z4, gz4.out, ⟨z5, gz5.out, ⟨z6, gz6.out, ⟨z7, gz7.out, ⟨z8, gz8.out, ⟨z9, gz9.out, ⟨z10, gz10.out, ⟨z11, gz11.out, ⟨z12, gz12.out, ⟨z13, gz13.out, ⟨z14, gz14.out, rfl⟩⟩⟩⟩⟩⟩⟩⟩⟩⟩⟩⟩⟩⟩), by omega⟩ hP hS dJ6_bitCount_0f7a4_52

def ws_kc_X8_value : List Cond := .code yX8_value cX8_value 5 (some .int) :: WY
set_option maxHeartbeats 4000000 in
set_option maxRecDepth 100000 in
theorem kc_X8_value (l : Launch) (dC : Nat → ClassId) (dI : Nat → Nat → Nat) (cB cI cJ cZ cQ : ClassId) (aL aS : Nat) (q : Nat → Nat) (A : St) (x1 x2 x3 x4 x5 : Int) (hI : IK A) (hx1 : (-2147483648 : Int) ≤ x1 ∧ x1 ≤ 2147483647) (hx2 : (-2147483648 : Int) ≤ x2 ∧ x2 ≤ 2147483647) (hx3 : (-2147483648 : Int) ≤ x3 ∧ x3 ≤ 2147483647) (hx4 : (-2147483648 : Int) ≤ x4 ∧ x4 ≤ 2147483647) (hx5 : (-2147483648 : Int) ≤ x5 ∧ x5 ≤ 2147483647) : KMi l yX8_value ws_kc_X8_value ({ frames := 0, cells := 0, slots := 0, locals := 0 } : Room) aL aS (dC, dI) (tyA cB cI cJ cZ cQ) (WK cB cI cJ cZ cQ q) A [.int (iI x1), .int (iI x2), .int (iI x3), .int (iI x4), .int (iI x5)] (fun z u => A = u ∧ (-2147483648 ≤ z ∧ z ≤ 2147483647)) := by
  refine k_meti (cc := cX8_value) (maxL := 5) WK_adr (plainFor_of_name (by decide +kernel)) rfl (Nat.le_of_ble_eq_true rfl) (fun p e s m below meth c Q AS ls hx hb hml hown hts hK hDD hA0 hE RET H locs hP hS hl => ?_)
  have hown : s.vm.findClass RX8 = some m.cls := hown
  have hl : lv_has ls 5 [(0, .int (iI x1)), (1, .int (iI x2)), (2, .int (iI x3)), (3, .int (iI x4)), (4, .int (iI x5))] := hl
  refine lv_iload_n hx hb dX8_value_0 rfl (lv_at hl 0 rfl) ?_
  rcases (show (x1 < -5 ∨ -1 < x1) ∨ x1 = -5 ∨ x1 = -4 ∨ x1 = -3 ∨ x1 = -2 ∨ x1 = -1 by omega) with c1 | c1 | c1 | c1 | c1 | c1
  · refine lv_tableOut (tgt := 47) hx hb dX8_value_1 (by rw [iI_toInt hx1]; exact c1) (by decide) ?_
    refine lv_iload_n hx hb dX8_value_47 rfl (lv_at hl 0 rfl) ?_
    exact RET x1 _ _ _ _ _ ⟨rfl, hx1⟩ hP hS dX8_value_48
  · refine tp_i (y := iI (-5)) (congrArg iI c1) ?_
    refine lv_tableIn (off := 44) (tgt := 45) hx hb dX8_value_1 (by decide +kernel) (by decide +kernel) (by decide +kernel) (by decide) ?_
    refine lv_iconst (v := iI 1) hx hb dX8_value_45 (by decide +kernel) ?_
    exact RET 1 _ _ _ _ _ ⟨rfl, ⟨by decide, by decide⟩⟩ hP hS dX8_value_46
  · refine tp_i (y := iI (-4)) (congrArg iI c1) ?_
    refine lv_tableIn (off := 41) (tgt := 42) hx hb dX8_value_1 (by decide +kernel) (by decide +kernel) (by decide +kernel) (by decide) ?_
    refine lv_iload hx hb dX8_value_42 (lv_at hl 4 rfl) ?_
    exact RET x5 _ _ _ _ _ ⟨rfl, hx5⟩ hP hS dX8_value_44
  · refine tp_i (y := iI (-3)) (congrArg iI c1) ?_
    refine lv_tableIn (off := 39) (tgt := 40) hx hb dX8_value_1 (by decide +kernel) (by decide +kernel) (by decide +kernel) (by decide) ?_
    refine lv_iload_n hx hb dX8_value_40 rfl (lv_at hl 3 rfl) ?_
    exact RET x4 _ _ _ _ _ ⟨rfl, hx4⟩ hP hS dX8_value_41
  · refine tp_i (y := iI (-2)) (congrArg iI c1) ?_
    refine lv_tableIn (off := 37) (tgt := 38) hx hb dX8_value_1 (by decide +kernel) (by decide +kernel) (by decide +kernel) (by decide) ?_
    refine lv_iload_n hx hb dX8_value_38 rfl (lv_at hl 2 rfl) ?_
    exact RET x3 _ _ _ _ _ ⟨rfl, hx3⟩ hP hS dX8_value_39
  · refine tp_i (y := iI (-1)) (congrArg iI c1) ?_
    refine lv_tableIn (off := 35) (tgt := 36) hx hb dX8_value_1 (by decide +kernel) (by decide +kernel) (by decide +kernel) (by decide) ?_
    refine lv_iload_n hx hb dX8_value_36 rfl (lv_at hl 1 rfl) ?_
    exact RET x2 _ _ _ _ _ ⟨rfl, hx2⟩ hP hS dX8_value_37

def ws_kc_J9_floorMod_7cf53 : List Cond := .code yJ9_floorMod_7cf53 cJ9_floorMod_7cf53 3 (some .int) :: WY
set_option maxHeartbeats 4000000 in
set_option maxRecDepth 100000 in
theorem kc_J9_floorMod_7cf53 (l : Launch) (dC : Nat → ClassId) (dI : Nat → Nat → Nat) (cB cI cJ cZ cQ : ClassId) (aL aS : Nat) (q : Nat → Nat) (A : St) (x1 x2 : Int) (hI : IK A) (hx1 : (-2147483648 : Int) ≤ x1 ∧ x1 ≤ 2147483647) (hx2 : (-2147483648 : Int) ≤ x2 ∧ x2 ≤ 2147483647) (hp0 : x2 ≠ 0) : KMi l yJ9_floorMod_7cf53 ws_kc_J9_floorMod_7cf53 ({ frames := 0, cells := 0, slots := 0, locals := 0 } : Room) aL aS (dC, dI) (tyA cB cI cJ cZ cQ) (WK cB cI cJ cZ cQ q) A [.int (iI x1), .int (iI x2)] (fun z u => A = u ∧ (-2147483648 ≤ z ∧ z ≤ 2147483647)) := by
  refine k_meti (cc := cJ9_floorMod_7cf53) (maxL := 3) WK_adr (by decide +kernel) rfl (Nat.le_of_ble_eq_true rfl) (fun p e s m below meth c Q AS ls hx hb hml hown hts hK hDD hA0 hE RET H locs hP hS hl => ?_)
  have hown : s.vm.findClass RJ9 = some m.cls := hown
  have hl : lv_has ls 3 [(0, .int (iI x1)), (1, .int (iI x2))] := hl
  refine lv_iload_n hx hb dJ9_floorMod_7cf53_0 rfl (lv_at hl 0 rfl) ?_
  refine lv_iload_n hx hb dJ9_floorMod_7cf53_1 rfl (lv_at hl 1 rfl) ?_
  refine lv_irem hx hb dJ9_floorMod_7cf53_2 (by exact i_ne0 (by omega) (by omega)) ?_
  refine x_abs (fun z1 hz1 => ?_)
  refine lv_istore_n (lv' := [(2, .int (iI z1)), (0, .int (iI x1)), (1, .int (iI x2))]) hx hb dJ9_floorMod_7cf53_3 rfl hl (by decide) rfl (fun ls hl => ?_)
  refine lv_iload_n hx hb dJ9_floorMod_7cf53_4 rfl (lv_at hl 1 rfl) ?_
  refine lv_iload_n hx hb dJ9_floorMod_7cf53_5 rfl (lv_at hl 2 rfl) ?_
  refine lv_ixor hx hb dJ9_floorMod_7cf53_6 ?_
  refine x_abs (fun z2 hz2 => ?_)
  refine lv_if_ge (tgt := 18) hx hb dJ9_floorMod_7cf53_7 (by decide) (fun c3 => ?_) (fun c3 => ?_)
  · have c3 : 0 ≤ z2 := (i_0le hz2).mp c3
    refine lv_iload_n hx hb dJ9_floorMod_7cf53_18 rfl (lv_at hl 0 rfl) ?_
    exact RET z1 _ _ _ _ _ ⟨rfl, hz1⟩ hP hS dJ9_floorMod_7cf53_19
  · have c3 : ¬ 0 ≤ z2 := mt (i_0le hz2).mpr c3
    refine lv_iload_n hx hb dJ9_floorMod_7cf53_10 rfl (lv_at hl 0 rfl) ?_
    refine lv_if_eq (tgt := 18) hx hb dJ9_floorMod_7cf53_11 (by decide) (fun c4 => ?_) (fun c4 => ?_)
    · have c4 : z1 = 0 := (i_eq0 hz1).mp c4
      refine lv_iload_n hx hb dJ9_floorMod_7cf53_18 rfl (lv_at hl 0 rfl) ?_
      exact RET z1 _ _ _ _ _ ⟨rfl, hz1⟩ hP hS dJ9_floorMod_7cf53_19
    · have c4 : ¬ z1 = 0 := mt (i_eq0 hz1).mpr c4
      refine lv_iload_n hx hb dJ9_floorMod_7cf53_14 rfl (lv_at hl 0 rfl) ?_
      refine lv_iload_n hx hb dJ9_floorMod_7cf53_15 rfl (lv_at hl 2 rfl) ?_
      refine x_addv (v := z1 + x2) hx hb dJ9_floorMod_7cf53_16 (by omega) ?_
      refine x_abs (fun z5 hz5 => ?_)
      exact RET z5 _ _ _ _ _ ⟨rfl, hz5⟩ hP hS dJ9_floorMod_7cf53_17

def ws_kc_J9_floorDiv_7cf53 : List Cond := .code yJ9_floorDiv_7cf53 cJ9_floorDiv_7cf53 3 (some .int) :: WY
set_option maxHeartbeats 4000000 in
set_option maxRecDepth 100000 in
theorem kc_J9_floorDiv_7cf53 (l : Launch) (dC : Nat → ClassId) (dI : Nat → Nat → Nat) (cB cI cJ cZ cQ : ClassId) (aL aS : Nat) (q : Nat → Nat) (A : St) (x1 x2 : Int) (hI : IK A) (hx1 : (-2147483648 : Int) ≤ x1 ∧ x1 ≤ 2147483647) (hx2 : (-2147483648 : Int) ≤ x2 ∧ x2 ≤ 2147483647) (hp0 : x2 ≠ 0) : KMi l yJ9_floorDiv_7cf53 ws_kc_J9_floorDiv_7cf53 ({ frames := 0, cells := 0, slots := 0, locals := 0 } : Room) aL aS (dC, dI) (tyA cB cI cJ cZ cQ) (WK cB cI cJ cZ cQ q) A [.int (iI x1), .int (iI x2)] (fun z u => A = u ∧ (-2147483648 ≤ z ∧ z ≤ 2147483647)) := by
  refine k_meti (cc := cJ9_floorDiv_7cf53) (maxL := 3) WK_adr (by decide +kernel) rfl (Nat.le_of_ble_eq_true rfl) (fun p e s m below meth c Q AS ls hx hb hml hown hts hK hDD hA0 hE RET H locs hP hS hl => ?_)
  have hown : s.vm.findClass RJ9 = some m.cls := hown
  have hl : lv_has ls 3 [(0, .int (iI x1)), (1, .int (iI x2))] := hl
  refine lv_iload_n hx hb dJ9_floorDiv_7cf53_0 rfl (lv_at hl 0 rfl) ?_
  refine lv_iload_n hx hb dJ9_floorDiv_7cf53_1 rfl (lv_at hl 1 rfl) ?_
  refine lv_idiv hx hb dJ9_floorDiv_7cf53_2 (by exact i_ne0 (by omega) (by omega)) ?_
  refine x_abs (fun z1 hz1 => ?_)
  refine lv_istore_n (lv' := [(2, .int (iI z1)), (0, .int (iI x1)), (1, .int (iI x2))]) hx hb dJ9_floorDiv_7cf53_3 rfl hl (by decide) rfl (fun ls hl => ?_)
  refine lv_iload_n hx hb dJ9_floorDiv_7cf53_4 rfl (lv_at hl 1 rfl) ?_
  refine lv_iload_n hx hb dJ9_floorDiv_7cf53_5 rfl (lv_at hl 2 rfl) ?_
  refine lv_ixor hx hb dJ9_floorDiv_7cf53_6 ?_
  refine x_abs (fun z2 hz2 => ?_)
  refine lv_if_ge (tgt := 21) hx hb dJ9_floorDiv_7cf53_7 (by decide) (fun c3 => ?_) (fun c3 => ?_)
  · have c3 : 0 ≤ z2 := (i_0le hz2).mp c3
    refine lv_iload_n hx hb dJ9_floorDiv_7cf53_21 rfl (lv_at hl 0 rfl) ?_
    exact RET z1 _ _ _ _ _ ⟨rfl, hz1⟩ hP hS dJ9_floorDiv_7cf53_22
  · have c3 : ¬ 0 ≤ z2 := mt (i_0le hz2).mpr c3
    refine lv_iload_n hx hb dJ9_floorDiv_7cf53_10 rfl (lv_at hl 0 rfl) ?_
    refine lv_iload_n hx hb dJ9_floorDiv_7cf53_11 rfl (lv_at hl 2 rfl) ?_
    refine lv_imul hx hb dJ9_floorDiv_7cf53_12 ?_
    refine x_abs (fun z4 hz4 => ?_)
    refine lv_iload_n hx hb dJ9_floorDiv_7cf53_13 rfl (lv_at hl 1 rfl) ?_
    refine lv_icmp_eq (tgt := 21) hx hb dJ9_floorDiv_7cf53_14 (by decide) (fun c5 => ?_) (fun c5 => ?_)
    · have c5 : z4 = x1 := (i_eq hz4 hx1).mp c5
      refine lv_iload_n hx hb dJ9_floorDiv_7cf53_21 rfl (lv_at hl 0 rfl) ?_
      exact RET z1 _ _ _ _ _ ⟨rfl, hz1⟩ hP hS dJ9_floorDiv_7cf53_22
    · have c5 : ¬ z4 = x1 := mt (i_eq hz4 hx1).mpr c5
      refine lv_iload_n hx hb dJ9_floorDiv_7cf53_17 rfl (lv_at hl 0 rfl) ?_
      refine lv_iconst (v := iI 1) hx hb dJ9_floorDiv_7cf53_18 (by decide +kernel) ?_
      refine x_subv (v := z1 - 1) hx hb dJ9_floorDiv_7cf53_19 (by omega) ?_
      refine x_abs (fun z6 hz6 => ?_)
      exact RET z6 _ _ _ _ _ ⟨rfl, hz6⟩ hP hS dJ9_floorDiv_7cf53_20

def ws_kc_X8_bounded : List Cond := .code yX8_bounded cX8_bounded 2 (some .int) :: WY
set_option maxHeartbeats 4000000 in
set_option maxRecDepth 100000 in
theorem kc_X8_bounded (l : Launch) (dC : Nat → ClassId) (dI : Nat → Nat → Nat) (cB cI cJ cZ cQ : ClassId) (aL aS : Nat) (q : Nat → Nat) (A : St) (x1 : Int) (hI : IK A) (hx1 : (-9223372036854775808 : Int) ≤ x1 ∧ x1 ≤ 9223372036854775807) : KMi l yX8_bounded ws_kc_X8_bounded ({ frames := 0, cells := 0, slots := 0, locals := 0 } : Room) aL aS (dC, dI) (tyA cB cI cJ cZ cQ) (WK cB cI cJ cZ cQ q) A [.long (jI x1)] (fun z u => A = u ∧ (-2147483648 ≤ z ∧ z ≤ 2147483647)) := by
  refine k_meti (cc := cX8_bounded) (maxL := 2) WK_adr (plainFor_of_name (by decide +kernel)) rfl (Nat.le_of_ble_eq_true rfl) (fun p e s m below meth c Q AS ls hx hb hml hown hts hK hDD hA0 hE RET H locs hP hS hl => ?_)
  have hown : s.vm.findClass RX8 = some m.cls := hown
  have hl : lv_has ls 2 [(0, .long (jI x1))] := hl
  refine lv_lload_n hx hb dX8_bounded_0 rfl (lv_at hl 0 rfl) ?_
  refine lv_ldc2 (v := 1000000) hx hb hown (hts _ (List.mem_cons_of_mem _ (wk_in_1 _ (List.mem_of_getElem? (i := 53) rfl)))) dX8_bounded_1 ?_
  refine tp_l (y := jI 1000000) (by decide +kernel) ?_
  refine x_lcmp hx hb dX8_bounded_4 (by omega) (by omega) (fun z1 hz1 hz1b hz1c => ?_)
  clear hz1b hz1c
  refine lv_if_le (tgt := 11) hx hb dX8_bounded_5 (by decide) (fun c2 => ?_) (fun c2 => ?_)
  · have c2 : z1 ≤ 0 := (i_le0 (by omega)).mp c2
    refine lv_lload_n hx hb dX8_bounded_11 rfl (lv_at hl 0 rfl) ?_
    refine lv_ldc2 (v := (-1000000)) hx hb hown (hts _ (List.mem_cons_of_mem _ (wk_in_1 _ (List.mem_of_getElem? (i := 55) rfl)))) dX8_bounded_12 ?_
    refine tp_l (y := jI (-1000000)) (by decide +kernel) ?_
    refine x_lcmp hx hb dX8_bounded_15 (by omega) (by omega) (fun z3 hz3 hz3b hz3c => ?_)
    clear hz3b hz3c
    refine lv_if_ge (tgt := 24) hx hb dX8_bounded_16 (by decide) (fun c4 => ?_) (fun c4 => ?_)
    · have c4 : 0 ≤ z3 := (i_0le (by omega)).mp c4
      refine lv_lload_n hx hb dX8_bounded_24 rfl (lv_at hl 0 rfl) ?_
      refine lv_l2i hx hb dX8_bounded_25 rfl ?_
      refine x_abs (fun z5 hz5 => ?_)
      exact RET z5 _ _ _ _ _ ⟨rfl, hz5⟩ hP hS dX8_bounded_26
    · have c4 : ¬ 0 ≤ z3 := mt (i_0le (by omega)).mpr c4
      refine lv_ldc (v := (-1000000)) hx hb hown (hts _ (List.mem_cons_of_mem _ (wk_in_1 _ (List.mem_of_getElem? (i := 56) rfl)))) dX8_bounded_19 ?_
      refine tp_i (y := iI (-1000000)) (by decide +kernel) ?_
      refine lv_goto (tgt := 26) hx hb dX8_bounded_21 (by decide) ?_
      exact RET (-1000000) _ _ _ _ _ ⟨rfl, ⟨by decide, by decide⟩⟩ hP hS dX8_bounded_26
  · have c2 : ¬ z1 ≤ 0 := mt (i_le0 (by omega)).mpr c2
    refine lv_ldc (v := 1000000) hx hb hown (hts _ (List.mem_cons_of_mem _ (wk_in_1 _ (List.mem_of_getElem? (i := 54) rfl)))) dX8_bounded_8 ?_
    refine tp_i (y := iI 1000000) (by decide +kernel) ?_
    exact RET 1000000 _ _ _ _ _ ⟨rfl, ⟨by decide, by decide⟩⟩ hP hS dX8_bounded_10
