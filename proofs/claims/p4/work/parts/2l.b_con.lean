def ws_kc_X9_workOf : List Cond := .code yX9_workOf cX9_workOf 5 (some .int) :: WY
set_option maxHeartbeats 4000000 in
set_option maxRecDepth 100000 in
theorem kc_X9_workOf (l : Launch) (dC : Nat → ClassId) (dI : Nat → Nat → Nat) (cB cI cJ cZ cQ : ClassId) (aL aS : Nat) (q : Nat → Nat) (A : St) (ta : Nat) (x1 : Int) (hI : IK A) (hta : isT ta) (hx1 : (-2147483648 : Int) ≤ x1 ∧ x1 ≤ 2147483647) : KMi l yX9_workOf ws_kc_X9_workOf ({ frames := 2, cells := 0, slots := 0, locals := 45 } : Room) aL aS (dC, dI) (tyA cB cI cJ cZ cQ) (WK cB cI cJ cZ cQ q) A [.ref (q ta), .int (iI x1)] (fun z u => A = u ∧ (-2147483648 ≤ z ∧ z ≤ 2147483647)) := by
  refine k_meti (cc := cX9_workOf) (maxL := 5) WK_adr (plainFor_of_name (by decide +kernel)) rfl (Nat.le_of_ble_eq_true rfl) (fun p e s m below meth c Q AS ls hx hb hml hown hts hK hDD hA0 hE RET H locs hP hS hl => ?_)
  have hown : s.vm.findClass RX9 = some m.cls := hown
  have hl : lv_has ls 5 [(0, .ref (q ta)), (1, .int (iI x1))] := hl
  have hiX9 : ∀ w ∈ u_ws RX9 TX9 16, w ∈ ws_kc_X9_workOf := fun w h => List.mem_cons_of_mem _ (wy_layX9 w h)
  have hiX6 : ∀ w ∈ u_ws RX6 TX6 4, w ∈ ws_kc_X9_workOf := fun w h => List.mem_cons_of_mem _ (wy_layX6 w h)
  refine lv_iconst (v := iI 0) hx hb dX9_workOf_0 (by decide +kernel) ?_
  refine lv_istore_n (lv' := [(2, .int (iI 0)), (0, .ref (q ta)), (1, .int (iI x1))]) hx hb dX9_workOf_1 rfl hl (by decide) rfl (fun ls hl => ?_)
  refine lv_iconst (v := iI 0) hx hb dX9_workOf_2 (by decide +kernel) ?_
  refine lv_istore_n (lv' := [(3, .int (iI 0)), (2, .int (iI 0)), (0, .ref (q ta)), (1, .int (iI x1))]) hx hb dX9_workOf_3 rfl hl (by decide) rfl (fun ls hl => ?_)
  have L4_4 : ∀ (n9 : Nat) (z1 z2 : Int) (H : Heap) (locs : List Loc) (ls : Array Slot), (0 ≤ z1 ∧ z1 ≤ 2147483647) → (-2147483648 ≤ z2 ∧ z2 ≤ 2147483647) → ((5 - z1).toNat = n9) → va_P (dC, dI) vwCl (WK cB cI cJ cZ cQ q A) H → va_S AS s.heap H locs → lv_has ls 5 [(3, .int (iI z1)), (2, .int (iI z2)), (0, .ref (q ta)), (1, .int (iI x1))] → W p l e (headSpec ws_kc_X9_workOf ({ frames := 2, cells := 0, slots := 0, locals := 45 } : Room)).room s m [.ref (q ta), .int (iI x1)].toArray below meth c H locs 0 0 Q (F0 m 4 ls []) := by
    intro n9
    induction n9 using Nat.strongRecOn with
    | ind n9 ih5 =>
      intro z1 z2 H locs ls f6 f7 hn9 hP hS hl
      refine lv_iload_n hx hb dX9_workOf_4 rfl (lv_at hl 0 rfl) ?_
      refine lv_aload_n hx hb dX9_workOf_5 rfl (lv_at hl 2 rfl) ?_
      refine va_get (D := (dC, dI)) (ci := 9) (v := .ref (q (ta + 1))) (C := RX9) (T := TX9) (N := 16) hx hb hts hiX9 hown hK hP ta (wkT hta) rfl 0 (by decide) (hts _ (List.mem_cons_of_mem _ (wk_in_0 _ (List.mem_of_getElem? (i := 8) rfl)))) (fun _ h9 => h9) rfl dX9_workOf_6 ?_
      refine lv_iconst (v := iI 2) hx hb dX9_workOf_9 (by decide +kernel) ?_
      refine x_iald (Wf := WK cB cI cJ cZ cQ q) hx hb hK hP (ta + 1) 1 (wkTc hta) rfl (by decide) (by decide) dX9_workOf_10 (fun z10 hz10 => ?_)
      have rz10 : (0 : Int) ≤ z10 ∧ z10 ≤ 4 := by rw [hz10]; exact irTc2 hta hI
      refine lv_icmp_ge (tgt := 52) hx hb dX9_workOf_11 (by decide) (fun c11 => ?_) (fun c11 => ?_)
      · have c11 : z10 ≤ z1 := (i_le (rb rz10 (by decide) (by decide)) (rb f6 (by decide) (by decide))).mp c11
        refine lv_iload_n hx hb dX9_workOf_52 rfl (lv_at hl 1 rfl) ?_
        exact RET z2 _ _ _ _ _ ⟨rfl, f7⟩ hP hS dX9_workOf_53
      · have c11 : ¬ z10 ≤ z1 := mt (i_le (rb rz10 (by decide) (by decide)) (rb f6 (by decide) (by decide))).mpr c11
        refine lv_aload_n hx hb dX9_workOf_14 rfl (lv_at hl 2 rfl) ?_
        refine va_get (D := (dC, dI)) (ci := 9) (v := .ref (q (ta + 22))) (C := RX9) (T := TX9) (N := 16) hx hb hts hiX9 hown hK hP ta (wkT hta) rfl 14 (by decide) (hts _ (List.mem_cons_of_mem _ (wk_in_0 _ (List.mem_of_getElem? (i := 9) rfl)))) (fun _ h9 => h9) rfl dX9_workOf_15 ?_
        refine lv_iload_n hx hb dX9_workOf_18 rfl (lv_at hl 0 rfl) ?_
        refine lv_iload_n hx hb dX9_workOf_19 rfl (lv_at hl 3 rfl) ?_
        refine k_calli (As := [.int (iI z1), .int (iI x1)]) (rest := []) ⟨hx, hb, hml, hown, hts⟩ hE (kc_X6_placeInRow l dC dI cB cI cJ cZ cQ aL aS q _ (ta + 22) z1 x1 hI hta.s (rb f6 (by decide) (by decide)) hx1) (cwV 2 hts (goodVk (wk_in_8 _ (List.mem_of_getElem? (i := 58) rfl)) (wk_in_4 _ (List.mem_of_getElem? (i := 59) rfl)) (wk_in_5 _ (List.mem_of_getElem? (i := 0) rfl)) (wk_in_0 _ (List.mem_of_getElem? (i := 52) rfl)) (wk_in_5 _ (List.mem_of_getElem? (i := 1) rfl))) rfl rfl rfl (by decide +kernel) ⟨Nat.le_of_ble_eq_true rfl, Nat.le_of_ble_eq_true rfl⟩) hK hDD hA0 hP hS (ta + 22) 6 (wkS hta.s) rfl rfl hl.1 (Nat.le_of_ble_eq_true rfl) dX9_workOf_20 (fun z12 A13 H locs hw14 hP hS => ?_)
        obtain ⟨rfl, hw14⟩ := hw14
        have hw14 := hw14.2
        refine lv_istore (lv' := [(4, .int (iI z12)), (3, .int (iI z1)), (2, .int (iI z2)), (0, .ref (q ta)), (1, .int (iI x1))]) hx hb dX9_workOf_23 hl (by decide) rfl (fun ls hl => ?_)
        refine lv_iload hx hb dX9_workOf_25 (lv_at hl 0 rfl) ?_
        refine lv_iconst (v := iI (-1)) hx hb dX9_workOf_27 (by decide +kernel) ?_
        have J46_16 : ∀ (z19 : Int) (H : Heap) (locs : List Loc) (ls : Array Slot), (-2147483648 ≤ z19 ∧ z19 ≤ 2147483647) → va_P (dC, dI) vwCl (WK cB cI cJ cZ cQ q A) H → va_S AS s.heap H locs → lv_has ls 5 [(4, .int (iI z12)), (3, .int (iI z1)), (2, .int (iI z19)), (0, .ref (q ta)), (1, .int (iI x1))] → W p l e (headSpec ws_kc_X9_workOf ({ frames := 2, cells := 0, slots := 0, locals := 45 } : Room)).room s m [.ref (q ta), .int (iI x1)].toArray below meth c H locs 0 0 Q (F0 m 46 ls []) := by
          intro z19 H locs ls f21 hP hS hl
          refine lv_iinc (v := iI (z1 + 1)) (lv' := [(3, .int (iI (z1 + 1))), (4, .int (iI z12)), (2, .int (iI z19)), (0, .ref (q ta)), (1, .int (iI x1))]) hx hb dX9_workOf_46 hl (k := 1) rfl (i_inc (by omega)) (by decide) rfl (fun ls hl => ?_)
          refine lv_goto (tgt := 4) hx hb dX9_workOf_49 (by decide) ?_
          exact ih5 _ (by omega) (z1 + 1) z19 _ _ _ (by omega) (by omega) rfl hP hS (lv_sub hl [0, 2, 3, 4] rfl)
        refine lv_icmp_eq (tgt := 46) hx hb dX9_workOf_28 (by decide) (fun c15 => ?_) (fun c15 => ?_)
        · have c15 : z12 = (-1) := (i_eq (rb hw14 (by decide) (by decide)) ⟨by decide, by decide⟩).mp c15
          exact J46_16 z2 _ _ _ (by omega) hP hS (lv_sub hl [0, 1, 2, 3, 4] rfl)
        · have c15 : ¬ z12 = (-1) := mt (i_eq (rb hw14 (by decide) (by decide)) ⟨by decide, by decide⟩).mpr c15
          refine lv_iload_n hx hb dX9_workOf_31 rfl (lv_at hl 2 rfl) ?_
          refine lv_aload_n hx hb dX9_workOf_32 rfl (lv_at hl 3 rfl) ?_
          refine va_get (D := (dC, dI)) (ci := 9) (v := .ref (q (ta + 22))) (C := RX9) (T := TX9) (N := 16) hx hb hts hiX9 hown hK hP ta (wkT hta) rfl 14 (by decide) (hts _ (List.mem_cons_of_mem _ (wk_in_0 _ (List.mem_of_getElem? (i := 9) rfl)))) (fun _ h9 => h9) rfl dX9_workOf_33 ?_
          refine va_get (D := (dC, dI)) (ci := 6) (v := .ref (q ((ta + 22) + 3))) (C := RX6) (T := TX6) (N := 4) hx hb hts hiX6 hown hK hP (ta + 22) (wkS hta.s) rfl 2 (by decide) (hts _ (List.mem_cons_of_mem _ (wk_in_5 _ (List.mem_of_getElem? (i := 15) rfl)))) (fun _ h9 => h9) rfl dX9_workOf_36 ?_
          refine lv_iload_n hx hb dX9_workOf_39 rfl (lv_at hl 1 rfl) ?_
          refine x_iald (Wf := WK cB cI cJ cZ cQ q) hx hb hK hP ((ta + 22) + 3) 1 (wkSz hta.s) rfl (by omega) (by decide) dX9_workOf_40 (fun z17 hz17 => ?_)
          have rz17 : (0 : Int) ≤ z17 ∧ z17 ≤ 6 := by rw [hz17]; exact irSz hta.s hI
          refine lv_iload hx hb dX9_workOf_41 (lv_at hl 0 rfl) ?_
          refine x_subv (v := z17 - z12) hx hb dX9_workOf_43 (by omega) ?_
          refine x_addv (v := z2 + z17 - z12) hx hb dX9_workOf_44 (by omega) ?_
          refine x_abs (fun z18 hz18 => ?_)
          refine lv_istore_n (lv' := [(2, .int (iI z18)), (4, .int (iI z12)), (3, .int (iI z1)), (0, .ref (q ta)), (1, .int (iI x1))]) hx hb dX9_workOf_45 rfl hl (by decide) rfl (fun ls hl => ?_)
          exact J46_16 z18 _ _ _ (by omega) hP hS (lv_sub hl [1, 2, 0, 3, 4] rfl)
  exact L4_4 _ 0 0 _ _ _ (by omega) (by omega) rfl hP hS (lv_sub hl [0, 1, 2, 3] rfl)

def ws_kc_X10_shorten : List Cond := .code yX10_shorten cX10_shorten 4 none :: WY
set_option maxHeartbeats 4000000 in
set_option maxRecDepth 100000 in
theorem kc_X10_shorten (l : Launch) (dC : Nat → ClassId) (dI : Nat → Nat → Nat) (cB cI cJ cZ cQ : ClassId) (aL aS : Nat) (q : Nat → Nat) (A : St) (x1 x2 x3 : Int) (hI : IK A) (hx1 : (-2147483648 : Int) ≤ x1 ∧ x1 ≤ 2147483647) (hx2 : (-2147483648 : Int) ≤ x2 ∧ x2 ≤ 2147483647) (hx3 : (-2147483648 : Int) ≤ x3 ∧ x3 ≤ 2147483647) : KMv l yX10_shorten ws_kc_X10_shorten ({ frames := 1, cells := 0, slots := 0, locals := 21 } : Room) aL aS (dC, dI) (tyA cB cI cJ cZ cQ) (WK cB cI cJ cZ cQ q) A [.ref (q 27), .int (iI x1), .int (iI x2), .int (iI x3)] (fun u => IK u ∧ fk [28] [] A u ∧ (True)) := by
  refine k_metv (cc := cX10_shorten) (maxL := 4) WK_adr (plainFor_of_name (by decide +kernel)) rfl (Nat.le_of_ble_eq_true rfl) (fun p e s m below meth c Q AS ls hx hb hml hown hts hK hDD hA0 hE RET H locs hP hS hl => ?_)
  have hown : s.vm.findClass RX10 = some m.cls := hown
  have hl : lv_has ls 4 [(0, .ref (q 27)), (1, .int (iI x1)), (2, .int (iI x2)), (3, .int (iI x3))] := hl
  have hiX10 : ∀ w ∈ u_ws RX10 TX10 2, w ∈ ws_kc_X10_shorten := fun w h => List.mem_cons_of_mem _ (wy_layX10 w h)
  refine lv_iload_n hx hb dX10_shorten_0 rfl (lv_at hl 1 rfl) ?_
  refine lv_if_lt (tgt := 46) hx hb dX10_shorten_1 (by decide) (fun c1 => ?_) (fun c1 => ?_)
  · have c1 : x1 < 0 := (i_lt0 hx1).mp c1
    exact RET _ _ _ _ _ ⟨hI, fk.rf, trivial⟩ hP hS dX10_shorten_46
  · have c1 : ¬ x1 < 0 := mt (i_lt0 hx1).mpr c1
    refine lv_iload_n hx hb dX10_shorten_4 rfl (lv_at hl 1 rfl) ?_
    refine lv_bipush (v := iI 8) hx hb dX10_shorten_5 (by decide +kernel) ?_
    refine lv_icmp_ge (tgt := 46) hx hb dX10_shorten_7 (by decide) (fun c2 => ?_) (fun c2 => ?_)
    · have c2 : 8 ≤ x1 := (i_le ⟨by decide, by decide⟩ hx1).mp c2
      exact RET _ _ _ _ _ ⟨hI, fk.rf, trivial⟩ hP hS dX10_shorten_46
    · have c2 : ¬ 8 ≤ x1 := mt (i_le ⟨by decide, by decide⟩ hx1).mpr c2
      refine lv_iload_n hx hb dX10_shorten_10 rfl (lv_at hl 2 rfl) ?_
      refine lv_if_lt (tgt := 46) hx hb dX10_shorten_11 (by decide) (fun c3 => ?_) (fun c3 => ?_)
      · have c3 : x2 < 0 := (i_lt0 hx2).mp c3
        exact RET _ _ _ _ _ ⟨hI, fk.rf, trivial⟩ hP hS dX10_shorten_46
      · have c3 : ¬ x2 < 0 := mt (i_lt0 hx2).mpr c3
        refine lv_iload_n hx hb dX10_shorten_14 rfl (lv_at hl 2 rfl) ?_
        refine lv_bipush (v := iI 8) hx hb dX10_shorten_15 (by decide +kernel) ?_
        refine lv_icmp_ge (tgt := 46) hx hb dX10_shorten_17 (by decide) (fun c4 => ?_) (fun c4 => ?_)
        · have c4 : 8 ≤ x2 := (i_le ⟨by decide, by decide⟩ hx2).mp c4
          exact RET _ _ _ _ _ ⟨hI, fk.rf, trivial⟩ hP hS dX10_shorten_46
        · have c4 : ¬ 8 ≤ x2 := mt (i_le ⟨by decide, by decide⟩ hx2).mpr c4
          refine lv_aload_n hx hb dX10_shorten_20 rfl (lv_at hl 0 rfl) ?_
          refine va_get (D := (dC, dI)) (ci := 10) (v := .ref (q 28)) (C := RX10) (T := TX10) (N := 2) hx hb hts hiX10 hown hK hP 27 (wkWT) rfl 0 (by decide) (hts _ (List.mem_cons_of_mem _ (wk_in_9 _ (List.mem_of_getElem? (i := 53) rfl)))) (fun _ h9 => h9) rfl dX10_shorten_21 ?_
          refine lv_iload_n hx hb dX10_shorten_24 rfl (lv_at hl 1 rfl) ?_
          refine lv_bipush (v := iI 8) hx hb dX10_shorten_25 (by decide +kernel) ?_
          refine x_mulv (v := 8 * x1) hx hb dX10_shorten_27 (by omega) ?_
          refine lv_iload_n hx hb dX10_shorten_28 rfl (lv_at hl 2 rfl) ?_
          refine x_addv (v := 8 * x1 + x2) hx hb dX10_shorten_29 (by omega) ?_
          refine lv_aload_n hx hb dX10_shorten_30 rfl (lv_at hl 0 rfl) ?_
          refine va_get (D := (dC, dI)) (ci := 10) (v := .ref (q 28)) (C := RX10) (T := TX10) (N := 2) hx hb hts hiX10 hown hK hP 27 (wkWT) rfl 0 (by decide) (hts _ (List.mem_cons_of_mem _ (wk_in_9 _ (List.mem_of_getElem? (i := 53) rfl)))) (fun _ h9 => h9) rfl dX10_shorten_31 ?_
          refine lv_iload_n hx hb dX10_shorten_34 rfl (lv_at hl 1 rfl) ?_
          refine lv_bipush (v := iI 8) hx hb dX10_shorten_35 (by decide +kernel) ?_
          refine x_mulv (v := 8 * x1) hx hb dX10_shorten_37 (by omega) ?_
          refine lv_iload_n hx hb dX10_shorten_38 rfl (lv_at hl 2 rfl) ?_
          refine x_addv (v := 8 * x1 + x2) hx hb dX10_shorten_39 (by omega) ?_
          refine x_iald (Wf := WK cB cI cJ cZ cQ q) hx hb hK hP 28 1 (wkWTw) rfl (by omega) (by decide) dX10_shorten_40 (fun z5 hz5 => ?_)
          have rz5 : (-2147483648 : Int) ≤ z5 ∧ z5 ≤ 2147483647 := by rw [hz5]; exact irWTw hI
          refine lv_iload_n hx hb dX10_shorten_41 rfl (lv_at hl 3 rfl) ?_
          refine k_min hx hb (hml.trans hl.1.symm) hown (hts _ (List.mem_cons_of_mem _ (wk_in_10 _ (List.mem_of_getElem? (i := 3) rfl)))) (hts _ (List.mem_cons_of_mem _ (wk_in_0 _ (List.mem_of_getElem? (i := 46) rfl)))) (hts _ (List.mem_cons_of_mem _ (wk_in_0 _ (List.mem_of_getElem? (i := 47) rfl)))) (hts _ (List.mem_cons_of_mem _ (wk_in_0 _ (List.mem_of_getElem? (i := 48) rfl)))) (Nat.le_of_ble_eq_true rfl) (Nat.le_of_ble_eq_true rfl) (Nat.zero_le _) (Nat.zero_le _) rz5 hx3 dX10_shorten_42 (fun z6 hz6 => ?_)
          have rz6 : (-2147483648 : Int) ≤ z6 ∧ z6 ≤ 2147483647 := by omega
          clear hz6
          refine k_iast (Wf := WK cB cI cJ cZ cQ q) hx hb hK hP hDD hS 28 1 (wkWTw) rfl (by omega) (by decide) dX10_shorten_45 (wsWTw) (fun H locs A7 hA7 hP hS => ?_)
          have hI := isWTw hA7 hI (show (-2147483648 : Int) ≤ z6 ∧ z6 ≤ 2147483647 from rz6)
          exact RET _ _ _ _ _ ⟨hI, fk.da (fk.rf) hA7 rfl, trivial⟩ hP hS dX10_shorten_46

def ws_kc_X10_wayOf : List Cond := .code yX10_wayOf cX10_wayOf 3 (some .int) :: WY
set_option maxHeartbeats 4000000 in
set_option maxRecDepth 100000 in
theorem kc_X10_wayOf (l : Launch) (dC : Nat → ClassId) (dI : Nat → Nat → Nat) (cB cI cJ cZ cQ : ClassId) (aL aS : Nat) (q : Nat → Nat) (A : St) (x1 x2 : Int) (hI : IK A) (hx1 : (-2147483648 : Int) ≤ x1 ∧ x1 ≤ 2147483647) (hx2 : (-2147483648 : Int) ≤ x2 ∧ x2 ≤ 2147483647) : KMi l yX10_wayOf ws_kc_X10_wayOf ({ frames := 0, cells := 0, slots := 0, locals := 0 } : Room) aL aS (dC, dI) (tyA cB cI cJ cZ cQ) (WK cB cI cJ cZ cQ q) A [.ref (q 27), .int (iI x1), .int (iI x2)] (fun z u => A = u ∧ (-2147483648 ≤ z ∧ z ≤ 2147483647)) := by
  refine k_meti (cc := cX10_wayOf) (maxL := 3) WK_adr (plainFor_of_name (by decide +kernel)) rfl (Nat.le_of_ble_eq_true rfl) (fun p e s m below meth c Q AS ls hx hb hml hown hts hK hDD hA0 hE RET H locs hP hS hl => ?_)
  have hown : s.vm.findClass RX10 = some m.cls := hown
  have hl : lv_has ls 3 [(0, .ref (q 27)), (1, .int (iI x1)), (2, .int (iI x2))] := hl
  have hiX10 : ∀ w ∈ u_ws RX10 TX10 2, w ∈ ws_kc_X10_wayOf := fun w h => List.mem_cons_of_mem _ (wy_layX10 w h)
  refine lv_iload_n hx hb dX10_wayOf_0 rfl (lv_at hl 1 rfl) ?_
  refine lv_if_lt (tgt := 20) hx hb dX10_wayOf_1 (by decide) (fun c1 => ?_) (fun c1 => ?_)
  · have c1 : x1 < 0 := (i_lt0 hx1).mp c1
    refine lv_ldc (v := 1000000) hx hb hown (hts _ (List.mem_cons_of_mem _ (wk_in_9 _ (List.mem_of_getElem? (i := 46) rfl)))) dX10_wayOf_20 ?_
    refine tp_i (y := iI 1000000) (by decide +kernel) ?_
    exact RET 1000000 _ _ _ _ _ ⟨rfl, ⟨by decide, by decide⟩⟩ hP hS dX10_wayOf_22
  · have c1 : ¬ x1 < 0 := mt (i_lt0 hx1).mpr c1
    refine lv_iload_n hx hb dX10_wayOf_4 rfl (lv_at hl 1 rfl) ?_
    refine lv_bipush (v := iI 8) hx hb dX10_wayOf_5 (by decide +kernel) ?_
    refine lv_icmp_ge (tgt := 20) hx hb dX10_wayOf_7 (by decide) (fun c2 => ?_) (fun c2 => ?_)
    · have c2 : 8 ≤ x1 := (i_le ⟨by decide, by decide⟩ hx1).mp c2
      refine lv_ldc (v := 1000000) hx hb hown (hts _ (List.mem_cons_of_mem _ (wk_in_9 _ (List.mem_of_getElem? (i := 46) rfl)))) dX10_wayOf_20 ?_
      refine tp_i (y := iI 1000000) (by decide +kernel) ?_
      exact RET 1000000 _ _ _ _ _ ⟨rfl, ⟨by decide, by decide⟩⟩ hP hS dX10_wayOf_22
    · have c2 : ¬ 8 ≤ x1 := mt (i_le ⟨by decide, by decide⟩ hx1).mpr c2
      refine lv_iload_n hx hb dX10_wayOf_10 rfl (lv_at hl 2 rfl) ?_
      refine lv_if_lt (tgt := 20) hx hb dX10_wayOf_11 (by decide) (fun c3 => ?_) (fun c3 => ?_)
      · have c3 : x2 < 0 := (i_lt0 hx2).mp c3
        refine lv_ldc (v := 1000000) hx hb hown (hts _ (List.mem_cons_of_mem _ (wk_in_9 _ (List.mem_of_getElem? (i := 46) rfl)))) dX10_wayOf_20 ?_
        refine tp_i (y := iI 1000000) (by decide +kernel) ?_
        exact RET 1000000 _ _ _ _ _ ⟨rfl, ⟨by decide, by decide⟩⟩ hP hS dX10_wayOf_22
      · have c3 : ¬ x2 < 0 := mt (i_lt0 hx2).mpr c3
        refine lv_iload_n hx hb dX10_wayOf_14 rfl (lv_at hl 2 rfl) ?_
        refine lv_bipush (v := iI 8) hx hb dX10_wayOf_15 (by decide +kernel) ?_
        refine lv_icmp_lt (tgt := 23) hx hb dX10_wayOf_17 (by decide) (fun c4 => ?_) (fun c4 => ?_)
        · have c4 : x2 < 8 := (i_lt hx2 ⟨by decide, by decide⟩).mp c4
          refine lv_aload_n hx hb dX10_wayOf_23 rfl (lv_at hl 0 rfl) ?_
          refine va_get (D := (dC, dI)) (ci := 10) (v := .ref (q 28)) (C := RX10) (T := TX10) (N := 2) hx hb hts hiX10 hown hK hP 27 (wkWT) rfl 0 (by decide) (hts _ (List.mem_cons_of_mem _ (wk_in_9 _ (List.mem_of_getElem? (i := 53) rfl)))) (fun _ h9 => h9) rfl dX10_wayOf_24 ?_
          refine lv_iload_n hx hb dX10_wayOf_27 rfl (lv_at hl 1 rfl) ?_
          refine lv_bipush (v := iI 8) hx hb dX10_wayOf_28 (by decide +kernel) ?_
          refine x_mulv (v := 8 * x1) hx hb dX10_wayOf_30 (by omega) ?_
          refine lv_iload_n hx hb dX10_wayOf_31 rfl (lv_at hl 2 rfl) ?_
          refine x_addv (v := 8 * x1 + x2) hx hb dX10_wayOf_32 (by omega) ?_
          refine x_iald (Wf := WK cB cI cJ cZ cQ q) hx hb hK hP 28 1 (wkWTw) rfl (by omega) (by decide) dX10_wayOf_33 (fun z5 hz5 => ?_)
          have rz5 : (-2147483648 : Int) ≤ z5 ∧ z5 ≤ 2147483647 := by rw [hz5]; exact irWTw hI
          exact RET z5 _ _ _ _ _ ⟨rfl, rz5⟩ hP hS dX10_wayOf_34
        · have c4 : ¬ x2 < 8 := mt (i_lt hx2 ⟨by decide, by decide⟩).mpr c4
          refine lv_ldc (v := 1000000) hx hb hown (hts _ (List.mem_cons_of_mem _ (wk_in_9 _ (List.mem_of_getElem? (i := 46) rfl)))) dX10_wayOf_20 ?_
          refine tp_i (y := iI 1000000) (by decide +kernel) ?_
          exact RET 1000000 _ _ _ _ _ ⟨rfl, ⟨by decide, by decide⟩⟩ hP hS dX10_wayOf_22

def ws_kc_X10_measureWays : List Cond := .code yX10_measureWays cX10_measureWays 7 none :: WY
set_option maxHeartbeats 4000000 in
set_option maxRecDepth 100000 in
theorem kc_X10_measureWays (l : Launch) (dC : Nat → ClassId) (dI : Nat → Nat → Nat) (cB cI cJ cZ cQ : ClassId) (aL aS : Nat) (q : Nat → Nat) (A : St) (ta : Nat) (x2 : Int) (hI : IK A) (hta : isT ta) (hx2 : (-2147483648 : Int) ≤ x2 ∧ x2 ≤ 2147483647) : KMv l yX10_measureWays ws_kc_X10_measureWays ({ frames := 3, cells := 0, slots := 0, locals := 68 } : Room) aL aS (dC, dI) (tyA cB cI cJ cZ cQ) (WK cB cI cJ cZ cQ q) A [.ref (q 27), .ref (q ta), .int (iI x2)] (fun u => IK u ∧ fk [28] [] A u ∧ (True)) := by
  refine k_metv (cc := cX10_measureWays) (maxL := 7) WK_adr (plainFor_of_name (by decide +kernel)) rfl (Nat.le_of_ble_eq_true rfl) (fun p e s m below meth c Q AS ls hx hb hml hown hts hK hDD hA0 hE RET H locs hP hS hl => ?_)
  have hown : s.vm.findClass RX10 = some m.cls := hown
  have hl : lv_has ls 7 [(0, .ref (q 27)), (1, .ref (q ta)), (2, .int (iI x2))] := hl
  have hiX9 : ∀ w ∈ u_ws RX9 TX9 16, w ∈ ws_kc_X10_measureWays := fun w h => List.mem_cons_of_mem _ (wy_layX9 w h)
  have hiX10 : ∀ w ∈ u_ws RX10 TX10 2, w ∈ ws_kc_X10_measureWays := fun w h => List.mem_cons_of_mem _ (wy_layX10 w h)
  refine lv_iconst (v := iI 0) hx hb dX10_measureWays_0 (by decide +kernel) ?_
  refine lv_istore_n (lv' := [(3, .int (iI 0)), (0, .ref (q 27)), (1, .ref (q ta)), (2, .int (iI x2))]) hx hb dX10_measureWays_1 rfl hl (by decide) rfl (fun ls hl => ?_)
  have L2_4 : ∀ (n7 : Nat) (z1 : Int) (A3 : St) (H : Heap) (locs : List Loc) (ls : Array Slot), (0 ≤ z1 ∧ z1 ≤ 2147483647) → ((65 - z1).toNat = n7) → IK A3 → fk [28] [] A A3 → va_P (dC, dI) vwCl (WK cB cI cJ cZ cQ q A3) H → va_S AS s.heap H locs → lv_has ls 7 [(3, .int (iI z1)), (0, .ref (q 27)), (1, .ref (q ta)), (2, .int (iI x2))] → W p l e (headSpec ws_kc_X10_measureWays ({ frames := 3, cells := 0, slots := 0, locals := 68 } : Room)).room s m [.ref (q 27), .ref (q ta), .int (iI x2)].toArray below meth c H locs 0 0 Q (F0 m 2 ls []) := by
    intro n7
    induction n7 using Nat.strongRecOn with
    | ind n7 ih5 =>
      intro z1 A3 H locs ls f6 hn7 hI hj2 hP hS hl
      refine lv_iload_n hx hb dX10_measureWays_2 rfl (lv_at hl 0 rfl) ?_
      refine lv_bipush (v := iI 64) hx hb dX10_measureWays_3 (by decide +kernel) ?_
      refine lv_icmp_ge (tgt := 37) hx hb dX10_measureWays_5 (by decide) (fun c8 => ?_) (fun c8 => ?_)
      · have c8 : 64 ≤ z1 := (i_le ⟨by decide, by decide⟩ (rb f6 (by decide) (by decide))).mp c8
        refine lv_aload_n hx hb dX10_measureWays_37 rfl (lv_at hl 2 rfl) ?_
        refine k_calli (As := []) (rest := []) ⟨hx, hb, hml, hown, hts⟩ hE (kc_X9_shutMask l dC dI cB cI cJ cZ cQ aL aS q _ ta hI hta) (cwV 0 hts (goodVk (wk_in_9 _ (List.mem_of_getElem? (i := 57) rfl)) (wk_in_8 _ (List.mem_of_getElem? (i := 55) rfl)) (wk_in_8 _ (List.mem_of_getElem? (i := 56) rfl)) (wk_in_0 _ (List.mem_of_getElem? (i := 6) rfl)) (wk_in_8 _ (List.mem_of_getElem? (i := 50) rfl))) rfl rfl rfl (by decide +kernel) ⟨Nat.le_of_ble_eq_true rfl, Nat.le_of_ble_eq_true rfl⟩) hK hDD hA0 hP hS ta 9 (wkT hta) rfl rfl hl.1 (Nat.le_of_ble_eq_true rfl) dX10_measureWays_38 (fun z9 A10 H locs hw11 hP hS => ?_)
        obtain ⟨rfl, hw11⟩ := hw11
        refine lv_istore_n (lv' := [(3, .int (iI z9)), (0, .ref (q 27)), (1, .ref (q ta)), (2, .int (iI x2))]) hx hb dX10_measureWays_41 rfl hl (by decide) rfl (fun ls hl => ?_)
        refine lv_iconst (v := iI 0) hx hb dX10_measureWays_42 (by decide +kernel) ?_
        refine lv_istore (lv' := [(4, .int (iI 0)), (3, .int (iI z9)), (0, .ref (q 27)), (1, .ref (q ta)), (2, .int (iI x2))]) hx hb dX10_measureWays_43 hl (by decide) rfl (fun ls hl => ?_)
        have L45_15 : ∀ (n21 : Nat) (z12 : Int) (A14 : St) (H : Heap) (locs : List Loc) (ls : Array Slot), (0 ≤ z12 ∧ z12 ≤ 2147483647) → ((11 - z12).toNat = n21) → IK A14 → fk [28] [] A3 A14 → va_P (dC, dI) vwCl (WK cB cI cJ cZ cQ q A14) H → va_S AS s.heap H locs → lv_has ls 7 [(4, .int (iI z12)), (3, .int (iI z9)), (0, .ref (q 27)), (1, .ref (q ta)), (2, .int (iI x2))] → W p l e (headSpec ws_kc_X10_measureWays ({ frames := 3, cells := 0, slots := 0, locals := 68 } : Room)).room s m [.ref (q 27), .ref (q ta), .int (iI x2)].toArray below meth c H locs 0 0 Q (F0 m 45 ls []) := by
          intro n21
          induction n21 using Nat.strongRecOn with
          | ind n21 ih16 =>
            intro z12 A14 H locs ls f17 hn21 hI hj13 hP hS hl
            refine lv_iload hx hb dX10_measureWays_45 (lv_at hl 0 rfl) ?_
            refine lv_aload_n hx hb dX10_measureWays_47 rfl (lv_at hl 3 rfl) ?_
            refine va_get (D := (dC, dI)) (ci := 9) (v := .ref (q (ta + 1))) (C := RX9) (T := TX9) (N := 16) hx hb hts hiX9 hown hK hP ta (wkT hta) rfl 0 (by decide) (hts _ (List.mem_cons_of_mem _ (wk_in_9 _ (List.mem_of_getElem? (i := 45) rfl)))) (fun _ h9 => h9) rfl dX10_measureWays_48 ?_
            refine lv_iconst (v := iI 1) hx hb dX10_measureWays_51 (by decide +kernel) ?_
            have a23 : ∀ k, A3 (ta + 1) k = A (ta + 1) k := fun k => hj2 (ta + 1) k (isT.b2 (o := fun b => List.contains [28] (b + 1)) hta rfl rfl) (isT.b2 (o := fun b => fin2 [] (b + 1) k) hta rfl rfl)
            have a22 : ∀ k, A14 (ta + 1) k = A (ta + 1) k := fun k => (hj13 (ta + 1) k (isT.b2 (o := fun b => List.contains [28] (b + 1)) hta rfl rfl) (isT.b2 (o := fun b => fin2 [] (b + 1) k) hta rfl rfl)).trans (a23 k)
            refine x_iald (Wf := WK cB cI cJ cZ cQ q) hx hb hK hP (ta + 1) 1 (wkTc hta) rfl (by decide) (by decide) dX10_measureWays_52 (fun z24 hz24 => ?_)
            have rz24 : (0 : Int) ≤ z24 ∧ z24 ≤ 10 := by rw [hz24]; exact irTc1 hta hI
            have hz24 : z24 = A (ta + 1) (1 : Int).toNat := hz24.trans (a22 _)
            refine lv_icmp_ge (tgt := 130) hx hb dX10_measureWays_53 (by decide) (fun c25 => ?_) (fun c25 => ?_)
            · have c25 : z24 ≤ z12 := (i_le (rb rz24 (by decide) (by decide)) (rb f17 (by decide) (by decide))).mp c25
              refine lv_iconst (v := iI 0) hx hb dX10_measureWays_130 (by decide +kernel) ?_
              refine lv_istore (lv' := [(4, .int (iI 0)), (3, .int (iI z9)), (0, .ref (q 27)), (1, .ref (q ta)), (2, .int (iI x2))]) hx hb dX10_measureWays_131 hl (by decide) rfl (fun ls hl => ?_)
              have L133_29 : ∀ (n32 : Nat) (z26 : Int) (A28 : St) (H : Heap) (locs : List Loc) (ls : Array Slot), (0 ≤ z26 ∧ z26 ≤ 2147483647) → ((2147483648 - z26).toNat = n32) → IK A28 → fk [28] [] A14 A28 → va_P (dC, dI) vwCl (WK cB cI cJ cZ cQ q A28) H → va_S AS s.heap H locs → lv_has ls 7 [(4, .int (iI z26)), (3, .int (iI z9)), (0, .ref (q 27)), (1, .ref (q ta)), (2, .int (iI x2))] → W p l e (headSpec ws_kc_X10_measureWays ({ frames := 3, cells := 0, slots := 0, locals := 68 } : Room)).room s m [.ref (q 27), .ref (q ta), .int (iI x2)].toArray below meth c H locs 0 0 Q (F0 m 133 ls []) := by
                intro n32
                induction n32 using Nat.strongRecOn with
                | ind n32 ih30 =>
                  intro z26 A28 H locs ls f31 hn32 hI hj27 hP hS hl
                  refine lv_iload hx hb dX10_measureWays_133 (lv_at hl 0 rfl) ?_
                  refine lv_iload_n hx hb dX10_measureWays_135 rfl (lv_at hl 4 rfl) ?_
                  refine lv_icmp_ge (tgt := 200) hx hb dX10_measureWays_136 (by decide) (fun c33 => ?_) (fun c33 => ?_)
                  · have c33 : x2 ≤ z26 := (i_le hx2 (rb f31 (by decide) (by decide))).mp c33
                    exact RET _ _ _ _ _ ⟨hI, fk.trans (fk.trans (fk.trans (fk.rf) hj2 rfl rfl) hj13 rfl rfl) hj27 rfl rfl, trivial⟩ hP hS dX10_measureWays_200
                  · have c33 : ¬ x2 ≤ z26 := mt (i_le hx2 (rb f31 (by decide) (by decide))).mpr c33
                    refine lv_iconst (v := iI 0) hx hb dX10_measureWays_139 (by decide +kernel) ?_
                    refine lv_istore (lv' := [(5, .int (iI 0)), (4, .int (iI z26)), (3, .int (iI z9)), (0, .ref (q 27)), (1, .ref (q ta)), (2, .int (iI x2))]) hx hb dX10_measureWays_140 hl (by decide) rfl (fun ls hl => ?_)
                    have L142_37 : ∀ (n40 : Nat) (z34 : Int) (A36 : St) (H : Heap) (locs : List Loc) (ls : Array Slot), (0 ≤ z34 ∧ z34 ≤ 2147483647) → ((2147483648 - z34).toNat = n40) → IK A36 → fk [28] [] A28 A36 → va_P (dC, dI) vwCl (WK cB cI cJ cZ cQ q A36) H → va_S AS s.heap H locs → lv_has ls 7 [(5, .int (iI z34)), (4, .int (iI z26)), (3, .int (iI z9)), (0, .ref (q 27)), (1, .ref (q ta)), (2, .int (iI x2))] → W p l e (headSpec ws_kc_X10_measureWays ({ frames := 3, cells := 0, slots := 0, locals := 68 } : Room)).room s m [.ref (q 27), .ref (q ta), .int (iI x2)].toArray below meth c H locs 0 0 Q (F0 m 142 ls []) := by
                      intro n40
                      induction n40 using Nat.strongRecOn with
                      | ind n40 ih38 =>
                        intro z34 A36 H locs ls f39 hn40 hI hj35 hP hS hl
                        refine lv_iload hx hb dX10_measureWays_142 (lv_at hl 0 rfl) ?_
                        refine lv_iload_n hx hb dX10_measureWays_144 rfl (lv_at hl 5 rfl) ?_
                        refine lv_icmp_ge (tgt := 194) hx hb dX10_measureWays_145 (by decide) (fun c41 => ?_) (fun c41 => ?_)
                        · have c41 : x2 ≤ z34 := (i_le hx2 (rb f39 (by decide) (by decide))).mp c41
                          refine lv_iinc (v := iI (z26 + 1)) (lv' := [(4, .int (iI (z26 + 1))), (5, .int (iI z34)), (3, .int (iI z9)), (0, .ref (q 27)), (1, .ref (q ta)), (2, .int (iI x2))]) hx hb dX10_measureWays_194 hl (k := 1) rfl (i_inc (by omega)) (by decide) rfl (fun ls hl => ?_)
                          refine lv_goto (tgt := 133) hx hb dX10_measureWays_197 (by decide) ?_
                          exact ih30 _ (by omega) (z26 + 1) _ _ _ _ (by omega) rfl hI (fk.trans (fk.trans (fk.rf) hj27 rfl rfl) hj35 rfl rfl) hP hS (lv_sub hl [0, 2, 3, 4, 5] rfl)
                        · have c41 : ¬ x2 ≤ z34 := mt (i_le hx2 (rb f39 (by decide) (by decide))).mpr c41
                          refine lv_iconst (v := iI 0) hx hb dX10_measureWays_148 (by decide +kernel) ?_
                          refine lv_istore (lv' := [(6, .int (iI 0)), (5, .int (iI z34)), (4, .int (iI z26)), (3, .int (iI z9)), (0, .ref (q 27)), (1, .ref (q ta)), (2, .int (iI x2))]) hx hb dX10_measureWays_149 hl (by decide) rfl (fun ls hl => ?_)
                          have L151_45 : ∀ (n48 : Nat) (z42 : Int) (A44 : St) (H : Heap) (locs : List Loc) (ls : Array Slot), (0 ≤ z42 ∧ z42 ≤ 2147483647) → ((2147483648 - z42).toNat = n48) → IK A44 → fk [28] [] A36 A44 → va_P (dC, dI) vwCl (WK cB cI cJ cZ cQ q A44) H → va_S AS s.heap H locs → lv_has ls 7 [(6, .int (iI z42)), (5, .int (iI z34)), (4, .int (iI z26)), (3, .int (iI z9)), (0, .ref (q 27)), (1, .ref (q ta)), (2, .int (iI x2))] → W p l e (headSpec ws_kc_X10_measureWays ({ frames := 3, cells := 0, slots := 0, locals := 68 } : Room)).room s m [.ref (q 27), .ref (q ta), .int (iI x2)].toArray below meth c H locs 0 0 Q (F0 m 151 ls []) := by
                            intro n48
                            induction n48 using Nat.strongRecOn with
                            | ind n48 ih46 =>
                              intro z42 A44 H locs ls f47 hn48 hI hj43 hP hS hl
                              refine lv_iload hx hb dX10_measureWays_151 (lv_at hl 0 rfl) ?_
                              refine lv_iload_n hx hb dX10_measureWays_153 rfl (lv_at hl 6 rfl) ?_
                              refine lv_icmp_ge (tgt := 188) hx hb dX10_measureWays_154 (by decide) (fun c49 => ?_) (fun c49 => ?_)
                              · have c49 : x2 ≤ z42 := (i_le hx2 (rb f47 (by decide) (by decide))).mp c49
                                refine lv_iinc (v := iI (z34 + 1)) (lv' := [(5, .int (iI (z34 + 1))), (6, .int (iI z42)), (4, .int (iI z26)), (3, .int (iI z9)), (0, .ref (q 27)), (1, .ref (q ta)), (2, .int (iI x2))]) hx hb dX10_measureWays_188 hl (k := 1) rfl (i_inc (by omega)) (by decide) rfl (fun ls hl => ?_)
                                refine lv_goto (tgt := 142) hx hb dX10_measureWays_191 (by decide) ?_
                                exact ih38 _ (by omega) (z34 + 1) _ _ _ _ (by omega) rfl hI (fk.trans (fk.trans (fk.rf) hj35 rfl rfl) hj43 rfl rfl) hP hS (lv_sub hl [0, 2, 3, 4, 5, 6] rfl)
                              · have c49 : ¬ x2 ≤ z42 := mt (i_le hx2 (rb f47 (by decide) (by decide))).mpr c49
                                refine lv_aload_n hx hb dX10_measureWays_157 rfl (lv_at hl 4 rfl) ?_
                                refine lv_iload hx hb dX10_measureWays_158 (lv_at hl 1 rfl) ?_
                                refine lv_iload hx hb dX10_measureWays_160 (lv_at hl 0 rfl) ?_
                                refine lv_aload_n hx hb dX10_measureWays_162 rfl (lv_at hl 4 rfl) ?_
                                refine lv_iload hx hb dX10_measureWays_163 (lv_at hl 1 rfl) ?_
                                refine lv_iload hx hb dX10_measureWays_165 (lv_at hl 2 rfl) ?_
                                refine k_calli (As := [.int (iI z34), .int (iI z26)]) (rest := [.int (iI z42), .int (iI z34), .ref (q 27)]) ⟨hx, hb, hml, hown, hts⟩ hE (kc_X10_wayOf l dC dI cB cI cJ cZ cQ aL aS q _ z34 z26 hI (rb f39 (by decide) (by decide)) (rb f31 (by decide) (by decide))) (cwV 2 hts (goodVk (wk_in_10 _ (List.mem_of_getElem? (i := 4) rfl)) (wk_in_10 _ (List.mem_of_getElem? (i := 5) rfl)) (wk_in_10 _ (List.mem_of_getElem? (i := 6) rfl)) (wk_in_9 _ (List.mem_of_getElem? (i := 51) rfl)) (wk_in_10 _ (List.mem_of_getElem? (i := 7) rfl))) rfl rfl rfl (by decide +kernel) ⟨Nat.le_of_ble_eq_true rfl, Nat.le_of_ble_eq_true rfl⟩) hK hDD hA0 hP hS 27 10 (wkWT) rfl rfl hl.1 (Nat.le_of_ble_eq_true rfl) dX10_measureWays_167 (fun z50 A51 H locs hw52 hP hS => ?_)
                                obtain ⟨rfl, hw52⟩ := hw52
                                refine lv_aload_n hx hb dX10_measureWays_170 rfl (lv_at hl 4 rfl) ?_
                                refine lv_iload hx hb dX10_measureWays_171 (lv_at hl 2 rfl) ?_
                                refine lv_iload hx hb dX10_measureWays_173 (lv_at hl 0 rfl) ?_
                                refine k_calli (As := [.int (iI z26), .int (iI z42)]) (rest := [.int (iI z50), .int (iI z42), .int (iI z34), .ref (q 27)]) ⟨hx, hb, hml, hown, hts⟩ hE (kc_X10_wayOf l dC dI cB cI cJ cZ cQ aL aS q _ z26 z42 hI (rb f31 (by decide) (by decide)) (rb f47 (by decide) (by decide))) (cwV 2 hts (goodVk (wk_in_10 _ (List.mem_of_getElem? (i := 4) rfl)) (wk_in_10 _ (List.mem_of_getElem? (i := 5) rfl)) (wk_in_10 _ (List.mem_of_getElem? (i := 6) rfl)) (wk_in_9 _ (List.mem_of_getElem? (i := 51) rfl)) (wk_in_10 _ (List.mem_of_getElem? (i := 7) rfl))) rfl rfl rfl (by decide +kernel) ⟨Nat.le_of_ble_eq_true rfl, Nat.le_of_ble_eq_true rfl⟩) hK hDD hA0 hP hS 27 10 (wkWT) rfl rfl hl.1 (Nat.le_of_ble_eq_true rfl) dX10_measureWays_175 (fun z53 A54 H locs hw55 hP hS => ?_)
                                obtain ⟨rfl, hw55⟩ := hw55
                                refine x_addv (v := z50 + z53) hx hb dX10_measureWays_178 (by omega) ?_
                                refine x_abs (fun z56 hz56 => ?_)
                                refine k_callv (As := [.int (iI z34), .int (iI z42), .int (iI z56)]) (rest := []) ⟨hx, hb, hml, hown, hts⟩ hE (kc_X10_shorten l dC dI cB cI cJ cZ cQ aL aS q _ z34 z42 z56 hI (rb f39 (by decide) (by decide)) (rb f47 (by decide) (by decide)) hz56) (cwV 3 hts (goodVk (wk_in_9 _ (List.mem_of_getElem? (i := 59) rfl)) (wk_in_10 _ (List.mem_of_getElem? (i := 0) rfl)) (wk_in_10 _ (List.mem_of_getElem? (i := 1) rfl)) (wk_in_9 _ (List.mem_of_getElem? (i := 51) rfl)) (wk_in_10 _ (List.mem_of_getElem? (i := 2) rfl))) rfl rfl rfl (by decide +kernel) ⟨Nat.le_of_ble_eq_true rfl, Nat.le_of_ble_eq_true rfl⟩) hK hDD hA0 hP hS 27 10 (wkWT) rfl rfl hl.1 (Nat.le_of_ble_eq_true rfl) dX10_measureWays_179 (fun A57 H locs hw58 hP hS => ?_)
                                obtain ⟨hI, hf59, hw58⟩ := hw58
                                clear hw58
                                refine lv_iinc (v := iI (z42 + 1)) (lv' := [(6, .int (iI (z42 + 1))), (5, .int (iI z34)), (4, .int (iI z26)), (3, .int (iI z9)), (0, .ref (q 27)), (1, .ref (q ta)), (2, .int (iI x2))]) hx hb dX10_measureWays_182 hl (k := 0) rfl (i_inc (by omega)) (by decide) rfl (fun ls hl => ?_)
                                refine lv_goto (tgt := 151) hx hb dX10_measureWays_185 (by decide) ?_
                                exact ih46 _ (by omega) (z42 + 1) _ _ _ _ (by omega) rfl hI (fk.trans (fk.trans (fk.rf) hj43 rfl rfl) hf59 rfl rfl) hP hS (lv_sub hl [0, 1, 2, 3, 4, 5, 6] rfl)
                          exact L151_45 _ 0 _ _ _ _ (by omega) rfl hI (fk.rf) hP hS (lv_sub hl [0, 1, 2, 3, 4, 5, 6] rfl)
                    exact L142_37 _ 0 _ _ _ _ (by omega) rfl hI (fk.rf) hP hS (lv_sub hl [0, 1, 2, 3, 4, 5] rfl)
              exact L133_29 _ 0 _ _ _ _ (by omega) rfl hI (fk.rf) hP hS (lv_sub hl [0, 1, 2, 3, 4] rfl)
            · have c25 : ¬ z24 ≤ z12 := mt (i_le (rb rz24 (by decide) (by decide)) (rb f17 (by decide) (by decide))).mpr c25
              refine lv_aload_n hx hb dX10_measureWays_56 rfl (lv_at hl 3 rfl) ?_
              refine lv_iload hx hb dX10_measureWays_57 (lv_at hl 0 rfl) ?_
              refine k_calli (As := [.int (iI z12)]) (rest := []) ⟨hx, hb, hml, hown, hts⟩ hE (kc_X9_isBox l dC dI cB cI cJ cZ cQ aL aS q _ ta z12 hI hta (rb f17 (by decide) (by decide))) (cwV 1 hts (goodVk (wk_in_9 _ (List.mem_of_getElem? (i := 58) rfl)) (wk_in_1 _ (List.mem_of_getElem? (i := 6) rfl)) (wk_in_1 _ (List.mem_of_getElem? (i := 7) rfl)) (wk_in_0 _ (List.mem_of_getElem? (i := 6) rfl)) (wk_in_1 _ (List.mem_of_getElem? (i := 8) rfl))) rfl rfl rfl (by decide +kernel) ⟨Nat.le_of_ble_eq_true rfl, Nat.le_of_ble_eq_true rfl⟩) hK hDD hA0 hP hS ta 9 (wkT hta) rfl rfl hl.1 (Nat.le_of_ble_eq_true rfl) dX10_measureWays_59 (fun z60 A61 H locs hw62 hP hS => ?_)
              obtain ⟨rfl, hw62⟩ := hw62
              have hw62 := hw62.2
              have rz60 : 0 ≤ z60 ∧ z60 ≤ 1 := hw62.1
              have hw62 := hw62.2
              have J124_64 : ∀ (A90 : St) (H : Heap) (locs : List Loc) (ls : Array Slot), IK A90 → fk [28] [] A14 A90 → va_P (dC, dI) vwCl (WK cB cI cJ cZ cQ q A90) H → va_S AS s.heap H locs → lv_has ls 7 [(4, .int (iI z12)), (3, .int (iI z9)), (0, .ref (q 27)), (1, .ref (q ta)), (2, .int (iI x2))] → W p l e (headSpec ws_kc_X10_measureWays ({ frames := 3, cells := 0, slots := 0, locals := 68 } : Room)).room s m [.ref (q 27), .ref (q ta), .int (iI x2)].toArray below meth c H locs 0 0 Q (F0 m 124 ls []) := by
                intro A90 H locs ls hI hj89 hP hS hl
                clear hw62
                refine lv_iinc (v := iI (z12 + 1)) (lv' := [(4, .int (iI (z12 + 1))), (3, .int (iI z9)), (0, .ref (q 27)), (1, .ref (q ta)), (2, .int (iI x2))]) hx hb dX10_measureWays_124 hl (k := 0) rfl (i_inc (by omega)) (by decide) rfl (fun ls hl => ?_)
                refine lv_goto (tgt := 45) hx hb dX10_measureWays_127 (by decide) ?_
                exact ih16 _ (by omega) (z12 + 1) _ _ _ _ (by omega) rfl hI (fk.trans (fk.trans (fk.rf) hj13 rfl rfl) hj89 rfl rfl) hP hS (lv_sub hl [0, 1, 2, 3, 4] rfl)
              refine lv_if_ne (tgt := 124) hx hb dX10_measureWays_62 (by decide) (fun c63 => ?_) (fun c63 => ?_)
              · have c63 : ¬ z60 = 0 := mt (i_eq0 (rb rz60 (by decide) (by decide))).mpr c63
                have hw62b := hw62 (by omega)
                clear hw62
                exact J124_64 _ _ _ _ hI (fk.rf) hP hS (lv_sub hl [0, 1, 2, 3, 4] rfl)
              · have c63 : z60 = 0 := (i_eq0 (rb rz60 (by decide) (by decide))).mp c63
                clear hw62
                refine lv_iload_n hx hb dX10_measureWays_65 rfl (lv_at hl 1 rfl) ?_
                refine lv_iload hx hb dX10_measureWays_66 (lv_at hl 0 rfl) ?_
                refine lv_ishr hx hb dX10_measureWays_68 ?_
                refine x_abs (fun z65 hz65 => ?_)
                refine lv_iconst (v := iI 1) hx hb dX10_measureWays_69 (by decide +kernel) ?_
                refine lv_iand hx hb dX10_measureWays_70 ?_
                refine x_and (b := 1) (by omega) (fun z66 hz66 => ?_)
                refine lv_if_ne (tgt := 124) hx hb dX10_measureWays_71 (by decide) (fun c67 => ?_) (fun c67 => ?_)
                · have c67 : ¬ z66 = 0 := mt (i_eq0 (by omega)).mpr c67
                  exact J124_64 _ _ _ _ hI (fk.rf) hP hS (lv_sub hl [0, 1, 2, 3, 4] rfl)
                · have c67 : z66 = 0 := (i_eq0 (by omega)).mp c67
                  refine lv_aload_n hx hb dX10_measureWays_74 rfl (lv_at hl 2 rfl) ?_
                  refine lv_aload_n hx hb dX10_measureWays_75 rfl (lv_at hl 3 rfl) ?_
                  refine va_get (D := (dC, dI)) (ci := 9) (v := .ref (q (ta + 8))) (C := RX9) (T := TX9) (N := 16) hx hb hts hiX9 hown hK hP ta (wkT hta) rfl 2 (by decide) (hts _ (List.mem_cons_of_mem _ (wk_in_9 _ (List.mem_of_getElem? (i := 54) rfl)))) (fun _ h9 => h9) rfl dX10_measureWays_76 ?_
                  refine lv_iload hx hb dX10_measureWays_79 (lv_at hl 0 rfl) ?_
                  have a69 : ∀ k, A3 (ta + 8) k = A (ta + 8) k := fun k => hj2 (ta + 8) k (isT.b2 (o := fun b => List.contains [28] (b + 8)) hta rfl rfl) (isT.b2 (o := fun b => fin2 [] (b + 8) k) hta rfl rfl)
                  have a68 : ∀ k, A14 (ta + 8) k = A (ta + 8) k := fun k => (hj13 (ta + 8) k (isT.b2 (o := fun b => List.contains [28] (b + 8)) hta rfl rfl) (isT.b2 (o := fun b => fin2 [] (b + 8) k) hta rfl rfl)).trans (a69 k)
                  refine x_iald (Wf := WK cB cI cJ cZ cQ q) hx hb hK hP (ta + 8) 1 (wkTf hta) rfl (by omega) (by decide) dX10_measureWays_81 (fun z70 hz70 => ?_)
                  have rz70 : (-2147483648 : Int) ≤ z70 ∧ z70 ≤ 2147483647 := by rw [hz70]; exact irTf hta hI
                  have hz70 : z70 = A (ta + 8) (z12).toNat := hz70.trans (a68 _)
                  refine lv_aload_n hx hb dX10_measureWays_82 rfl (lv_at hl 3 rfl) ?_
                  refine va_get (D := (dC, dI)) (ci := 9) (v := .ref (q (ta + 9))) (C := RX9) (T := TX9) (N := 16) hx hb hts hiX9 hown hK hP ta (wkT hta) rfl 3 (by decide) (hts _ (List.mem_cons_of_mem _ (wk_in_9 _ (List.mem_of_getElem? (i := 55) rfl)))) (fun _ h9 => h9) rfl dX10_measureWays_83 ?_
                  refine lv_iload hx hb dX10_measureWays_86 (lv_at hl 0 rfl) ?_
                  have a72 : ∀ k, A3 (ta + 9) k = A (ta + 9) k := fun k => hj2 (ta + 9) k (isT.b2 (o := fun b => List.contains [28] (b + 9)) hta rfl rfl) (isT.b2 (o := fun b => fin2 [] (b + 9) k) hta rfl rfl)
                  have a71 : ∀ k, A14 (ta + 9) k = A (ta + 9) k := fun k => (hj13 (ta + 9) k (isT.b2 (o := fun b => List.contains [28] (b + 9)) hta rfl rfl) (isT.b2 (o := fun b => fin2 [] (b + 9) k) hta rfl rfl)).trans (a72 k)
                  refine x_iald (Wf := WK cB cI cJ cZ cQ q) hx hb hK hP (ta + 9) 1 (wkTs hta) rfl (by omega) (by decide) dX10_measureWays_88 (fun z73 hz73 => ?_)
                  have rz73 : (-2147483648 : Int) ≤ z73 ∧ z73 ≤ 2147483647 := by rw [hz73]; exact irTs hta hI
                  have hz73 : z73 = A (ta + 9) (z12).toNat := hz73.trans (a71 _)
                  refine lv_aload_n hx hb dX10_measureWays_89 rfl (lv_at hl 3 rfl) ?_
                  refine va_get (D := (dC, dI)) (ci := 9) (v := .ref (q (ta + 10))) (C := RX9) (T := TX9) (N := 16) hx hb hts hiX9 hown hK hP ta (wkT hta) rfl 4 (by decide) (hts _ (List.mem_cons_of_mem _ (wk_in_9 _ (List.mem_of_getElem? (i := 56) rfl)))) (fun _ h9 => h9) rfl dX10_measureWays_90 ?_
                  refine lv_iload hx hb dX10_measureWays_93 (lv_at hl 0 rfl) ?_
                  have a75 : ∀ k, A3 (ta + 10) k = A (ta + 10) k := fun k => hj2 (ta + 10) k (isT.b2 (o := fun b => List.contains [28] (b + 10)) hta rfl rfl) (isT.b2 (o := fun b => fin2 [] (b + 10) k) hta rfl rfl)
                  have a74 : ∀ k, A14 (ta + 10) k = A (ta + 10) k := fun k => (hj13 (ta + 10) k (isT.b2 (o := fun b => List.contains [28] (b + 10)) hta rfl rfl) (isT.b2 (o := fun b => fin2 [] (b + 10) k) hta rfl rfl)).trans (a75 k)
                  refine x_iald (Wf := WK cB cI cJ cZ cQ q) hx hb hK hP (ta + 10) 1 (wkTm hta) rfl (by omega) (by decide) dX10_measureWays_95 (fun z76 hz76 => ?_)
                  have rz76 : (-2147483648 : Int) ≤ z76 ∧ z76 ≤ 2147483647 := by rw [hz76]; exact irTm hta hI
                  have hz76 : z76 = A (ta + 10) (z12).toNat := hz76.trans (a74 _)
                  refine k_callv (As := [.int (iI z70), .int (iI z73), .int (iI z76)]) (rest := []) ⟨hx, hb, hml, hown, hts⟩ hE (kc_X10_shorten l dC dI cB cI cJ cZ cQ aL aS q _ z70 z73 z76 hI rz70 rz73 rz76) (cwV 3 hts (goodVk (wk_in_9 _ (List.mem_of_getElem? (i := 59) rfl)) (wk_in_10 _ (List.mem_of_getElem? (i := 0) rfl)) (wk_in_10 _ (List.mem_of_getElem? (i := 1) rfl)) (wk_in_9 _ (List.mem_of_getElem? (i := 51) rfl)) (wk_in_10 _ (List.mem_of_getElem? (i := 2) rfl))) rfl rfl rfl (by decide +kernel) ⟨Nat.le_of_ble_eq_true rfl, Nat.le_of_ble_eq_true rfl⟩) hK hDD hA0 hP hS 27 10 (wkWT) rfl rfl hl.1 (Nat.le_of_ble_eq_true rfl) dX10_measureWays_96 (fun A77 H locs hw78 hP hS => ?_)
                  obtain ⟨hI, hf79, hw78⟩ := hw78
                  clear hw78
                  refine lv_aload_n hx hb dX10_measureWays_99 rfl (lv_at hl 2 rfl) ?_
                  refine lv_aload_n hx hb dX10_measureWays_100 rfl (lv_at hl 3 rfl) ?_
                  refine va_get (D := (dC, dI)) (ci := 9) (v := .ref (q (ta + 9))) (C := RX9) (T := TX9) (N := 16) hx hb hts hiX9 hown hK hP ta (wkT hta) rfl 3 (by decide) (hts _ (List.mem_cons_of_mem _ (wk_in_9 _ (List.mem_of_getElem? (i := 55) rfl)))) (fun _ h9 => h9) rfl dX10_measureWays_101 ?_
                  refine lv_iload hx hb dX10_measureWays_104 (lv_at hl 0 rfl) ?_
                  have a80 : ∀ k, A77 (ta + 9) k = A (ta + 9) k := fun k => (hf79 (ta + 9) k (isT.b2 (o := fun b => List.contains [28] (b + 9)) hta rfl rfl) (isT.b2 (o := fun b => fin2 [] (b + 9) k) hta rfl rfl)).trans (a71 k)
                  refine x_iald (Wf := WK cB cI cJ cZ cQ q) hx hb hK hP (ta + 9) 1 (wkTs hta) rfl (by omega) (by decide) dX10_measureWays_106 (fun z81 hz81 => ?_)
                  have rz81 : (-2147483648 : Int) ≤ z81 ∧ z81 ≤ 2147483647 := by rw [hz81]; exact irTs hta hI
                  have hz81 : z81 = A (ta + 9) (z12).toNat := hz81.trans (a80 _)
                  have ez81 : z81 = z73 := hz81.trans hz73.symm
                  refine tp_i (y := iI z73) (congrArg iI ez81) ?_
                  refine lv_aload_n hx hb dX10_measureWays_107 rfl (lv_at hl 3 rfl) ?_
                  refine va_get (D := (dC, dI)) (ci := 9) (v := .ref (q (ta + 8))) (C := RX9) (T := TX9) (N := 16) hx hb hts hiX9 hown hK hP ta (wkT hta) rfl 2 (by decide) (hts _ (List.mem_cons_of_mem _ (wk_in_9 _ (List.mem_of_getElem? (i := 54) rfl)))) (fun _ h9 => h9) rfl dX10_measureWays_108 ?_
                  refine lv_iload hx hb dX10_measureWays_111 (lv_at hl 0 rfl) ?_
                  have a82 : ∀ k, A77 (ta + 8) k = A (ta + 8) k := fun k => (hf79 (ta + 8) k (isT.b2 (o := fun b => List.contains [28] (b + 8)) hta rfl rfl) (isT.b2 (o := fun b => fin2 [] (b + 8) k) hta rfl rfl)).trans (a68 k)
                  refine x_iald (Wf := WK cB cI cJ cZ cQ q) hx hb hK hP (ta + 8) 1 (wkTf hta) rfl (by omega) (by decide) dX10_measureWays_113 (fun z83 hz83 => ?_)
                  have rz83 : (-2147483648 : Int) ≤ z83 ∧ z83 ≤ 2147483647 := by rw [hz83]; exact irTf hta hI
                  have hz83 : z83 = A (ta + 8) (z12).toNat := hz83.trans (a82 _)
                  have ez83 : z83 = z70 := hz83.trans hz70.symm
                  refine tp_i (y := iI z70) (congrArg iI ez83) ?_
                  refine lv_aload_n hx hb dX10_measureWays_114 rfl (lv_at hl 3 rfl) ?_
                  refine va_get (D := (dC, dI)) (ci := 9) (v := .ref (q (ta + 10))) (C := RX9) (T := TX9) (N := 16) hx hb hts hiX9 hown hK hP ta (wkT hta) rfl 4 (by decide) (hts _ (List.mem_cons_of_mem _ (wk_in_9 _ (List.mem_of_getElem? (i := 56) rfl)))) (fun _ h9 => h9) rfl dX10_measureWays_115 ?_
                  refine lv_iload hx hb dX10_measureWays_118 (lv_at hl 0 rfl) ?_
                  have a84 : ∀ k, A77 (ta + 10) k = A (ta + 10) k := fun k => (hf79 (ta + 10) k (isT.b2 (o := fun b => List.contains [28] (b + 10)) hta rfl rfl) (isT.b2 (o := fun b => fin2 [] (b + 10) k) hta rfl rfl)).trans (a74 k)
                  refine x_iald (Wf := WK cB cI cJ cZ cQ q) hx hb hK hP (ta + 10) 1 (wkTm hta) rfl (by omega) (by decide) dX10_measureWays_120 (fun z85 hz85 => ?_)
                  have rz85 : (-2147483648 : Int) ≤ z85 ∧ z85 ≤ 2147483647 := by rw [hz85]; exact irTm hta hI
                  have hz85 : z85 = A (ta + 10) (z12).toNat := hz85.trans (a84 _)
                  have ez85 : z85 = z76 := hz85.trans hz76.symm
                  refine tp_i (y := iI z76) (congrArg iI ez85) ?_
                  refine k_callv (As := [.int (iI z73), .int (iI z70), .int (iI z76)]) (rest := []) ⟨hx, hb, hml, hown, hts⟩ hE (kc_X10_shorten l dC dI cB cI cJ cZ cQ aL aS q _ z73 z70 z76 hI rz73 rz70 rz76) (cwV 3 hts (goodVk (wk_in_9 _ (List.mem_of_getElem? (i := 59) rfl)) (wk_in_10 _ (List.mem_of_getElem? (i := 0) rfl)) (wk_in_10 _ (List.mem_of_getElem? (i := 1) rfl)) (wk_in_9 _ (List.mem_of_getElem? (i := 51) rfl)) (wk_in_10 _ (List.mem_of_getElem? (i := 2) rfl))) rfl rfl rfl (by decide +kernel) ⟨Nat.le_of_ble_eq_true rfl, Nat.le_of_ble_eq_true rfl⟩) hK hDD hA0 hP hS 27 10 (wkWT) rfl rfl hl.1 (Nat.le_of_ble_eq_true rfl) dX10_measureWays_121 (fun A86 H locs hw87 hP hS => ?_)
                  obtain ⟨hI, hf88, hw87⟩ := hw87
                  clear hw87
                  exact J124_64 _ _ _ _ hI (fk.trans (fk.trans (fk.rf) hf79 rfl rfl) hf88 rfl rfl) hP hS (lv_sub hl [0, 1, 2, 3, 4] rfl)
        exact L45_15 _ 0 _ _ _ _ (by omega) rfl hI (fk.rf) hP hS (lv_sub hl [0, 1, 2, 3, 4] rfl)
      · have c8 : ¬ 64 ≤ z1 := mt (i_le ⟨by decide, by decide⟩ (rb f6 (by decide) (by decide))).mpr c8
        refine lv_aload_n hx hb dX10_measureWays_8 rfl (lv_at hl 1 rfl) ?_
        refine va_get (D := (dC, dI)) (ci := 10) (v := .ref (q 28)) (C := RX10) (T := TX10) (N := 2) hx hb hts hiX10 hown hK hP 27 (wkWT) rfl 0 (by decide) (hts _ (List.mem_cons_of_mem _ (wk_in_9 _ (List.mem_of_getElem? (i := 53) rfl)))) (fun _ h9 => h9) rfl dX10_measureWays_9 ?_
        refine lv_iload_n hx hb dX10_measureWays_12 rfl (lv_at hl 0 rfl) ?_
        refine lv_iload_n hx hb dX10_measureWays_13 rfl (lv_at hl 0 rfl) ?_
        refine lv_bipush (v := iI 8) hx hb dX10_measureWays_14 (by decide +kernel) ?_
        refine x_div hx hb dX10_measureWays_16 (by omega) (by omega) (fun z91 hz91 hz91b => ?_)
        refine lv_iload_n hx hb dX10_measureWays_17 rfl (lv_at hl 0 rfl) ?_
        refine lv_bipush (v := iI 8) hx hb dX10_measureWays_18 (by decide +kernel) ?_
        refine x_rem hx hb dX10_measureWays_20 (by omega) (by omega) (fun z92 hz92 hz92b => ?_)
        clear hz92
        have J30_94 : ∀ (z95 : Int) (H : Heap) (locs : List Loc) (ls : Array Slot), (0 ≤ z95 ∧ z95 ≤ 1000000) → va_P (dC, dI) vwCl (WK cB cI cJ cZ cQ q A3) H → va_S AS s.heap H locs → lv_has ls 7 [(3, .int (iI z1)), (0, .ref (q 27)), (1, .ref (q ta)), (2, .int (iI x2))] → W p l e (headSpec ws_kc_X10_measureWays ({ frames := 3, cells := 0, slots := 0, locals := 68 } : Room)).room s m [.ref (q 27), .ref (q ta), .int (iI x2)].toArray below meth c H locs 0 0 Q (F0 m 30 ls [.int (iI z95), .int (iI z1), .ref (q 28)]) := by
          intro z95 H locs ls f97 hP hS hl
          refine k_iast (Wf := WK cB cI cJ cZ cQ q) hx hb hK hP hDD hS 28 1 (wkWTw) rfl (by omega) (by decide) dX10_measureWays_30 (wsWTw) (fun H locs A98 hA98 hP hS => ?_)
          have hI := isWTw hA98 hI (show (-2147483648 : Int) ≤ z95 ∧ z95 ≤ 2147483647 from (rb f97 (by decide) (by decide)))
          refine lv_iinc (v := iI (z1 + 1)) (lv' := [(3, .int (iI (z1 + 1))), (0, .ref (q 27)), (1, .ref (q ta)), (2, .int (iI x2))]) hx hb dX10_measureWays_31 hl (k := 0) rfl (i_inc (by omega)) (by decide) rfl (fun ls hl => ?_)
          refine lv_goto (tgt := 2) hx hb dX10_measureWays_34 (by decide) ?_
          exact ih5 _ (by omega) (z1 + 1) _ _ _ _ (by omega) rfl hI (fk.da (fk.trans (fk.rf) hj2 rfl rfl) hA98 rfl) hP hS (lv_sub hl [0, 1, 2, 3] rfl)
        refine lv_icmp_ne (tgt := 28) hx hb dX10_measureWays_21 (by decide) (fun c93 => ?_) (fun c93 => ?_)
        · have c93 : ¬ z91 = z92 := mt (i_eq (by omega) (by omega)).mpr c93
          refine lv_ldc (v := 1000000) hx hb hown (hts _ (List.mem_cons_of_mem _ (wk_in_9 _ (List.mem_of_getElem? (i := 46) rfl)))) dX10_measureWays_28 ?_
          refine tp_i (y := iI 1000000) (by decide +kernel) ?_
          exact J30_94 1000000 _ _ _ (by omega) hP hS (lv_sub hl [0, 1, 2, 3] rfl)
        · have c93 : z91 = z92 := (i_eq (by omega) (by omega)).mp c93
          refine lv_iconst (v := iI 0) hx hb dX10_measureWays_24 (by decide +kernel) ?_
          refine lv_goto (tgt := 30) hx hb dX10_measureWays_25 (by decide) ?_
          exact J30_94 0 _ _ _ (by omega) hP hS (lv_sub hl [0, 1, 2, 3] rfl)
  exact L2_4 _ 0 _ _ _ _ (by omega) rfl hI (fk.rf) hP hS (lv_sub hl [0, 1, 2, 3] rfl)

def ws_kc_X10_walkOn : List Cond := .code yX10_walkOn cX10_walkOn 7 none :: WY
set_option maxHeartbeats 4000000 in
set_option maxRecDepth 100000 in
theorem kc_X10_walkOn (l : Launch) (dC : Nat → ClassId) (dI : Nat → Nat → Nat) (cB cI cJ cZ cQ : ClassId) (aL aS : Nat) (q : Nat → Nat) (A : St) (x1 x2 x3 x4 : Int) (hI : IK A) (hx1 : (-2147483648 : Int) ≤ x1 ∧ x1 ≤ 2147483647) (hx2 : (-2147483648 : Int) ≤ x2 ∧ x2 ≤ 2147483647) (hx3 : (-2147483648 : Int) ≤ x3 ∧ x3 ≤ 2147483647) (hx4 : (-2147483648 : Int) ≤ x4 ∧ x4 ≤ 2147483647) : KMv l yX10_walkOn ws_kc_X10_walkOn ({ frames := 1, cells := 0, slots := 0, locals := 22 } : Room) aL aS (dC, dI) (tyA cB cI cJ cZ cQ) (WK cB cI cJ cZ cQ q) A [.ref (q 27), .int (iI x1), .int (iI x2), .int (iI x3), .int (iI x4)] (fun u => IK u ∧ fk [29] [] A u ∧ (True)) := by
  refine k_metv (cc := cX10_walkOn) (maxL := 7) WK_adr (plainFor_of_name (by decide +kernel)) rfl (Nat.le_of_ble_eq_true rfl) (fun p e s m below meth c Q AS ls hx hb hml hown hts hK hDD hA0 hE RET H locs hP hS hl => ?_)
  have hown : s.vm.findClass RX10 = some m.cls := hown
  have hl : lv_has ls 7 [(0, .ref (q 27)), (1, .int (iI x1)), (2, .int (iI x2)), (3, .int (iI x3)), (4, .int (iI x4))] := hl
  have hiX10 : ∀ w ∈ u_ws RX10 TX10 2, w ∈ ws_kc_X10_walkOn := fun w h => List.mem_cons_of_mem _ (wy_layX10 w h)
  refine lv_iconst (v := iI 0) hx hb dX10_walkOn_0 (by decide +kernel) ?_
  refine lv_istore (lv' := [(5, .int (iI 0)), (0, .ref (q 27)), (1, .int (iI x1)), (2, .int (iI x2)), (3, .int (iI x3)), (4, .int (iI x4))]) hx hb dX10_walkOn_1 hl (by decide) rfl (fun ls hl => ?_)
  have L3_4 : ∀ (n7 : Nat) (z1 : Int) (A3 : St) (H : Heap) (locs : List Loc) (ls : Array Slot), (0 ≤ z1 ∧ z1 ≤ 2147483647) → ((9 - z1).toNat = n7) → IK A3 → fk [29] [] A A3 → va_P (dC, dI) vwCl (WK cB cI cJ cZ cQ q A3) H → va_S AS s.heap H locs → lv_has ls 7 [(5, .int (iI z1)), (0, .ref (q 27)), (1, .int (iI x1)), (2, .int (iI x2)), (3, .int (iI x3)), (4, .int (iI x4))] → W p l e (headSpec ws_kc_X10_walkOn ({ frames := 1, cells := 0, slots := 0, locals := 22 } : Room)).room s m [.ref (q 27), .int (iI x1), .int (iI x2), .int (iI x3), .int (iI x4)].toArray below meth c H locs 0 0 Q (F0 m 3 ls []) := by
    intro n7
    induction n7 using Nat.strongRecOn with
    | ind n7 ih5 =>
      intro z1 A3 H locs ls f6 hn7 hI hj2 hP hS hl
      refine lv_iload hx hb dX10_walkOn_3 (lv_at hl 0 rfl) ?_
      refine lv_bipush (v := iI 8) hx hb dX10_walkOn_5 (by decide +kernel) ?_
      refine lv_icmp_ge (tgt := 79) hx hb dX10_walkOn_7 (by decide) (fun c8 => ?_) (fun c8 => ?_)
      · have c8 : 8 ≤ z1 := (i_le ⟨by decide, by decide⟩ (rb f6 (by decide) (by decide))).mp c8
        exact RET _ _ _ _ _ ⟨hI, fk.trans (fk.rf) hj2 rfl rfl, trivial⟩ hP hS dX10_walkOn_79
      · have c8 : ¬ 8 ≤ z1 := mt (i_le ⟨by decide, by decide⟩ (rb f6 (by decide) (by decide))).mpr c8
        refine lv_iload_n hx hb dX10_walkOn_10 rfl (lv_at hl 2 rfl) ?_
        refine lv_iload hx hb dX10_walkOn_11 (lv_at hl 0 rfl) ?_
        refine lv_ishr hx hb dX10_walkOn_13 ?_
        refine x_abs (fun z9 hz9 => ?_)
        refine lv_iconst (v := iI 1) hx hb dX10_walkOn_14 (by decide +kernel) ?_
        refine lv_iand hx hb dX10_walkOn_15 ?_
        refine x_and (b := 1) (by omega) (fun z10 hz10 => ?_)
        have J73_12 : ∀ (A27 : St) (H : Heap) (locs : List Loc) (ls : Array Slot), IK A27 → fk [29] [] A3 A27 → va_P (dC, dI) vwCl (WK cB cI cJ cZ cQ q A27) H → va_S AS s.heap H locs → lv_has ls 7 [(5, .int (iI z1)), (0, .ref (q 27)), (1, .int (iI x1)), (2, .int (iI x2)), (3, .int (iI x3)), (4, .int (iI x4))] → W p l e (headSpec ws_kc_X10_walkOn ({ frames := 1, cells := 0, slots := 0, locals := 22 } : Room)).room s m [.ref (q 27), .int (iI x1), .int (iI x2), .int (iI x3), .int (iI x4)].toArray below meth c H locs 0 0 Q (F0 m 73 ls []) := by
          intro A27 H locs ls hI hj26 hP hS hl
          refine lv_iinc (v := iI (z1 + 1)) (lv' := [(5, .int (iI (z1 + 1))), (0, .ref (q 27)), (1, .int (iI x1)), (2, .int (iI x2)), (3, .int (iI x3)), (4, .int (iI x4))]) hx hb dX10_walkOn_73 hl (k := 0) rfl (i_inc (by omega)) (by decide) rfl (fun ls hl => ?_)
          refine lv_goto (tgt := 3) hx hb dX10_walkOn_76 (by decide) ?_
          exact ih5 _ (by omega) (z1 + 1) _ _ _ _ (by omega) rfl hI (fk.trans (fk.trans (fk.rf) hj2 rfl rfl) hj26 rfl rfl) hP hS (lv_sub hl [0, 1, 2, 3, 4, 5] rfl)
        refine lv_if_eq (tgt := 73) hx hb dX10_walkOn_16 (by decide) (fun c11 => ?_) (fun c11 => ?_)
        · have c11 : z10 = 0 := (i_eq0 (by omega)).mp c11
          exact J73_12 _ _ _ _ hI (fk.rf) hP hS (lv_sub hl [0, 1, 2, 3, 4, 5] rfl)
        · have c11 : ¬ z10 = 0 := mt (i_eq0 (by omega)).mpr c11
          refine lv_iload_n hx hb dX10_walkOn_19 rfl (lv_at hl 3 rfl) ?_
          refine lv_iconst (v := iI 1) hx hb dX10_walkOn_20 (by decide +kernel) ?_
          refine lv_iload hx hb dX10_walkOn_21 (lv_at hl 0 rfl) ?_
          refine lv_ishl hx hb dX10_walkOn_23 ?_
          refine x_abs (fun z13 hz13 => ?_)
          refine lv_ior hx hb dX10_walkOn_24 ?_
          refine x_abs (fun z14 hz14 => ?_)
          refine lv_bipush (v := iI 8) hx hb dX10_walkOn_25 (by decide +kernel) ?_
          refine x_mulv (v := 8 * z14) hx hb dX10_walkOn_27 (by omega) ?_
          refine x_abs (fun z15 hz15 => ?_)
          refine lv_iload hx hb dX10_walkOn_28 (lv_at hl 0 rfl) ?_
          refine x_addv (v := z15 + z1) hx hb dX10_walkOn_30 (by omega) ?_
          refine x_abs (fun z16 hz16 => ?_)
          refine lv_istore (lv' := [(6, .int (iI z16)), (5, .int (iI z1)), (0, .ref (q 27)), (1, .int (iI x1)), (2, .int (iI x2)), (3, .int (iI x3)), (4, .int (iI x4))]) hx hb dX10_walkOn_31 hl (by decide) rfl (fun ls hl => ?_)
          refine lv_iload hx hb dX10_walkOn_33 (lv_at hl 0 rfl) ?_
          refine lv_if_lt (tgt := 73) hx hb dX10_walkOn_35 (by decide) (fun c17 => ?_) (fun c17 => ?_)
          · have c17 : z16 < 0 := (i_lt0 hz16).mp c17
            exact J73_12 _ _ _ _ hI (fk.rf) hP hS (lv_sub hl [1, 2, 3, 4, 5, 6] rfl)
          · have c17 : ¬ z16 < 0 := mt (i_lt0 hz16).mpr c17
            refine lv_iload hx hb dX10_walkOn_38 (lv_at hl 0 rfl) ?_
            refine lv_sipush (v := iI 2048) hx hb dX10_walkOn_40 (by decide +kernel) ?_
            refine lv_icmp_ge (tgt := 73) hx hb dX10_walkOn_43 (by decide) (fun c18 => ?_) (fun c18 => ?_)
            · have c18 : 2048 ≤ z16 := (i_le ⟨by decide, by decide⟩ hz16).mp c18
              exact J73_12 _ _ _ _ hI (fk.rf) hP hS (lv_sub hl [1, 2, 3, 4, 5, 6] rfl)
            · have c18 : ¬ 2048 ≤ z16 := mt (i_le ⟨by decide, by decide⟩ hz16).mpr c18
              refine lv_aload_n hx hb dX10_walkOn_46 rfl (lv_at hl 2 rfl) ?_
              refine va_get (D := (dC, dI)) (ci := 10) (v := .ref (q 29)) (C := RX10) (T := TX10) (N := 2) hx hb hts hiX10 hown hK hP 27 (wkWT) rfl 1 (by decide) (hts _ (List.mem_cons_of_mem _ (wk_in_10 _ (List.mem_of_getElem? (i := 12) rfl)))) (fun _ h9 => h9) rfl dX10_walkOn_47 ?_
              refine lv_iload hx hb dX10_walkOn_50 (lv_at hl 0 rfl) ?_
              refine lv_aload_n hx hb dX10_walkOn_52 rfl (lv_at hl 2 rfl) ?_
              refine va_get (D := (dC, dI)) (ci := 10) (v := .ref (q 29)) (C := RX10) (T := TX10) (N := 2) hx hb hts hiX10 hown hK hP 27 (wkWT) rfl 1 (by decide) (hts _ (List.mem_cons_of_mem _ (wk_in_10 _ (List.mem_of_getElem? (i := 12) rfl)))) (fun _ h9 => h9) rfl dX10_walkOn_53 ?_
              refine lv_iload hx hb dX10_walkOn_56 (lv_at hl 0 rfl) ?_
              refine x_iald (Wf := WK cB cI cJ cZ cQ q) hx hb hK hP 29 1 (wkWTl) rfl (by omega) (by decide) dX10_walkOn_58 (fun z19 hz19 => ?_)
              have rz19 : (-2147483648 : Int) ≤ z19 ∧ z19 ≤ 2147483647 := by rw [hz19]; exact irWTl hI
              refine lv_iload hx hb dX10_walkOn_59 (lv_at hl 6 rfl) ?_
              refine lv_aload_n hx hb dX10_walkOn_61 rfl (lv_at hl 2 rfl) ?_
              refine lv_iload_n hx hb dX10_walkOn_62 rfl (lv_at hl 5 rfl) ?_
              refine lv_iload hx hb dX10_walkOn_63 (lv_at hl 1 rfl) ?_
              refine k_calli (As := [.int (iI x3), .int (iI z1)]) (rest := [.int (iI x4), .int (iI z19), .int (iI z16), .ref (q 29)]) ⟨hx, hb, hml, hown, hts⟩ hE (kc_X10_wayOf l dC dI cB cI cJ cZ cQ aL aS q _ x3 z1 hI hx3 (rb f6 (by decide) (by decide))) (cwV 2 hts (goodVk (wk_in_10 _ (List.mem_of_getElem? (i := 4) rfl)) (wk_in_10 _ (List.mem_of_getElem? (i := 5) rfl)) (wk_in_10 _ (List.mem_of_getElem? (i := 6) rfl)) (wk_in_9 _ (List.mem_of_getElem? (i := 51) rfl)) (wk_in_10 _ (List.mem_of_getElem? (i := 7) rfl))) rfl rfl rfl (by decide +kernel) ⟨Nat.le_of_ble_eq_true rfl, Nat.le_of_ble_eq_true rfl⟩) hK hDD hA0 hP hS 27 10 (wkWT) rfl rfl hl.1 (Nat.le_of_ble_eq_true rfl) dX10_walkOn_65 (fun z20 A21 H locs hw22 hP hS => ?_)
              obtain ⟨rfl, hw22⟩ := hw22
              refine x_addv (v := x4 + z20) hx hb dX10_walkOn_68 (by omega) ?_
              refine x_abs (fun z23 hz23 => ?_)
              refine k_min hx hb (hml.trans hl.1.symm) hown (hts _ (List.mem_cons_of_mem _ (wk_in_10 _ (List.mem_of_getElem? (i := 3) rfl)))) (hts _ (List.mem_cons_of_mem _ (wk_in_0 _ (List.mem_of_getElem? (i := 46) rfl)))) (hts _ (List.mem_cons_of_mem _ (wk_in_0 _ (List.mem_of_getElem? (i := 47) rfl)))) (hts _ (List.mem_cons_of_mem _ (wk_in_0 _ (List.mem_of_getElem? (i := 48) rfl)))) (Nat.le_of_ble_eq_true rfl) (Nat.le_of_ble_eq_true rfl) (Nat.zero_le _) (Nat.zero_le _) rz19 hz23 dX10_walkOn_69 (fun z24 hz24 => ?_)
              have rz24 : (-2147483648 : Int) ≤ z24 ∧ z24 ≤ 2147483647 := by omega
              clear hz24
              refine k_iast (Wf := WK cB cI cJ cZ cQ q) hx hb hK hP hDD hS 29 1 (wkWTl) rfl (by omega) (by decide) dX10_walkOn_72 (wsWTl) (fun H locs A25 hA25 hP hS => ?_)
              have hI := isWTl hA25 hI (show (-2147483648 : Int) ≤ z24 ∧ z24 ≤ 2147483647 from rz24)
              exact J73_12 _ _ _ _ hI (fk.da (fk.rf) hA25 rfl) hP hS (lv_sub hl [1, 2, 3, 4, 5, 6] rfl)
  exact L3_4 _ 0 _ _ _ _ (by omega) rfl hI (fk.rf) hP hS (lv_sub hl [0, 1, 2, 3, 4, 5] rfl)

def ws_kc_X10_walk : List Cond := .code yX10_walk cX10_walk 8 (some .int) :: WY
set_option maxHeartbeats 4000000 in
set_option maxRecDepth 100000 in
theorem kc_X10_walk (l : Launch) (dC : Nat → ClassId) (dI : Nat → Nat → Nat) (cB cI cJ cZ cQ : ClassId) (aL aS : Nat) (q : Nat → Nat) (A : St) (x1 x2 : Int) (hI : IK A) (hx1 : (-2147483648 : Int) ≤ x1 ∧ x1 ≤ 2147483647) (hx2 : (-2147483648 : Int) ≤ x2 ∧ x2 ≤ 2147483647) : KMi l yX10_walk ws_kc_X10_walk ({ frames := 2, cells := 0, slots := 0, locals := 48 } : Room) aL aS (dC, dI) (tyA cB cI cJ cZ cQ) (WK cB cI cJ cZ cQ q) A [.ref (q 27), .int (iI x1), .int (iI x2)] (fun z u => IK u ∧ fk [29] [] A u ∧ (-2147483648 ≤ z ∧ z ≤ 2147483647)) := by
  refine k_meti (cc := cX10_walk) (maxL := 8) WK_adr (plainFor_of_name (by decide +kernel)) rfl (Nat.le_of_ble_eq_true rfl) (fun p e s m below meth c Q AS ls hx hb hml hown hts hK hDD hA0 hE RET H locs hP hS hl => ?_)
  have hown : s.vm.findClass RX10 = some m.cls := hown
  have hl : lv_has ls 8 [(0, .ref (q 27)), (1, .int (iI x1)), (2, .int (iI x2))] := hl
  have hiX10 : ∀ w ∈ u_ws RX10 TX10 2, w ∈ ws_kc_X10_walk := fun w h => List.mem_cons_of_mem _ (wy_layX10 w h)
  refine lv_iconst (v := iI 0) hx hb dX10_walk_0 (by decide +kernel) ?_
  refine lv_istore_n (lv' := [(3, .int (iI 0)), (0, .ref (q 27)), (1, .int (iI x1)), (2, .int (iI x2))]) hx hb dX10_walk_1 rfl hl (by decide) rfl (fun ls hl => ?_)
  have L2_4 : ∀ (n7 : Nat) (z1 : Int) (A3 : St) (H : Heap) (locs : List Loc) (ls : Array Slot), (0 ≤ z1 ∧ z1 ≤ 2147483647) → ((2049 - z1).toNat = n7) → IK A3 → fk [29] [] A A3 → va_P (dC, dI) vwCl (WK cB cI cJ cZ cQ q A3) H → va_S AS s.heap H locs → lv_has ls 8 [(3, .int (iI z1)), (0, .ref (q 27)), (1, .int (iI x1)), (2, .int (iI x2))] → W p l e (headSpec ws_kc_X10_walk ({ frames := 2, cells := 0, slots := 0, locals := 48 } : Room)).room s m [.ref (q 27), .int (iI x1), .int (iI x2)].toArray below meth c H locs 0 0 Q (F0 m 2 ls []) := by
    intro n7
    induction n7 using Nat.strongRecOn with
    | ind n7 ih5 =>
      intro z1 A3 H locs ls f6 hn7 hI hj2 hP hS hl
      refine lv_iload_n hx hb dX10_walk_2 rfl (lv_at hl 0 rfl) ?_
      refine lv_sipush (v := iI 2048) hx hb dX10_walk_3 (by decide +kernel) ?_
      have J33_9 : ∀ (H : Heap) (locs : List Loc) (ls : Array Slot), va_P (dC, dI) vwCl (WK cB cI cJ cZ cQ q A3) H → va_S AS s.heap H locs → lv_has ls 8 [(3, .int (iI z1)), (0, .ref (q 27)), (1, .int (iI x1)), (2, .int (iI x2))] → W p l e (headSpec ws_kc_X10_walk ({ frames := 2, cells := 0, slots := 0, locals := 48 } : Room)).room s m [.ref (q 27), .int (iI x1), .int (iI x2)].toArray below meth c H locs 0 0 Q (F0 m 33 ls []) := by
        intro H locs ls hP hS hl
        refine lv_iconst (v := iI 1) hx hb dX10_walk_33 (by decide +kernel) ?_
        refine lv_iload_n hx hb dX10_walk_34 rfl (lv_at hl 3 rfl) ?_
        refine lv_ishl hx hb dX10_walk_35 ?_
        refine x_abs (fun z15 hz15 => ?_)
        refine lv_bipush (v := iI 8) hx hb dX10_walk_36 (by decide +kernel) ?_
        refine x_mulv (v := 8 * z15) hx hb dX10_walk_38 (by omega) ?_
        refine x_abs (fun z16 hz16 => ?_)
        refine lv_iload_n hx hb dX10_walk_39 rfl (lv_at hl 3 rfl) ?_
        refine x_addv (v := z16 + x2) hx hb dX10_walk_40 (by omega) ?_
        refine x_abs (fun z17 hz17 => ?_)
        refine lv_istore_n (lv' := [(3, .int (iI z17)), (0, .ref (q 27)), (1, .int (iI x1)), (2, .int (iI x2))]) hx hb dX10_walk_41 rfl hl (by decide) rfl (fun ls hl => ?_)
        refine lv_iload_n hx hb dX10_walk_42 rfl (lv_at hl 0 rfl) ?_
        refine lv_if_lt (tgt := 53) hx hb dX10_walk_43 (by decide) (fun c18 => ?_) (fun c18 => ?_)
        · have c18 : z17 < 0 := (i_lt0 hz17).mp c18
          refine lv_ldc (v := 1000000) hx hb hown (hts _ (List.mem_cons_of_mem _ (wk_in_9 _ (List.mem_of_getElem? (i := 46) rfl)))) dX10_walk_53 ?_
          refine tp_i (y := iI 1000000) (by decide +kernel) ?_
          exact RET 1000000 _ _ _ _ _ ⟨hI, fk.trans (fk.rf) hj2 rfl rfl, ⟨by decide, by decide⟩⟩ hP hS dX10_walk_55
        · have c18 : ¬ z17 < 0 := mt (i_lt0 hz17).mpr c18
          refine lv_iload_n hx hb dX10_walk_46 rfl (lv_at hl 0 rfl) ?_
          refine lv_sipush (v := iI 2048) hx hb dX10_walk_47 (by decide +kernel) ?_
          refine lv_icmp_lt (tgt := 56) hx hb dX10_walk_50 (by decide) (fun c19 => ?_) (fun c19 => ?_)
          · have c19 : z17 < 2048 := (i_lt hz17 ⟨by decide, by decide⟩).mp c19
            refine lv_aload_n hx hb dX10_walk_56 rfl (lv_at hl 1 rfl) ?_
            refine va_get (D := (dC, dI)) (ci := 10) (v := .ref (q 29)) (C := RX10) (T := TX10) (N := 2) hx hb hts hiX10 hown hK hP 27 (wkWT) rfl 1 (by decide) (hts _ (List.mem_cons_of_mem _ (wk_in_10 _ (List.mem_of_getElem? (i := 12) rfl)))) (fun _ h9 => h9) rfl dX10_walk_57 ?_
            refine lv_iload_n hx hb dX10_walk_60 rfl (lv_at hl 0 rfl) ?_
            refine lv_iconst (v := iI 0) hx hb dX10_walk_61 (by decide +kernel) ?_
            refine k_iast (Wf := WK cB cI cJ cZ cQ q) hx hb hK hP hDD hS 29 1 (wkWTl) rfl (by omega) (by decide) dX10_walk_62 (wsWTl) (fun H locs A20 hA20 hP hS => ?_)
            have hI := isWTl hA20 hI (show (-2147483648 : Int) ≤ 0 ∧ 0 ≤ 2147483647 from ⟨by decide, by decide⟩)
            refine lv_ldc (v := 1000000) hx hb hown (hts _ (List.mem_cons_of_mem _ (wk_in_9 _ (List.mem_of_getElem? (i := 46) rfl)))) dX10_walk_63 ?_
            refine tp_i (y := iI 1000000) (by decide +kernel) ?_
            refine lv_istore (lv' := [(4, .int (iI 1000000)), (3, .int (iI z17)), (0, .ref (q 27)), (1, .int (iI x1)), (2, .int (iI x2))]) hx hb dX10_walk_65 hl (by decide) rfl (fun ls hl => ?_)
            refine lv_iconst (v := iI 0) hx hb dX10_walk_67 (by decide +kernel) ?_
            refine lv_istore (lv' := [(5, .int (iI 0)), (4, .int (iI 1000000)), (3, .int (iI z17)), (0, .ref (q 27)), (1, .int (iI x1)), (2, .int (iI x2))]) hx hb dX10_walk_68 hl (by decide) rfl (fun ls hl => ?_)
            have L70_25 : ∀ (n29 : Nat) (z21 z22 : Int) (A24 : St) (H : Heap) (locs : List Loc) (ls : Array Slot), (0 ≤ z21 ∧ z21 ≤ 2147483647) → (-2147483648 ≤ z22 ∧ z22 ≤ 2147483647) → ((257 - z21).toNat = n29) → IK A24 → fk [29] [] A20 A24 → va_P (dC, dI) vwCl (WK cB cI cJ cZ cQ q A24) H → va_S AS s.heap H locs → lv_has ls 8 [(5, .int (iI z21)), (4, .int (iI z22)), (3, .int (iI z17)), (0, .ref (q 27)), (1, .int (iI x1)), (2, .int (iI x2))] → W p l e (headSpec ws_kc_X10_walk ({ frames := 2, cells := 0, slots := 0, locals := 48 } : Room)).room s m [.ref (q 27), .int (iI x1), .int (iI x2)].toArray below meth c H locs 0 0 Q (F0 m 70 ls []) := by
              intro n29
              induction n29 using Nat.strongRecOn with
              | ind n29 ih26 =>
                intro z21 z22 A24 H locs ls f27 f28 hn29 hI hj23 hP hS hl
                refine lv_iload hx hb dX10_walk_70 (lv_at hl 0 rfl) ?_
                refine lv_sipush (v := iI 256) hx hb dX10_walk_72 (by decide +kernel) ?_
                refine lv_icmp_ge (tgt := 170) hx hb dX10_walk_75 (by decide) (fun c30 => ?_) (fun c30 => ?_)
                · have c30 : 256 ≤ z21 := (i_le ⟨by decide, by decide⟩ (rb f27 (by decide) (by decide))).mp c30
                  refine lv_iload hx hb dX10_walk_170 (lv_at hl 1 rfl) ?_
                  exact RET z22 _ _ _ _ _ ⟨hI, fk.trans (fk.da (fk.trans (fk.rf) hj2 rfl rfl) hA20 rfl) hj23 rfl rfl, f28⟩ hP hS dX10_walk_172
                · have c30 : ¬ 256 ≤ z21 := mt (i_le ⟨by decide, by decide⟩ (rb f27 (by decide) (by decide))).mpr c30
                  refine lv_iload hx hb dX10_walk_78 (lv_at hl 0 rfl) ?_
                  refine lv_iload_n hx hb dX10_walk_80 rfl (lv_at hl 4 rfl) ?_
                  refine lv_icmp_gt (tgt := 170) hx hb dX10_walk_81 (by decide) (fun c31 => ?_) (fun c31 => ?_)
                  · have c31 : x1 < z21 := (i_lt hx1 (rb f27 (by decide) (by decide))).mp c31
                    refine lv_iload hx hb dX10_walk_170 (lv_at hl 1 rfl) ?_
                    exact RET z22 _ _ _ _ _ ⟨hI, fk.trans (fk.da (fk.trans (fk.rf) hj2 rfl rfl) hA20 rfl) hj23 rfl rfl, f28⟩ hP hS dX10_walk_172
                  · have c31 : ¬ x1 < z21 := mt (i_lt hx1 (rb f27 (by decide) (by decide))).mpr c31
                    refine lv_iconst (v := iI 0) hx hb dX10_walk_84 (by decide +kernel) ?_
                    refine lv_istore (lv' := [(6, .int (iI 0)), (5, .int (iI z21)), (4, .int (iI z22)), (3, .int (iI z17)), (0, .ref (q 27)), (1, .int (iI x1)), (2, .int (iI x2))]) hx hb dX10_walk_85 hl (by decide) rfl (fun ls hl => ?_)
                    have L87_36 : ∀ (n40 : Nat) (z32 z33 : Int) (A35 : St) (H : Heap) (locs : List Loc) (ls : Array Slot), (0 ≤ z32 ∧ z32 ≤ 2147483647) → (-2147483648 ≤ z33 ∧ z33 ≤ 2147483647) → ((9 - z32).toNat = n40) → IK A35 → fk [29] [] A24 A35 → va_P (dC, dI) vwCl (WK cB cI cJ cZ cQ q A35) H → va_S AS s.heap H locs → lv_has ls 8 [(6, .int (iI z32)), (5, .int (iI z21)), (4, .int (iI z33)), (3, .int (iI z17)), (0, .ref (q 27)), (1, .int (iI x1)), (2, .int (iI x2))] → W p l e (headSpec ws_kc_X10_walk ({ frames := 2, cells := 0, slots := 0, locals := 48 } : Room)).room s m [.ref (q 27), .int (iI x1), .int (iI x2)].toArray below meth c H locs 0 0 Q (F0 m 87 ls []) := by
                      intro n40
                      induction n40 using Nat.strongRecOn with
                      | ind n40 ih37 =>
                        intro z32 z33 A35 H locs ls f38 f39 hn40 hI hj34 hP hS hl
                        refine lv_iload hx hb dX10_walk_87 (lv_at hl 0 rfl) ?_
                        refine lv_bipush (v := iI 8) hx hb dX10_walk_89 (by decide +kernel) ?_
                        refine lv_icmp_ge (tgt := 164) hx hb dX10_walk_91 (by decide) (fun c41 => ?_) (fun c41 => ?_)
                        · have c41 : 8 ≤ z32 := (i_le ⟨by decide, by decide⟩ (rb f38 (by decide) (by decide))).mp c41
                          refine lv_iinc (v := iI (z21 + 1)) (lv' := [(5, .int (iI (z21 + 1))), (6, .int (iI z32)), (4, .int (iI z33)), (3, .int (iI z17)), (0, .ref (q 27)), (1, .int (iI x1)), (2, .int (iI x2))]) hx hb dX10_walk_164 hl (k := 1) rfl (i_inc (by omega)) (by decide) rfl (fun ls hl => ?_)
                          refine lv_goto (tgt := 70) hx hb dX10_walk_167 (by decide) ?_
                          exact ih26 _ (by omega) (z21 + 1) z33 _ _ _ _ (by omega) (by omega) rfl hI (fk.trans (fk.trans (fk.rf) hj23 rfl rfl) hj34 rfl rfl) hP hS (lv_sub hl [0, 2, 3, 4, 5, 6] rfl)
                        · have c41 : ¬ 8 ≤ z32 := mt (i_le ⟨by decide, by decide⟩ (rb f38 (by decide) (by decide))).mpr c41
                          refine lv_aload_n hx hb dX10_walk_94 rfl (lv_at hl 4 rfl) ?_
                          refine va_get (D := (dC, dI)) (ci := 10) (v := .ref (q 29)) (C := RX10) (T := TX10) (N := 2) hx hb hts hiX10 hown hK hP 27 (wkWT) rfl 1 (by decide) (hts _ (List.mem_cons_of_mem _ (wk_in_10 _ (List.mem_of_getElem? (i := 12) rfl)))) (fun _ h9 => h9) rfl dX10_walk_95 ?_
                          refine lv_iload hx hb dX10_walk_98 (lv_at hl 1 rfl) ?_
                          refine lv_bipush (v := iI 8) hx hb dX10_walk_100 (by decide +kernel) ?_
                          refine x_mulv (v := 8 * z21) hx hb dX10_walk_102 (by omega) ?_
                          refine lv_iload hx hb dX10_walk_103 (lv_at hl 0 rfl) ?_
                          refine x_addv (v := 8 * z21 + z32) hx hb dX10_walk_105 (by omega) ?_
                          refine x_iald (Wf := WK cB cI cJ cZ cQ q) hx hb hK hP 29 1 (wkWTl) rfl (by omega) (by decide) dX10_walk_106 (fun z42 hz42 => ?_)
                          have rz42 : (-2147483648 : Int) ≤ z42 ∧ z42 ≤ 2147483647 := by rw [hz42]; exact irWTl hI
                          refine lv_istore (lv' := [(7, .int (iI z42)), (6, .int (iI z32)), (5, .int (iI z21)), (4, .int (iI z33)), (3, .int (iI z17)), (0, .ref (q 27)), (1, .int (iI x1)), (2, .int (iI x2))]) hx hb dX10_walk_107 hl (by decide) rfl (fun ls hl => ?_)
                          refine lv_iload hx hb dX10_walk_109 (lv_at hl 0 rfl) ?_
                          refine lv_ldc (v := 1000000) hx hb hown (hts _ (List.mem_cons_of_mem _ (wk_in_9 _ (List.mem_of_getElem? (i := 46) rfl)))) dX10_walk_111 ?_
                          refine tp_i (y := iI 1000000) (by decide +kernel) ?_
                          have J158_44 : ∀ (z60 : Int) (A62 : St) (H : Heap) (locs : List Loc) (ls : Array Slot), (-2147483648 ≤ z60 ∧ z60 ≤ 2147483647) → IK A62 → fk [29] [] A35 A62 → va_P (dC, dI) vwCl (WK cB cI cJ cZ cQ q A62) H → va_S AS s.heap H locs → lv_has ls 8 [(7, .int (iI z42)), (6, .int (iI z32)), (5, .int (iI z21)), (4, .int (iI z60)), (3, .int (iI z17)), (0, .ref (q 27)), (1, .int (iI x1)), (2, .int (iI x2))] → W p l e (headSpec ws_kc_X10_walk ({ frames := 2, cells := 0, slots := 0, locals := 48 } : Room)).room s m [.ref (q 27), .int (iI x1), .int (iI x2)].toArray below meth c H locs 0 0 Q (F0 m 158 ls []) := by
                            intro z60 A62 H locs ls f63 hI hj61 hP hS hl
                            refine lv_iinc (v := iI (z32 + 1)) (lv' := [(6, .int (iI (z32 + 1))), (7, .int (iI z42)), (5, .int (iI z21)), (4, .int (iI z60)), (3, .int (iI z17)), (0, .ref (q 27)), (1, .int (iI x1)), (2, .int (iI x2))]) hx hb dX10_walk_158 hl (k := 1) rfl (i_inc (by omega)) (by decide) rfl (fun ls hl => ?_)
                            refine lv_goto (tgt := 87) hx hb dX10_walk_161 (by decide) ?_
                            exact ih37 _ (by omega) (z32 + 1) z60 _ _ _ _ (by omega) (by omega) rfl hI (fk.trans (fk.trans (fk.rf) hj34 rfl rfl) hj61 rfl rfl) hP hS (lv_sub hl [0, 2, 3, 4, 5, 6, 7] rfl)
                          refine lv_icmp_lt (tgt := 119) hx hb dX10_walk_113 (by decide) (fun c43 => ?_) (fun c43 => ?_)
                          · have c43 : z42 < 1000000 := (i_lt rz42 ⟨by decide, by decide⟩).mp c43
                            refine lv_iload hx hb dX10_walk_119 (lv_at hl 2 rfl) ?_
                            refine lv_iload_n hx hb dX10_walk_121 rfl (lv_at hl 6 rfl) ?_
                            have J142_46 : ∀ (z52 : Int) (H : Heap) (locs : List Loc) (ls : Array Slot), (-2147483648 ≤ z52 ∧ z52 ≤ 2147483647) → va_P (dC, dI) vwCl (WK cB cI cJ cZ cQ q A35) H → va_S AS s.heap H locs → lv_has ls 8 [(7, .int (iI z42)), (6, .int (iI z32)), (5, .int (iI z21)), (4, .int (iI z52)), (3, .int (iI z17)), (0, .ref (q 27)), (1, .int (iI x1)), (2, .int (iI x2))] → W p l e (headSpec ws_kc_X10_walk ({ frames := 2, cells := 0, slots := 0, locals := 48 } : Room)).room s m [.ref (q 27), .int (iI x1), .int (iI x2)].toArray below meth c H locs 0 0 Q (F0 m 142 ls []) := by
                              intro z52 H locs ls f54 hP hS hl
                              refine lv_aload_n hx hb dX10_walk_142 rfl (lv_at hl 5 rfl) ?_
                              refine lv_iload_n hx hb dX10_walk_143 rfl (lv_at hl 6 rfl) ?_
                              refine lv_iload hx hb dX10_walk_144 (lv_at hl 2 rfl) ?_
                              refine lv_iconst (v := iI (-1)) hx hb dX10_walk_146 (by decide +kernel) ?_
                              refine lv_ixor hx hb dX10_walk_147 ?_
                              refine x_abs (fun z55 hz55 => ?_)
                              refine lv_iand hx hb dX10_walk_148 ?_
                              refine x_abs (fun z56 hz56 => ?_)
                              refine lv_iload hx hb dX10_walk_149 (lv_at hl 2 rfl) ?_
                              refine lv_iload hx hb dX10_walk_151 (lv_at hl 1 rfl) ?_
                              refine lv_iload hx hb dX10_walk_153 (lv_at hl 0 rfl) ?_
                              refine k_callv (As := [.int (iI z56), .int (iI z21), .int (iI z32), .int (iI z42)]) (rest := []) ⟨hx, hb, hml, hown, hts⟩ hE (kc_X10_walkOn l dC dI cB cI cJ cZ cQ aL aS q _ z56 z21 z32 z42 hI hz56 (rb f27 (by decide) (by decide)) (rb f38 (by decide) (by decide)) rz42) (cwV 4 hts (goodVk (wk_in_10 _ (List.mem_of_getElem? (i := 13) rfl)) (wk_in_10 _ (List.mem_of_getElem? (i := 14) rfl)) (wk_in_10 _ (List.mem_of_getElem? (i := 15) rfl)) (wk_in_9 _ (List.mem_of_getElem? (i := 51) rfl)) (wk_in_10 _ (List.mem_of_getElem? (i := 16) rfl))) rfl rfl rfl (by decide +kernel) ⟨Nat.le_of_ble_eq_true rfl, Nat.le_of_ble_eq_true rfl⟩) hK hDD hA0 hP hS 27 10 (wkWT) rfl rfl hl.1 (Nat.le_of_ble_eq_true rfl) dX10_walk_155 (fun A57 H locs hw58 hP hS => ?_)
                              obtain ⟨hI, hf59, hw58⟩ := hw58
                              clear hw58
                              exact J158_44 z52 _ _ _ _ (by omega) hI (fk.trans (fk.rf) hf59 rfl rfl) hP hS (lv_sub hl [0, 1, 2, 3, 4, 5, 6, 7] rfl)
                            refine lv_icmp_ne (tgt := 142) hx hb dX10_walk_122 (by decide) (fun c45 => ?_) (fun c45 => ?_)
                            · have c45 : ¬ z21 = x1 := mt (i_eq (rb f27 (by decide) (by decide)) hx1).mpr c45
                              exact J142_46 z33 _ _ _ (by omega) hP hS (lv_sub hl [0, 1, 2, 3, 4, 5, 6, 7] rfl)
                            · have c45 : z21 = x1 := (i_eq (rb f27 (by decide) (by decide)) hx1).mp c45
                              refine lv_iload hx hb dX10_walk_125 (lv_at hl 3 rfl) ?_
                              refine lv_iload hx hb dX10_walk_127 (lv_at hl 0 rfl) ?_
                              refine lv_aload_n hx hb dX10_walk_129 rfl (lv_at hl 5 rfl) ?_
                              refine lv_iload hx hb dX10_walk_130 (lv_at hl 1 rfl) ?_
                              refine lv_iload_n hx hb dX10_walk_132 rfl (lv_at hl 7 rfl) ?_
                              refine k_calli (As := [.int (iI z32), .int (iI x2)]) (rest := [.int (iI z42), .int (iI z33)]) ⟨hx, hb, hml, hown, hts⟩ hE (kc_X10_wayOf l dC dI cB cI cJ cZ cQ aL aS q _ z32 x2 hI (rb f38 (by decide) (by decide)) hx2) (cwV 2 hts (goodVk (wk_in_10 _ (List.mem_of_getElem? (i := 4) rfl)) (wk_in_10 _ (List.mem_of_getElem? (i := 5) rfl)) (wk_in_10 _ (List.mem_of_getElem? (i := 6) rfl)) (wk_in_9 _ (List.mem_of_getElem? (i := 51) rfl)) (wk_in_10 _ (List.mem_of_getElem? (i := 7) rfl))) rfl rfl rfl (by decide +kernel) ⟨Nat.le_of_ble_eq_true rfl, Nat.le_of_ble_eq_true rfl⟩) hK hDD hA0 hP hS 27 10 (wkWT) rfl rfl hl.1 (Nat.le_of_ble_eq_true rfl) dX10_walk_133 (fun z47 A48 H locs hw49 hP hS => ?_)
                              obtain ⟨rfl, hw49⟩ := hw49
                              refine x_addv (v := z42 + z47) hx hb dX10_walk_136 (by omega) ?_
                              refine x_abs (fun z50 hz50 => ?_)
                              refine k_min hx hb (hml.trans hl.1.symm) hown (hts _ (List.mem_cons_of_mem _ (wk_in_10 _ (List.mem_of_getElem? (i := 3) rfl)))) (hts _ (List.mem_cons_of_mem _ (wk_in_0 _ (List.mem_of_getElem? (i := 46) rfl)))) (hts _ (List.mem_cons_of_mem _ (wk_in_0 _ (List.mem_of_getElem? (i := 47) rfl)))) (hts _ (List.mem_cons_of_mem _ (wk_in_0 _ (List.mem_of_getElem? (i := 48) rfl)))) (Nat.le_of_ble_eq_true rfl) (Nat.le_of_ble_eq_true rfl) (Nat.zero_le _) (Nat.zero_le _) f39 hz50 dX10_walk_137 (fun z51 hz51 => ?_)
                              have rz51 : (-2147483648 : Int) ≤ z51 ∧ z51 ≤ 2147483647 := by omega
                              clear hz51
                              refine lv_istore (lv' := [(4, .int (iI z51)), (7, .int (iI z42)), (6, .int (iI z32)), (5, .int (iI z21)), (3, .int (iI z17)), (0, .ref (q 27)), (1, .int (iI x1)), (2, .int (iI x2))]) hx hb dX10_walk_140 hl (by decide) rfl (fun ls hl => ?_)
                              exact J142_46 z51 _ _ _ (by omega) hP hS (lv_sub hl [1, 2, 3, 0, 4, 5, 6, 7] rfl)
                          · have c43 : ¬ z42 < 1000000 := mt (i_lt rz42 ⟨by decide, by decide⟩).mpr c43
                            refine lv_goto (tgt := 158) hx hb dX10_walk_116 (by decide) ?_
                            exact J158_44 z33 _ _ _ _ (by omega) hI (fk.rf) hP hS (lv_sub hl [0, 1, 2, 3, 4, 5, 6, 7] rfl)
                    exact L87_36 _ 0 z22 _ _ _ _ (by omega) (by omega) rfl hI (fk.rf) hP hS (lv_sub hl [0, 1, 2, 3, 4, 5, 6] rfl)
            exact L70_25 _ 0 1000000 _ _ _ _ (by omega) (by omega) rfl hI (fk.rf) hP hS (lv_sub hl [0, 1, 2, 3, 4, 5] rfl)
          · have c19 : ¬ z17 < 2048 := mt (i_lt hz17 ⟨by decide, by decide⟩).mpr c19
            refine lv_ldc (v := 1000000) hx hb hown (hts _ (List.mem_cons_of_mem _ (wk_in_9 _ (List.mem_of_getElem? (i := 46) rfl)))) dX10_walk_53 ?_
            refine tp_i (y := iI 1000000) (by decide +kernel) ?_
            exact RET 1000000 _ _ _ _ _ ⟨hI, fk.trans (fk.rf) hj2 rfl rfl, ⟨by decide, by decide⟩⟩ hP hS dX10_walk_55
      refine lv_icmp_ge (tgt := 33) hx hb dX10_walk_6 (by decide) (fun c8 => ?_) (fun c8 => ?_)
      · have c8 : 2048 ≤ z1 := (i_le ⟨by decide, by decide⟩ (rb f6 (by decide) (by decide))).mp c8
        exact J33_9 _ _ _ hP hS (lv_sub hl [0, 1, 2, 3] rfl)
      · have c8 : ¬ 2048 ≤ z1 := mt (i_le ⟨by decide, by decide⟩ (rb f6 (by decide) (by decide))).mpr c8
        refine lv_iload_n hx hb dX10_walk_9 rfl (lv_at hl 0 rfl) ?_
        refine lv_iload_n hx hb dX10_walk_10 rfl (lv_at hl 2 rfl) ?_
        refine lv_iconst (v := iI 1) hx hb dX10_walk_11 (by decide +kernel) ?_
        refine x_addv (v := x1 + 1) hx hb dX10_walk_12 (by omega) ?_
        refine x_abs (fun z10 hz10 => ?_)
        refine lv_bipush (v := iI 8) hx hb dX10_walk_13 (by decide +kernel) ?_
        refine x_mulv (v := 8 * z10) hx hb dX10_walk_15 (by omega) ?_
        refine x_abs (fun z11 hz11 => ?_)
        refine lv_icmp_ge (tgt := 33) hx hb dX10_walk_16 (by decide) (fun c12 => ?_) (fun c12 => ?_)
        · have c12 : z11 ≤ z1 := (i_le hz11 (rb f6 (by decide) (by decide))).mp c12
          exact J33_9 _ _ _ hP hS (lv_sub hl [0, 1, 2, 3] rfl)
        · have c12 : ¬ z11 ≤ z1 := mt (i_le hz11 (rb f6 (by decide) (by decide))).mpr c12
          refine lv_aload_n hx hb dX10_walk_19 rfl (lv_at hl 1 rfl) ?_
          refine va_get (D := (dC, dI)) (ci := 10) (v := .ref (q 29)) (C := RX10) (T := TX10) (N := 2) hx hb hts hiX10 hown hK hP 27 (wkWT) rfl 1 (by decide) (hts _ (List.mem_cons_of_mem _ (wk_in_10 _ (List.mem_of_getElem? (i := 12) rfl)))) (fun _ h9 => h9) rfl dX10_walk_20 ?_
          refine lv_iload_n hx hb dX10_walk_23 rfl (lv_at hl 0 rfl) ?_
          refine lv_ldc (v := 1000000) hx hb hown (hts _ (List.mem_cons_of_mem _ (wk_in_9 _ (List.mem_of_getElem? (i := 46) rfl)))) dX10_walk_24 ?_
          refine tp_i (y := iI 1000000) (by decide +kernel) ?_
          refine k_iast (Wf := WK cB cI cJ cZ cQ q) hx hb hK hP hDD hS 29 1 (wkWTl) rfl (by omega) (by decide) dX10_walk_26 (wsWTl) (fun H locs A13 hA13 hP hS => ?_)
          have hI := isWTl hA13 hI (show (-2147483648 : Int) ≤ 1000000 ∧ 1000000 ≤ 2147483647 from ⟨by decide, by decide⟩)
          refine lv_iinc (v := iI (z1 + 1)) (lv' := [(3, .int (iI (z1 + 1))), (0, .ref (q 27)), (1, .int (iI x1)), (2, .int (iI x2))]) hx hb dX10_walk_27 hl (k := 0) rfl (i_inc (by omega)) (by decide) rfl (fun ls hl => ?_)
          refine lv_goto (tgt := 2) hx hb dX10_walk_30 (by decide) ?_
          exact ih5 _ (by omega) (z1 + 1) _ _ _ _ (by omega) rfl hI (fk.da (fk.trans (fk.rf) hj2 rfl rfl) hA13 rfl) hP hS (lv_sub hl [0, 1, 2, 3] rfl)
  exact L2_4 _ 0 _ _ _ _ (by omega) rfl hI (fk.rf) hP hS (lv_sub hl [0, 1, 2, 3] rfl)

def ws_kc_X10_minutesOf : List Cond := .code yX10_minutesOf cX10_minutesOf 7 (some .int) :: WY
set_option maxHeartbeats 4000000 in
set_option maxRecDepth 100000 in
theorem kc_X10_minutesOf (l : Launch) (dC : Nat → ClassId) (dI : Nat → Nat → Nat) (cB cI cJ cZ cQ : ClassId) (aL aS : Nat) (q : Nat → Nat) (A : St) (ta : Nat) (x2 x3 : Int) (hI : IK A) (hta : isT ta) (hx2 : (-2147483648 : Int) ≤ x2 ∧ x2 ≤ 2147483647) (hx3 : (-2147483648 : Int) ≤ x3 ∧ x3 ≤ 2147483647) : KMi l yX10_minutesOf ws_kc_X10_minutesOf ({ frames := 4, cells := 0, slots := 0, locals := 94 } : Room) aL aS (dC, dI) (tyA cB cI cJ cZ cQ) (WK cB cI cJ cZ cQ q) A [.ref (q 27), .ref (q ta), .int (iI x2), .int (iI x3)] (fun z u => IK u ∧ fk [28, 29] [] A u ∧ (-2147483648 ≤ z ∧ z ≤ 2147483647)) := by
  refine k_meti (cc := cX10_minutesOf) (maxL := 7) WK_adr (plainFor_of_name (by decide +kernel)) rfl (Nat.le_of_ble_eq_true rfl) (fun p e s m below meth c Q AS ls hx hb hml hown hts hK hDD hA0 hE RET H locs hP hS hl => ?_)
  have hown : s.vm.findClass RX10 = some m.cls := hown
  have hl : lv_has ls 7 [(0, .ref (q 27)), (1, .ref (q ta)), (2, .int (iI x2)), (3, .int (iI x3))] := hl
  have hiX9 : ∀ w ∈ u_ws RX9 TX9 16, w ∈ ws_kc_X10_minutesOf := fun w h => List.mem_cons_of_mem _ (wy_layX9 w h)
  refine lv_aload_n hx hb dX10_minutesOf_0 rfl (lv_at hl 1 rfl) ?_
  refine va_get (D := (dC, dI)) (ci := 9) (v := .ref (q (ta + 1))) (C := RX9) (T := TX9) (N := 16) hx hb hts hiX9 hown hK hP ta (wkT hta) rfl 0 (by decide) (hts _ (List.mem_cons_of_mem _ (wk_in_9 _ (List.mem_of_getElem? (i := 45) rfl)))) (fun _ h9 => h9) rfl dX10_minutesOf_1 ?_
  refine lv_iconst (v := iI 0) hx hb dX10_minutesOf_4 (by decide +kernel) ?_
  refine x_iald (Wf := WK cB cI cJ cZ cQ q) hx hb hK hP (ta + 1) 1 (wkTc hta) rfl (by decide) (by decide) dX10_minutesOf_5 (fun z1 hz1 => ?_)
  have rz1 : (0 : Int) ≤ z1 ∧ z1 ≤ 8 := by rw [hz1]; exact irTc0 hta hI
  refine lv_istore (lv' := [(4, .int (iI z1)), (0, .ref (q 27)), (1, .ref (q ta)), (2, .int (iI x2)), (3, .int (iI x3))]) hx hb dX10_minutesOf_6 hl (by decide) rfl (fun ls hl => ?_)
  refine lv_aload_n hx hb dX10_minutesOf_8 rfl (lv_at hl 2 rfl) ?_
  refine lv_iconst (v := iI 0) hx hb dX10_minutesOf_9 (by decide +kernel) ?_
  refine lv_iload_n hx hb dX10_minutesOf_10 rfl (lv_at hl 3 rfl) ?_
  refine k_calli (As := [.int (iI 0), .int (iI x2)]) (rest := []) ⟨hx, hb, hml, hown, hts⟩ hE (kc_X9_isThere_1_0 l dC dI cB cI cJ cZ cQ aL aS q _ ta x2 hI hta hx2) (cwV 2 hts (goodVk (wk_in_9 _ (List.mem_of_getElem? (i := 47) rfl)) (wk_in_0 _ (List.mem_of_getElem? (i := 22) rfl)) (wk_in_0 _ (List.mem_of_getElem? (i := 23) rfl)) (wk_in_0 _ (List.mem_of_getElem? (i := 6) rfl)) (wk_in_0 _ (List.mem_of_getElem? (i := 24) rfl))) rfl rfl rfl (by decide +kernel) ⟨Nat.le_of_ble_eq_true rfl, Nat.le_of_ble_eq_true rfl⟩) hK hDD hA0 hP hS ta 9 (wkT hta) rfl rfl hl.1 (Nat.le_of_ble_eq_true rfl) dX10_minutesOf_11 (fun z2 A3 H locs hw4 hP hS => ?_)
  obtain ⟨rfl, hw4⟩ := hw4
  have rz2 : 0 ≤ z2 ∧ z2 ≤ 1 := hw4.1
  have hw4 := hw4.2
  refine lv_if_ne (tgt := 19) hx hb dX10_minutesOf_14 (by decide) (fun c5 => ?_) (fun c5 => ?_)
  · have c5 : ¬ z2 = 0 := mt (i_eq0 (rb rz2 (by decide) (by decide))).mpr c5
    have hw4b := hw4 (by omega)
    clear hw4
    refine lv_aload_n hx hb dX10_minutesOf_19 rfl (lv_at hl 1 rfl) ?_
    refine lv_aload_n hx hb dX10_minutesOf_20 rfl (lv_at hl 2 rfl) ?_
    refine lv_iload hx hb dX10_minutesOf_21 (lv_at hl 0 rfl) ?_
    refine k_callv (As := [.ref (q ta), .int (iI z1)]) (rest := []) ⟨hx, hb, hml, hown, hts⟩ hE (kc_X10_measureWays l dC dI cB cI cJ cZ cQ aL aS q _ ta z1 hI hta (rb rz1 (by decide) (by decide))) (cwV 2 hts (goodVk (wk_in_9 _ (List.mem_of_getElem? (i := 48) rfl)) (wk_in_9 _ (List.mem_of_getElem? (i := 49) rfl)) (wk_in_9 _ (List.mem_of_getElem? (i := 50) rfl)) (wk_in_9 _ (List.mem_of_getElem? (i := 51) rfl)) (wk_in_9 _ (List.mem_of_getElem? (i := 52) rfl))) rfl rfl rfl (by decide +kernel) ⟨Nat.le_of_ble_eq_true rfl, Nat.le_of_ble_eq_true rfl⟩) hK hDD hA0 hP hS 27 10 (wkWT) rfl rfl hl.1 (Nat.le_of_ble_eq_true rfl) dX10_minutesOf_23 (fun A6 H locs hw7 hP hS => ?_)
    obtain ⟨hI, hf8, hw7⟩ := hw7
    clear hw7
    refine lv_iload_n hx hb dX10_minutesOf_26 rfl (lv_at hl 4 rfl) ?_
    refine lv_iconst (v := iI 1) hx hb dX10_minutesOf_27 (by decide +kernel) ?_
    refine lv_iload hx hb dX10_minutesOf_28 (lv_at hl 0 rfl) ?_
    refine lv_ishl hx hb dX10_minutesOf_30 ?_
    refine x_abs (fun z9 hz9 => ?_)
    refine lv_iconst (v := iI 1) hx hb dX10_minutesOf_31 (by decide +kernel) ?_
    refine x_subv (v := z9 - 1) hx hb dX10_minutesOf_32 (by omega) ?_
    refine x_abs (fun z10 hz10 => ?_)
    refine lv_iand hx hb dX10_minutesOf_33 ?_
    refine x_abs (fun z11 hz11 => ?_)
    refine lv_iconst (v := iI 1) hx hb dX10_minutesOf_34 (by decide +kernel) ?_
    refine lv_iload_n hx hb dX10_minutesOf_35 rfl (lv_at hl 3 rfl) ?_
    refine lv_ishl hx hb dX10_minutesOf_36 ?_
    refine x_abs (fun z12 hz12 => ?_)
    refine lv_ior hx hb dX10_minutesOf_37 ?_
    refine x_abs (fun z13 hz13 => ?_)
    refine lv_istore (lv' := [(5, .int (iI z13)), (4, .int (iI z1)), (0, .ref (q 27)), (1, .ref (q ta)), (2, .int (iI x2)), (3, .int (iI x3))]) hx hb dX10_minutesOf_38 hl (by decide) rfl (fun ls hl => ?_)
    refine lv_aload_n hx hb dX10_minutesOf_40 rfl (lv_at hl 2 rfl) ?_
    refine lv_iload hx hb dX10_minutesOf_41 (lv_at hl 0 rfl) ?_
    refine lv_iload_n hx hb dX10_minutesOf_43 rfl (lv_at hl 4 rfl) ?_
    refine k_calli (As := [.int (iI z13), .int (iI x2)]) (rest := []) ⟨hx, hb, hml, hown, hts⟩ hE (kc_X10_walk l dC dI cB cI cJ cZ cQ aL aS q _ z13 x2 hI hz13 hx2) (cwV 2 hts (goodVk (wk_in_10 _ (List.mem_of_getElem? (i := 8) rfl)) (wk_in_10 _ (List.mem_of_getElem? (i := 9) rfl)) (wk_in_10 _ (List.mem_of_getElem? (i := 10) rfl)) (wk_in_9 _ (List.mem_of_getElem? (i := 51) rfl)) (wk_in_10 _ (List.mem_of_getElem? (i := 11) rfl))) rfl rfl rfl (by decide +kernel) ⟨Nat.le_of_ble_eq_true rfl, Nat.le_of_ble_eq_true rfl⟩) hK hDD hA0 hP hS 27 10 (wkWT) rfl rfl hl.1 (Nat.le_of_ble_eq_true rfl) dX10_minutesOf_44 (fun z14 A15 H locs hw16 hP hS => ?_)
    obtain ⟨hI, hf17, hw16⟩ := hw16
    refine lv_istore (lv' := [(6, .int (iI z14)), (5, .int (iI z13)), (4, .int (iI z1)), (0, .ref (q 27)), (1, .ref (q ta)), (2, .int (iI x2)), (3, .int (iI x3))]) hx hb dX10_minutesOf_47 hl (by decide) rfl (fun ls hl => ?_)
    refine lv_iload hx hb dX10_minutesOf_49 (lv_at hl 0 rfl) ?_
    refine lv_ldc (v := 1000000) hx hb hown (hts _ (List.mem_cons_of_mem _ (wk_in_9 _ (List.mem_of_getElem? (i := 46) rfl)))) dX10_minutesOf_51 ?_
    refine tp_i (y := iI 1000000) (by decide +kernel) ?_
    refine lv_icmp_ge (tgt := 61) hx hb dX10_minutesOf_53 (by decide) (fun c18 => ?_) (fun c18 => ?_)
    · have c18 : 1000000 ≤ z14 := (i_le ⟨by decide, by decide⟩ hw16).mp c18
      refine lv_iconst (v := iI (-1)) hx hb dX10_minutesOf_61 (by decide +kernel) ?_
      exact RET (-1) _ _ _ _ _ ⟨hI, fk.trans (fk.trans (fk.rf) hf8 rfl rfl) hf17 rfl rfl, ⟨by decide, by decide⟩⟩ hP hS dX10_minutesOf_62
    · have c18 : ¬ 1000000 ≤ z14 := mt (i_le ⟨by decide, by decide⟩ hw16).mpr c18
      refine lv_iload hx hb dX10_minutesOf_56 (lv_at hl 0 rfl) ?_
      refine lv_goto (tgt := 62) hx hb dX10_minutesOf_58 (by decide) ?_
      exact RET z14 _ _ _ _ _ ⟨hI, fk.trans (fk.trans (fk.rf) hf8 rfl rfl) hf17 rfl rfl, hw16⟩ hP hS dX10_minutesOf_62
  · have c5 : z2 = 0 := (i_eq0 (rb rz2 (by decide) (by decide))).mp c5
    clear hw4
    refine lv_iconst (v := iI (-1)) hx hb dX10_minutesOf_17 (by decide +kernel) ?_
    exact RET (-1) _ _ _ _ _ ⟨hI, fk.rf, ⟨by decide, by decide⟩⟩ hP hS dX10_minutesOf_18

abbrev tr_r_X11_refused (x1 : Int) (A : St) (z : Int) (u : St) : Prop := (((x1 < 0) ∧ (z = (-1) ∧ u = A)) ∨ ((¬ x1 < 0) ∧ (((6 ≤ x1) ∧ (z = (-1) ∧ u = A)) ∨ ((¬ 6 ≤ x1) ∧ (∃ z3 : Int, z3 = A 50 (x1).toNat ∧ (∃ z4 : Int, z4 = oWrap (z3 + 1) ∧ (∃ A5 : St, A5 = stA A 50 (x1).toNat z4 ∧ (z = (-1) ∧ u = A5))))))))
def r_X11_refused (x1 : Int) (A : St) (z : Int) (u : St) : Prop := tr_r_X11_refused x1 A z u
theorem u_r_X11_refused {x1 : Int} {A : St} {z : Int} {u : St} (h : tr_r_X11_refused x1 A z u) : r_X11_refused x1 A z u := h
def q_X11_refused (x1 : Int) (A : St) (z : Int) (u : St) : Prop := r_X11_refused x1 A z u ∧ IK u ∧ fk [50] [] A u ∧ (z = -1)
def ws_kc_X11_refused : List Cond := .code yX11_refused cX11_refused 2 (some .int) :: WY
set_option maxHeartbeats 4000000 in
set_option maxRecDepth 100000 in
theorem kc_X11_refused (l : Launch) (dC : Nat → ClassId) (dI : Nat → Nat → Nat) (cB cI cJ cZ cQ : ClassId) (aL aS : Nat) (q : Nat → Nat) (A : St) (x1 : Int) (hI : IK A) (hx1 : (-2147483648 : Int) ≤ x1 ∧ x1 ≤ 2147483647) : KMi l yX11_refused ws_kc_X11_refused ({ frames := 0, cells := 0, slots := 0, locals := 0 } : Room) aL aS (dC, dI) (tyA cB cI cJ cZ cQ) (WK cB cI cJ cZ cQ q) A [.ref (q 0), .int (iI x1)] (fun z u => r_X11_refused x1 A z u ∧ IK u ∧ fk [50] [] A u ∧ (z = -1)) := by
  refine k_meti (cc := cX11_refused) (maxL := 2) WK_adr (plainFor_of_name (by decide +kernel)) rfl (Nat.le_of_ble_eq_true rfl) (fun p e s m below meth c Q AS ls hx hb hml hown hts hK hDD hA0 hE RET H locs hP hS hl => ?_)
  have hown : s.vm.findClass RX11 = some m.cls := hown
  have hl : lv_has ls 2 [(0, .ref (q 0)), (1, .int (iI x1))] := hl
  have hiX11 : ∀ w ∈ u_ws RX11 TX11 11, w ∈ ws_kc_X11_refused := fun w h => List.mem_cons_of_mem _ (wy_layX11 w h)
  refine lv_iload_n hx hb dX11_refused_0 rfl (lv_at hl 1 rfl) ?_
  refine lv_if_lt (tgt := 20) hx hb dX11_refused_1 (by decide) (fun c1 => ?_) (fun c1 => ?_)
  · have c1 : x1 < 0 := (i_lt0 hx1).mp c1
    refine lv_iconst (v := iI (-1)) hx hb dX11_refused_20 (by decide +kernel) ?_
    exact RET (-1) _ _ _ _ _ ⟨(u_r_X11_refused (Or.inl ⟨c1, ⟨rfl, rfl⟩⟩)), hI, fk.rf, by omega⟩ hP hS dX11_refused_21
  · have c1 : ¬ x1 < 0 := mt (i_lt0 hx1).mpr c1
    refine lv_iload_n hx hb dX11_refused_4 rfl (lv_at hl 1 rfl) ?_
    refine lv_bipush (v := iI 6) hx hb dX11_refused_5 (by decide +kernel) ?_
    refine lv_icmp_ge (tgt := 20) hx hb dX11_refused_7 (by decide) (fun c2 => ?_) (fun c2 => ?_)
    · have c2 : 6 ≤ x1 := (i_le ⟨by decide, by decide⟩ hx1).mp c2
      refine lv_iconst (v := iI (-1)) hx hb dX11_refused_20 (by decide +kernel) ?_
      exact RET (-1) _ _ _ _ _ ⟨(u_r_X11_refused (Or.inr ⟨c1, (Or.inl ⟨c2, ⟨rfl, rfl⟩⟩)⟩)), hI, fk.rf, by omega⟩ hP hS dX11_refused_21
    · have c2 : ¬ 6 ≤ x1 := mt (i_le ⟨by decide, by decide⟩ hx1).mpr c2
      refine lv_aload_n hx hb dX11_refused_10 rfl (lv_at hl 0 rfl) ?_
      refine va_get (D := (dC, dI)) (ci := 11) (v := .ref (q 50)) (C := RX11) (T := TX11) (N := 11) hx hb hts hiX11 hown hK hP 0 (wkK) rfl 8 (by decide) (hts _ (List.mem_cons_of_mem _ (wk_in_10 _ (List.mem_of_getElem? (i := 28) rfl)))) (fun _ h9 => h9) rfl dX11_refused_11 ?_
      refine lv_iload_n hx hb dX11_refused_14 rfl (lv_at hl 1 rfl) ?_
      refine lv_dup2_11 hx hb dX11_refused_15 rfl rfl ?_
      refine x_iald (Wf := WK cB cI cJ cZ cQ q) hx hb hK hP 50 1 (wkKr) rfl (by omega) (by decide) dX11_refused_16 (fun z3 hz3 => ?_)
      have rz3 : (-2147483648 : Int) ≤ z3 ∧ z3 ≤ 2147483647 := by rw [hz3]; exact irKr hI
      have gz3 := Hd.mk hz3
      refine lv_iconst (v := iI 1) hx hb dX11_refused_17 (by decide +kernel) ?_
      refine x_addv (v := z3 + 1) hx hb dX11_refused_18 (by omega) ?_
      refine x_absE (fun z4 gz4 hz4 => ?_)
      refine k_iast (Wf := WK cB cI cJ cZ cQ q) hx hb hK hP hDD hS 50 1 (wkKr) rfl (by omega) (by decide) dX11_refused_19 (wsKr) (fun H locs A5 hA5 hP hS => ?_)
      have hI := isKr hA5 hI (show (-2147483648 : Int) ≤ z4 ∧ z4 ≤ 2147483647 from hz4)
      refine lv_iconst (v := iI (-1)) hx hb dX11_refused_20 (by decide +kernel) ?_
      exact RET (-1) _ _ _ _ _ ⟨(u_r_X11_refused (Or.inr ⟨c1, (Or.inr ⟨c2, ⟨z3, gz3.out, ⟨z4, gz4.out, ⟨A5, hA5, ⟨rfl, rfl⟩⟩⟩⟩⟩)⟩)), hI, fk.da (fk.rf) hA5 rfl, by omega⟩ hP hS dX11_refused_21

abbrev tr_r_X11_feed (x1 : Int) (x2 : Int) (x3 : Int) (x4 : Int) (x5 : Int) (A : St) (z : Int) (u : St) : Prop := (∃ z2 : Int, q_X7_hasRoom A z2 ∧ (((¬ z2 = 0) ∧ (∃ A6 : St, q_X7_put x1 A A6 ∧ (∃ A10 : St, q_X7_put x2 A6 A10 ∧ (∃ A14 : St, q_X7_put x3 A10 A14 ∧ (∃ A18 : St, q_X7_put x4 A14 A18 ∧ (∃ A22 : St, q_X7_put x5 A18 A22 ∧ (z = (A22 1 1) ∧ u = A22))))))) ∨ ((z2 = 0) ∧ (∃ z26 : Int, ∃ A27 : St, q_X11_refused 0 A z26 A27 ∧ (z = z26 ∧ u = A27)))))
def r_X11_feed (x1 : Int) (x2 : Int) (x3 : Int) (x4 : Int) (x5 : Int) (A : St) (z : Int) (u : St) : Prop := tr_r_X11_feed x1 x2 x3 x4 x5 A z u
theorem u_r_X11_feed {x1 : Int} {x2 : Int} {x3 : Int} {x4 : Int} {x5 : Int} {A : St} {z : Int} {u : St} (h : tr_r_X11_feed x1 x2 x3 x4 x5 A z u) : r_X11_feed x1 x2 x3 x4 x5 A z u := h
def q_X11_feed (x1 : Int) (x2 : Int) (x3 : Int) (x4 : Int) (x5 : Int) (A : St) (z : Int) (u : St) : Prop := r_X11_feed x1 x2 x3 x4 x5 A z u ∧ IK u ∧ fk [2, 50] [(1, 1)] A u ∧ ((1600 < A 1 1 + 20 ∧ z = -1 ∧ u 1 1 = A 1 1) ∨ (A 1 1 + 20 ≤ 1600 ∧ z = u 1 1 ∧ u 1 1 = A 1 1 + 20))
def ws_kc_X11_feed : List Cond := .code yX11_feed cX11_feed 6 (some .int) :: WY
set_option maxHeartbeats 4000000 in
set_option maxRecDepth 100000 in
theorem kc_X11_feed (l : Launch) (dC : Nat → ClassId) (dI : Nat → Nat → Nat) (cB cI cJ cZ cQ : ClassId) (aL aS : Nat) (q : Nat → Nat) (A : St) (x1 x2 x3 x4 x5 : Int) (hI : IK A) (hx1 : (-2147483648 : Int) ≤ x1 ∧ x1 ≤ 2147483647) (hx2 : (-2147483648 : Int) ≤ x2 ∧ x2 ≤ 2147483647) (hx3 : (-2147483648 : Int) ≤ x3 ∧ x3 ≤ 2147483647) (hx4 : (-2147483648 : Int) ≤ x4 ∧ x4 ≤ 2147483647) (hx5 : (-2147483648 : Int) ≤ x5 ∧ x5 ≤ 2147483647) : KMi l yX11_feed ws_kc_X11_feed ({ frames := 1, cells := 0, slots := 0, locals := 22 } : Room) aL aS (dC, dI) (tyA cB cI cJ cZ cQ) (WK cB cI cJ cZ cQ q) A [.ref (q 0), .int (iI x1), .int (iI x2), .int (iI x3), .int (iI x4), .int (iI x5)] (fun z u => r_X11_feed x1 x2 x3 x4 x5 A z u ∧ IK u ∧ fk [2, 50] [(1, 1)] A u ∧ ((1600 < A 1 1 + 20 ∧ z = -1 ∧ u 1 1 = A 1 1) ∨ (A 1 1 + 20 ≤ 1600 ∧ z = u 1 1 ∧ u 1 1 = A 1 1 + 20))) := by
  refine k_meti (cc := cX11_feed) (maxL := 6) WK_adr (plainFor_of_name (by decide +kernel)) rfl (Nat.le_of_ble_eq_true rfl) (fun p e s m below meth c Q AS ls hx hb hml hown hts hK hDD hA0 hE RET H locs hP hS hl => ?_)
  have hown : s.vm.findClass RX11 = some m.cls := hown
  have hl : lv_has ls 6 [(0, .ref (q 0)), (1, .int (iI x1)), (2, .int (iI x2)), (3, .int (iI x3)), (4, .int (iI x4)), (5, .int (iI x5))] := hl
  have hiX11 : ∀ w ∈ u_ws RX11 TX11 11, w ∈ ws_kc_X11_feed := fun w h => List.mem_cons_of_mem _ (wy_layX11 w h)
  have hiX7 : ∀ w ∈ u_ws RX7 TX7 2, w ∈ ws_kc_X11_feed := fun w h => List.mem_cons_of_mem _ (wy_layX7 w h)
  refine lv_aload_n hx hb dX11_feed_0 rfl (lv_at hl 0 rfl) ?_
  refine va_get (D := (dC, dI)) (ci := 11) (v := .ref (q 1)) (C := RX11) (T := TX11) (N := 11) hx hb hts hiX11 hown hK hP 0 (wkK) rfl 0 (by decide) (hts _ (List.mem_cons_of_mem _ (wk_in_10 _ (List.mem_of_getElem? (i := 18) rfl)))) (fun _ h9 => h9) rfl dX11_feed_1 ?_
  have r1 : (0 : Int) ≤ (A 1 1) ∧ (A 1 1) ≤ 1600 := irTP_1 hI
  refine k_calli (As := []) (rest := []) ⟨hx, hb, hml, hown, hts⟩ hE (kc_X7_hasRoom l dC dI cB cI cJ cZ cQ aL aS q _ hI) (cwV 0 hts (goodVk (wk_in_10 _ (List.mem_of_getElem? (i := 20) rfl)) (wk_in_10 _ (List.mem_of_getElem? (i := 21) rfl)) (wk_in_10 _ (List.mem_of_getElem? (i := 22) rfl)) (wk_in_4 _ (List.mem_of_getElem? (i := 41) rfl)) (wk_in_8 _ (List.mem_of_getElem? (i := 45) rfl))) rfl rfl rfl (by decide +kernel) ⟨Nat.le_of_ble_eq_true rfl, Nat.le_of_ble_eq_true rfl⟩) hK hDD hA0 hP hS 1 7 (wkTP) rfl rfl hl.1 (Nat.le_of_ble_eq_true rfl) dX11_feed_4 (fun z2 A3 H locs hw4 hP hS => ?_)
  obtain ⟨rfl, hw4⟩ := hw4
  have ghw4 : q_X7_hasRoom A z2 := hw4
  have hw4 := hw4.2
  have rz2 : 0 ≤ z2 ∧ z2 ≤ 1 := hw4.1
  have hw4 := hw4.2
  refine lv_if_ne (tgt := 16) hx hb dX11_feed_7 (by decide) (fun c5 => ?_) (fun c5 => ?_)
  · have c5 : ¬ z2 = 0 := mt (i_eq0 (rb rz2 (by decide) (by decide))).mpr c5
    refine lv_aload_n hx hb dX11_feed_16 rfl (lv_at hl 0 rfl) ?_
    refine va_get (D := (dC, dI)) (ci := 11) (v := .ref (q 1)) (C := RX11) (T := TX11) (N := 11) hx hb hts hiX11 hown hK hP 0 (wkK) rfl 0 (by decide) (hts _ (List.mem_cons_of_mem _ (wk_in_10 _ (List.mem_of_getElem? (i := 18) rfl)))) (fun _ h9 => h9) rfl dX11_feed_17 ?_
    refine lv_iload_n hx hb dX11_feed_20 rfl (lv_at hl 1 rfl) ?_
    refine k_callv (As := [.int (iI x1)]) (rest := []) ⟨hx, hb, hml, hown, hts⟩ hE (kc_X7_put l dC dI cB cI cJ cZ cQ aL aS q _ x1 hI hx1 (by omega)) (cwV 1 hts (goodVk (wk_in_10 _ (List.mem_of_getElem? (i := 29) rfl)) (wk_in_10 _ (List.mem_of_getElem? (i := 30) rfl)) (wk_in_10 _ (List.mem_of_getElem? (i := 31) rfl)) (wk_in_4 _ (List.mem_of_getElem? (i := 41) rfl)) (wk_in_8 _ (List.mem_of_getElem? (i := 46) rfl))) rfl rfl rfl (by decide +kernel) ⟨Nat.le_of_ble_eq_true rfl, Nat.le_of_ble_eq_true rfl⟩) hK hDD hA0 hP hS 1 7 (wkTP) rfl rfl hl.1 (Nat.le_of_ble_eq_true rfl) dX11_feed_21 (fun A6 H locs hw7 hP hS => ?_)
    have ghw7 : q_X7_put x1 A A6 := hw7
    obtain ⟨_, hI, hf8, hw7⟩ := hw7
    have r9 : (0 : Int) ≤ (A6 1 1) ∧ (A6 1 1) ≤ 1600 := irTP_1 hI
    refine lv_aload_n hx hb dX11_feed_24 rfl (lv_at hl 0 rfl) ?_
    refine va_get (D := (dC, dI)) (ci := 11) (v := .ref (q 1)) (C := RX11) (T := TX11) (N := 11) hx hb hts hiX11 hown hK hP 0 (wkK) rfl 0 (by decide) (hts _ (List.mem_cons_of_mem _ (wk_in_10 _ (List.mem_of_getElem? (i := 18) rfl)))) (fun _ h9 => h9) rfl dX11_feed_25 ?_
    refine lv_iload_n hx hb dX11_feed_28 rfl (lv_at hl 2 rfl) ?_
    refine k_callv (As := [.int (iI x2)]) (rest := []) ⟨hx, hb, hml, hown, hts⟩ hE (kc_X7_put l dC dI cB cI cJ cZ cQ aL aS q _ x2 hI hx2 (by omega)) (cwV 1 hts (goodVk (wk_in_10 _ (List.mem_of_getElem? (i := 29) rfl)) (wk_in_10 _ (List.mem_of_getElem? (i := 30) rfl)) (wk_in_10 _ (List.mem_of_getElem? (i := 31) rfl)) (wk_in_4 _ (List.mem_of_getElem? (i := 41) rfl)) (wk_in_8 _ (List.mem_of_getElem? (i := 46) rfl))) rfl rfl rfl (by decide +kernel) ⟨Nat.le_of_ble_eq_true rfl, Nat.le_of_ble_eq_true rfl⟩) hK hDD hA0 hP hS 1 7 (wkTP) rfl rfl hl.1 (Nat.le_of_ble_eq_true rfl) dX11_feed_29 (fun A10 H locs hw11 hP hS => ?_)
    have ghw11 : q_X7_put x2 A6 A10 := hw11
    obtain ⟨_, hI, hf12, hw11⟩ := hw11
    have r13 : (0 : Int) ≤ (A10 1 1) ∧ (A10 1 1) ≤ 1600 := irTP_1 hI
    refine lv_aload_n hx hb dX11_feed_32 rfl (lv_at hl 0 rfl) ?_
    refine va_get (D := (dC, dI)) (ci := 11) (v := .ref (q 1)) (C := RX11) (T := TX11) (N := 11) hx hb hts hiX11 hown hK hP 0 (wkK) rfl 0 (by decide) (hts _ (List.mem_cons_of_mem _ (wk_in_10 _ (List.mem_of_getElem? (i := 18) rfl)))) (fun _ h9 => h9) rfl dX11_feed_33 ?_
    refine lv_iload_n hx hb dX11_feed_36 rfl (lv_at hl 3 rfl) ?_
    refine k_callv (As := [.int (iI x3)]) (rest := []) ⟨hx, hb, hml, hown, hts⟩ hE (kc_X7_put l dC dI cB cI cJ cZ cQ aL aS q _ x3 hI hx3 (by omega)) (cwV 1 hts (goodVk (wk_in_10 _ (List.mem_of_getElem? (i := 29) rfl)) (wk_in_10 _ (List.mem_of_getElem? (i := 30) rfl)) (wk_in_10 _ (List.mem_of_getElem? (i := 31) rfl)) (wk_in_4 _ (List.mem_of_getElem? (i := 41) rfl)) (wk_in_8 _ (List.mem_of_getElem? (i := 46) rfl))) rfl rfl rfl (by decide +kernel) ⟨Nat.le_of_ble_eq_true rfl, Nat.le_of_ble_eq_true rfl⟩) hK hDD hA0 hP hS 1 7 (wkTP) rfl rfl hl.1 (Nat.le_of_ble_eq_true rfl) dX11_feed_37 (fun A14 H locs hw15 hP hS => ?_)
    have ghw15 : q_X7_put x3 A10 A14 := hw15
    obtain ⟨_, hI, hf16, hw15⟩ := hw15
    have r17 : (0 : Int) ≤ (A14 1 1) ∧ (A14 1 1) ≤ 1600 := irTP_1 hI
    refine lv_aload_n hx hb dX11_feed_40 rfl (lv_at hl 0 rfl) ?_
    refine va_get (D := (dC, dI)) (ci := 11) (v := .ref (q 1)) (C := RX11) (T := TX11) (N := 11) hx hb hts hiX11 hown hK hP 0 (wkK) rfl 0 (by decide) (hts _ (List.mem_cons_of_mem _ (wk_in_10 _ (List.mem_of_getElem? (i := 18) rfl)))) (fun _ h9 => h9) rfl dX11_feed_41 ?_
    refine lv_iload hx hb dX11_feed_44 (lv_at hl 4 rfl) ?_
    refine k_callv (As := [.int (iI x4)]) (rest := []) ⟨hx, hb, hml, hown, hts⟩ hE (kc_X7_put l dC dI cB cI cJ cZ cQ aL aS q _ x4 hI hx4 (by omega)) (cwV 1 hts (goodVk (wk_in_10 _ (List.mem_of_getElem? (i := 29) rfl)) (wk_in_10 _ (List.mem_of_getElem? (i := 30) rfl)) (wk_in_10 _ (List.mem_of_getElem? (i := 31) rfl)) (wk_in_4 _ (List.mem_of_getElem? (i := 41) rfl)) (wk_in_8 _ (List.mem_of_getElem? (i := 46) rfl))) rfl rfl rfl (by decide +kernel) ⟨Nat.le_of_ble_eq_true rfl, Nat.le_of_ble_eq_true rfl⟩) hK hDD hA0 hP hS 1 7 (wkTP) rfl rfl hl.1 (Nat.le_of_ble_eq_true rfl) dX11_feed_46 (fun A18 H locs hw19 hP hS => ?_)
    have ghw19 : q_X7_put x4 A14 A18 := hw19
    obtain ⟨_, hI, hf20, hw19⟩ := hw19
    have r21 : (0 : Int) ≤ (A18 1 1) ∧ (A18 1 1) ≤ 1600 := irTP_1 hI
    refine lv_aload_n hx hb dX11_feed_49 rfl (lv_at hl 0 rfl) ?_
    refine va_get (D := (dC, dI)) (ci := 11) (v := .ref (q 1)) (C := RX11) (T := TX11) (N := 11) hx hb hts hiX11 hown hK hP 0 (wkK) rfl 0 (by decide) (hts _ (List.mem_cons_of_mem _ (wk_in_10 _ (List.mem_of_getElem? (i := 18) rfl)))) (fun _ h9 => h9) rfl dX11_feed_50 ?_
    refine lv_iload hx hb dX11_feed_53 (lv_at hl 5 rfl) ?_
    refine k_callv (As := [.int (iI x5)]) (rest := []) ⟨hx, hb, hml, hown, hts⟩ hE (kc_X7_put l dC dI cB cI cJ cZ cQ aL aS q _ x5 hI hx5 (by omega)) (cwV 1 hts (goodVk (wk_in_10 _ (List.mem_of_getElem? (i := 29) rfl)) (wk_in_10 _ (List.mem_of_getElem? (i := 30) rfl)) (wk_in_10 _ (List.mem_of_getElem? (i := 31) rfl)) (wk_in_4 _ (List.mem_of_getElem? (i := 41) rfl)) (wk_in_8 _ (List.mem_of_getElem? (i := 46) rfl))) rfl rfl rfl (by decide +kernel) ⟨Nat.le_of_ble_eq_true rfl, Nat.le_of_ble_eq_true rfl⟩) hK hDD hA0 hP hS 1 7 (wkTP) rfl rfl hl.1 (Nat.le_of_ble_eq_true rfl) dX11_feed_55 (fun A22 H locs hw23 hP hS => ?_)
    have ghw23 : q_X7_put x5 A18 A22 := hw23
    obtain ⟨_, hI, hf24, hw23⟩ := hw23
    have r25 : (0 : Int) ≤ (A22 1 1) ∧ (A22 1 1) ≤ 1600 := irTP_1 hI
    refine lv_aload_n hx hb dX11_feed_58 rfl (lv_at hl 0 rfl) ?_
    refine va_get (D := (dC, dI)) (ci := 11) (v := .ref (q 1)) (C := RX11) (T := TX11) (N := 11) hx hb hts hiX11 hown hK hP 0 (wkK) rfl 0 (by decide) (hts _ (List.mem_cons_of_mem _ (wk_in_10 _ (List.mem_of_getElem? (i := 18) rfl)))) (fun _ h9 => h9) rfl dX11_feed_59 ?_
    refine va_get (D := (dC, dI)) (ci := 7) (v := .int (iI (A22 1 1))) (C := RX7) (T := TX7) (N := 2) hx hb hts hiX7 hown hK hP 1 (wkTP) rfl 1 (by decide) (hts _ (List.mem_cons_of_mem _ (wk_in_10 _ (List.mem_of_getElem? (i := 19) rfl)))) (fun _ h9 => h9) rfl dX11_feed_62 ?_
    exact RET (A22 1 1) _ _ _ _ _ ⟨(u_r_X11_feed ⟨z2, ghw4, (Or.inl ⟨c5, ⟨A6, ghw7, ⟨A10, ghw11, ⟨A14, ghw15, ⟨A18, ghw19, ⟨A22, ghw23, ⟨rfl, rfl⟩⟩⟩⟩⟩⟩⟩)⟩), hI, fk.trans (fk.trans (fk.trans (fk.trans (fk.trans (fk.rf) hf8 rfl rfl) hf12 rfl rfl) hf16 rfl rfl) hf20 rfl rfl) hf24 rfl rfl, by omega⟩ hP hS dX11_feed_65
  · have c5 : z2 = 0 := (i_eq0 (rb rz2 (by decide) (by decide))).mp c5
    refine lv_aload_n hx hb dX11_feed_10 rfl (lv_at hl 0 rfl) ?_
    refine lv_iconst (v := iI 0) hx hb dX11_feed_11 (by decide +kernel) ?_
    refine k_calli (As := [.int (iI 0)]) (rest := []) ⟨hx, hb, hml, hown, hts⟩ hE (kc_X11_refused l dC dI cB cI cJ cZ cQ aL aS q _ 0 hI ⟨by decide, by decide⟩) (cwV 1 hts (goodVk (wk_in_10 _ (List.mem_of_getElem? (i := 23) rfl)) (wk_in_10 _ (List.mem_of_getElem? (i := 24) rfl)) (wk_in_10 _ (List.mem_of_getElem? (i := 25) rfl)) (wk_in_10 _ (List.mem_of_getElem? (i := 26) rfl)) (wk_in_10 _ (List.mem_of_getElem? (i := 27) rfl))) rfl rfl rfl (by decide +kernel) ⟨Nat.le_of_ble_eq_true rfl, Nat.le_of_ble_eq_true rfl⟩) hK hDD hA0 hP hS 0 11 (wkK) rfl rfl hl.1 (Nat.le_of_ble_eq_true rfl) dX11_feed_12 (fun z26 A27 H locs hw28 hP hS => ?_)
    have ghw28 : q_X11_refused 0 A z26 A27 := hw28
    obtain ⟨_, hI, hf29, hw28⟩ := hw28
    have e30 : A27 1 1 = (A 1 1) := (hf29 1 1 rfl rfl)
    exact RET z26 _ _ _ _ _ ⟨(u_r_X11_feed ⟨z2, ghw4, (Or.inr ⟨c5, ⟨z26, A27, ghw28, ⟨rfl, rfl⟩⟩⟩)⟩), hI, fk.trans (fk.rf) hf29 rfl rfl, by omega⟩ hP hS dX11_feed_15

abbrev tr_d_X11_end_1 (A : St) (z : Int) (u : St) : Prop := (∃ z9 : Int, ∃ A10 : St, q_X11_refused 0 A z9 A10 ∧ (z = 0 ∧ u = A10))
def d_X11_end_1 (A : St) (z : Int) (u : St) : Prop := tr_d_X11_end_1 A z u
theorem u_d_X11_end_1 {A : St} {z : Int} {u : St} (h : tr_d_X11_end_1 A z u) : d_X11_end_1 A z u := h
abbrev tr_r_X11_end (x1 : Int) (A : St) (z : Int) (u : St) : Prop := (((x1 < 0) ∧ (d_X11_end_1 A z u)) ∨ ((¬ x1 < 0) ∧ (((x1 ≤ (A 1 1)) ∧ (∃ A5 : St, A5 = stA A 1 1 x1 ∧ (z = 1 ∧ u = A5))) ∨ ((¬ x1 ≤ (A 1 1)) ∧ (d_X11_end_1 A z u)))))
def r_X11_end (x1 : Int) (A : St) (z : Int) (u : St) : Prop := tr_r_X11_end x1 A z u
theorem u_r_X11_end {x1 : Int} {A : St} {z : Int} {u : St} (h : tr_r_X11_end x1 A z u) : r_X11_end x1 A z u := h
def q_X11_end (x1 : Int) (A : St) (z : Int) (u : St) : Prop := r_X11_end x1 A z u ∧ IK u ∧ fk [50] [(1, 1)] A u ∧ ((0 ≤ z ∧ z ≤ 1) ∧ ((z = 0 ∧ u 1 1 = A 1 1 ∧ (x1 < 0 ∨ A 1 1 < x1)) ∨ (z = 1 ∧ u 1 1 = x1 ∧ 0 ≤ x1 ∧ x1 ≤ A 1 1)))
def ws_kc_X11_end : List Cond := .code yX11_end cX11_end 2 (some .boolean) :: WY
set_option maxHeartbeats 4000000 in
set_option maxRecDepth 100000 in
theorem kc_X11_end (l : Launch) (dC : Nat → ClassId) (dI : Nat → Nat → Nat) (cB cI cJ cZ cQ : ClassId) (aL aS : Nat) (q : Nat → Nat) (A : St) (x1 : Int) (hI : IK A) (hx1 : (-2147483648 : Int) ≤ x1 ∧ x1 ≤ 2147483647) : KMi l yX11_end ws_kc_X11_end ({ frames := 1, cells := 0, slots := 0, locals := 21 } : Room) aL aS (dC, dI) (tyA cB cI cJ cZ cQ) (WK cB cI cJ cZ cQ q) A [.ref (q 0), .int (iI x1)] (fun z u => r_X11_end x1 A z u ∧ IK u ∧ fk [50] [(1, 1)] A u ∧ ((0 ≤ z ∧ z ≤ 1) ∧ ((z = 0 ∧ u 1 1 = A 1 1 ∧ (x1 < 0 ∨ A 1 1 < x1)) ∨ (z = 1 ∧ u 1 1 = x1 ∧ 0 ≤ x1 ∧ x1 ≤ A 1 1)))) := by
  refine k_metz (cc := cX11_end) (maxL := 2) WK_adr (plainFor_of_name (by decide +kernel)) rfl (Nat.le_of_ble_eq_true rfl) (fun z u h => h.2.2.2.1) (fun p e s m below meth c Q AS ls hx hb hml hown hts hK hDD hA0 hE RET H locs hP hS hl => ?_)
  have hown : s.vm.findClass RX11 = some m.cls := hown
  have hl : lv_has ls 2 [(0, .ref (q 0)), (1, .int (iI x1))] := hl
  have hiX11 : ∀ w ∈ u_ws RX11 TX11 11, w ∈ ws_kc_X11_end := fun w h => List.mem_cons_of_mem _ (wy_layX11 w h)
  have hiX7 : ∀ w ∈ u_ws RX7 TX7 2, w ∈ ws_kc_X11_end := fun w h => List.mem_cons_of_mem _ (wy_layX7 w h)
  refine lv_iload_n hx hb dX11_end_0 rfl (lv_at hl 1 rfl) ?_
  have J15_2 : ∀ (H : Heap) (locs : List Loc) (ls : Array Slot), ((x1 < 0) ∨ (¬ x1 < 0 ∧ ¬ x1 ≤ (A 1 1))) → (∀ (z : Int) (u : St), (d_X11_end_1 A z u) → r_X11_end x1 A z u) → va_P (dC, dI) vwCl (WK cB cI cJ cZ cQ q A) H → va_S AS s.heap H locs → lv_has ls 2 [(0, .ref (q 0)), (1, .int (iI x1))] → W p l e (headSpec ws_kc_X11_end ({ frames := 1, cells := 0, slots := 0, locals := 21 } : Room)).room s m [.ref (q 0), .int (iI x1)].toArray below meth c H locs 0 0 Q (F0 m 15 ls []) := by
    intro H locs ls f8 hk1 hP hS hl
    refine lv_aload_n hx hb dX11_end_15 rfl (lv_at hl 0 rfl) ?_
    refine lv_iconst (v := iI 0) hx hb dX11_end_16 (by decide +kernel) ?_
    refine k_calli (As := [.int (iI 0)]) (rest := []) ⟨hx, hb, hml, hown, hts⟩ hE (kc_X11_refused l dC dI cB cI cJ cZ cQ aL aS q _ 0 hI ⟨by decide, by decide⟩) (cwV 1 hts (goodVk (wk_in_10 _ (List.mem_of_getElem? (i := 23) rfl)) (wk_in_10 _ (List.mem_of_getElem? (i := 24) rfl)) (wk_in_10 _ (List.mem_of_getElem? (i := 25) rfl)) (wk_in_10 _ (List.mem_of_getElem? (i := 26) rfl)) (wk_in_10 _ (List.mem_of_getElem? (i := 27) rfl))) rfl rfl rfl (by decide +kernel) ⟨Nat.le_of_ble_eq_true rfl, Nat.le_of_ble_eq_true rfl⟩) hK hDD hA0 hP hS 0 11 (wkK) rfl rfl hl.1 (Nat.le_of_ble_eq_true rfl) dX11_end_17 (fun z9 A10 H locs hw11 hP hS => ?_)
    have ghw11 : q_X11_refused 0 A z9 A10 := hw11
    obtain ⟨_, hI, hf12, hw11⟩ := hw11
    refine lv_pop hx hb dX11_end_20 rfl ?_
    refine lv_iconst (v := iI 0) hx hb dX11_end_21 (by decide +kernel) ?_
    have e13 : A10 1 1 = (A 1 1) := (hf12 1 1 rfl rfl)
    have r14 : (0 : Int) ≤ (A 1 1) ∧ (A 1 1) ≤ 1600 := by rw [← e13]; exact irTP_1 hI
    exact RET 0 _ _ _ _ _ ⟨hk1 _ _ (u_d_X11_end_1 ⟨z9, A10, ghw11, ⟨rfl, rfl⟩⟩), hI, fk.trans (fk.rf) hf12 rfl rfl, by omega⟩ hP hS dX11_end_22
  refine lv_if_lt (tgt := 15) hx hb dX11_end_1 (by decide) (fun c1 => ?_) (fun c1 => ?_)
  · have c1 : x1 < 0 := (i_lt0 hx1).mp c1
    exact J15_2 _ _ _ (by omega) (fun z9 u9 h9 => (u_r_X11_end (Or.inl ⟨c1, h9⟩))) hP hS (lv_sub hl [0, 1] rfl)
  · have c1 : ¬ x1 < 0 := mt (i_lt0 hx1).mpr c1
    refine lv_iload_n hx hb dX11_end_4 rfl (lv_at hl 1 rfl) ?_
    refine lv_aload_n hx hb dX11_end_5 rfl (lv_at hl 0 rfl) ?_
    refine va_get (D := (dC, dI)) (ci := 11) (v := .ref (q 1)) (C := RX11) (T := TX11) (N := 11) hx hb hts hiX11 hown hK hP 0 (wkK) rfl 0 (by decide) (hts _ (List.mem_cons_of_mem _ (wk_in_10 _ (List.mem_of_getElem? (i := 18) rfl)))) (fun _ h9 => h9) rfl dX11_end_6 ?_
    have r3 : (0 : Int) ≤ (A 1 1) ∧ (A 1 1) ≤ 1600 := irTP_1 hI
    refine va_get (D := (dC, dI)) (ci := 7) (v := .int (iI (A 1 1))) (C := RX7) (T := TX7) (N := 2) hx hb hts hiX7 hown hK hP 1 (wkTP) rfl 1 (by decide) (hts _ (List.mem_cons_of_mem _ (wk_in_10 _ (List.mem_of_getElem? (i := 19) rfl)))) (fun _ h9 => h9) rfl dX11_end_9 ?_
    refine lv_icmp_le (tgt := 23) hx hb dX11_end_12 (by decide) (fun c4 => ?_) (fun c4 => ?_)
    · have c4 : x1 ≤ (A 1 1) := (i_le hx1 (rb r3 (by decide) (by decide))).mp c4
      refine lv_aload_n hx hb dX11_end_23 rfl (lv_at hl 0 rfl) ?_
      refine va_get (D := (dC, dI)) (ci := 11) (v := .ref (q 1)) (C := RX11) (T := TX11) (N := 11) hx hb hts hiX11 hown hK hP 0 (wkK) rfl 0 (by decide) (hts _ (List.mem_cons_of_mem _ (wk_in_10 _ (List.mem_of_getElem? (i := 18) rfl)))) (fun _ h9 => h9) rfl dX11_end_24 ?_
      refine lv_iload_n hx hb dX11_end_27 rfl (lv_at hl 1 rfl) ?_
      refine k_put (Wf := WK cB cI cJ cZ cQ q) (D := (dC, dI)) (ci := 7) (v := .int (iI x1)) (ty := .int) (C := RX7) (T := TX7) (N := 2) hx hb hts hiX7 tyX7 tyX7_ok nmX7 hown hK hP hDD hS 1 (wkTP) rfl 1 (by decide) (hts _ (List.mem_cons_of_mem _ (wk_in_10 _ (List.mem_of_getElem? (i := 19) rfl)))) (fun _ h9 => h9) rfl (by decide +kernel) rfl rfl (Nat.le_of_ble_eq_true rfl) dX11_end_28 (wfTP_1 (v := x1)) (fun H locs A5 hA5 hP hS => ?_)
      have hI := isTP_1 hA5 hI (show (0 : Int) ≤ x1 ∧ x1 ≤ 1600 from (by omega))
      refine lv_iconst (v := iI 1) hx hb dX11_end_31 (by decide +kernel) ?_
      have e6 : A5 1 1 = x1 := rd_is hA5
      exact RET 1 _ _ _ _ _ ⟨(u_r_X11_end (Or.inr ⟨c1, (Or.inl ⟨c4, ⟨A5, hA5, ⟨rfl, rfl⟩⟩⟩)⟩)), hI, fk.df (fk.rf) hA5 rfl, by omega⟩ hP hS dX11_end_32
    · have c4 : ¬ x1 ≤ (A 1 1) := mt (i_le hx1 (rb r3 (by decide) (by decide))).mpr c4
      exact J15_2 _ _ _ (by omega) (fun z9 u9 h9 => (u_r_X11_end (Or.inr ⟨c1, (Or.inr ⟨c4, h9⟩)⟩))) hP hS (lv_sub hl [0, 1] rfl)

abbrev tr_r_X11_town (A : St) (z : Int) (u : St) : Prop := (∃ t2 : Nat, t2 = 51 + 31 * ((A 0 10)).toNat ∧ (∃ z3 : Int, ∃ A4 : St, q_X5_readTown t2 A z3 A4 ∧ (∃ A7 : St, A7 = stA A4 1 1 0 ∧ (((¬ z3 = (-1)) ∧ (∃ t12 : Nat, t12 = 51 + 31 * ((A 0 9)).toNat ∧ (∃ A15 : St, A15 = stA A7 0 9 (A 0 10) ∧ (∃ A16 : St, A16 = stA A15 0 10 (A 0 9) ∧ (∃ A17 : St, A17 = stA A16 22 4 0 ∧ (z = z3 ∧ u = A17)))))) ∨ ((z3 = (-1)) ∧ (∃ z22 : Int, ∃ A23 : St, q_X11_refused 1 A7 z22 A23 ∧ (z = z22 ∧ u = A23)))))))
def r_X11_town (A : St) (z : Int) (u : St) : Prop := tr_r_X11_town A z u
theorem u_r_X11_town {A : St} {z : Int} {u : St} (h : tr_r_X11_town A z u) : r_X11_town A z u := h
def q_X11_town (A : St) (z : Int) (u : St) : Prop := r_X11_town A z u ∧ IK u ∧ fk [33, 34, 35, 37, 38, 39, 40, 42, 43, 44, 46, 47, 48, 49, 50, 52, 54, 55, 56, 57, 58, 59, 60, 61, 62, 63, 64, 65, 66, 67, 68, 69, 71, 74, 75, 76, 78, 79, 80, 81, 83, 85, 86, 87, 88, 89, 90, 91, 92, 93, 94, 95, 96, 97, 98, 99, 100, 102, 105, 106, 107, 109, 110, 111, 112] [(0, 9), (0, 10), (1, 1), (3, 2), (3, 3), (3, 4), (5, 1), (5, 2), (5, 3), (5, 4), (5, 5), (5, 6), (22, 4), (51, 15), (70, 2), (82, 15), (101, 2)] A u ∧ ((-2147483648 ≤ z ∧ z ≤ 2147483647) ∧ u 1 1 = 0)
def ws_kc_X11_town : List Cond := .code yX11_town cX11_town 3 (some .int) :: WY
set_option maxHeartbeats 4000000 in
set_option maxRecDepth 100000 in
theorem kc_X11_town (l : Launch) (dC : Nat → ClassId) (dI : Nat → Nat → Nat) (cB cI cJ cZ cQ : ClassId) (aL aS : Nat) (q : Nat → Nat) (A : St) (hI : IK A) : KMi l yX11_town ws_kc_X11_town ({ frames := 105, cells := 0, slots := 0, locals := 3948 } : Room) aL aS (dC, dI) (tyA cB cI cJ cZ cQ) (WK cB cI cJ cZ cQ q) A [.ref (q 0)] (fun z u => r_X11_town A z u ∧ IK u ∧ fk [33, 34, 35, 37, 38, 39, 40, 42, 43, 44, 46, 47, 48, 49, 50, 52, 54, 55, 56, 57, 58, 59, 60, 61, 62, 63, 64, 65, 66, 67, 68, 69, 71, 74, 75, 76, 78, 79, 80, 81, 83, 85, 86, 87, 88, 89, 90, 91, 92, 93, 94, 95, 96, 97, 98, 99, 100, 102, 105, 106, 107, 109, 110, 111, 112] [(0, 9), (0, 10), (1, 1), (3, 2), (3, 3), (3, 4), (5, 1), (5, 2), (5, 3), (5, 4), (5, 5), (5, 6), (22, 4), (51, 15), (70, 2), (82, 15), (101, 2)] A u ∧ ((-2147483648 ≤ z ∧ z ≤ 2147483647) ∧ u 1 1 = 0)) := by
  refine k_meti (cc := cX11_town) (maxL := 3) WK_adr (plainFor_of_name (by decide +kernel)) rfl (Nat.le_of_ble_eq_true rfl) (fun p e s m below meth c Q AS ls hx hb hml hown hts hK hDD hA0 hE RET H locs hP hS hl => ?_)
  have hown : s.vm.findClass RX11 = some m.cls := hown
  have hl : lv_has ls 3 [(0, .ref (q 0))] := hl
  have hiX11 : ∀ w ∈ u_ws RX11 TX11 11, w ∈ ws_kc_X11_town := fun w h => List.mem_cons_of_mem _ (wy_layX11 w h)
  have hiX7 : ∀ w ∈ u_ws RX7 TX7 2, w ∈ ws_kc_X11_town := fun w h => List.mem_cons_of_mem _ (wy_layX7 w h)
  have hiX1 : ∀ w ∈ u_ws RX1 TX1 8, w ∈ ws_kc_X11_town := fun w h => List.mem_cons_of_mem _ (wy_layX1 w h)
  refine lv_aload_n hx hb dX11_town_0 rfl (lv_at hl 0 rfl) ?_
  refine va_get (D := (dC, dI)) (ci := 11) (v := .ref (q 3)) (C := RX11) (T := TX11) (N := 11) hx hb hts hiX11 hown hK hP 0 (wkK) rfl 1 (by decide) (hts _ (List.mem_cons_of_mem _ (wk_in_10 _ (List.mem_of_getElem? (i := 34) rfl)))) (fun _ h9 => h9) rfl dX11_town_1 ?_
  refine lv_aload_n hx hb dX11_town_4 rfl (lv_at hl 0 rfl) ?_
  have r1 : (0 : Int) ≤ (A 0 10) ∧ (A 0 10) ≤ 1 := irK_10 hI
  obtain ⟨t2, et2⟩ : ∃ t : Nat, t = 51 + 31 * ((A 0 10)).toNat := ⟨_, rfl⟩
  have ht2 : isT t2 := by rw [et2]; exact isT.b r1
  refine va_get (D := (dC, dI)) (ci := 11) (v := .ref (q (51 + 31 * (A 0 10).toNat))) (C := RX11) (T := TX11) (N := 11) hx hb hts hiX11 hown hK hP 0 (wkK) rfl 10 (by decide) (hts _ (List.mem_cons_of_mem _ (wk_in_10 _ (List.mem_of_getElem? (i := 35) rfl)))) (fun _ h9 => h9) rfl dX11_town_5 ?_
  refine tp_v (y := .ref (q t2)) (by rw [et2]) ?_
  refine k_calli (As := [.ref (q t2)]) (rest := []) ⟨hx, hb, hml, hown, hts⟩ hE (kc_X5_readTown l dC dI cB cI cJ cZ cQ aL aS q _ t2 hI ht2) (cwV 1 hts (goodVk (wk_in_10 _ (List.mem_of_getElem? (i := 39) rfl)) (wk_in_10 _ (List.mem_of_getElem? (i := 40) rfl)) (wk_in_10 _ (List.mem_of_getElem? (i := 41) rfl)) (wk_in_5 _ (List.mem_of_getElem? (i := 28) rfl)) (wk_in_5 _ (List.mem_of_getElem? (i := 5) rfl))) rfl rfl rfl (by decide +kernel) ⟨Nat.le_of_ble_eq_true rfl, Nat.le_of_ble_eq_true rfl⟩) hK hDD hA0 hP hS 3 5 (wkRD) rfl rfl hl.1 (Nat.le_of_ble_eq_true rfl) dX11_town_8 (fun z3 A4 H locs hw5 hP hS => ?_)
  have ghw5 : q_X5_readTown t2 A z3 A4 := hw5
  obtain ⟨_, hI, hf6, hw5⟩ := hw5
  refine lv_istore_n (lv' := [(1, .int (iI z3)), (0, .ref (q 0))]) hx hb dX11_town_11 rfl hl (by decide) rfl (fun ls hl => ?_)
  refine lv_aload_n hx hb dX11_town_12 rfl (lv_at hl 1 rfl) ?_
  refine va_get (D := (dC, dI)) (ci := 11) (v := .ref (q 1)) (C := RX11) (T := TX11) (N := 11) hx hb hts hiX11 hown hK hP 0 (wkK) rfl 0 (by decide) (hts _ (List.mem_cons_of_mem _ (wk_in_10 _ (List.mem_of_getElem? (i := 18) rfl)))) (fun _ h9 => h9) rfl dX11_town_13 ?_
  refine lv_iconst (v := iI 0) hx hb dX11_town_16 (by decide +kernel) ?_
  refine k_put (Wf := WK cB cI cJ cZ cQ q) (D := (dC, dI)) (ci := 7) (v := .int (iI 0)) (ty := .int) (C := RX7) (T := TX7) (N := 2) hx hb hts hiX7 tyX7 tyX7_ok nmX7 hown hK hP hDD hS 1 (wkTP) rfl 1 (by decide) (hts _ (List.mem_cons_of_mem _ (wk_in_10 _ (List.mem_of_getElem? (i := 19) rfl)))) (fun _ h9 => h9) rfl (by decide +kernel) rfl rfl (Nat.le_of_ble_eq_true rfl) dX11_town_17 (wfTP_1 (v := 0)) (fun H locs A7 hA7 hP hS => ?_)
  have hI := isTP_1 hA7 hI (show (0 : Int) ≤ 0 ∧ 0 ≤ 1600 from ⟨by decide, by decide⟩)
  refine lv_iload_n hx hb dX11_town_20 rfl (lv_at hl 0 rfl) ?_
  refine lv_iconst (v := iI (-1)) hx hb dX11_town_21 (by decide +kernel) ?_
  refine lv_icmp_ne (tgt := 31) hx hb dX11_town_22 (by decide) (fun c8 => ?_) (fun c8 => ?_)
  · have c8 : ¬ z3 = (-1) := mt (i_eq hw5 ⟨by decide, by decide⟩).mpr c8
    refine lv_aload_n hx hb dX11_town_31 rfl (lv_at hl 1 rfl) ?_
    have e10 : A4 0 9 = (A 0 9) := (hf6 0 9 rfl rfl)
    have e9 : A7 0 9 = (A 0 9) := (rd_ne hA7 (by decide) 9).trans e10
    have r11 : (0 : Int) ≤ (A 0 9) ∧ (A 0 9) ≤ 1 := by rw [← e9]; exact irK_9 hI
    obtain ⟨t12, et12⟩ : ∃ t : Nat, t = 51 + 31 * ((A 0 9)).toNat := ⟨_, rfl⟩
    have ht12 : isT t12 := by rw [et12]; exact isT.b r11
    refine va_get (D := (dC, dI)) (ci := 11) (v := .ref (q (51 + 31 * (A7 0 9).toNat))) (C := RX11) (T := TX11) (N := 11) hx hb hts hiX11 hown hK hP 0 (wkK) rfl 9 (by decide) (hts _ (List.mem_cons_of_mem _ (wk_in_10 _ (List.mem_of_getElem? (i := 36) rfl)))) (fun _ h9 => h9) rfl dX11_town_32 ?_
    refine tp_v (y := .ref (q t12)) (by rw [et12, e9]) ?_
    refine lv_astore_n (lv' := [(2, .ref (q t12)), (1, .int (iI z3)), (0, .ref (q 0))]) hx hb dX11_town_35 rfl hl (by decide) rfl (fun ls hl => ?_)
    refine lv_aload_n hx hb dX11_town_36 rfl (lv_at hl 2 rfl) ?_
    refine lv_aload_n hx hb dX11_town_37 rfl (lv_at hl 2 rfl) ?_
    have e14 : A4 0 10 = (A 0 10) := (hf6 0 10 rfl rfl)
    have e13 : A7 0 10 = (A 0 10) := (rd_ne hA7 (by decide) 10).trans e14
    refine va_get (D := (dC, dI)) (ci := 11) (v := .ref (q (51 + 31 * (A7 0 10).toNat))) (C := RX11) (T := TX11) (N := 11) hx hb hts hiX11 hown hK hP 0 (wkK) rfl 10 (by decide) (hts _ (List.mem_cons_of_mem _ (wk_in_10 _ (List.mem_of_getElem? (i := 35) rfl)))) (fun _ h9 => h9) rfl dX11_town_38 ?_
    refine tp_v (y := .ref (q t2)) (by rw [et2, e13]) ?_
    refine k_put (Wf := WK cB cI cJ cZ cQ q) (D := (dC, dI)) (ci := 11) (v := .ref (q t2)) (ty := .object "StackKeys$Town") (C := RX11) (T := TX11) (N := 11) hx hb hts hiX11 tyX11 tyX11_ok nmX11 hown hK hP hDD hS 0 (wkK) rfl 9 (by decide) (hts _ (List.mem_cons_of_mem _ (wk_in_10 _ (List.mem_of_getElem? (i := 36) rfl)))) (fun _ h9 => h9) rfl (by decide +kernel) rfl rfl (Nat.le_of_ble_eq_true rfl) dX11_town_41 (by rw [et2]; exact wfK_9 (v := (A 0 10))) (fun H locs A15 hA15 hP hS => ?_)
    have hI := isK_9 hA15 hI (show (0 : Int) ≤ (A 0 10) ∧ (A 0 10) ≤ 1 from r1)
    refine lv_aload_n hx hb dX11_town_44 rfl (lv_at hl 2 rfl) ?_
    refine lv_aload_n hx hb dX11_town_45 rfl (lv_at hl 0 rfl) ?_
    refine k_put (Wf := WK cB cI cJ cZ cQ q) (D := (dC, dI)) (ci := 11) (v := .ref (q t12)) (ty := .object "StackKeys$Town") (C := RX11) (T := TX11) (N := 11) hx hb hts hiX11 tyX11 tyX11_ok nmX11 hown hK hP hDD hS 0 (wkK) rfl 10 (by decide) (hts _ (List.mem_cons_of_mem _ (wk_in_10 _ (List.mem_of_getElem? (i := 35) rfl)))) (fun _ h9 => h9) rfl (by decide +kernel) rfl rfl (Nat.le_of_ble_eq_true rfl) dX11_town_46 (by rw [et12]; exact wfK_10 (v := (A 0 9))) (fun H locs A16 hA16 hP hS => ?_)
    have hI := isK_10 hA16 hI (show (0 : Int) ≤ (A 0 9) ∧ (A 0 9) ≤ 1 from r11)
    refine lv_aload_n hx hb dX11_town_49 rfl (lv_at hl 2 rfl) ?_
    refine va_get (D := (dC, dI)) (ci := 11) (v := .ref (q 22)) (C := RX11) (T := TX11) (N := 11) hx hb hts hiX11 hown hK hP 0 (wkK) rfl 4 (by decide) (hts _ (List.mem_cons_of_mem _ (wk_in_10 _ (List.mem_of_getElem? (i := 37) rfl)))) (fun _ h9 => h9) rfl dX11_town_50 ?_
    refine lv_iconst (v := iI 0) hx hb dX11_town_53 (by decide +kernel) ?_
    refine k_put (Wf := WK cB cI cJ cZ cQ q) (D := (dC, dI)) (ci := 1) (v := .int (iI 0)) (ty := .int) (C := RX1) (T := TX1) (N := 8) hx hb hts hiX1 tyX1 tyX1_ok nmX1 hown hK hP hDD hS 22 (wkFD) rfl 4 (by decide) (hts _ (List.mem_cons_of_mem _ (wk_in_10 _ (List.mem_of_getElem? (i := 38) rfl)))) (fun _ h9 => h9) rfl (by decide +kernel) rfl rfl (Nat.le_of_ble_eq_true rfl) dX11_town_54 (wfFD_4 (v := 0)) (fun H locs A17 hA17 hP hS => ?_)
    have hI := isFD_4 hA17 hI (show (0 : Int) ≤ 0 ∧ 0 ≤ 20 from ⟨by decide, by decide⟩)
    refine lv_iload_n hx hb dX11_town_57 rfl (lv_at hl 1 rfl) ?_
    have e21 : A7 1 1 = 0 := rd_is hA7
    have e20 : A15 1 1 = 0 := (rd_ne hA15 (by decide) 1).trans e21
    have e19 : A16 1 1 = 0 := (rd_ne hA16 (by decide) 1).trans e20
    have e18 : A17 1 1 = 0 := (rd_ne hA17 (by decide) 1).trans e19
    exact RET z3 _ _ _ _ _ ⟨(u_r_X11_town ⟨t2, et2, ⟨z3, A4, ghw5, ⟨A7, hA7, (Or.inl ⟨c8, ⟨t12, et12, ⟨A15, hA15, ⟨A16, hA16, ⟨A17, hA17, ⟨rfl, rfl⟩⟩⟩⟩⟩⟩)⟩⟩⟩), hI, fk.df (fk.df (fk.df (fk.df (fk.trans (fk.rf) hf6 rfl rfl) hA7 rfl) hA15 rfl) hA16 rfl) hA17 rfl, by omega⟩ hP hS dX11_town_58
  · have c8 : z3 = (-1) := (i_eq hw5 ⟨by decide, by decide⟩).mp c8
    refine lv_aload_n hx hb dX11_town_25 rfl (lv_at hl 1 rfl) ?_
    refine lv_iconst (v := iI 1) hx hb dX11_town_26 (by decide +kernel) ?_
    refine k_calli (As := [.int (iI 1)]) (rest := []) ⟨hx, hb, hml, hown, hts⟩ hE (kc_X11_refused l dC dI cB cI cJ cZ cQ aL aS q _ 1 hI ⟨by decide, by decide⟩) (cwV 1 hts (goodVk (wk_in_10 _ (List.mem_of_getElem? (i := 23) rfl)) (wk_in_10 _ (List.mem_of_getElem? (i := 24) rfl)) (wk_in_10 _ (List.mem_of_getElem? (i := 25) rfl)) (wk_in_10 _ (List.mem_of_getElem? (i := 26) rfl)) (wk_in_10 _ (List.mem_of_getElem? (i := 27) rfl))) rfl rfl rfl (by decide +kernel) ⟨Nat.le_of_ble_eq_true rfl, Nat.le_of_ble_eq_true rfl⟩) hK hDD hA0 hP hS 0 11 (wkK) rfl rfl hl.1 (Nat.le_of_ble_eq_true rfl) dX11_town_27 (fun z22 A23 H locs hw24 hP hS => ?_)
    have ghw24 : q_X11_refused 1 A7 z22 A23 := hw24
    obtain ⟨_, hI, hf25, hw24⟩ := hw24
    have e27 : A7 1 1 = 0 := rd_is hA7
    have e26 : A23 1 1 = 0 := (hf25 1 1 rfl rfl).trans e27
    exact RET z22 _ _ _ _ _ ⟨(u_r_X11_town ⟨t2, et2, ⟨z3, A4, ghw5, ⟨A7, hA7, (Or.inr ⟨c8, ⟨z22, A23, ghw24, ⟨rfl, rfl⟩⟩⟩)⟩⟩⟩), hI, fk.trans (fk.df (fk.trans (fk.rf) hf6 rfl rfl) hA7 rfl) hf25 rfl rfl, by omega⟩ hP hS dX11_town_30

def ws_kc_X11_fault : List Cond := .code yX11_fault cX11_fault 2 (some .int) :: WY
set_option maxHeartbeats 4000000 in
set_option maxRecDepth 100000 in
theorem kc_X11_fault (l : Launch) (dC : Nat → ClassId) (dI : Nat → Nat → Nat) (cB cI cJ cZ cQ : ClassId) (aL aS : Nat) (q : Nat → Nat) (A : St) (x1 : Int) (hI : IK A) (hx1 : (-2147483648 : Int) ≤ x1 ∧ x1 ≤ 2147483647) : KMi l yX11_fault ws_kc_X11_fault ({ frames := 0, cells := 0, slots := 0, locals := 0 } : Room) aL aS (dC, dI) (tyA cB cI cJ cZ cQ) (WK cB cI cJ cZ cQ q) A [.ref (q 0), .int (iI x1)] (fun z u => A = u ∧ (-2147483648 ≤ z ∧ z ≤ 2147483647)) := by
  refine k_meti (cc := cX11_fault) (maxL := 2) WK_adr (plainFor_of_name (by decide +kernel)) rfl (Nat.le_of_ble_eq_true rfl) (fun p e s m below meth c Q AS ls hx hb hml hown hts hK hDD hA0 hE RET H locs hP hS hl => ?_)
  have hown : s.vm.findClass RX11 = some m.cls := hown
  have hl : lv_has ls 2 [(0, .ref (q 0)), (1, .int (iI x1))] := hl
  have hiX11 : ∀ w ∈ u_ws RX11 TX11 11, w ∈ ws_kc_X11_fault := fun w h => List.mem_cons_of_mem _ (wy_layX11 w h)
  have hiX5 : ∀ w ∈ u_ws RX5 TX5 5, w ∈ ws_kc_X11_fault := fun w h => List.mem_cons_of_mem _ (wy_layX5 w h)
  refine lv_iload_n hx hb dX11_fault_0 rfl (lv_at hl 1 rfl) ?_
  refine lv_if_ne (tgt := 12) hx hb dX11_fault_1 (by decide) (fun c1 => ?_) (fun c1 => ?_)
  · have c1 : ¬ x1 = 0 := mt (i_eq0 hx1).mpr c1
    refine lv_iload_n hx hb dX11_fault_12 rfl (lv_at hl 1 rfl) ?_
    refine lv_iconst (v := iI 1) hx hb dX11_fault_13 (by decide +kernel) ?_
    refine lv_icmp_ne (tgt := 27) hx hb dX11_fault_14 (by decide) (fun c2 => ?_) (fun c2 => ?_)
    · have c2 : ¬ x1 = 1 := mt (i_eq hx1 ⟨by decide, by decide⟩).mpr c2
      refine lv_iconst (v := iI (-1)) hx hb dX11_fault_27 (by decide +kernel) ?_
      exact RET (-1) _ _ _ _ _ ⟨rfl, ⟨by decide, by decide⟩⟩ hP hS dX11_fault_28
    · have c2 : x1 = 1 := (i_eq hx1 ⟨by decide, by decide⟩).mp c2
      refine lv_aload_n hx hb dX11_fault_17 rfl (lv_at hl 0 rfl) ?_
      refine va_get (D := (dC, dI)) (ci := 11) (v := .ref (q 3)) (C := RX11) (T := TX11) (N := 11) hx hb hts hiX11 hown hK hP 0 (wkK) rfl 1 (by decide) (hts _ (List.mem_cons_of_mem _ (wk_in_10 _ (List.mem_of_getElem? (i := 34) rfl)))) (fun _ h9 => h9) rfl dX11_fault_18 ?_
      have r3 : (-1 : Int) ≤ (A 3 3) ∧ (A 3 3) ≤ 1600 := irRD_3 hI
      refine va_get (D := (dC, dI)) (ci := 5) (v := .int (iI (A 3 3))) (C := RX5) (T := TX5) (N := 5) hx hb hts hiX5 hown hK hP 3 (wkRD) rfl 3 (by decide) (hts _ (List.mem_cons_of_mem _ (wk_in_10 _ (List.mem_of_getElem? (i := 44) rfl)))) (fun _ h9 => h9) rfl dX11_fault_21 ?_
      refine lv_goto (tgt := 28) hx hb dX11_fault_24 (by decide) ?_
      exact RET (A 3 3) _ _ _ _ _ ⟨rfl, (rb r3 (by decide) (by decide))⟩ hP hS dX11_fault_28
  · have c1 : x1 = 0 := (i_eq0 hx1).mp c1
    refine lv_aload_n hx hb dX11_fault_4 rfl (lv_at hl 0 rfl) ?_
    refine va_get (D := (dC, dI)) (ci := 11) (v := .ref (q 3)) (C := RX11) (T := TX11) (N := 11) hx hb hts hiX11 hown hK hP 0 (wkK) rfl 1 (by decide) (hts _ (List.mem_cons_of_mem _ (wk_in_10 _ (List.mem_of_getElem? (i := 34) rfl)))) (fun _ h9 => h9) rfl dX11_fault_5 ?_
    have r4 : (0 : Int) ≤ (A 3 2) ∧ (A 3 2) ≤ 5 := irRD_2 hI
    refine va_get (D := (dC, dI)) (ci := 5) (v := .int (iI (A 3 2))) (C := RX5) (T := TX5) (N := 5) hx hb hts hiX5 hown hK hP 3 (wkRD) rfl 2 (by decide) (hts _ (List.mem_cons_of_mem _ (wk_in_10 _ (List.mem_of_getElem? (i := 43) rfl)))) (fun _ h9 => h9) rfl dX11_fault_8 ?_
    exact RET (A 3 2) _ _ _ _ _ ⟨rfl, (rb r4 (by decide) (by decide))⟩ hP hS dX11_fault_11

def ws_kc_X11_has : List Cond := .code yX11_has cX11_has 2 (some .int) :: WY
set_option maxHeartbeats 4000000 in
set_option maxRecDepth 100000 in
theorem kc_X11_has (l : Launch) (dC : Nat → ClassId) (dI : Nat → Nat → Nat) (cB cI cJ cZ cQ : ClassId) (aL aS : Nat) (q : Nat → Nat) (A : St) (x1 : Int) (hI : IK A) (hx1 : (-2147483648 : Int) ≤ x1 ∧ x1 ≤ 2147483647) : KMi l yX11_has ws_kc_X11_has ({ frames := 3, cells := 0, slots := 0, locals := 68 } : Room) aL aS (dC, dI) (tyA cB cI cJ cZ cQ) (WK cB cI cJ cZ cQ q) A [.ref (q 0), .int (iI x1)] (fun z u => A = u ∧ (-2147483648 ≤ z ∧ z ≤ 2147483647)) := by
  refine k_meti (cc := cX11_has) (maxL := 2) WK_adr (plainFor_of_name (by decide +kernel)) rfl (Nat.le_of_ble_eq_true rfl) (fun p e s m below meth c Q AS ls hx hb hml hown hts hK hDD hA0 hE RET H locs hP hS hl => ?_)
  have hown : s.vm.findClass RX11 = some m.cls := hown
  have hl : lv_has ls 2 [(0, .ref (q 0)), (1, .int (iI x1))] := hl
  have hiX11 : ∀ w ∈ u_ws RX11 TX11 11, w ∈ ws_kc_X11_has := fun w h => List.mem_cons_of_mem _ (wy_layX11 w h)
  have hiX9 : ∀ w ∈ u_ws RX9 TX9 16, w ∈ ws_kc_X11_has := fun w h => List.mem_cons_of_mem _ (wy_layX9 w h)
  refine lv_iload_n hx hb dX11_has_0 rfl (lv_at hl 1 rfl) ?_
  refine lv_bipush (v := iI 8) hx hb dX11_has_1 (by decide +kernel) ?_
  refine lv_icmp_ne (tgt := 17) hx hb dX11_has_3 (by decide) (fun c1 => ?_) (fun c1 => ?_)
  · have c1 : ¬ x1 = 8 := mt (i_eq hx1 ⟨by decide, by decide⟩).mpr c1
    refine lv_iload_n hx hb dX11_has_17 rfl (lv_at hl 1 rfl) ?_
    refine lv_bipush (v := iI 9) hx hb dX11_has_18 (by decide +kernel) ?_
    refine lv_icmp_ne (tgt := 34) hx hb dX11_has_20 (by decide) (fun c2 => ?_) (fun c2 => ?_)
    · have c2 : ¬ x1 = 9 := mt (i_eq hx1 ⟨by decide, by decide⟩).mpr c2
      refine lv_iload_n hx hb dX11_has_34 rfl (lv_at hl 1 rfl) ?_
      refine lv_if_lt (tgt := 56) hx hb dX11_has_35 (by decide) (fun c3 => ?_) (fun c3 => ?_)
      · have c3 : x1 < 0 := (i_lt0 hx1).mp c3
        refine lv_iconst (v := iI (-1)) hx hb dX11_has_56 (by decide +kernel) ?_
        exact RET (-1) _ _ _ _ _ ⟨rfl, ⟨by decide, by decide⟩⟩ hP hS dX11_has_57
      · have c3 : ¬ x1 < 0 := mt (i_lt0 hx1).mpr c3
        refine lv_iload_n hx hb dX11_has_38 rfl (lv_at hl 1 rfl) ?_
        refine lv_bipush (v := iI 8) hx hb dX11_has_39 (by decide +kernel) ?_
        refine lv_icmp_ge (tgt := 56) hx hb dX11_has_41 (by decide) (fun c4 => ?_) (fun c4 => ?_)
        · have c4 : 8 ≤ x1 := (i_le ⟨by decide, by decide⟩ hx1).mp c4
          refine lv_iconst (v := iI (-1)) hx hb dX11_has_56 (by decide +kernel) ?_
          exact RET (-1) _ _ _ _ _ ⟨rfl, ⟨by decide, by decide⟩⟩ hP hS dX11_has_57
        · have c4 : ¬ 8 ≤ x1 := mt (i_le ⟨by decide, by decide⟩ hx1).mpr c4
          refine lv_aload_n hx hb dX11_has_44 rfl (lv_at hl 0 rfl) ?_
          have r5 : (0 : Int) ≤ (A 0 9) ∧ (A 0 9) ≤ 1 := irK_9 hI
          obtain ⟨t6, et6⟩ : ∃ t : Nat, t = 51 + 31 * ((A 0 9)).toNat := ⟨_, rfl⟩
          have ht6 : isT t6 := by rw [et6]; exact isT.b r5
          refine va_get (D := (dC, dI)) (ci := 11) (v := .ref (q (51 + 31 * (A 0 9).toNat))) (C := RX11) (T := TX11) (N := 11) hx hb hts hiX11 hown hK hP 0 (wkK) rfl 9 (by decide) (hts _ (List.mem_cons_of_mem _ (wk_in_10 _ (List.mem_of_getElem? (i := 36) rfl)))) (fun _ h9 => h9) rfl dX11_has_45 ?_
          refine tp_v (y := .ref (q t6)) (by rw [et6]) ?_
          refine va_get (D := (dC, dI)) (ci := 9) (v := .ref (q (t6 + 1))) (C := RX9) (T := TX9) (N := 16) hx hb hts hiX9 hown hK hP t6 (wkT ht6) rfl 0 (by decide) (hts _ (List.mem_cons_of_mem _ (wk_in_10 _ (List.mem_of_getElem? (i := 46) rfl)))) (fun _ h9 => h9) rfl dX11_has_48 ?_
          refine lv_iload_n hx hb dX11_has_51 rfl (lv_at hl 1 rfl) ?_
          refine x_iald (Wf := WK cB cI cJ cZ cQ q) hx hb hK hP (t6 + 1) 1 (wkTc ht6) rfl (by omega) (by decide) dX11_has_52 (fun z7 hz7 => ?_)
          have rz7 : (0 : Int) ≤ z7 ∧ z7 ≤ 10 := by rw [hz7]; exact irTc ht6 hI
          refine lv_goto (tgt := 57) hx hb dX11_has_53 (by decide) ?_
          exact RET z7 _ _ _ _ _ ⟨rfl, (rb rz7 (by decide) (by decide))⟩ hP hS dX11_has_57
    · have c2 : x1 = 9 := (i_eq hx1 ⟨by decide, by decide⟩).mp c2
      refine lv_aload_n hx hb dX11_has_23 rfl (lv_at hl 0 rfl) ?_
      have r8 : (0 : Int) ≤ (A 0 9) ∧ (A 0 9) ≤ 1 := irK_9 hI
      obtain ⟨t9, et9⟩ : ∃ t : Nat, t = 51 + 31 * ((A 0 9)).toNat := ⟨_, rfl⟩
      have ht9 : isT t9 := by rw [et9]; exact isT.b r8
      refine va_get (D := (dC, dI)) (ci := 11) (v := .ref (q (51 + 31 * (A 0 9).toNat))) (C := RX11) (T := TX11) (N := 11) hx hb hts hiX11 hown hK hP 0 (wkK) rfl 9 (by decide) (hts _ (List.mem_cons_of_mem _ (wk_in_10 _ (List.mem_of_getElem? (i := 36) rfl)))) (fun _ h9 => h9) rfl dX11_has_24 ?_
      refine tp_v (y := .ref (q t9)) (by rw [et9]) ?_
      refine k_calli (As := []) (rest := []) ⟨hx, hb, hml, hown, hts⟩ hE (kc_X9_deadMask l dC dI cB cI cJ cZ cQ aL aS q _ t9 hI ht9) (cwV 0 hts (goodVk (wk_in_10 _ (List.mem_of_getElem? (i := 49) rfl)) (wk_in_10 _ (List.mem_of_getElem? (i := 50) rfl)) (wk_in_10 _ (List.mem_of_getElem? (i := 51) rfl)) (wk_in_0 _ (List.mem_of_getElem? (i := 6) rfl)) (wk_in_8 _ (List.mem_of_getElem? (i := 52) rfl))) rfl rfl rfl (by decide +kernel) ⟨Nat.le_of_ble_eq_true rfl, Nat.le_of_ble_eq_true rfl⟩) hK hDD hA0 hP hS t9 9 (wkT ht9) rfl rfl hl.1 (Nat.le_of_ble_eq_true rfl) dX11_has_27 (fun z10 A11 H locs hw12 hP hS => ?_)
      obtain ⟨rfl, hw12⟩ := hw12
      refine k_callSi (As := [.int (iI z10)]) (rest := []) ⟨hx, hb, hml, hown, hts⟩ hE (kc_J6_bitCount_0f7a4 l dC dI cB cI cJ cZ cQ aL aS q _ z10 hI hw12) (va_cwS 1 hts (goodSk (wk_in_10 _ (List.mem_of_getElem? (i := 48) rfl)) (wk_in_1 _ (List.mem_of_getElem? (i := 17) rfl)) (wk_in_1 _ (List.mem_of_getElem? (i := 18) rfl)) (wk_in_1 _ (List.mem_of_getElem? (i := 19) rfl))) rfl rfl rfl (by decide +kernel) ⟨Nat.le_of_ble_eq_true rfl, Nat.le_of_ble_eq_true rfl⟩) hK hDD hA0 hP hS rfl hl.1 (Nat.le_of_ble_eq_true rfl) dX11_has_30 (fun z13 A14 H locs hw15 hP hS => ?_)
      obtain ⟨rfl, hw15⟩ := hw15
      have hw15 := hw15.2
      exact RET z13 _ _ _ _ _ ⟨rfl, (rb hw15 (by decide) (by decide))⟩ hP hS dX11_has_33
  · have c1 : x1 = 8 := (i_eq hx1 ⟨by decide, by decide⟩).mp c1
    refine lv_aload_n hx hb dX11_has_6 rfl (lv_at hl 0 rfl) ?_
    have r16 : (0 : Int) ≤ (A 0 9) ∧ (A 0 9) ≤ 1 := irK_9 hI
    obtain ⟨t17, et17⟩ : ∃ t : Nat, t = 51 + 31 * ((A 0 9)).toNat := ⟨_, rfl⟩
    have ht17 : isT t17 := by rw [et17]; exact isT.b r16
    refine va_get (D := (dC, dI)) (ci := 11) (v := .ref (q (51 + 31 * (A 0 9).toNat))) (C := RX11) (T := TX11) (N := 11) hx hb hts hiX11 hown hK hP 0 (wkK) rfl 9 (by decide) (hts _ (List.mem_cons_of_mem _ (wk_in_10 _ (List.mem_of_getElem? (i := 36) rfl)))) (fun _ h9 => h9) rfl dX11_has_7 ?_
    refine tp_v (y := .ref (q t17)) (by rw [et17]) ?_
    refine k_calli (As := []) (rest := []) ⟨hx, hb, hml, hown, hts⟩ hE (kc_X9_shutMask l dC dI cB cI cJ cZ cQ aL aS q _ t17 hI ht17) (cwV 0 hts (goodVk (wk_in_10 _ (List.mem_of_getElem? (i := 47) rfl)) (wk_in_8 _ (List.mem_of_getElem? (i := 55) rfl)) (wk_in_8 _ (List.mem_of_getElem? (i := 56) rfl)) (wk_in_0 _ (List.mem_of_getElem? (i := 6) rfl)) (wk_in_8 _ (List.mem_of_getElem? (i := 50) rfl))) rfl rfl rfl (by decide +kernel) ⟨Nat.le_of_ble_eq_true rfl, Nat.le_of_ble_eq_true rfl⟩) hK hDD hA0 hP hS t17 9 (wkT ht17) rfl rfl hl.1 (Nat.le_of_ble_eq_true rfl) dX11_has_10 (fun z18 A19 H locs hw20 hP hS => ?_)
    obtain ⟨rfl, hw20⟩ := hw20
    refine k_callSi (As := [.int (iI z18)]) (rest := []) ⟨hx, hb, hml, hown, hts⟩ hE (kc_J6_bitCount_0f7a4 l dC dI cB cI cJ cZ cQ aL aS q _ z18 hI hw20) (va_cwS 1 hts (goodSk (wk_in_10 _ (List.mem_of_getElem? (i := 48) rfl)) (wk_in_1 _ (List.mem_of_getElem? (i := 17) rfl)) (wk_in_1 _ (List.mem_of_getElem? (i := 18) rfl)) (wk_in_1 _ (List.mem_of_getElem? (i := 19) rfl))) rfl rfl rfl (by decide +kernel) ⟨Nat.le_of_ble_eq_true rfl, Nat.le_of_ble_eq_true rfl⟩) hK hDD hA0 hP hS rfl hl.1 (Nat.le_of_ble_eq_true rfl) dX11_has_13 (fun z21 A22 H locs hw23 hP hS => ?_)
    obtain ⟨rfl, hw23⟩ := hw23
    have hw23 := hw23.2
    exact RET z21 _ _ _ _ _ ⟨rfl, (rb hw23 (by decide) (by decide))⟩ hP hS dX11_has_16
