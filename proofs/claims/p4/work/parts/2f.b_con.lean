abbrev tr_d_X6_placeInRow_2 (K1 : Int → Prop) (z1 : Int) (z : Int) : Prop := (K1 (z1 + 1))
def d_X6_placeInRow_2 (K1 : Int → Prop) (z1 : Int) (z : Int) : Prop := tr_d_X6_placeInRow_2 K1 z1 z
theorem u_d_X6_placeInRow_2 {K1 : Int → Prop} {z1 : Int} {z : Int} (h : tr_d_X6_placeInRow_2 K1 z1 z) : d_X6_placeInRow_2 K1 z1 z := h
abbrev tr_d_X6_placeInRow_1 (ta : Nat) (x1 : Int) (x2 : Int) (A : St) (z : Int) (K1 : Int → Prop) (z1 : Int) : Prop := ((0 ≤ z1 ∧ z1 ≤ 2147483647) ∧ (((6 ≤ z1) ∧ (z = (-1))) ∨ ((¬ 6 ≤ z1) ∧ (((x2 = (-1)) ∧ (d_X6_placeInRow_2 K1 z1 z)) ∨ ((¬ x2 = (-1)) ∧ (∃ z10 : Int, q_X6_inRow ta x1 z1 A z10 ∧ (((¬ z10 = x2) ∧ (d_X6_placeInRow_2 K1 z1 z)) ∨ ((z10 = x2) ∧ (z = z1)))))))))
def d_X6_placeInRow_1 (ta : Nat) (x1 : Int) (x2 : Int) (A : St) (z : Int) : Nat → Int → Prop
  | 0, _ => False
  | nn9 + 1, z1 => tr_d_X6_placeInRow_1 ta x1 x2 A z (fun z1 => d_X6_placeInRow_1 ta x1 x2 A z nn9 z1) z1
theorem u_d_X6_placeInRow_1 {ta : Nat} {x1 : Int} {x2 : Int} {A : St} {z : Int} {nn9 : Nat} {z1 : Int} (h : tr_d_X6_placeInRow_1 ta x1 x2 A z (fun z1 => d_X6_placeInRow_1 ta x1 x2 A z nn9 z1) z1) : d_X6_placeInRow_1 ta x1 x2 A z (nn9 + 1) z1 := h
abbrev tr_r_X6_placeInRow (ta : Nat) (x1 : Int) (x2 : Int) (A : St) (z : Int) : Prop := (∃ nn9 : Nat, d_X6_placeInRow_1 ta x1 x2 A z nn9 0)
def r_X6_placeInRow (ta : Nat) (x1 : Int) (x2 : Int) (A : St) (z : Int) : Prop := tr_r_X6_placeInRow ta x1 x2 A z
theorem u_r_X6_placeInRow {ta : Nat} {x1 : Int} {x2 : Int} {A : St} {z : Int} (h : tr_r_X6_placeInRow ta x1 x2 A z) : r_X6_placeInRow ta x1 x2 A z := h
def q_X6_placeInRow (ta : Nat) (x1 : Int) (x2 : Int) (A : St) (z : Int) : Prop := r_X6_placeInRow ta x1 x2 A z ∧ (-1 ≤ z ∧ z ≤ 5)
def ws_kc_X6_placeInRow : List Cond := .code yX6_placeInRow cX6_placeInRow 4 (some .int) :: WY
set_option maxHeartbeats 4000000 in
set_option maxRecDepth 100000 in
theorem kc_X6_placeInRow (l : Launch) (dC : Nat → ClassId) (dI : Nat → Nat → Nat) (cB cI cJ cZ cQ : ClassId) (aL aS : Nat) (q : Nat → Nat) (A : St) (ta : Nat) (x1 x2 : Int) (hI : IK A) (hta : isS ta) (hx1 : (-2147483648 : Int) ≤ x1 ∧ x1 ≤ 2147483647) (hx2 : (-2147483648 : Int) ≤ x2 ∧ x2 ≤ 2147483647) : KMi l yX6_placeInRow ws_kc_X6_placeInRow ({ frames := 1, cells := 0, slots := 0, locals := 22 } : Room) aL aS (dC, dI) (tyA cB cI cJ cZ cQ) (WK cB cI cJ cZ cQ q) A [.ref (q ta), .int (iI x1), .int (iI x2)] (fun z u => A = u ∧ r_X6_placeInRow ta x1 x2 A z ∧ (-1 ≤ z ∧ z ≤ 5)) := by
  refine k_meti (cc := cX6_placeInRow) (maxL := 4) WK_adr (plainFor_of_name (by decide +kernel)) rfl (Nat.le_of_ble_eq_true rfl) (fun p e s m below meth c Q AS ls hx hb hml hown hts hK hDD hA0 hE RET H locs hP hS hl => ?_)
  have hown : s.vm.findClass RX6 = some m.cls := hown
  have hl : lv_has ls 4 [(0, .ref (q ta)), (1, .int (iI x1)), (2, .int (iI x2))] := hl
  refine lv_iconst (v := iI 0) hx hb dX6_placeInRow_0 (by decide +kernel) ?_
  refine lv_istore_n (lv' := [(3, .int (iI 0)), (0, .ref (q ta)), (1, .int (iI x1)), (2, .int (iI x2))]) hx hb dX6_placeInRow_1 rfl hl (by decide) rfl (fun ls hl => ?_)
  have L2_3 : ∀ (n6 : Nat) (z1 : Int) (H : Heap) (locs : List Loc) (ls : Array Slot), (0 ≤ z1 ∧ z1 ≤ 2147483647) → (∀ (z : Int), (∃ n1 : Nat, (d_X6_placeInRow_1 ta x1 x2 A z n1 z1)) → r_X6_placeInRow ta x1 x2 A z) → ((7 - z1).toNat = n6) → va_P (dC, dI) vwCl (WK cB cI cJ cZ cQ q A) H → va_S AS s.heap H locs → lv_has ls 4 [(3, .int (iI z1)), (0, .ref (q ta)), (1, .int (iI x1)), (2, .int (iI x2))] → W p l e (headSpec ws_kc_X6_placeInRow ({ frames := 1, cells := 0, slots := 0, locals := 22 } : Room)).room s m [.ref (q ta), .int (iI x1), .int (iI x2)].toArray below meth c H locs 0 0 Q (F0 m 2 ls []) := by
    intro n6
    induction n6 using Nat.strongRecOn with
    | ind n6 ih4 =>
      intro z1 H locs ls f5 hk1 hn6 hP hS hl
      refine lv_iload_n hx hb dX6_placeInRow_2 rfl (lv_at hl 0 rfl) ?_
      refine lv_bipush (v := iI 6) hx hb dX6_placeInRow_3 (by decide +kernel) ?_
      refine lv_icmp_ge (tgt := 31) hx hb dX6_placeInRow_5 (by decide) (fun c7 => ?_) (fun c7 => ?_)
      · have c7 : 6 ≤ z1 := (i_le ⟨by decide, by decide⟩ (rb f5 (by decide) (by decide))).mp c7
        refine lv_iconst (v := iI (-1)) hx hb dX6_placeInRow_31 (by decide +kernel) ?_
        exact RET (-1) _ _ _ _ _ ⟨rfl, hk1 _ ⟨0 + 1, (u_d_X6_placeInRow_1 ⟨f5, (Or.inl ⟨c7, rfl⟩)⟩)⟩, by omega⟩ hP hS dX6_placeInRow_32
      · have c7 : ¬ 6 ≤ z1 := mt (i_le ⟨by decide, by decide⟩ (rb f5 (by decide) (by decide))).mpr c7
        refine lv_iload_n hx hb dX6_placeInRow_8 rfl (lv_at hl 3 rfl) ?_
        refine lv_iconst (v := iI (-1)) hx hb dX6_placeInRow_9 (by decide +kernel) ?_
        have J25_9 : ∀ (H : Heap) (locs : List Loc) (ls : Array Slot), (∀ (z : Int), (∃ n1 : Nat, (d_X6_placeInRow_2 (fun z1' => d_X6_placeInRow_1 ta x1 x2 A z n1 z1') z1 z)) → r_X6_placeInRow ta x1 x2 A z) → va_P (dC, dI) vwCl (WK cB cI cJ cZ cQ q A) H → va_S AS s.heap H locs → lv_has ls 4 [(3, .int (iI z1)), (0, .ref (q ta)), (1, .int (iI x1)), (2, .int (iI x2))] → W p l e (headSpec ws_kc_X6_placeInRow ({ frames := 1, cells := 0, slots := 0, locals := 22 } : Room)).room s m [.ref (q ta), .int (iI x1), .int (iI x2)].toArray below meth c H locs 0 0 Q (F0 m 25 ls []) := by
          intro H locs ls hk2 hP hS hl
          refine lv_iinc (v := iI (z1 + 1)) (lv' := [(3, .int (iI (z1 + 1))), (0, .ref (q ta)), (1, .int (iI x1)), (2, .int (iI x2))]) hx hb dX6_placeInRow_25 hl (k := 0) rfl (i_inc (by omega)) (by decide) rfl (fun ls hl => ?_)
          refine lv_goto (tgt := 2) hx hb dX6_placeInRow_28 (by decide) ?_
          exact ih4 _ (by omega) (z1 + 1) _ _ _ (by omega) (fun z9 ⟨n1, h9⟩ => hk2 _ ⟨n1, (u_d_X6_placeInRow_2 h9)⟩) rfl hP hS (lv_sub hl [0, 1, 2, 3] rfl)
        refine lv_icmp_eq (tgt := 25) hx hb dX6_placeInRow_10 (by decide) (fun c8 => ?_) (fun c8 => ?_)
        · have c8 : x2 = (-1) := (i_eq hx2 ⟨by decide, by decide⟩).mp c8
          exact J25_9 _ _ _ (fun z9 ⟨n1, h9⟩ => hk1 _ ⟨n1 + 1, (u_d_X6_placeInRow_1 ⟨f5, (Or.inr ⟨c7, (Or.inl ⟨c8, h9⟩)⟩)⟩)⟩) hP hS (lv_sub hl [0, 1, 2, 3] rfl)
        · have c8 : ¬ x2 = (-1) := mt (i_eq hx2 ⟨by decide, by decide⟩).mpr c8
          refine lv_aload_n hx hb dX6_placeInRow_13 rfl (lv_at hl 1 rfl) ?_
          refine lv_iload_n hx hb dX6_placeInRow_14 rfl (lv_at hl 2 rfl) ?_
          refine lv_iload_n hx hb dX6_placeInRow_15 rfl (lv_at hl 0 rfl) ?_
          refine k_calli (As := [.int (iI x1), .int (iI z1)]) (rest := []) ⟨hx, hb, hml, hown, hts⟩ hE (kc_X6_inRow l dC dI cB cI cJ cZ cQ aL aS q _ ta x1 z1 hI hta hx1 (rb f5 (by decide) (by decide))) (cwV 2 hts (goodVk (wk_in_0 _ (List.mem_of_getElem? (i := 54) rfl)) (wk_in_0 _ (List.mem_of_getElem? (i := 55) rfl)) (wk_in_0 _ (List.mem_of_getElem? (i := 56) rfl)) (wk_in_0 _ (List.mem_of_getElem? (i := 52) rfl)) (wk_in_0 _ (List.mem_of_getElem? (i := 57) rfl))) rfl rfl rfl (by decide +kernel) ⟨Nat.le_of_ble_eq_true rfl, Nat.le_of_ble_eq_true rfl⟩) hK hDD hA0 hP hS ta 6 (wkS hta) rfl rfl hl.1 (Nat.le_of_ble_eq_true rfl) dX6_placeInRow_16 (fun z10 A11 H locs hw12 hP hS => ?_)
          obtain ⟨rfl, hw12⟩ := hw12
          have ghw12 : q_X6_inRow ta x1 z1 A z10 := hw12
          have hw12 := hw12.2
          refine lv_iload_n hx hb dX6_placeInRow_19 rfl (lv_at hl 3 rfl) ?_
          refine lv_icmp_ne (tgt := 25) hx hb dX6_placeInRow_20 (by decide) (fun c13 => ?_) (fun c13 => ?_)
          · have c13 : ¬ z10 = x2 := mt (i_eq (by omega) hx2).mpr c13
            exact J25_9 _ _ _ (fun z9 ⟨n1, h9⟩ => hk1 _ ⟨n1 + 1, (u_d_X6_placeInRow_1 ⟨f5, (Or.inr ⟨c7, (Or.inr ⟨c8, ⟨z10, ghw12, (Or.inl ⟨c13, h9⟩)⟩⟩)⟩)⟩)⟩) hP hS (lv_sub hl [0, 1, 2, 3] rfl)
          · have c13 : z10 = x2 := (i_eq (by omega) hx2).mp c13
            refine lv_iload_n hx hb dX6_placeInRow_23 rfl (lv_at hl 0 rfl) ?_
            exact RET z1 _ _ _ _ _ ⟨rfl, hk1 _ ⟨0 + 1, (u_d_X6_placeInRow_1 ⟨f5, (Or.inr ⟨c7, (Or.inr ⟨c8, ⟨z10, ghw12, (Or.inr ⟨c13, rfl⟩)⟩⟩)⟩)⟩)⟩, by omega⟩ hP hS dX6_placeInRow_24
  exact L2_3 _ 0 _ _ _ (by omega) (fun z9 ⟨n1, h9⟩ => (u_r_X6_placeInRow ⟨n1, h9⟩)) rfl hP hS (lv_sub hl [0, 1, 2, 3] rfl)

abbrev tr_r_X6_push (ta : Nat) (x1 : Int) (x2 : Int) (A : St) (z : Int) (u : St) : Prop := (((x1 < 0) ∧ (z = 0 ∧ u = A)) ∨ ((¬ x1 < 0) ∧ (((4 ≤ x1) ∧ (z = 0 ∧ u = A)) ∨ ((¬ 4 ≤ x1) ∧ (∃ z3 : Int, q_X6_placeInRow ta x1 x2 A z3 ∧ (((z3 = (-1)) ∧ (∃ z7 : Int, z7 = A (ta + 3) (x1).toNat ∧ (((z7 < 6) ∧ (∃ A10 : St, A10 = stA A (ta + 5 + (x1).toNat) (z7).toNat x2 ∧ (∃ A11 : St, A11 = stA A10 (ta + 3) (x1).toNat (z7 + 1) ∧ (z = 1 ∧ u = A11)))) ∨ ((¬ z7 < 6) ∧ (z = 0 ∧ u = A))))) ∨ ((¬ z3 = (-1)) ∧ (z = 0 ∧ u = A))))))))
def r_X6_push (ta : Nat) (x1 : Int) (x2 : Int) (A : St) (z : Int) (u : St) : Prop := tr_r_X6_push ta x1 x2 A z u
theorem u_r_X6_push {ta : Nat} {x1 : Int} {x2 : Int} {A : St} {z : Int} {u : St} (h : tr_r_X6_push ta x1 x2 A z u) : r_X6_push ta x1 x2 A z u := h
def q_X6_push (ta : Nat) (x1 : Int) (x2 : Int) (A : St) (z : Int) (u : St) : Prop := r_X6_push ta x1 x2 A z u ∧ IK u ∧ fk [35, 37, 38, 39, 40, 44, 46, 47, 48, 49, 76, 78, 79, 80, 81, 107, 109, 110, 111, 112] [] A u ∧ (0 ≤ z ∧ z ≤ 1)
def ws_kc_X6_push : List Cond := .code yX6_push cX6_push 4 (some .boolean) :: WY
set_option maxHeartbeats 4000000 in
set_option maxRecDepth 100000 in
theorem kc_X6_push (l : Launch) (dC : Nat → ClassId) (dI : Nat → Nat → Nat) (cB cI cJ cZ cQ : ClassId) (aL aS : Nat) (q : Nat → Nat) (A : St) (ta : Nat) (x1 x2 : Int) (hI : IK A) (hta : isS ta) (hx1 : (-2147483648 : Int) ≤ x1 ∧ x1 ≤ 2147483647) (hx2 : (-2147483648 : Int) ≤ x2 ∧ x2 ≤ 2147483647) : KMi l yX6_push ws_kc_X6_push ({ frames := 2, cells := 0, slots := 0, locals := 45 } : Room) aL aS (dC, dI) (tyA cB cI cJ cZ cQ) (WK cB cI cJ cZ cQ q) A [.ref (q ta), .int (iI x1), .int (iI x2)] (fun z u => r_X6_push ta x1 x2 A z u ∧ IK u ∧ fk [35, 37, 38, 39, 40, 44, 46, 47, 48, 49, 76, 78, 79, 80, 81, 107, 109, 110, 111, 112] [] A u ∧ (0 ≤ z ∧ z ≤ 1)) := by
  refine k_metz (cc := cX6_push) (maxL := 4) WK_adr (plainFor_of_name (by decide +kernel)) rfl (Nat.le_of_ble_eq_true rfl) (fun z u h => h.2.2.2) (fun p e s m below meth c Q AS ls hx hb hml hown hts hK hDD hA0 hE RET H locs hP hS hl => ?_)
  have hown : s.vm.findClass RX6 = some m.cls := hown
  have hl : lv_has ls 4 [(0, .ref (q ta)), (1, .int (iI x1)), (2, .int (iI x2))] := hl
  have hiX6 : ∀ w ∈ u_ws RX6 TX6 4, w ∈ ws_kc_X6_push := fun w h => List.mem_cons_of_mem _ (wy_layX6 w h)
  refine lv_iload_n hx hb dX6_push_0 rfl (lv_at hl 1 rfl) ?_
  refine lv_if_lt (tgt := 19) hx hb dX6_push_1 (by decide) (fun c1 => ?_) (fun c1 => ?_)
  · have c1 : x1 < 0 := (i_lt0 hx1).mp c1
    refine lv_iconst (v := iI 0) hx hb dX6_push_19 (by decide +kernel) ?_
    exact RET 0 _ _ _ _ _ ⟨(u_r_X6_push (Or.inl ⟨c1, ⟨rfl, rfl⟩⟩)), hI, fk.rf, ⟨by decide, by decide⟩⟩ hP hS dX6_push_20
  · have c1 : ¬ x1 < 0 := mt (i_lt0 hx1).mpr c1
    refine lv_iload_n hx hb dX6_push_4 rfl (lv_at hl 1 rfl) ?_
    refine lv_iconst (v := iI 4) hx hb dX6_push_5 (by decide +kernel) ?_
    refine lv_icmp_ge (tgt := 19) hx hb dX6_push_6 (by decide) (fun c2 => ?_) (fun c2 => ?_)
    · have c2 : 4 ≤ x1 := (i_le ⟨by decide, by decide⟩ hx1).mp c2
      refine lv_iconst (v := iI 0) hx hb dX6_push_19 (by decide +kernel) ?_
      exact RET 0 _ _ _ _ _ ⟨(u_r_X6_push (Or.inr ⟨c1, (Or.inl ⟨c2, ⟨rfl, rfl⟩⟩)⟩)), hI, fk.rf, ⟨by decide, by decide⟩⟩ hP hS dX6_push_20
    · have c2 : ¬ 4 ≤ x1 := mt (i_le ⟨by decide, by decide⟩ hx1).mpr c2
      refine lv_aload_n hx hb dX6_push_9 rfl (lv_at hl 0 rfl) ?_
      refine lv_iload_n hx hb dX6_push_10 rfl (lv_at hl 1 rfl) ?_
      refine lv_iload_n hx hb dX6_push_11 rfl (lv_at hl 2 rfl) ?_
      refine k_calli (As := [.int (iI x1), .int (iI x2)]) (rest := []) ⟨hx, hb, hml, hown, hts⟩ hE (kc_X6_placeInRow l dC dI cB cI cJ cZ cQ aL aS q _ ta x1 x2 hI hta hx1 hx2) (cwV 2 hts (goodVk (wk_in_4 _ (List.mem_of_getElem? (i := 58) rfl)) (wk_in_4 _ (List.mem_of_getElem? (i := 59) rfl)) (wk_in_5 _ (List.mem_of_getElem? (i := 0) rfl)) (wk_in_0 _ (List.mem_of_getElem? (i := 52) rfl)) (wk_in_5 _ (List.mem_of_getElem? (i := 1) rfl))) rfl rfl rfl (by decide +kernel) ⟨Nat.le_of_ble_eq_true rfl, Nat.le_of_ble_eq_true rfl⟩) hK hDD hA0 hP hS ta 6 (wkS hta) rfl rfl hl.1 (Nat.le_of_ble_eq_true rfl) dX6_push_12 (fun z3 A4 H locs hw5 hP hS => ?_)
      obtain ⟨rfl, hw5⟩ := hw5
      have ghw5 : q_X6_placeInRow ta x1 x2 A z3 := hw5
      have hw5 := hw5.2
      refine lv_iconst (v := iI (-1)) hx hb dX6_push_15 (by decide +kernel) ?_
      refine lv_icmp_eq (tgt := 21) hx hb dX6_push_16 (by decide) (fun c6 => ?_) (fun c6 => ?_)
      · have c6 : z3 = (-1) := (i_eq (rb hw5 (by decide) (by decide)) ⟨by decide, by decide⟩).mp c6
        refine lv_aload_n hx hb dX6_push_21 rfl (lv_at hl 0 rfl) ?_
        refine va_get (D := (dC, dI)) (ci := 6) (v := .ref (q (ta + 3))) (C := RX6) (T := TX6) (N := 4) hx hb hts hiX6 hown hK hP ta (wkS hta) rfl 2 (by decide) (hts _ (List.mem_cons_of_mem _ (wk_in_0 _ (List.mem_of_getElem? (i := 58) rfl)))) (fun _ h9 => h9) rfl dX6_push_22 ?_
        refine lv_iload_n hx hb dX6_push_25 rfl (lv_at hl 1 rfl) ?_
        refine x_iald (Wf := WK cB cI cJ cZ cQ q) hx hb hK hP (ta + 3) 1 (wkSz hta) rfl (by omega) (by decide) dX6_push_26 (fun z7 hz7 => ?_)
        have rz7 : (0 : Int) ≤ z7 ∧ z7 ≤ 6 := by rw [hz7]; exact irSz hta hI
        have gz7 := Hd.mk hz7
        refine lv_istore_n (lv' := [(3, .int (iI z7)), (0, .ref (q ta)), (1, .int (iI x1)), (2, .int (iI x2))]) hx hb dX6_push_27 rfl hl (by decide) rfl (fun ls hl => ?_)
        refine lv_iload_n hx hb dX6_push_28 rfl (lv_at hl 0 rfl) ?_
        refine lv_if_lt (tgt := 38) hx hb dX6_push_29 (by decide) (fun c8 => False.elim (by have c8 : z7 < 0 := (i_lt0 (rb rz7 (by decide) (by decide))).mp c8; omega)) (fun _ => ?_)
        refine lv_iload_n hx hb dX6_push_32 rfl (lv_at hl 0 rfl) ?_
        refine lv_bipush (v := iI 6) hx hb dX6_push_33 (by decide +kernel) ?_
        refine lv_icmp_lt (tgt := 40) hx hb dX6_push_35 (by decide) (fun c9 => ?_) (fun c9 => ?_)
        · have c9 : z7 < 6 := (i_lt (rb rz7 (by decide) (by decide)) ⟨by decide, by decide⟩).mp c9
          refine lv_aload_n hx hb dX6_push_40 rfl (lv_at hl 1 rfl) ?_
          refine va_get (D := (dC, dI)) (ci := 6) (v := .ref (q (ta + 4))) (C := RX6) (T := TX6) (N := 4) hx hb hts hiX6 hown hK hP ta (wkS hta) rfl 3 (by decide) (hts _ (List.mem_cons_of_mem _ (wk_in_0 _ (List.mem_of_getElem? (i := 59) rfl)))) (fun _ h9 => h9) rfl dX6_push_41 ?_
          refine lv_iload_n hx hb dX6_push_44 rfl (lv_at hl 2 rfl) ?_
          refine k_aald (Wf := WK cB cI cJ cZ cQ q) hx hb hK hP (ta + 4) 4 (wkSq hta) rfl (by omega) (by decide) (b := q (ta + 5 + (x1).toNat)) (by rcases (show x1 = 0 ∨ x1 = 1 ∨ x1 = 2 ∨ x1 = 3 by omega) with h | h | h | h <;> rw [h] <;> rfl) dX6_push_45 ?_
          refine lv_iload_n hx hb dX6_push_46 rfl (lv_at hl 0 rfl) ?_
          refine lv_iload_n hx hb dX6_push_47 rfl (lv_at hl 3 rfl) ?_
          refine k_iast (Wf := WK cB cI cJ cZ cQ q) hx hb hK hP hDD hS (ta + 5 + (x1).toNat) 1 (wkSr hta (i := x1) (by omega)) rfl (by omega) (by decide) dX6_push_48 (wsSr hta (i := x1) (by omega)) (fun H locs A10 hA10 hP hS => ?_)
          have hI := isSr hta (i := x1) (by omega) hA10 hI (show (-2147483648 : Int) ≤ x2 ∧ x2 ≤ 2147483647 from hx2)
          refine lv_aload_n hx hb dX6_push_49 rfl (lv_at hl 1 rfl) ?_
          refine va_get (D := (dC, dI)) (ci := 6) (v := .ref (q (ta + 3))) (C := RX6) (T := TX6) (N := 4) hx hb hts hiX6 hown hK hP ta (wkS hta) rfl 2 (by decide) (hts _ (List.mem_cons_of_mem _ (wk_in_0 _ (List.mem_of_getElem? (i := 58) rfl)))) (fun _ h9 => h9) rfl dX6_push_50 ?_
          refine lv_iload_n hx hb dX6_push_53 rfl (lv_at hl 2 rfl) ?_
          refine lv_iload_n hx hb dX6_push_54 rfl (lv_at hl 0 rfl) ?_
          refine lv_iconst (v := iI 1) hx hb dX6_push_55 (by decide +kernel) ?_
          refine x_addv (v := z7 + 1) hx hb dX6_push_56 (by omega) ?_
          refine k_iast (Wf := WK cB cI cJ cZ cQ q) hx hb hK hP hDD hS (ta + 3) 1 (wkSz hta) rfl (by omega) (by decide) dX6_push_57 (wsSz hta) (fun H locs A11 hA11 hP hS => ?_)
          have hI := isSz hta hA11 hI (show (0 : Int) ≤ z7 + 1 ∧ z7 + 1 ≤ 6 from (by omega))
          refine lv_iconst (v := iI 1) hx hb dX6_push_58 (by decide +kernel) ?_
          exact RET 1 _ _ _ _ _ ⟨(u_r_X6_push (Or.inr ⟨c1, (Or.inr ⟨c2, ⟨z3, ghw5, (Or.inl ⟨c6, ⟨z7, gz7.out, (Or.inl ⟨c9, ⟨A10, hA10, ⟨A11, hA11, ⟨rfl, rfl⟩⟩⟩⟩)⟩⟩)⟩⟩)⟩)), hI, fk.da (fk.da (fk.rf) hA10 (by rcases hta with h | h | h | h <;> rw [h] <;> rcases (show x1 = 0 ∨ x1 = 1 ∨ x1 = 2 ∨ x1 = 3 by omega) with g | g | g | g <;> rw [g] <;> rfl)) hA11 (isS.b2 (o := fun b => List.contains [35, 37, 38, 39, 40, 44, 46, 47, 48, 49, 76, 78, 79, 80, 81, 107, 109, 110, 111, 112] (b + 3)) hta rfl rfl rfl rfl), ⟨by decide, by decide⟩⟩ hP hS dX6_push_59
        · have c9 : ¬ z7 < 6 := mt (i_lt (rb rz7 (by decide) (by decide)) ⟨by decide, by decide⟩).mpr c9
          refine lv_iconst (v := iI 0) hx hb dX6_push_38 (by decide +kernel) ?_
          exact RET 0 _ _ _ _ _ ⟨(u_r_X6_push (Or.inr ⟨c1, (Or.inr ⟨c2, ⟨z3, ghw5, (Or.inl ⟨c6, ⟨z7, gz7.out, (Or.inr ⟨c9, ⟨rfl, rfl⟩⟩)⟩⟩)⟩⟩)⟩)), hI, fk.rf, ⟨by decide, by decide⟩⟩ hP hS dX6_push_39
      · have c6 : ¬ z3 = (-1) := mt (i_eq (rb hw5 (by decide) (by decide)) ⟨by decide, by decide⟩).mpr c6
        refine lv_iconst (v := iI 0) hx hb dX6_push_19 (by decide +kernel) ?_
        exact RET 0 _ _ _ _ _ ⟨(u_r_X6_push (Or.inr ⟨c1, (Or.inr ⟨c2, ⟨z3, ghw5, (Or.inr ⟨c6, ⟨rfl, rfl⟩⟩)⟩⟩)⟩)), hI, fk.rf, ⟨by decide, by decide⟩⟩ hP hS dX6_push_20

def ws_kc_X4_acceptKey : List Cond := .code yX4_acceptKey cX4_acceptKey 9 (some .boolean) :: WY
set_option maxHeartbeats 4000000 in
set_option maxRecDepth 100000 in
theorem kc_X4_acceptKey (l : Launch) (dC : Nat → ClassId) (dI : Nat → Nat → Nat) (cB cI cJ cZ cQ : ClassId) (aL aS : Nat) (q : Nat → Nat) (A : St) (ta : Nat) (x3 x4 : Int) (hI : IK A) (hta : isT ta) (hx3 : (0 : Int) ≤ x3 ∧ x3 ≤ 3) (hx4 : (-2147483648 : Int) ≤ x4 ∧ x4 ≤ 2147483647) : KMi l yX4_acceptKey ws_kc_X4_acceptKey ({ frames := 3, cells := 0, slots := 0, locals := 68 } : Room) aL aS (dC, dI) (tyA cB cI cJ cZ cQ) (WK cB cI cJ cZ cQ q) A [.ref (q 30), .ref (q ta), .ref (q 1), .int (iI x3), .int (iI x4)] (fun z u => IK u ∧ fk [34, 35, 37, 38, 39, 40, 43, 44, 46, 47, 48, 49, 75, 76, 78, 79, 80, 81, 106, 107, 109, 110, 111, 112] [] A u ∧ (0 ≤ z ∧ z ≤ 1)) := by
  refine k_metz (cc := cX4_acceptKey) (maxL := 9) WK_adr (plainFor_of_name (by decide +kernel)) rfl (Nat.le_of_ble_eq_true rfl) (fun z u h => h.2.2) (fun p e s m below meth c Q AS ls hx hb hml hown hts hK hDD hA0 hE RET H locs hP hS hl => ?_)
  have hown : s.vm.findClass RX4 = some m.cls := hown
  have hl : lv_has ls 9 [(0, .ref (q 30)), (1, .ref (q ta)), (2, .ref (q 1)), (3, .int (iI x3)), (4, .int (iI x4))] := hl
  have hiX4 : ∀ w ∈ u_ws RX4 TX4 3, w ∈ ws_kc_X4_acceptKey := fun w h => List.mem_cons_of_mem _ (wy_layX4 w h)
  have hiX6 : ∀ w ∈ u_ws RX6 TX6 4, w ∈ ws_kc_X4_acceptKey := fun w h => List.mem_cons_of_mem _ (wy_layX6 w h)
  refine lv_aload_n hx hb dX4_acceptKey_0 rfl (lv_at hl 2 rfl) ?_
  refine lv_iload hx hb dX4_acceptKey_1 (lv_at hl 4 rfl) ?_
  refine k_calli (As := [.int (iI x4)]) (rest := []) ⟨hx, hb, hml, hown, hts⟩ hE (kc_X7_at l dC dI cB cI cJ cZ cQ aL aS q _ x4 hI hx4) (cwV 1 hts (goodVk (wk_in_4 _ (List.mem_of_getElem? (i := 38) rfl)) (wk_in_4 _ (List.mem_of_getElem? (i := 39) rfl)) (wk_in_4 _ (List.mem_of_getElem? (i := 40) rfl)) (wk_in_4 _ (List.mem_of_getElem? (i := 41) rfl)) (wk_in_4 _ (List.mem_of_getElem? (i := 42) rfl))) rfl rfl rfl (by decide +kernel) ⟨Nat.le_of_ble_eq_true rfl, Nat.le_of_ble_eq_true rfl⟩) hK hDD hA0 hP hS 1 7 (wkTP) rfl rfl hl.1 (Nat.le_of_ble_eq_true rfl) dX4_acceptKey_3 (fun z1 A2 H locs hw3 hP hS => ?_)
  obtain ⟨rfl, hw3⟩ := hw3
  refine lv_istore (lv' := [(5, .int (iI z1)), (0, .ref (q 30)), (1, .ref (q ta)), (2, .ref (q 1)), (3, .int (iI x3)), (4, .int (iI x4))]) hx hb dX4_acceptKey_6 hl (by decide) rfl (fun ls hl => ?_)
  refine lv_aload_n hx hb dX4_acceptKey_8 rfl (lv_at hl 3 rfl) ?_
  refine lv_iload hx hb dX4_acceptKey_9 (lv_at hl 5 rfl) ?_
  refine lv_iconst (v := iI 1) hx hb dX4_acceptKey_11 (by decide +kernel) ?_
  refine x_addv (v := x4 + 1) hx hb dX4_acceptKey_12 (by omega) ?_
  refine x_abs (fun z4 hz4 => ?_)
  refine k_calli (As := [.int (iI z4)]) (rest := []) ⟨hx, hb, hml, hown, hts⟩ hE (kc_X7_at l dC dI cB cI cJ cZ cQ aL aS q _ z4 hI hz4) (cwV 1 hts (goodVk (wk_in_4 _ (List.mem_of_getElem? (i := 38) rfl)) (wk_in_4 _ (List.mem_of_getElem? (i := 39) rfl)) (wk_in_4 _ (List.mem_of_getElem? (i := 40) rfl)) (wk_in_4 _ (List.mem_of_getElem? (i := 41) rfl)) (wk_in_4 _ (List.mem_of_getElem? (i := 42) rfl))) rfl rfl rfl (by decide +kernel) ⟨Nat.le_of_ble_eq_true rfl, Nat.le_of_ble_eq_true rfl⟩) hK hDD hA0 hP hS 1 7 (wkTP) rfl rfl hl.1 (Nat.le_of_ble_eq_true rfl) dX4_acceptKey_13 (fun z5 A6 H locs hw7 hP hS => ?_)
  obtain ⟨rfl, hw7⟩ := hw7
  refine lv_istore (lv' := [(6, .int (iI z5)), (5, .int (iI z1)), (0, .ref (q 30)), (1, .ref (q ta)), (2, .ref (q 1)), (3, .int (iI x3)), (4, .int (iI x4))]) hx hb dX4_acceptKey_16 hl (by decide) rfl (fun ls hl => ?_)
  refine lv_aload_n hx hb dX4_acceptKey_18 rfl (lv_at hl 3 rfl) ?_
  refine lv_iload hx hb dX4_acceptKey_19 (lv_at hl 1 rfl) ?_
  refine k_callSi (As := [.ref (q ta), .int (iI z1)]) (rest := []) ⟨hx, hb, hml, hown, hts⟩ hE (kc_X4_isWhere l dC dI cB cI cJ cZ cQ aL aS q _ ta z1 hI hta (rb hw3 (by decide) (by decide))) (va_cwS 2 hts (goodSk (wk_in_4 _ (List.mem_of_getElem? (i := 50) rfl)) (wk_in_4 _ (List.mem_of_getElem? (i := 51) rfl)) (wk_in_4 _ (List.mem_of_getElem? (i := 23) rfl)) (wk_in_4 _ (List.mem_of_getElem? (i := 52) rfl))) rfl rfl rfl (by decide +kernel) ⟨Nat.le_of_ble_eq_true rfl, Nat.le_of_ble_eq_true rfl⟩) hK hDD hA0 hP hS rfl hl.1 (Nat.le_of_ble_eq_true rfl) dX4_acceptKey_21 (fun z8 A9 H locs hw10 hP hS => ?_)
  obtain ⟨rfl, hw10⟩ := hw10
  refine lv_if_eq (tgt := 39) hx hb dX4_acceptKey_24 (by decide) (fun c11 => ?_) (fun c11 => ?_)
  · have c11 : z8 = 0 := (i_eq0 (rb hw10 (by decide) (by decide))).mp c11
    refine lv_iconst (v := iI 0) hx hb dX4_acceptKey_39 (by decide +kernel) ?_
    exact RET 0 _ _ _ _ _ ⟨hI, fk.rf, ⟨by decide, by decide⟩⟩ hP hS dX4_acceptKey_40
  · have c11 : ¬ z8 = 0 := mt (i_eq0 (rb hw10 (by decide) (by decide))).mpr c11
    refine lv_iload hx hb dX4_acceptKey_27 (lv_at hl 0 rfl) ?_
    refine lv_if_lt (tgt := 39) hx hb dX4_acceptKey_29 (by decide) (fun c12 => ?_) (fun c12 => ?_)
    · have c12 : z5 < 0 := (i_lt0 (rb hw7 (by decide) (by decide))).mp c12
      refine lv_iconst (v := iI 0) hx hb dX4_acceptKey_39 (by decide +kernel) ?_
      exact RET 0 _ _ _ _ _ ⟨hI, fk.rf, ⟨by decide, by decide⟩⟩ hP hS dX4_acceptKey_40
    · have c12 : ¬ z5 < 0 := mt (i_lt0 (rb hw7 (by decide) (by decide))).mpr c12
      refine lv_iload hx hb dX4_acceptKey_32 (lv_at hl 0 rfl) ?_
      refine lv_bipush (v := iI 6) hx hb dX4_acceptKey_34 (by decide +kernel) ?_
      refine lv_icmp_le (tgt := 41) hx hb dX4_acceptKey_36 (by decide) (fun c13 => ?_) (fun c13 => ?_)
      · have c13 : z5 ≤ 6 := (i_le (rb hw7 (by decide) (by decide)) ⟨by decide, by decide⟩).mp c13
        refine lv_aload_n hx hb dX4_acceptKey_41 rfl (lv_at hl 2 rfl) ?_
        refine va_get (D := (dC, dI)) (ci := 4) (v := .ref (q 32)) (C := RX4) (T := TX4) (N := 3) hx hb hts hiX4 hown hK hP 30 (wkPC) rfl 1 (by decide) (hts _ (List.mem_cons_of_mem _ (wk_in_4 _ (List.mem_of_getElem? (i := 30) rfl)))) (fun _ h9 => h9) rfl dX4_acceptKey_42 ?_
        refine va_get (D := (dC, dI)) (ci := 6) (v := .ref (q (32 + 2))) (C := RX6) (T := TX6) (N := 4) hx hb hts hiX6 hown hK hP 32 (wkS isS32) rfl 1 (by decide) (hts _ (List.mem_cons_of_mem _ (wk_in_4 _ (List.mem_of_getElem? (i := 17) rfl)))) (fun _ h9 => h9) rfl dX4_acceptKey_45 ?_
        refine lv_iload_n hx hb dX4_acceptKey_48 rfl (lv_at hl 5 rfl) ?_
        refine lv_iload hx hb dX4_acceptKey_49 (lv_at hl 1 rfl) ?_
        refine k_iast (Wf := WK cB cI cJ cZ cQ q) hx hb hK hP hDD hS (32 + 2) 1 (wkSw isS32) rfl (by omega) (by decide) dX4_acceptKey_51 (wsSw isS32) (fun H locs A14 hA14 hP hS => ?_)
        have hI := isSw isS32 hA14 hI (show (-2147483648 : Int) ≤ z1 ∧ z1 ≤ 2147483647 from (rb hw3 (by decide) (by decide)))
        refine lv_aload_n hx hb dX4_acceptKey_52 rfl (lv_at hl 2 rfl) ?_
        refine va_get (D := (dC, dI)) (ci := 4) (v := .ref (q 32)) (C := RX4) (T := TX4) (N := 3) hx hb hts hiX4 hown hK hP 30 (wkPC) rfl 1 (by decide) (hts _ (List.mem_cons_of_mem _ (wk_in_4 _ (List.mem_of_getElem? (i := 30) rfl)))) (fun _ h9 => h9) rfl dX4_acceptKey_53 ?_
        refine va_get (D := (dC, dI)) (ci := 6) (v := .ref (q (32 + 3))) (C := RX6) (T := TX6) (N := 4) hx hb hts hiX6 hown hK hP 32 (wkS isS32) rfl 2 (by decide) (hts _ (List.mem_cons_of_mem _ (wk_in_4 _ (List.mem_of_getElem? (i := 18) rfl)))) (fun _ h9 => h9) rfl dX4_acceptKey_56 ?_
        refine lv_iload_n hx hb dX4_acceptKey_59 rfl (lv_at hl 5 rfl) ?_
        refine lv_iconst (v := iI 0) hx hb dX4_acceptKey_60 (by decide +kernel) ?_
        refine k_iast (Wf := WK cB cI cJ cZ cQ q) hx hb hK hP hDD hS (32 + 3) 1 (wkSz isS32) rfl (by omega) (by decide) dX4_acceptKey_61 (wsSz isS32) (fun H locs A15 hA15 hP hS => ?_)
        have hI := isSz isS32 hA15 hI (show (0 : Int) ≤ 0 ∧ 0 ≤ 6 from ⟨by decide, by decide⟩)
        refine lv_iconst (v := iI 0) hx hb dX4_acceptKey_62 (by decide +kernel) ?_
        refine lv_istore (lv' := [(7, .int (iI 0)), (6, .int (iI z5)), (5, .int (iI z1)), (0, .ref (q 30)), (1, .ref (q ta)), (2, .ref (q 1)), (3, .int (iI x3)), (4, .int (iI x4))]) hx hb dX4_acceptKey_63 hl (by decide) rfl (fun ls hl => ?_)
        have L65_19 : ∀ (n22 : Nat) (z16 : Int) (A18 : St) (H : Heap) (locs : List Loc) (ls : Array Slot), (0 ≤ z16 ∧ z16 ≤ 2147483647) → ((7 - z16).toNat = n22) → IK A18 → fk [35, 37, 38, 39, 40, 44, 46, 47, 48, 49, 76, 78, 79, 80, 81, 107, 109, 110, 111, 112] [] A15 A18 → va_P (dC, dI) vwCl (WK cB cI cJ cZ cQ q A18) H → va_S AS s.heap H locs → lv_has ls 9 [(7, .int (iI z16)), (6, .int (iI z5)), (5, .int (iI z1)), (0, .ref (q 30)), (1, .ref (q ta)), (2, .ref (q 1)), (3, .int (iI x3)), (4, .int (iI x4))] → W p l e (headSpec ws_kc_X4_acceptKey ({ frames := 3, cells := 0, slots := 0, locals := 68 } : Room)).room s m [.ref (q 30), .ref (q ta), .ref (q 1), .int (iI x3), .int (iI x4)].toArray below meth c H locs 0 0 Q (F0 m 65 ls []) := by
          intro n22
          induction n22 using Nat.strongRecOn with
          | ind n22 ih20 =>
            intro z16 A18 H locs ls f21 hn22 hI hj17 hP hS hl
            refine lv_iload hx hb dX4_acceptKey_65 (lv_at hl 0 rfl) ?_
            refine lv_iload hx hb dX4_acceptKey_67 (lv_at hl 1 rfl) ?_
            refine lv_icmp_ge (tgt := 116) hx hb dX4_acceptKey_69 (by decide) (fun c23 => ?_) (fun c23 => ?_)
            · have c23 : z5 ≤ z16 := (i_le (rb hw7 (by decide) (by decide)) (rb f21 (by decide) (by decide))).mp c23
              refine lv_iconst (v := iI 1) hx hb dX4_acceptKey_116 (by decide +kernel) ?_
              exact RET 1 _ _ _ _ _ ⟨hI, fk.trans (fk.da (fk.da (fk.rf) hA14 (isS.b2 (o := fun b => List.contains [34, 35, 37, 38, 39, 40, 43, 44, 46, 47, 48, 49, 75, 76, 78, 79, 80, 81, 106, 107, 109, 110, 111, 112] (b + 2)) isS32 rfl rfl rfl rfl)) hA15 (isS.b2 (o := fun b => List.contains [34, 35, 37, 38, 39, 40, 43, 44, 46, 47, 48, 49, 75, 76, 78, 79, 80, 81, 106, 107, 109, 110, 111, 112] (b + 3)) isS32 rfl rfl rfl rfl)) hj17 rfl rfl, ⟨by decide, by decide⟩⟩ hP hS dX4_acceptKey_117
            · have c23 : ¬ z5 ≤ z16 := mt (i_le (rb hw7 (by decide) (by decide)) (rb f21 (by decide) (by decide))).mpr c23
              refine lv_aload_n hx hb dX4_acceptKey_72 rfl (lv_at hl 5 rfl) ?_
              refine lv_iload hx hb dX4_acceptKey_73 (lv_at hl 7 rfl) ?_
              refine lv_iconst (v := iI 2) hx hb dX4_acceptKey_75 (by decide +kernel) ?_
              refine x_addv (v := x4 + 2) hx hb dX4_acceptKey_76 (by omega) ?_
              refine x_abs (fun z24 hz24 => ?_)
              refine lv_iload hx hb dX4_acceptKey_77 (lv_at hl 0 rfl) ?_
              refine x_addv (v := z24 + z16) hx hb dX4_acceptKey_79 (by omega) ?_
              refine x_abs (fun z25 hz25 => ?_)
              refine k_calli (As := [.int (iI z25)]) (rest := []) ⟨hx, hb, hml, hown, hts⟩ hE (kc_X7_at l dC dI cB cI cJ cZ cQ aL aS q _ z25 hI hz25) (cwV 1 hts (goodVk (wk_in_4 _ (List.mem_of_getElem? (i := 38) rfl)) (wk_in_4 _ (List.mem_of_getElem? (i := 39) rfl)) (wk_in_4 _ (List.mem_of_getElem? (i := 40) rfl)) (wk_in_4 _ (List.mem_of_getElem? (i := 41) rfl)) (wk_in_4 _ (List.mem_of_getElem? (i := 42) rfl))) rfl rfl rfl (by decide +kernel) ⟨Nat.le_of_ble_eq_true rfl, Nat.le_of_ble_eq_true rfl⟩) hK hDD hA0 hP hS 1 7 (wkTP) rfl rfl hl.1 (Nat.le_of_ble_eq_true rfl) dX4_acceptKey_80 (fun z26 A27 H locs hw28 hP hS => ?_)
              obtain ⟨rfl, hw28⟩ := hw28
              refine lv_istore (lv' := [(8, .int (iI z26)), (7, .int (iI z16)), (6, .int (iI z5)), (5, .int (iI z1)), (0, .ref (q 30)), (1, .ref (q ta)), (2, .ref (q 1)), (3, .int (iI x3)), (4, .int (iI x4))]) hx hb dX4_acceptKey_83 hl (by decide) rfl (fun ls hl => ?_)
              refine lv_aload_n hx hb dX4_acceptKey_85 rfl (lv_at hl 5 rfl) ?_
              refine lv_iconst (v := iI 1) hx hb dX4_acceptKey_86 (by decide +kernel) ?_
              refine lv_iload hx hb dX4_acceptKey_87 (lv_at hl 0 rfl) ?_
              refine k_calli (As := [.int (iI 1), .int (iI z26)]) (rest := []) ⟨hx, hb, hml, hown, hts⟩ hE (kc_X9_isThere_1_1 l dC dI cB cI cJ cZ cQ aL aS q _ ta z26 hI hta (rb hw28 (by decide) (by decide))) (cwV 2 hts (goodVk (wk_in_4 _ (List.mem_of_getElem? (i := 45) rfl)) (wk_in_0 _ (List.mem_of_getElem? (i := 22) rfl)) (wk_in_0 _ (List.mem_of_getElem? (i := 23) rfl)) (wk_in_0 _ (List.mem_of_getElem? (i := 6) rfl)) (wk_in_0 _ (List.mem_of_getElem? (i := 24) rfl))) rfl rfl rfl (by decide +kernel) ⟨Nat.le_of_ble_eq_true rfl, Nat.le_of_ble_eq_true rfl⟩) hK hDD hA0 hP hS ta 9 (wkT hta) rfl rfl hl.1 (Nat.le_of_ble_eq_true rfl) dX4_acceptKey_89 (fun z29 A30 H locs hw31 hP hS => ?_)
              obtain ⟨rfl, hw31⟩ := hw31
              have rz29 : 0 ≤ z29 ∧ z29 ≤ 1 := hw31.1
              have hw31 := hw31.2
              refine lv_if_eq (tgt := 108) hx hb dX4_acceptKey_92 (by decide) (fun c32 => ?_) (fun c32 => ?_)
              · have c32 : z29 = 0 := (i_eq0 (rb rz29 (by decide) (by decide))).mp c32
                clear hw31
                refine lv_iconst (v := iI 0) hx hb dX4_acceptKey_108 (by decide +kernel) ?_
                exact RET 0 _ _ _ _ _ ⟨hI, fk.trans (fk.da (fk.da (fk.rf) hA14 (isS.b2 (o := fun b => List.contains [34, 35, 37, 38, 39, 40, 43, 44, 46, 47, 48, 49, 75, 76, 78, 79, 80, 81, 106, 107, 109, 110, 111, 112] (b + 2)) isS32 rfl rfl rfl rfl)) hA15 (isS.b2 (o := fun b => List.contains [34, 35, 37, 38, 39, 40, 43, 44, 46, 47, 48, 49, 75, 76, 78, 79, 80, 81, 106, 107, 109, 110, 111, 112] (b + 3)) isS32 rfl rfl rfl rfl)) hj17 rfl rfl, ⟨by decide, by decide⟩⟩ hP hS dX4_acceptKey_109
              · have c32 : ¬ z29 = 0 := mt (i_eq0 (rb rz29 (by decide) (by decide))).mpr c32
                have hw31b := hw31 (by omega)
                clear hw31
                refine lv_aload_n hx hb dX4_acceptKey_95 rfl (lv_at hl 4 rfl) ?_
                refine va_get (D := (dC, dI)) (ci := 4) (v := .ref (q 32)) (C := RX4) (T := TX4) (N := 3) hx hb hts hiX4 hown hK hP 30 (wkPC) rfl 1 (by decide) (hts _ (List.mem_cons_of_mem _ (wk_in_4 _ (List.mem_of_getElem? (i := 30) rfl)))) (fun _ h9 => h9) rfl dX4_acceptKey_96 ?_
                refine lv_iload_n hx hb dX4_acceptKey_99 rfl (lv_at hl 7 rfl) ?_
                refine lv_iload hx hb dX4_acceptKey_100 (lv_at hl 0 rfl) ?_
                refine k_calli (As := [.int (iI x3), .int (iI z26)]) (rest := []) ⟨hx, hb, hml, hown, hts⟩ hE (kc_X6_push l dC dI cB cI cJ cZ cQ aL aS q _ 32 x3 z26 hI isS32 (rb hx3 (by decide) (by decide)) (rb hw28 (by decide) (by decide))) (cwV 2 hts (goodVk (wk_in_4 _ (List.mem_of_getElem? (i := 54) rfl)) (wk_in_4 _ (List.mem_of_getElem? (i := 55) rfl)) (wk_in_4 _ (List.mem_of_getElem? (i := 56) rfl)) (wk_in_0 _ (List.mem_of_getElem? (i := 52) rfl)) (wk_in_4 _ (List.mem_of_getElem? (i := 57) rfl))) rfl rfl rfl (by decide +kernel) ⟨Nat.le_of_ble_eq_true rfl, Nat.le_of_ble_eq_true rfl⟩) hK hDD hA0 hP hS 32 6 (wkS isS32) rfl rfl hl.1 (Nat.le_of_ble_eq_true rfl) dX4_acceptKey_102 (fun z33 A34 H locs hw35 hP hS => ?_)
                obtain ⟨_, hI, hf36, hw35⟩ := hw35
                refine lv_if_ne (tgt := 110) hx hb dX4_acceptKey_105 (by decide) (fun c37 => ?_) (fun c37 => ?_)
                · have c37 : ¬ z33 = 0 := mt (i_eq0 (rb hw35 (by decide) (by decide))).mpr c37
                  refine lv_iinc (v := iI (z16 + 1)) (lv' := [(7, .int (iI (z16 + 1))), (8, .int (iI z26)), (6, .int (iI z5)), (5, .int (iI z1)), (0, .ref (q 30)), (1, .ref (q ta)), (2, .ref (q 1)), (3, .int (iI x3)), (4, .int (iI x4))]) hx hb dX4_acceptKey_110 hl (k := 1) rfl (i_inc (by omega)) (by decide) rfl (fun ls hl => ?_)
                  refine lv_goto (tgt := 65) hx hb dX4_acceptKey_113 (by decide) ?_
                  exact ih20 _ (by omega) (z16 + 1) _ _ _ _ (by omega) rfl hI (fk.trans (fk.trans (fk.rf) hj17 rfl rfl) hf36 rfl rfl) hP hS (lv_sub hl [0, 2, 3, 4, 5, 6, 7, 8] rfl)
                · have c37 : z33 = 0 := (i_eq0 (rb hw35 (by decide) (by decide))).mp c37
                  refine lv_iconst (v := iI 0) hx hb dX4_acceptKey_108 (by decide +kernel) ?_
                  exact RET 0 _ _ _ _ _ ⟨hI, fk.trans (fk.trans (fk.da (fk.da (fk.rf) hA14 (isS.b2 (o := fun b => List.contains [34, 35, 37, 38, 39, 40, 43, 44, 46, 47, 48, 49, 75, 76, 78, 79, 80, 81, 106, 107, 109, 110, 111, 112] (b + 2)) isS32 rfl rfl rfl rfl)) hA15 (isS.b2 (o := fun b => List.contains [34, 35, 37, 38, 39, 40, 43, 44, 46, 47, 48, 49, 75, 76, 78, 79, 80, 81, 106, 107, 109, 110, 111, 112] (b + 3)) isS32 rfl rfl rfl rfl)) hj17 rfl rfl) hf36 rfl rfl, ⟨by decide, by decide⟩⟩ hP hS dX4_acceptKey_109
        exact L65_19 _ 0 _ _ _ _ (by omega) rfl hI (fk.rf) hP hS (lv_sub hl [0, 1, 2, 3, 4, 5, 6, 7] rfl)
      · have c13 : ¬ z5 ≤ 6 := mt (i_le (rb hw7 (by decide) (by decide)) ⟨by decide, by decide⟩).mpr c13
        refine lv_iconst (v := iI 0) hx hb dX4_acceptKey_39 (by decide +kernel) ?_
        exact RET 0 _ _ _ _ _ ⟨hI, fk.rf, ⟨by decide, by decide⟩⟩ hP hS dX4_acceptKey_40

def ws_kc_X4_sumOf : List Cond := .code yX4_sumOf cX4_sumOf 4 (some .int) :: WY
set_option maxHeartbeats 4000000 in
set_option maxRecDepth 100000 in
theorem kc_X4_sumOf (l : Launch) (dC : Nat → ClassId) (dI : Nat → Nat → Nat) (cB cI cJ cZ cQ : ClassId) (aL aS : Nat) (q : Nat → Nat) (A : St) (x2 : Int) (hI : IK A) (hx2 : (-2147483648 : Int) ≤ x2 ∧ x2 ≤ 2147483647) : KMi l yX4_sumOf ws_kc_X4_sumOf ({ frames := 1, cells := 0, slots := 0, locals := 21 } : Room) aL aS (dC, dI) (tyA cB cI cJ cZ cQ) (WK cB cI cJ cZ cQ q) A [.ref (q 1), .int (iI x2)] (fun z u => A = u ∧ (-2147483648 ≤ z ∧ z ≤ 2147483647)) := by
  refine k_meti (cc := cX4_sumOf) (maxL := 4) WK_adr (plainFor_of_name (by decide +kernel)) rfl (Nat.le_of_ble_eq_true rfl) (fun p e s m below meth c Q AS ls hx hb hml hown hts hK hDD hA0 hE RET H locs hP hS hl => ?_)
  have hown : s.vm.findClass RX4 = some m.cls := hown
  have hl : lv_has ls 4 [(0, .ref (q 1)), (1, .int (iI x2))] := hl
  refine lv_bipush (v := iI 19) hx hb dX4_sumOf_0 (by decide +kernel) ?_
  refine lv_istore_n (lv' := [(2, .int (iI 19)), (0, .ref (q 1)), (1, .int (iI x2))]) hx hb dX4_sumOf_2 rfl hl (by decide) rfl (fun ls hl => ?_)
  refine lv_iconst (v := iI 0) hx hb dX4_sumOf_3 (by decide +kernel) ?_
  refine lv_istore_n (lv' := [(3, .int (iI 0)), (2, .int (iI 19)), (0, .ref (q 1)), (1, .int (iI x2))]) hx hb dX4_sumOf_4 rfl hl (by decide) rfl (fun ls hl => ?_)
  have L5_4 : ∀ (n8 : Nat) (z1 z2 : Int) (H : Heap) (locs : List Loc) (ls : Array Slot), (0 ≤ z1 ∧ z1 ≤ 2147483647) → (-2147483648 ≤ z2 ∧ z2 ≤ 2147483647) → ((2147483648 - z1).toNat = n8) → va_P (dC, dI) vwCl (WK cB cI cJ cZ cQ q A) H → va_S AS s.heap H locs → lv_has ls 4 [(3, .int (iI z1)), (2, .int (iI z2)), (0, .ref (q 1)), (1, .int (iI x2))] → W p l e (headSpec ws_kc_X4_sumOf ({ frames := 1, cells := 0, slots := 0, locals := 21 } : Room)).room s m [.ref (q 1), .int (iI x2)].toArray below meth c H locs 0 0 Q (F0 m 5 ls []) := by
    intro n8
    induction n8 using Nat.strongRecOn with
    | ind n8 ih5 =>
      intro z1 z2 H locs ls f6 f7 hn8 hP hS hl
      refine lv_iload_n hx hb dX4_sumOf_5 rfl (lv_at hl 0 rfl) ?_
      refine lv_iload_n hx hb dX4_sumOf_6 rfl (lv_at hl 3 rfl) ?_
      refine lv_icmp_ge (tgt := 33) hx hb dX4_sumOf_7 (by decide) (fun c9 => ?_) (fun c9 => ?_)
      · have c9 : x2 ≤ z1 := (i_le hx2 (rb f6 (by decide) (by decide))).mp c9
        refine lv_iload_n hx hb dX4_sumOf_33 rfl (lv_at hl 1 rfl) ?_
        exact RET z2 _ _ _ _ _ ⟨rfl, f7⟩ hP hS dX4_sumOf_34
      · have c9 : ¬ x2 ≤ z1 := mt (i_le hx2 (rb f6 (by decide) (by decide))).mpr c9
        refine lv_iload_n hx hb dX4_sumOf_10 rfl (lv_at hl 0 rfl) ?_
        refine lv_sipush (v := iI 1600) hx hb dX4_sumOf_11 (by decide +kernel) ?_
        refine lv_icmp_ge (tgt := 33) hx hb dX4_sumOf_14 (by decide) (fun c10 => ?_) (fun c10 => ?_)
        · have c10 : 1600 ≤ z1 := (i_le ⟨by decide, by decide⟩ (rb f6 (by decide) (by decide))).mp c10
          refine lv_iload_n hx hb dX4_sumOf_33 rfl (lv_at hl 1 rfl) ?_
          exact RET z2 _ _ _ _ _ ⟨rfl, f7⟩ hP hS dX4_sumOf_34
        · have c10 : ¬ 1600 ≤ z1 := mt (i_le ⟨by decide, by decide⟩ (rb f6 (by decide) (by decide))).mpr c10
          refine lv_iload_n hx hb dX4_sumOf_17 rfl (lv_at hl 1 rfl) ?_
          refine lv_aload_n hx hb dX4_sumOf_18 rfl (lv_at hl 2 rfl) ?_
          refine lv_iload_n hx hb dX4_sumOf_19 rfl (lv_at hl 0 rfl) ?_
          refine k_calli (As := [.int (iI z1)]) (rest := [.int (iI z2)]) ⟨hx, hb, hml, hown, hts⟩ hE (kc_X7_at l dC dI cB cI cJ cZ cQ aL aS q _ z1 hI (rb f6 (by decide) (by decide))) (cwV 1 hts (goodVk (wk_in_4 _ (List.mem_of_getElem? (i := 38) rfl)) (wk_in_4 _ (List.mem_of_getElem? (i := 39) rfl)) (wk_in_4 _ (List.mem_of_getElem? (i := 40) rfl)) (wk_in_4 _ (List.mem_of_getElem? (i := 41) rfl)) (wk_in_4 _ (List.mem_of_getElem? (i := 42) rfl))) rfl rfl rfl (by decide +kernel) ⟨Nat.le_of_ble_eq_true rfl, Nat.le_of_ble_eq_true rfl⟩) hK hDD hA0 hP hS 1 7 (wkTP) rfl rfl hl.1 (Nat.le_of_ble_eq_true rfl) dX4_sumOf_20 (fun z11 A12 H locs hw13 hP hS => ?_)
          obtain ⟨rfl, hw13⟩ := hw13
          refine k_callSi (As := [.int (iI z2), .int (iI z11)]) (rest := []) ⟨hx, hb, hml, hown, hts⟩ hE (kc_X4_summed l dC dI cB cI cJ cZ cQ aL aS q _ z2 z11 hI f7 (rb hw13 (by decide) (by decide))) (va_cwS 2 hts (goodSk (wk_in_4 _ (List.mem_of_getElem? (i := 26) rfl)) (wk_in_4 _ (List.mem_of_getElem? (i := 27) rfl)) (wk_in_4 _ (List.mem_of_getElem? (i := 23) rfl)) (wk_in_4 _ (List.mem_of_getElem? (i := 28) rfl))) rfl rfl rfl (by decide +kernel) ⟨Nat.le_of_ble_eq_true rfl, Nat.le_of_ble_eq_true rfl⟩) hK hDD hA0 hP hS rfl hl.1 (Nat.le_of_ble_eq_true rfl) dX4_sumOf_23 (fun z14 A15 H locs hw16 hP hS => ?_)
          obtain ⟨rfl, hw16⟩ := hw16
          refine lv_istore_n (lv' := [(2, .int (iI z14)), (3, .int (iI z1)), (0, .ref (q 1)), (1, .int (iI x2))]) hx hb dX4_sumOf_26 rfl hl (by decide) rfl (fun ls hl => ?_)
          refine lv_iinc (v := iI (z1 + 1)) (lv' := [(3, .int (iI (z1 + 1))), (2, .int (iI z14)), (0, .ref (q 1)), (1, .int (iI x2))]) hx hb dX4_sumOf_27 hl (k := 1) rfl (i_inc (by omega)) (by decide) rfl (fun ls hl => ?_)
          refine lv_goto (tgt := 5) hx hb dX4_sumOf_30 (by decide) ?_
          exact ih5 _ (by omega) (z1 + 1) z14 _ _ _ (by omega) (by omega) rfl hP hS (lv_sub hl [0, 1, 2, 3] rfl)
  exact L5_4 _ 0 19 _ _ _ (by omega) (by omega) rfl hP hS (lv_sub hl [0, 1, 2, 3] rfl)

def ws_kc_X4_accept : List Cond := .code yX4_accept cX4_accept 6 (some .boolean) :: WY
set_option maxHeartbeats 4000000 in
set_option maxRecDepth 100000 in
theorem kc_X4_accept (l : Launch) (dC : Nat → ClassId) (dI : Nat → Nat → Nat) (cB cI cJ cZ cQ : ClassId) (aL aS : Nat) (q : Nat → Nat) (A : St) (ta : Nat) (hI : IK A) (hta : isT ta) : KMi l yX4_accept ws_kc_X4_accept ({ frames := 4, cells := 0, slots := 0, locals := 96 } : Room) aL aS (dC, dI) (tyA cB cI cJ cZ cQ) (WK cB cI cJ cZ cQ q) A [.ref (q 30), .ref (q ta), .ref (q 1)] (fun z u => IK u ∧ fk [33, 34, 35, 37, 38, 39, 40, 42, 43, 44, 46, 47, 48, 49, 74, 75, 76, 78, 79, 80, 81, 105, 106, 107, 109, 110, 111, 112] [] A u ∧ (0 ≤ z ∧ z ≤ 1)) := by
  refine k_metz (cc := cX4_accept) (maxL := 6) WK_adr (plainFor_of_name (by decide +kernel)) rfl (Nat.le_of_ble_eq_true rfl) (fun z u h => h.2.2) (fun p e s m below meth c Q AS ls hx hb hml hown hts hK hDD hA0 hE RET H locs hP hS hl => ?_)
  have hown : s.vm.findClass RX4 = some m.cls := hown
  have hl : lv_has ls 6 [(0, .ref (q 30)), (1, .ref (q ta)), (2, .ref (q 1))] := hl
  have hiX4 : ∀ w ∈ u_ws RX4 TX4 3, w ∈ ws_kc_X4_accept := fun w h => List.mem_cons_of_mem _ (wy_layX4 w h)
  have hiX9 : ∀ w ∈ u_ws RX9 TX9 16, w ∈ ws_kc_X4_accept := fun w h => List.mem_cons_of_mem _ (wy_layX9 w h)
  have hiX7 : ∀ w ∈ u_ws RX7 TX7 2, w ∈ ws_kc_X4_accept := fun w h => List.mem_cons_of_mem _ (wy_layX7 w h)
  have hiX6 : ∀ w ∈ u_ws RX6 TX6 4, w ∈ ws_kc_X4_accept := fun w h => List.mem_cons_of_mem _ (wy_layX6 w h)
  refine lv_aload_n hx hb dX4_accept_0 rfl (lv_at hl 0 rfl) ?_
  refine va_get (D := (dC, dI)) (ci := 4) (v := .ref (q 32)) (C := RX4) (T := TX4) (N := 3) hx hb hts hiX4 hown hK hP 30 (wkPC) rfl 1 (by decide) (hts _ (List.mem_cons_of_mem _ (wk_in_4 _ (List.mem_of_getElem? (i := 30) rfl)))) (fun _ h9 => h9) rfl dX4_accept_1 ?_
  refine lv_aload_n hx hb dX4_accept_4 rfl (lv_at hl 1 rfl) ?_
  refine va_get (D := (dC, dI)) (ci := 9) (v := .ref (q (ta + 22))) (C := RX9) (T := TX9) (N := 16) hx hb hts hiX9 hown hK hP ta (wkT hta) rfl 14 (by decide) (hts _ (List.mem_cons_of_mem _ (wk_in_4 _ (List.mem_of_getElem? (i := 15) rfl)))) (fun _ h9 => h9) rfl dX4_accept_5 ?_
  refine k_callv (As := [.ref (q (ta + 22))]) (rest := []) ⟨hx, hb, hml, hown, hts⟩ hE (kc_X6_copyFrom l dC dI cB cI cJ cZ cQ aL aS q _ 32 (ta + 22) hI isS32 hta.s) (cwV 1 hts (goodVk (wk_in_4 _ (List.mem_of_getElem? (i := 32) rfl)) (wk_in_4 _ (List.mem_of_getElem? (i := 33) rfl)) (wk_in_4 _ (List.mem_of_getElem? (i := 34) rfl)) (wk_in_0 _ (List.mem_of_getElem? (i := 52) rfl)) (wk_in_4 _ (List.mem_of_getElem? (i := 35) rfl))) rfl rfl rfl (by decide +kernel) ⟨Nat.le_of_ble_eq_true rfl, Nat.le_of_ble_eq_true rfl⟩) hK hDD hA0 hP hS 32 6 (wkS isS32) rfl rfl hl.1 (Nat.le_of_ble_eq_true rfl) dX4_accept_8 (fun A1 H locs hw2 hP hS => ?_)
  obtain ⟨hI, hf3, hw2⟩ := hw2
  clear hw2
  refine lv_iconst (v := iI 0) hx hb dX4_accept_11 (by decide +kernel) ?_
  refine lv_istore_n (lv' := [(3, .int (iI 0)), (0, .ref (q 30)), (1, .ref (q ta)), (2, .ref (q 1))]) hx hb dX4_accept_12 rfl hl (by decide) rfl (fun ls hl => ?_)
  refine lv_iconst (v := iI 0) hx hb dX4_accept_13 (by decide +kernel) ?_
  refine lv_istore (lv' := [(4, .int (iI 0)), (3, .int (iI 0)), (0, .ref (q 30)), (1, .ref (q ta)), (2, .ref (q 1))]) hx hb dX4_accept_14 hl (by decide) rfl (fun ls hl => ?_)
  have L16_8 : ∀ (n15 : Nat) (z4 z5 : Int) (A7 : St) (H : Heap) (locs : List Loc) (ls : Array Slot), (0 ≤ z4 ∧ z4 ≤ 2147483647) → (-2147483648 ≤ z5 ∧ z5 ≤ 2147483647) → ((4 - z4).toNat = n15) → IK A7 → fk [33, 42, 74, 105] [] A1 A7 → va_P (dC, dI) vwCl (WK cB cI cJ cZ cQ q A7) H → va_S AS s.heap H locs → lv_has ls 6 [(4, .int (iI z4)), (3, .int (iI z5)), (0, .ref (q 30)), (1, .ref (q ta)), (2, .ref (q 1))] → W p l e (headSpec ws_kc_X4_accept ({ frames := 4, cells := 0, slots := 0, locals := 96 } : Room)).room s m [.ref (q 30), .ref (q ta), .ref (q 1)].toArray below meth c H locs 0 0 Q (F0 m 16 ls []) := by
    intro n15
    induction n15 using Nat.strongRecOn with
    | ind n15 ih9 =>
      intro z4 z5 A7 H locs ls f10 f11 hn15 hI hj6 hP hS hl
      refine lv_iload hx hb dX4_accept_16 (lv_at hl 0 rfl) ?_
      refine lv_aload_n hx hb dX4_accept_18 rfl (lv_at hl 3 rfl) ?_
      refine va_get (D := (dC, dI)) (ci := 9) (v := .ref (q (ta + 1))) (C := RX9) (T := TX9) (N := 16) hx hb hts hiX9 hown hK hP ta (wkT hta) rfl 0 (by decide) (hts _ (List.mem_cons_of_mem _ (wk_in_4 _ (List.mem_of_getElem? (i := 14) rfl)))) (fun _ h9 => h9) rfl dX4_accept_19 ?_
      refine lv_iconst (v := iI 3) hx hb dX4_accept_22 (by decide +kernel) ?_
      have a17 : ∀ k, A1 (ta + 1) k = A (ta + 1) k := fun k => hf3 (ta + 1) k (isT.b2 (o := fun b => List.contains [33, 34, 35, 37, 38, 39, 40, 42, 43, 44, 46, 47, 48, 49, 74, 75, 76, 78, 79, 80, 81, 105, 106, 107, 109, 110, 111, 112] (b + 1)) hta rfl rfl) (isT.b2 (o := fun b => fin2 [] (b + 1) k) hta rfl rfl)
      have a16 : ∀ k, A7 (ta + 1) k = A (ta + 1) k := fun k => (hj6 (ta + 1) k (isT.b2 (o := fun b => List.contains [33, 42, 74, 105] (b + 1)) hta rfl rfl) (isT.b2 (o := fun b => fin2 [] (b + 1) k) hta rfl rfl)).trans (a17 k)
      refine x_iald (Wf := WK cB cI cJ cZ cQ q) hx hb hK hP (ta + 1) 1 (wkTc hta) rfl (by decide) (by decide) dX4_accept_23 (fun z18 hz18 => ?_)
      have rz18 : (0 : Int) ≤ z18 ∧ z18 ≤ 3 := by rw [hz18]; exact irTc3 hta hI
      have hz18 : z18 = A (ta + 1) (3 : Int).toNat := hz18.trans (a16 _)
      refine lv_icmp_ge (tgt := 67) hx hb dX4_accept_24 (by decide) (fun c19 => ?_) (fun c19 => ?_)
      · have c19 : z18 ≤ z4 := (i_le (rb rz18 (by decide) (by decide)) (rb f10 (by decide) (by decide))).mp c19
        refine lv_iconst (v := iI 0) hx hb dX4_accept_67 (by decide +kernel) ?_
        refine lv_istore (lv' := [(4, .int (iI 0)), (3, .int (iI z5)), (0, .ref (q 30)), (1, .ref (q ta)), (2, .ref (q 1))]) hx hb dX4_accept_68 hl (by decide) rfl (fun ls hl => ?_)
        have L70_24 : ∀ (n30 : Nat) (z20 z21 : Int) (A23 : St) (H : Heap) (locs : List Loc) (ls : Array Slot), (0 ≤ z20 ∧ z20 ≤ 2147483647) → (-2147483648 ≤ z21 ∧ z21 ≤ 2147483647) → ((5 - z20).toNat = n30) → IK A23 → fk [34, 35, 37, 38, 39, 40, 43, 44, 46, 47, 48, 49, 75, 76, 78, 79, 80, 81, 106, 107, 109, 110, 111, 112] [] A7 A23 → va_P (dC, dI) vwCl (WK cB cI cJ cZ cQ q A23) H → va_S AS s.heap H locs → lv_has ls 6 [(4, .int (iI z20)), (3, .int (iI z21)), (0, .ref (q 30)), (1, .ref (q ta)), (2, .ref (q 1))] → W p l e (headSpec ws_kc_X4_accept ({ frames := 4, cells := 0, slots := 0, locals := 96 } : Room)).room s m [.ref (q 30), .ref (q ta), .ref (q 1)].toArray below meth c H locs 0 0 Q (F0 m 70 ls []) := by
          intro n30
          induction n30 using Nat.strongRecOn with
          | ind n30 ih25 =>
            intro z20 z21 A23 H locs ls f26 f27 hn30 hI hj22 hP hS hl
            refine lv_iload hx hb dX4_accept_70 (lv_at hl 0 rfl) ?_
            refine lv_aload_n hx hb dX4_accept_72 rfl (lv_at hl 3 rfl) ?_
            refine va_get (D := (dC, dI)) (ci := 9) (v := .ref (q (ta + 1))) (C := RX9) (T := TX9) (N := 16) hx hb hts hiX9 hown hK hP ta (wkT hta) rfl 0 (by decide) (hts _ (List.mem_cons_of_mem _ (wk_in_4 _ (List.mem_of_getElem? (i := 14) rfl)))) (fun _ h9 => h9) rfl dX4_accept_73 ?_
            refine lv_iconst (v := iI 2) hx hb dX4_accept_76 (by decide +kernel) ?_
            have a31 : ∀ k, A23 (ta + 1) k = A (ta + 1) k := fun k => (hj22 (ta + 1) k (isT.b2 (o := fun b => List.contains [34, 35, 37, 38, 39, 40, 43, 44, 46, 47, 48, 49, 75, 76, 78, 79, 80, 81, 106, 107, 109, 110, 111, 112] (b + 1)) hta rfl rfl) (isT.b2 (o := fun b => fin2 [] (b + 1) k) hta rfl rfl)).trans (a16 k)
            refine x_iald (Wf := WK cB cI cJ cZ cQ q) hx hb hK hP (ta + 1) 1 (wkTc hta) rfl (by decide) (by decide) dX4_accept_77 (fun z32 hz32 => ?_)
            have rz32 : (0 : Int) ≤ z32 ∧ z32 ≤ 4 := by rw [hz32]; exact irTc2 hta hI
            have hz32 : z32 = A (ta + 1) (2 : Int).toNat := hz32.trans (a31 _)
            refine lv_icmp_ge (tgt := 116) hx hb dX4_accept_78 (by decide) (fun c33 => ?_) (fun c33 => ?_)
            · have c33 : z32 ≤ z20 := (i_le (rb rz32 (by decide) (by decide)) (rb f26 (by decide) (by decide))).mp c33
              refine lv_aload_n hx hb dX4_accept_116 rfl (lv_at hl 4 rfl) ?_
              have e36 : A1 1 1 = (A 1 1) := (hf3 1 1 rfl rfl)
              have e35 : A7 1 1 = (A 1 1) := (hj6 1 1 rfl rfl).trans e36
              have e34 : A23 1 1 = (A 1 1) := (hj22 1 1 rfl rfl).trans e35
              have r37 : (0 : Int) ≤ (A 1 1) ∧ (A 1 1) ≤ 1600 := by rw [← e34]; exact irTP_1 hI
              refine va_get (D := (dC, dI)) (ci := 7) (v := .int (iI (A23 1 1))) (C := RX7) (T := TX7) (N := 2) hx hb hts hiX7 hown hK hP 1 (wkTP) rfl 1 (by decide) (hts _ (List.mem_cons_of_mem _ (wk_in_4 _ (List.mem_of_getElem? (i := 31) rfl)))) (fun _ h9 => h9) rfl dX4_accept_117 ?_
              refine tp_i (y := iI (A 1 1)) (congrArg iI e34) ?_
              refine lv_iload_n hx hb dX4_accept_120 rfl (lv_at hl 1 rfl) ?_
              refine lv_iconst (v := iI 1) hx hb dX4_accept_121 (by decide +kernel) ?_
              refine x_addv (v := z21 + 1) hx hb dX4_accept_122 (by omega) ?_
              refine x_abs (fun z38 hz38 => ?_)
              refine lv_icmp_ne (tgt := 139) hx hb dX4_accept_123 (by decide) (fun c39 => ?_) (fun c39 => ?_)
              · have c39 : ¬ (A 1 1) = z38 := mt (i_eq (rb r37 (by decide) (by decide)) hz38).mpr c39
                refine lv_iconst (v := iI 0) hx hb dX4_accept_139 (by decide +kernel) ?_
                exact RET 0 _ _ _ _ _ ⟨hI, fk.trans (fk.trans (fk.trans (fk.rf) hf3 rfl rfl) hj6 rfl rfl) hj22 rfl rfl, ⟨by decide, by decide⟩⟩ hP hS dX4_accept_140
              · have c39 : (A 1 1) = z38 := (i_eq (rb r37 (by decide) (by decide)) hz38).mp c39
                refine lv_aload_n hx hb dX4_accept_126 rfl (lv_at hl 4 rfl) ?_
                refine lv_iload_n hx hb dX4_accept_127 rfl (lv_at hl 1 rfl) ?_
                refine k_calli (As := [.int (iI z21)]) (rest := []) ⟨hx, hb, hml, hown, hts⟩ hE (kc_X7_at l dC dI cB cI cJ cZ cQ aL aS q _ z21 hI f27) (cwV 1 hts (goodVk (wk_in_4 _ (List.mem_of_getElem? (i := 38) rfl)) (wk_in_4 _ (List.mem_of_getElem? (i := 39) rfl)) (wk_in_4 _ (List.mem_of_getElem? (i := 40) rfl)) (wk_in_4 _ (List.mem_of_getElem? (i := 41) rfl)) (wk_in_4 _ (List.mem_of_getElem? (i := 42) rfl))) rfl rfl rfl (by decide +kernel) ⟨Nat.le_of_ble_eq_true rfl, Nat.le_of_ble_eq_true rfl⟩) hK hDD hA0 hP hS 1 7 (wkTP) rfl rfl hl.1 (Nat.le_of_ble_eq_true rfl) dX4_accept_128 (fun z40 A41 H locs hw42 hP hS => ?_)
                obtain ⟨rfl, hw42⟩ := hw42
                refine lv_aload_n hx hb dX4_accept_131 rfl (lv_at hl 4 rfl) ?_
                refine lv_iload_n hx hb dX4_accept_132 rfl (lv_at hl 1 rfl) ?_
                refine k_callSi (As := [.ref (q 1), .int (iI z21)]) (rest := [.int (iI z40)]) ⟨hx, hb, hml, hown, hts⟩ hE (kc_X4_sumOf l dC dI cB cI cJ cZ cQ aL aS q _ z21 hI f27) (va_cwS 2 hts (goodSk (wk_in_5 _ (List.mem_of_getElem? (i := 2) rfl)) (wk_in_5 _ (List.mem_of_getElem? (i := 3) rfl)) (wk_in_4 _ (List.mem_of_getElem? (i := 23) rfl)) (wk_in_5 _ (List.mem_of_getElem? (i := 4) rfl))) rfl rfl rfl (by decide +kernel) ⟨Nat.le_of_ble_eq_true rfl, Nat.le_of_ble_eq_true rfl⟩) hK hDD hA0 hP hS rfl hl.1 (Nat.le_of_ble_eq_true rfl) dX4_accept_133 (fun z43 A44 H locs hw45 hP hS => ?_)
                obtain ⟨rfl, hw45⟩ := hw45
                refine lv_icmp_eq (tgt := 141) hx hb dX4_accept_136 (by decide) (fun c46 => ?_) (fun c46 => ?_)
                · have c46 : z40 = z43 := (i_eq (rb hw42 (by decide) (by decide)) hw45).mp c46
                  refine lv_aload_n hx hb dX4_accept_141 rfl (lv_at hl 3 rfl) ?_
                  refine va_get (D := (dC, dI)) (ci := 9) (v := .ref (q (ta + 22))) (C := RX9) (T := TX9) (N := 16) hx hb hts hiX9 hown hK hP ta (wkT hta) rfl 14 (by decide) (hts _ (List.mem_cons_of_mem _ (wk_in_4 _ (List.mem_of_getElem? (i := 15) rfl)))) (fun _ h9 => h9) rfl dX4_accept_142 ?_
                  refine lv_aload_n hx hb dX4_accept_145 rfl (lv_at hl 2 rfl) ?_
                  refine va_get (D := (dC, dI)) (ci := 4) (v := .ref (q 32)) (C := RX4) (T := TX4) (N := 3) hx hb hts hiX4 hown hK hP 30 (wkPC) rfl 1 (by decide) (hts _ (List.mem_cons_of_mem _ (wk_in_4 _ (List.mem_of_getElem? (i := 30) rfl)))) (fun _ h9 => h9) rfl dX4_accept_146 ?_
                  refine k_callv (As := [.ref (q 32)]) (rest := []) ⟨hx, hb, hml, hown, hts⟩ hE (kc_X6_copyFrom l dC dI cB cI cJ cZ cQ aL aS q _ (ta + 22) 32 hI hta.s isS32) (cwV 1 hts (goodVk (wk_in_4 _ (List.mem_of_getElem? (i := 32) rfl)) (wk_in_4 _ (List.mem_of_getElem? (i := 33) rfl)) (wk_in_4 _ (List.mem_of_getElem? (i := 34) rfl)) (wk_in_0 _ (List.mem_of_getElem? (i := 52) rfl)) (wk_in_4 _ (List.mem_of_getElem? (i := 35) rfl))) rfl rfl rfl (by decide +kernel) ⟨Nat.le_of_ble_eq_true rfl, Nat.le_of_ble_eq_true rfl⟩) hK hDD hA0 hP hS (ta + 22) 6 (wkS hta.s) rfl rfl hl.1 (Nat.le_of_ble_eq_true rfl) dX4_accept_149 (fun A47 H locs hw48 hP hS => ?_)
                  obtain ⟨hI, hf49, hw48⟩ := hw48
                  clear hw48
                  refine lv_iconst (v := iI 1) hx hb dX4_accept_152 (by decide +kernel) ?_
                  exact RET 1 _ _ _ _ _ ⟨hI, fk.trans (fk.trans (fk.trans (fk.trans (fk.rf) hf3 rfl rfl) hj6 rfl rfl) hj22 rfl rfl) hf49 rfl rfl, ⟨by decide, by decide⟩⟩ hP hS dX4_accept_153
                · have c46 : ¬ z40 = z43 := mt (i_eq (rb hw42 (by decide) (by decide)) hw45).mpr c46
                  refine lv_iconst (v := iI 0) hx hb dX4_accept_139 (by decide +kernel) ?_
                  exact RET 0 _ _ _ _ _ ⟨hI, fk.trans (fk.trans (fk.trans (fk.rf) hf3 rfl rfl) hj6 rfl rfl) hj22 rfl rfl, ⟨by decide, by decide⟩⟩ hP hS dX4_accept_140
            · have c33 : ¬ z32 ≤ z20 := mt (i_le (rb rz32 (by decide) (by decide)) (rb f26 (by decide) (by decide))).mpr c33
              refine lv_aload_n hx hb dX4_accept_81 rfl (lv_at hl 2 rfl) ?_
              refine lv_aload_n hx hb dX4_accept_82 rfl (lv_at hl 3 rfl) ?_
              refine lv_aload_n hx hb dX4_accept_83 rfl (lv_at hl 4 rfl) ?_
              refine lv_iload hx hb dX4_accept_84 (lv_at hl 0 rfl) ?_
              refine lv_iload_n hx hb dX4_accept_86 rfl (lv_at hl 1 rfl) ?_
              refine k_calli (As := [.ref (q ta), .ref (q 1), .int (iI z20), .int (iI z21)]) (rest := []) ⟨hx, hb, hml, hown, hts⟩ hE (kc_X4_acceptKey l dC dI cB cI cJ cZ cQ aL aS q _ ta z20 z21 hI hta (by omega) f27) (cwV 4 hts (goodVk (wk_in_4 _ (List.mem_of_getElem? (i := 46) rfl)) (wk_in_4 _ (List.mem_of_getElem? (i := 47) rfl)) (wk_in_4 _ (List.mem_of_getElem? (i := 48) rfl)) (wk_in_4 _ (List.mem_of_getElem? (i := 23) rfl)) (wk_in_4 _ (List.mem_of_getElem? (i := 49) rfl))) rfl rfl rfl (by decide +kernel) ⟨Nat.le_of_ble_eq_true rfl, Nat.le_of_ble_eq_true rfl⟩) hK hDD hA0 hP hS 30 4 (wkPC) rfl rfl hl.1 (Nat.le_of_ble_eq_true rfl) dX4_accept_87 (fun z50 A51 H locs hw52 hP hS => ?_)
              obtain ⟨hI, hf53, hw52⟩ := hw52
              refine lv_if_ne (tgt := 95) hx hb dX4_accept_90 (by decide) (fun c54 => ?_) (fun c54 => ?_)
              · have c54 : ¬ z50 = 0 := mt (i_eq0 (rb hw52 (by decide) (by decide))).mpr c54
                refine lv_iload_n hx hb dX4_accept_95 rfl (lv_at hl 1 rfl) ?_
                refine lv_iconst (v := iI 2) hx hb dX4_accept_96 (by decide +kernel) ?_
                refine lv_aload_n hx hb dX4_accept_97 rfl (lv_at hl 2 rfl) ?_
                refine va_get (D := (dC, dI)) (ci := 4) (v := .ref (q 32)) (C := RX4) (T := TX4) (N := 3) hx hb hts hiX4 hown hK hP 30 (wkPC) rfl 1 (by decide) (hts _ (List.mem_cons_of_mem _ (wk_in_4 _ (List.mem_of_getElem? (i := 30) rfl)))) (fun _ h9 => h9) rfl dX4_accept_98 ?_
                refine va_get (D := (dC, dI)) (ci := 6) (v := .ref (q (32 + 3))) (C := RX6) (T := TX6) (N := 4) hx hb hts hiX6 hown hK hP 32 (wkS isS32) rfl 2 (by decide) (hts _ (List.mem_cons_of_mem _ (wk_in_4 _ (List.mem_of_getElem? (i := 18) rfl)))) (fun _ h9 => h9) rfl dX4_accept_101 ?_
                refine lv_iload hx hb dX4_accept_104 (lv_at hl 0 rfl) ?_
                refine x_iald (Wf := WK cB cI cJ cZ cQ q) hx hb hK hP (32 + 3) 1 (wkSz isS32) rfl (by omega) (by decide) dX4_accept_106 (fun z55 hz55 => ?_)
                have rz55 : (0 : Int) ≤ z55 ∧ z55 ≤ 6 := by rw [hz55]; exact irSz isS32 hI
                refine x_addv (v := z55 + 2) hx hb dX4_accept_107 (by omega) ?_
                refine x_addv (v := z21 + z55 + 2) hx hb dX4_accept_108 (by omega) ?_
                refine x_abs (fun z56 hz56 => ?_)
                refine lv_istore_n (lv' := [(3, .int (iI z56)), (4, .int (iI z20)), (0, .ref (q 30)), (1, .ref (q ta)), (2, .ref (q 1))]) hx hb dX4_accept_109 rfl hl (by decide) rfl (fun ls hl => ?_)
                refine lv_iinc (v := iI (z20 + 1)) (lv' := [(4, .int (iI (z20 + 1))), (3, .int (iI z56)), (0, .ref (q 30)), (1, .ref (q ta)), (2, .ref (q 1))]) hx hb dX4_accept_110 hl (k := 1) rfl (i_inc (by omega)) (by decide) rfl (fun ls hl => ?_)
                refine lv_goto (tgt := 70) hx hb dX4_accept_113 (by decide) ?_
                exact ih25 _ (by omega) (z20 + 1) z56 _ _ _ _ (by omega) (by omega) rfl hI (fk.trans (fk.trans (fk.rf) hj22 rfl rfl) hf53 rfl rfl) hP hS (lv_sub hl [0, 1, 2, 3, 4] rfl)
              · have c54 : z50 = 0 := (i_eq0 (rb hw52 (by decide) (by decide))).mp c54
                refine lv_iconst (v := iI 0) hx hb dX4_accept_93 (by decide +kernel) ?_
                exact RET 0 _ _ _ _ _ ⟨hI, fk.trans (fk.trans (fk.trans (fk.trans (fk.rf) hf3 rfl rfl) hj6 rfl rfl) hj22 rfl rfl) hf53 rfl rfl, ⟨by decide, by decide⟩⟩ hP hS dX4_accept_94
        exact L70_24 _ 0 z5 _ _ _ _ (by omega) (by omega) rfl hI (fk.rf) hP hS (lv_sub hl [0, 1, 2, 3, 4] rfl)
      · have c19 : ¬ z18 ≤ z4 := mt (i_le (rb rz18 (by decide) (by decide)) (rb f10 (by decide) (by decide))).mpr c19
        refine lv_aload_n hx hb dX4_accept_27 rfl (lv_at hl 4 rfl) ?_
        refine lv_iload_n hx hb dX4_accept_28 rfl (lv_at hl 1 rfl) ?_
        refine k_calli (As := [.int (iI z5)]) (rest := []) ⟨hx, hb, hml, hown, hts⟩ hE (kc_X7_at l dC dI cB cI cJ cZ cQ aL aS q _ z5 hI f11) (cwV 1 hts (goodVk (wk_in_4 _ (List.mem_of_getElem? (i := 38) rfl)) (wk_in_4 _ (List.mem_of_getElem? (i := 39) rfl)) (wk_in_4 _ (List.mem_of_getElem? (i := 40) rfl)) (wk_in_4 _ (List.mem_of_getElem? (i := 41) rfl)) (wk_in_4 _ (List.mem_of_getElem? (i := 42) rfl))) rfl rfl rfl (by decide +kernel) ⟨Nat.le_of_ble_eq_true rfl, Nat.le_of_ble_eq_true rfl⟩) hK hDD hA0 hP hS 1 7 (wkTP) rfl rfl hl.1 (Nat.le_of_ble_eq_true rfl) dX4_accept_29 (fun z57 A58 H locs hw59 hP hS => ?_)
        obtain ⟨rfl, hw59⟩ := hw59
        refine lv_istore (lv' := [(5, .int (iI z57)), (4, .int (iI z4)), (3, .int (iI z5)), (0, .ref (q 30)), (1, .ref (q ta)), (2, .ref (q 1))]) hx hb dX4_accept_32 hl (by decide) rfl (fun ls hl => ?_)
        refine lv_aload_n hx hb dX4_accept_34 rfl (lv_at hl 4 rfl) ?_
        refine lv_iconst (v := iI 0) hx hb dX4_accept_35 (by decide +kernel) ?_
        refine lv_iload hx hb dX4_accept_36 (lv_at hl 0 rfl) ?_
        refine k_calli (As := [.int (iI 0), .int (iI z57)]) (rest := []) ⟨hx, hb, hml, hown, hts⟩ hE (kc_X9_isThere_1_0 l dC dI cB cI cJ cZ cQ aL aS q _ ta z57 hI hta (rb hw59 (by decide) (by decide))) (cwV 2 hts (goodVk (wk_in_4 _ (List.mem_of_getElem? (i := 45) rfl)) (wk_in_0 _ (List.mem_of_getElem? (i := 22) rfl)) (wk_in_0 _ (List.mem_of_getElem? (i := 23) rfl)) (wk_in_0 _ (List.mem_of_getElem? (i := 6) rfl)) (wk_in_0 _ (List.mem_of_getElem? (i := 24) rfl))) rfl rfl rfl (by decide +kernel) ⟨Nat.le_of_ble_eq_true rfl, Nat.le_of_ble_eq_true rfl⟩) hK hDD hA0 hP hS ta 9 (wkT hta) rfl rfl hl.1 (Nat.le_of_ble_eq_true rfl) dX4_accept_38 (fun z60 A61 H locs hw62 hP hS => ?_)
        obtain ⟨rfl, hw62⟩ := hw62
        have rz60 : 0 ≤ z60 ∧ z60 ≤ 1 := hw62.1
        have hw62 := hw62.2
        refine lv_if_ne (tgt := 46) hx hb dX4_accept_41 (by decide) (fun c63 => ?_) (fun c63 => ?_)
        · have c63 : ¬ z60 = 0 := mt (i_eq0 (rb rz60 (by decide) (by decide))).mpr c63
          have hw62b := hw62 (by omega)
          clear hw62
          refine lv_aload_n hx hb dX4_accept_46 rfl (lv_at hl 3 rfl) ?_
          refine va_get (D := (dC, dI)) (ci := 4) (v := .ref (q 32)) (C := RX4) (T := TX4) (N := 3) hx hb hts hiX4 hown hK hP 30 (wkPC) rfl 1 (by decide) (hts _ (List.mem_cons_of_mem _ (wk_in_4 _ (List.mem_of_getElem? (i := 30) rfl)))) (fun _ h9 => h9) rfl dX4_accept_47 ?_
          refine va_get (D := (dC, dI)) (ci := 6) (v := .ref (q (32 + 1))) (C := RX6) (T := TX6) (N := 4) hx hb hts hiX6 hown hK hP 32 (wkS isS32) rfl 0 (by decide) (hts _ (List.mem_cons_of_mem _ (wk_in_4 _ (List.mem_of_getElem? (i := 16) rfl)))) (fun _ h9 => h9) rfl dX4_accept_50 ?_
          refine lv_iload hx hb dX4_accept_53 (lv_at hl 1 rfl) ?_
          refine lv_iload hx hb dX4_accept_55 (lv_at hl 0 rfl) ?_
          refine k_iast (Wf := WK cB cI cJ cZ cQ q) hx hb hK hP hDD hS (32 + 1) 1 (wkSs isS32) rfl (by omega) (by decide) dX4_accept_57 (wsSs isS32) (fun H locs A64 hA64 hP hS => ?_)
          have hI := isSs isS32 hA64 hI (show (-2147483648 : Int) ≤ z57 ∧ z57 ≤ 2147483647 from (rb hw59 (by decide) (by decide)))
          obtain ⟨z65, hz65, ez65⟩ := i_wrap (z5 + 1)
          refine lv_iinc (v := iI z65) (lv' := [(3, .int (iI z65)), (5, .int (iI z57)), (4, .int (iI z4)), (0, .ref (q 30)), (1, .ref (q ta)), (2, .ref (q 1))]) hx hb dX4_accept_58 hl (k := 2) rfl ((i_inc (by omega)).trans ez65) (by decide) rfl (fun ls hl => ?_)
          refine lv_iinc (v := iI (z4 + 1)) (lv' := [(4, .int (iI (z4 + 1))), (3, .int (iI z65)), (5, .int (iI z57)), (0, .ref (q 30)), (1, .ref (q ta)), (2, .ref (q 1))]) hx hb dX4_accept_61 hl (k := 2) rfl (i_inc (by omega)) (by decide) rfl (fun ls hl => ?_)
          refine lv_goto (tgt := 16) hx hb dX4_accept_64 (by decide) ?_
          exact ih9 _ (by omega) (z4 + 1) z65 _ _ _ _ (by omega) (by omega) rfl hI (fk.da (fk.trans (fk.rf) hj6 rfl rfl) hA64 (isS.b2 (o := fun b => List.contains [33, 42, 74, 105] (b + 1)) isS32 rfl rfl rfl rfl)) hP hS (lv_sub hl [0, 1, 3, 4, 5] rfl)
        · have c63 : z60 = 0 := (i_eq0 (rb rz60 (by decide) (by decide))).mp c63
          clear hw62
          refine lv_iconst (v := iI 0) hx hb dX4_accept_44 (by decide +kernel) ?_
          exact RET 0 _ _ _ _ _ ⟨hI, fk.trans (fk.trans (fk.rf) hf3 rfl rfl) hj6 rfl rfl, ⟨by decide, by decide⟩⟩ hP hS dX4_accept_45
  exact L16_8 _ 0 0 _ _ _ _ (by omega) (by omega) rfl hI (fk.rf) hP hS (lv_sub hl [0, 1, 2, 3, 4] rfl)

abbrev tr_d_X9_clear_3 (ta : Nat) (u : St) (K3 : Int → St → Prop) (z19 : Int) (A21 : St) : Prop := ((IK A21) ∧ ((0 ≤ z19 ∧ z19 ≤ 2147483647) ∧ (((4 ≤ z19) ∧ (∃ A28 : St, A28 = stA A21 (ta + 19) 2 0 ∧ (∃ A29 : St, A29 = stA A28 ta 15 0 ∧ (u = A29)))) ∨ ((¬ 4 ≤ z19) ∧ (∃ A30 : St, A30 = stA A21 ((ta + 22) + 3) (z19).toNat 0 ∧ (K3 (z19 + 1) A30))))))
def d_X9_clear_3 (ta : Nat) (u : St) : Nat → Int → St → Prop
  | 0, _, _ => False
  | nn9 + 1, z19, A21 => tr_d_X9_clear_3 ta u (fun z19 A21 => d_X9_clear_3 ta u nn9 z19 A21) z19 A21
theorem u_d_X9_clear_3 {ta : Nat} {u : St} {nn9 : Nat} {z19 : Int} {A21 : St} (h : tr_d_X9_clear_3 ta u (fun z19 A21 => d_X9_clear_3 ta u nn9 z19 A21) z19 A21) : d_X9_clear_3 ta u (nn9 + 1) z19 A21 := h
abbrev tr_d_X9_clear_2 (ta : Nat) (u : St) (K2 : Int → St → Prop) (z10 : Int) (A12 : St) : Prop := ((IK A12) ∧ ((0 ≤ z10 ∧ z10 ≤ 2147483647) ∧ (((3 ≤ z10) ∧ (∃ nn9 : Nat, d_X9_clear_3 ta u nn9 0 A12)) ∨ ((¬ 3 ≤ z10) ∧ (∃ A31 : St, A31 = stA A12 (ta + 12) (z10).toNat 0 ∧ (K2 (z10 + 1) A31))))))
def d_X9_clear_2 (ta : Nat) (u : St) : Nat → Int → St → Prop
  | 0, _, _ => False
  | nn9 + 1, z10, A12 => tr_d_X9_clear_2 ta u (fun z10 A12 => d_X9_clear_2 ta u nn9 z10 A12) z10 A12
theorem u_d_X9_clear_2 {ta : Nat} {u : St} {nn9 : Nat} {z10 : Int} {A12 : St} (h : tr_d_X9_clear_2 ta u (fun z10 A12 => d_X9_clear_2 ta u nn9 z10 A12) z10 A12) : d_X9_clear_2 ta u (nn9 + 1) z10 A12 := h
abbrev tr_d_X9_clear_1 (ta : Nat) (u : St) (K1 : Int → St → Prop) (z1 : Int) (A3 : St) : Prop := ((IK A3) ∧ ((0 ≤ z1 ∧ z1 ≤ 2147483647) ∧ (((8 ≤ z1) ∧ (∃ nn9 : Nat, d_X9_clear_2 ta u nn9 0 A3)) ∨ ((¬ 8 ≤ z1) ∧ (∃ A32 : St, A32 = stA A3 (ta + 1) (z1).toNat 0 ∧ (K1 (z1 + 1) A32))))))
def d_X9_clear_1 (ta : Nat) (u : St) : Nat → Int → St → Prop
  | 0, _, _ => False
  | nn9 + 1, z1, A3 => tr_d_X9_clear_1 ta u (fun z1 A3 => d_X9_clear_1 ta u nn9 z1 A3) z1 A3
theorem u_d_X9_clear_1 {ta : Nat} {u : St} {nn9 : Nat} {z1 : Int} {A3 : St} (h : tr_d_X9_clear_1 ta u (fun z1 A3 => d_X9_clear_1 ta u nn9 z1 A3) z1 A3) : d_X9_clear_1 ta u (nn9 + 1) z1 A3 := h
abbrev tr_r_X9_clear (ta : Nat) (A : St) (u : St) : Prop := (∃ nn9 : Nat, d_X9_clear_1 ta u nn9 0 A)
def r_X9_clear (ta : Nat) (A : St) (u : St) : Prop := tr_r_X9_clear ta A u
theorem u_r_X9_clear {ta : Nat} {A : St} {u : St} (h : tr_r_X9_clear ta A u) : r_X9_clear ta A u := h
def q_X9_clear (ta : Nat) (A : St) (u : St) : Prop := r_X9_clear ta A u ∧ IK u ∧ fk [35, 44, 52, 63, 76, 83, 94, 107] [(51, 15), (70, 2), (82, 15), (101, 2)] A u ∧ (True)
def ws_kc_X9_clear : List Cond := .code yX9_clear cX9_clear 2 none :: WY
set_option maxHeartbeats 4000000 in
set_option maxRecDepth 100000 in
theorem kc_X9_clear (l : Launch) (dC : Nat → ClassId) (dI : Nat → Nat → Nat) (cB cI cJ cZ cQ : ClassId) (aL aS : Nat) (q : Nat → Nat) (A : St) (ta : Nat) (hI : IK A) (hta : isT ta) : KMv l yX9_clear ws_kc_X9_clear ({ frames := 0, cells := 0, slots := 0, locals := 0 } : Room) aL aS (dC, dI) (tyA cB cI cJ cZ cQ) (WK cB cI cJ cZ cQ q) A [.ref (q ta)] (fun u => r_X9_clear ta A u ∧ IK u ∧ fk [35, 44, 52, 63, 76, 83, 94, 107] [(51, 15), (70, 2), (82, 15), (101, 2)] A u ∧ (True)) := by
  refine k_metv (cc := cX9_clear) (maxL := 2) WK_adr (plainFor_of_name (by decide +kernel)) rfl (Nat.le_of_ble_eq_true rfl) (fun p e s m below meth c Q AS ls hx hb hml hown hts hK hDD hA0 hE RET H locs hP hS hl => ?_)
  have hown : s.vm.findClass RX9 = some m.cls := hown
  have hl : lv_has ls 2 [(0, .ref (q ta))] := hl
  have hiX9 : ∀ w ∈ u_ws RX9 TX9 16, w ∈ ws_kc_X9_clear := fun w h => List.mem_cons_of_mem _ (wy_layX9 w h)
  have hiX8 : ∀ w ∈ u_ws RX8 TX8 3, w ∈ ws_kc_X9_clear := fun w h => List.mem_cons_of_mem _ (wy_layX8 w h)
  have hiX6 : ∀ w ∈ u_ws RX6 TX6 4, w ∈ ws_kc_X9_clear := fun w h => List.mem_cons_of_mem _ (wy_layX6 w h)
  refine lv_iconst (v := iI 0) hx hb dX9_clear_0 (by decide +kernel) ?_
  refine lv_istore_n (lv' := [(1, .int (iI 0)), (0, .ref (q ta))]) hx hb dX9_clear_1 rfl hl (by decide) rfl (fun ls hl => ?_)
  have L2_4 : ∀ (n7 : Nat) (z1 : Int) (A3 : St) (H : Heap) (locs : List Loc) (ls : Array Slot), (0 ≤ z1 ∧ z1 ≤ 2147483647) → (∀ (u : St), (∃ n1 : Nat, (d_X9_clear_1 ta u n1 z1 A3)) → r_X9_clear ta A u) → ((9 - z1).toNat = n7) → IK A3 → fk [52, 83] [] A A3 → va_P (dC, dI) vwCl (WK cB cI cJ cZ cQ q A3) H → va_S AS s.heap H locs → lv_has ls 2 [(1, .int (iI z1)), (0, .ref (q ta))] → W p l e (headSpec ws_kc_X9_clear ({ frames := 0, cells := 0, slots := 0, locals := 0 } : Room)).room s m [.ref (q ta)].toArray below meth c H locs 0 0 Q (F0 m 2 ls []) := by
    intro n7
    induction n7 using Nat.strongRecOn with
    | ind n7 ih5 =>
      intro z1 A3 H locs ls f6 hk1 hn7 hI hj2 hP hS hl
      have gI8 : Hd (IK A3) := Hd.mk hI
      refine lv_iload_n hx hb dX9_clear_2 rfl (lv_at hl 0 rfl) ?_
      refine lv_bipush (v := iI 8) hx hb dX9_clear_3 (by decide +kernel) ?_
      refine lv_icmp_ge (tgt := 21) hx hb dX9_clear_5 (by decide) (fun c9 => ?_) (fun c9 => ?_)
      · have c9 : 8 ≤ z1 := (i_le ⟨by decide, by decide⟩ (rb f6 (by decide) (by decide))).mp c9
        refine lv_iconst (v := iI 0) hx hb dX9_clear_21 (by decide +kernel) ?_
        refine lv_istore_n (lv' := [(1, .int (iI 0)), (0, .ref (q ta))]) hx hb dX9_clear_22 rfl hl (by decide) rfl (fun ls hl => ?_)
        have L23_13 : ∀ (n16 : Nat) (z10 : Int) (A12 : St) (H : Heap) (locs : List Loc) (ls : Array Slot), (0 ≤ z10 ∧ z10 ≤ 2147483647) → (∀ (u : St), (∃ n1 n2 : Nat, (d_X9_clear_2 ta u n2 z10 A12)) → r_X9_clear ta A u) → ((4 - z10).toNat = n16) → IK A12 → fk [63, 94] [] A3 A12 → va_P (dC, dI) vwCl (WK cB cI cJ cZ cQ q A12) H → va_S AS s.heap H locs → lv_has ls 2 [(1, .int (iI z10)), (0, .ref (q ta))] → W p l e (headSpec ws_kc_X9_clear ({ frames := 0, cells := 0, slots := 0, locals := 0 } : Room)).room s m [.ref (q ta)].toArray below meth c H locs 0 0 Q (F0 m 23 ls []) := by
          intro n16
          induction n16 using Nat.strongRecOn with
          | ind n16 ih14 =>
            intro z10 A12 H locs ls f15 hk2 hn16 hI hj11 hP hS hl
            have gI17 : Hd (IK A12) := Hd.mk hI
            refine lv_iload_n hx hb dX9_clear_23 rfl (lv_at hl 0 rfl) ?_
            refine lv_iconst (v := iI 3) hx hb dX9_clear_24 (by decide +kernel) ?_
            refine lv_icmp_ge (tgt := 41) hx hb dX9_clear_25 (by decide) (fun c18 => ?_) (fun c18 => ?_)
            · have c18 : 3 ≤ z10 := (i_le ⟨by decide, by decide⟩ (rb f15 (by decide) (by decide))).mp c18
              refine lv_iconst (v := iI 0) hx hb dX9_clear_41 (by decide +kernel) ?_
              refine lv_istore_n (lv' := [(1, .int (iI 0)), (0, .ref (q ta))]) hx hb dX9_clear_42 rfl hl (by decide) rfl (fun ls hl => ?_)
              have L43_22 : ∀ (n25 : Nat) (z19 : Int) (A21 : St) (H : Heap) (locs : List Loc) (ls : Array Slot), (0 ≤ z19 ∧ z19 ≤ 2147483647) → (∀ (u : St), (∃ n1 n2 n3 : Nat, (d_X9_clear_3 ta u n3 z19 A21)) → r_X9_clear ta A u) → ((5 - z19).toNat = n25) → IK A21 → fk [35, 44, 76, 107] [] A12 A21 → va_P (dC, dI) vwCl (WK cB cI cJ cZ cQ q A21) H → va_S AS s.heap H locs → lv_has ls 2 [(1, .int (iI z19)), (0, .ref (q ta))] → W p l e (headSpec ws_kc_X9_clear ({ frames := 0, cells := 0, slots := 0, locals := 0 } : Room)).room s m [.ref (q ta)].toArray below meth c H locs 0 0 Q (F0 m 43 ls []) := by
                intro n25
                induction n25 using Nat.strongRecOn with
                | ind n25 ih23 =>
                  intro z19 A21 H locs ls f24 hk3 hn25 hI hj20 hP hS hl
                  have gI26 : Hd (IK A21) := Hd.mk hI
                  refine lv_iload_n hx hb dX9_clear_43 rfl (lv_at hl 0 rfl) ?_
                  refine lv_iconst (v := iI 4) hx hb dX9_clear_44 (by decide +kernel) ?_
                  refine lv_icmp_ge (tgt := 64) hx hb dX9_clear_45 (by decide) (fun c27 => ?_) (fun c27 => ?_)
                  · have c27 : 4 ≤ z19 := (i_le ⟨by decide, by decide⟩ (rb f24 (by decide) (by decide))).mp c27
                    refine lv_aload_n hx hb dX9_clear_64 rfl (lv_at hl 1 rfl) ?_
                    refine va_get (D := (dC, dI)) (ci := 9) (v := .ref (q (ta + 19))) (C := RX9) (T := TX9) (N := 16) hx hb hts hiX9 hown hK hP ta (wkT hta) rfl 13 (by decide) (hts _ (List.mem_cons_of_mem _ (wk_in_5 _ (List.mem_of_getElem? (i := 16) rfl)))) (fun _ h9 => h9) rfl dX9_clear_65 ?_
                    refine lv_iconst (v := iI 0) hx hb dX9_clear_68 (by decide +kernel) ?_
                    refine k_put (Wf := WK cB cI cJ cZ cQ q) (D := (dC, dI)) (ci := 8) (v := .int (iI 0)) (ty := .int) (C := RX8) (T := TX8) (N := 3) hx hb hts hiX8 tyX8 tyX8_ok nmX8 hown hK hP hDD hS (ta + 19) (wkE hta.e) rfl 2 (by decide) (hts _ (List.mem_cons_of_mem _ (wk_in_5 _ (List.mem_of_getElem? (i := 17) rfl)))) (fun _ h9 => h9) rfl (by decide +kernel) rfl rfl (Nat.le_of_ble_eq_true rfl) dX9_clear_69 (wfE_2 hta.e (v := 0)) (fun H locs A28 hA28 hP hS => ?_)
                    have hI := isE_2 hta.e hA28 hI (show (0 : Int) ≤ 0 ∧ 0 ≤ 1600 from ⟨by decide, by decide⟩)
                    refine lv_aload_n hx hb dX9_clear_72 rfl (lv_at hl 1 rfl) ?_
                    refine lv_iconst (v := iI 0) hx hb dX9_clear_73 (by decide +kernel) ?_
                    refine k_put (Wf := WK cB cI cJ cZ cQ q) (D := (dC, dI)) (ci := 9) (v := .int (iI 0)) (ty := .int) (C := RX9) (T := TX9) (N := 16) hx hb hts hiX9 tyX9 tyX9_ok nmX9 hown hK hP hDD hS ta (wkT hta) rfl 15 (by decide) (hts _ (List.mem_cons_of_mem _ (wk_in_5 _ (List.mem_of_getElem? (i := 18) rfl)))) (fun _ h9 => h9) rfl (by decide +kernel) rfl rfl (Nat.le_of_ble_eq_true rfl) dX9_clear_74 (wfT_15 hta (v := 0)) (fun H locs A29 hA29 hP hS => ?_)
                    have hI := isT_15 hta hA29 hI (show (-2147483648 : Int) ≤ 0 ∧ 0 ≤ 2147483647 from ⟨by decide, by decide⟩)
                    exact RET _ _ _ _ _ ⟨hk3 _ ⟨0, 0, 0 + 1, (u_d_X9_clear_3 ⟨gI26.out, ⟨f24, (Or.inl ⟨c27, ⟨A28, hA28, ⟨A29, hA29, rfl⟩⟩⟩)⟩⟩)⟩, hI, fk.df (fk.df (fk.trans (fk.trans (fk.trans (fk.rf) hj2 rfl rfl) hj11 rfl rfl) hj20 rfl rfl) hA28 (isE.b2 (o := fun b => fin2 [(51, 15), (70, 2), (82, 15), (101, 2)] b 2) hta.e rfl rfl)) hA29 (isT.b2 (o := fun b => fin2 [(51, 15), (70, 2), (82, 15), (101, 2)] b 15) hta rfl rfl), trivial⟩ hP hS dX9_clear_77
                  · have c27 : ¬ 4 ≤ z19 := mt (i_le ⟨by decide, by decide⟩ (rb f24 (by decide) (by decide))).mpr c27
                    refine lv_aload_n hx hb dX9_clear_48 rfl (lv_at hl 1 rfl) ?_
                    refine va_get (D := (dC, dI)) (ci := 9) (v := .ref (q (ta + 22))) (C := RX9) (T := TX9) (N := 16) hx hb hts hiX9 hown hK hP ta (wkT hta) rfl 14 (by decide) (hts _ (List.mem_cons_of_mem _ (wk_in_0 _ (List.mem_of_getElem? (i := 9) rfl)))) (fun _ h9 => h9) rfl dX9_clear_49 ?_
                    refine va_get (D := (dC, dI)) (ci := 6) (v := .ref (q ((ta + 22) + 3))) (C := RX6) (T := TX6) (N := 4) hx hb hts hiX6 hown hK hP (ta + 22) (wkS hta.s) rfl 2 (by decide) (hts _ (List.mem_cons_of_mem _ (wk_in_5 _ (List.mem_of_getElem? (i := 15) rfl)))) (fun _ h9 => h9) rfl dX9_clear_52 ?_
                    refine lv_iload_n hx hb dX9_clear_55 rfl (lv_at hl 0 rfl) ?_
                    refine lv_iconst (v := iI 0) hx hb dX9_clear_56 (by decide +kernel) ?_
                    refine k_iast (Wf := WK cB cI cJ cZ cQ q) hx hb hK hP hDD hS ((ta + 22) + 3) 1 (wkSz hta.s) rfl (by omega) (by decide) dX9_clear_57 (wsSz hta.s) (fun H locs A30 hA30 hP hS => ?_)
                    have hI := isSz hta.s hA30 hI (show (0 : Int) ≤ 0 ∧ 0 ≤ 6 from ⟨by decide, by decide⟩)
                    refine lv_iinc (v := iI (z19 + 1)) (lv' := [(1, .int (iI (z19 + 1))), (0, .ref (q ta))]) hx hb dX9_clear_58 hl (k := 0) rfl (i_inc (by omega)) (by decide) rfl (fun ls hl => ?_)
                    refine lv_goto (tgt := 43) hx hb dX9_clear_61 (by decide) ?_
                    exact ih23 _ (by omega) (z19 + 1) _ _ _ _ (by omega) (fun u9 ⟨n1, n2, n3, h9⟩ => hk3 _ ⟨n1, n2, n3 + 1, (u_d_X9_clear_3 ⟨gI26.out, ⟨f24, (Or.inr ⟨c27, ⟨A30, hA30, h9⟩⟩)⟩⟩)⟩) rfl hI (fk.da (fk.trans (fk.rf) hj20 rfl rfl) hA30 (isS.b2 (o := fun b => List.contains [35, 44, 76, 107] (b + 3)) hta.s rfl rfl rfl rfl)) hP hS (lv_sub hl [0, 1] rfl)
              exact L43_22 _ 0 _ _ _ _ (by omega) (fun u9 ⟨n1, n2, n3, h9⟩ => hk2 _ ⟨n1, n2 + 1, (u_d_X9_clear_2 ⟨gI17.out, ⟨f15, (Or.inl ⟨c18, ⟨n3, h9⟩⟩)⟩⟩)⟩) rfl hI (fk.rf) hP hS (lv_sub hl [0, 1] rfl)
            · have c18 : ¬ 3 ≤ z10 := mt (i_le ⟨by decide, by decide⟩ (rb f15 (by decide) (by decide))).mpr c18
              refine lv_aload_n hx hb dX9_clear_28 rfl (lv_at hl 1 rfl) ?_
              refine va_get (D := (dC, dI)) (ci := 9) (v := .ref (q (ta + 12))) (C := RX9) (T := TX9) (N := 16) hx hb hts hiX9 hown hK hP ta (wkT hta) rfl 6 (by decide) (hts _ (List.mem_cons_of_mem _ (wk_in_5 _ (List.mem_of_getElem? (i := 14) rfl)))) (fun _ h9 => h9) rfl dX9_clear_29 ?_
              refine lv_iload_n hx hb dX9_clear_32 rfl (lv_at hl 0 rfl) ?_
              refine lv_iconst (v := iI 0) hx hb dX9_clear_33 (by decide +kernel) ?_
              refine k_iast (Wf := WK cB cI cJ cZ cQ q) hx hb hK hP hDD hS (ta + 12) 1 (wkTw hta) rfl (by omega) (by decide) dX9_clear_34 (wsTw hta) (fun H locs A31 hA31 hP hS => ?_)
              have hI := isTw hta hA31 hI (show (-2147483648 : Int) ≤ 0 ∧ 0 ≤ 2147483647 from ⟨by decide, by decide⟩)
              refine lv_iinc (v := iI (z10 + 1)) (lv' := [(1, .int (iI (z10 + 1))), (0, .ref (q ta))]) hx hb dX9_clear_35 hl (k := 0) rfl (i_inc (by omega)) (by decide) rfl (fun ls hl => ?_)
              refine lv_goto (tgt := 23) hx hb dX9_clear_38 (by decide) ?_
              exact ih14 _ (by omega) (z10 + 1) _ _ _ _ (by omega) (fun u9 ⟨n1, n2, h9⟩ => hk2 _ ⟨n1, n2 + 1, (u_d_X9_clear_2 ⟨gI17.out, ⟨f15, (Or.inr ⟨c18, ⟨A31, hA31, h9⟩⟩)⟩⟩)⟩) rfl hI (fk.da (fk.trans (fk.rf) hj11 rfl rfl) hA31 (isT.b2 (o := fun b => List.contains [63, 94] (b + 12)) hta rfl rfl)) hP hS (lv_sub hl [0, 1] rfl)
        exact L23_13 _ 0 _ _ _ _ (by omega) (fun u9 ⟨n1, n2, h9⟩ => hk1 _ ⟨n1 + 1, (u_d_X9_clear_1 ⟨gI8.out, ⟨f6, (Or.inl ⟨c9, ⟨n2, h9⟩⟩)⟩⟩)⟩) rfl hI (fk.rf) hP hS (lv_sub hl [0, 1] rfl)
      · have c9 : ¬ 8 ≤ z1 := mt (i_le ⟨by decide, by decide⟩ (rb f6 (by decide) (by decide))).mpr c9
        refine lv_aload_n hx hb dX9_clear_8 rfl (lv_at hl 1 rfl) ?_
        refine va_get (D := (dC, dI)) (ci := 9) (v := .ref (q (ta + 1))) (C := RX9) (T := TX9) (N := 16) hx hb hts hiX9 hown hK hP ta (wkT hta) rfl 0 (by decide) (hts _ (List.mem_cons_of_mem _ (wk_in_0 _ (List.mem_of_getElem? (i := 8) rfl)))) (fun _ h9 => h9) rfl dX9_clear_9 ?_
        refine lv_iload_n hx hb dX9_clear_12 rfl (lv_at hl 0 rfl) ?_
        refine lv_iconst (v := iI 0) hx hb dX9_clear_13 (by decide +kernel) ?_
        refine k_iast (Wf := WK cB cI cJ cZ cQ q) hx hb hK hP hDD hS (ta + 1) 1 (wkTc hta) rfl (by omega) (by decide) dX9_clear_14 (wsTc hta) (fun H locs A32 hA32 hP hS => ?_)
        have hI := isTc hta hA32 hI ⟨Int.le_refl 0, Int.le_trans (by decide) (limK_ge _)⟩
        refine lv_iinc (v := iI (z1 + 1)) (lv' := [(1, .int (iI (z1 + 1))), (0, .ref (q ta))]) hx hb dX9_clear_15 hl (k := 0) rfl (i_inc (by omega)) (by decide) rfl (fun ls hl => ?_)
        refine lv_goto (tgt := 2) hx hb dX9_clear_18 (by decide) ?_
        exact ih5 _ (by omega) (z1 + 1) _ _ _ _ (by omega) (fun u9 ⟨n1, h9⟩ => hk1 _ ⟨n1 + 1, (u_d_X9_clear_1 ⟨gI8.out, ⟨f6, (Or.inr ⟨c9, ⟨A32, hA32, h9⟩⟩)⟩⟩)⟩) rfl hI (fk.da (fk.trans (fk.rf) hj2 rfl rfl) hA32 (isT.b2 (o := fun b => List.contains [52, 83] (b + 1)) hta rfl rfl)) hP hS (lv_sub hl [0, 1] rfl)
  exact L2_4 _ 0 _ _ _ _ (by omega) (fun u9 ⟨n1, h9⟩ => (u_r_X9_clear ⟨n1, h9⟩)) rfl hI (fk.rf) hP hS (lv_sub hl [0, 1] rfl)

abbrev tr_r_X5_bad (x1 : Int) (A : St) (z : Int) (u : St) : Prop := (∃ A1 : St, A1 = stA A 3 2 x1 ∧ (∃ A4 : St, A4 = stA A1 3 3 (A 5 3) ∧ (z = 0 ∧ u = A4)))
def r_X5_bad (x1 : Int) (A : St) (z : Int) (u : St) : Prop := tr_r_X5_bad x1 A z u
theorem u_r_X5_bad {x1 : Int} {A : St} {z : Int} {u : St} (h : tr_r_X5_bad x1 A z u) : r_X5_bad x1 A z u := h
def q_X5_bad (x1 : Int) (A : St) (z : Int) (u : St) : Prop := r_X5_bad x1 A z u ∧ IK u ∧ fk [] [(3, 2), (3, 3)] A u ∧ ((0 ≤ z ∧ z ≤ 1) ∧ (z = 0))
def ws_kc_X5_bad : List Cond := .code yX5_bad cX5_bad 2 (some .boolean) :: WY
set_option maxHeartbeats 4000000 in
set_option maxRecDepth 100000 in
theorem kc_X5_bad (l : Launch) (dC : Nat → ClassId) (dI : Nat → Nat → Nat) (cB cI cJ cZ cQ : ClassId) (aL aS : Nat) (q : Nat → Nat) (A : St) (x1 : Int) (hI : IK A) (hx1 : (0 : Int) ≤ x1 ∧ x1 ≤ 5) : KMi l yX5_bad ws_kc_X5_bad ({ frames := 0, cells := 0, slots := 0, locals := 0 } : Room) aL aS (dC, dI) (tyA cB cI cJ cZ cQ) (WK cB cI cJ cZ cQ q) A [.ref (q 3), .int (iI x1)] (fun z u => r_X5_bad x1 A z u ∧ IK u ∧ fk [] [(3, 2), (3, 3)] A u ∧ ((0 ≤ z ∧ z ≤ 1) ∧ (z = 0))) := by
  refine k_metz (cc := cX5_bad) (maxL := 2) WK_adr (plainFor_of_name (by decide +kernel)) rfl (Nat.le_of_ble_eq_true rfl) (fun z u h => h.2.2.2.1) (fun p e s m below meth c Q AS ls hx hb hml hown hts hK hDD hA0 hE RET H locs hP hS hl => ?_)
  have hown : s.vm.findClass RX5 = some m.cls := hown
  have hl : lv_has ls 2 [(0, .ref (q 3)), (1, .int (iI x1))] := hl
  have hiX5 : ∀ w ∈ u_ws RX5 TX5 5, w ∈ ws_kc_X5_bad := fun w h => List.mem_cons_of_mem _ (wy_layX5 w h)
  have hiX3 : ∀ w ∈ u_ws RX3 TX3 7, w ∈ ws_kc_X5_bad := fun w h => List.mem_cons_of_mem _ (wy_layX3 w h)
  refine lv_aload_n hx hb dX5_bad_0 rfl (lv_at hl 0 rfl) ?_
  refine lv_iload_n hx hb dX5_bad_1 rfl (lv_at hl 1 rfl) ?_
  refine k_put (Wf := WK cB cI cJ cZ cQ q) (D := (dC, dI)) (ci := 5) (v := .int (iI x1)) (ty := .int) (C := RX5) (T := TX5) (N := 5) hx hb hts hiX5 tyX5 tyX5_ok nmX5 hown hK hP hDD hS 3 (wkRD) rfl 2 (by decide) (hts _ (List.mem_cons_of_mem _ (wk_in_5 _ (List.mem_of_getElem? (i := 7) rfl)))) (fun _ h9 => h9) rfl (by decide +kernel) rfl rfl (Nat.le_of_ble_eq_true rfl) dX5_bad_2 (wfRD_2 (v := x1)) (fun H locs A1 hA1 hP hS => ?_)
  have hI := isRD_2 hA1 hI (show (0 : Int) ≤ x1 ∧ x1 ≤ 5 from hx1)
  refine lv_aload_n hx hb dX5_bad_5 rfl (lv_at hl 0 rfl) ?_
  refine lv_aload_n hx hb dX5_bad_6 rfl (lv_at hl 0 rfl) ?_
  refine va_get (D := (dC, dI)) (ci := 5) (v := .ref (q 5)) (C := RX5) (T := TX5) (N := 5) hx hb hts hiX5 hown hK hP 3 (wkRD) rfl 0 (by decide) (hts _ (List.mem_cons_of_mem _ (wk_in_5 _ (List.mem_of_getElem? (i := 6) rfl)))) (fun _ h9 => h9) rfl dX5_bad_7 ?_
  have e2 : A1 5 3 = (A 5 3) := (rd_ne hA1 (by decide) 3)
  have r3 : (0 : Int) ≤ (A 5 3) ∧ (A 5 3) ≤ 1600 := by rw [← e2]; exact irLX_3 hI
  refine va_get (D := (dC, dI)) (ci := 3) (v := .int (iI (A1 5 3))) (C := RX3) (T := TX3) (N := 7) hx hb hts hiX3 hown hK hP 5 (wkLX) rfl 3 (by decide) (hts _ (List.mem_cons_of_mem _ (wk_in_5 _ (List.mem_of_getElem? (i := 41) rfl)))) (fun _ h9 => h9) rfl dX5_bad_10 ?_
  refine tp_i (y := iI (A 5 3)) (congrArg iI e2) ?_
  refine k_put (Wf := WK cB cI cJ cZ cQ q) (D := (dC, dI)) (ci := 5) (v := .int (iI (A 5 3))) (ty := .int) (C := RX5) (T := TX5) (N := 5) hx hb hts hiX5 tyX5 tyX5_ok nmX5 hown hK hP hDD hS 3 (wkRD) rfl 3 (by decide) (hts _ (List.mem_cons_of_mem _ (wk_in_5 _ (List.mem_of_getElem? (i := 8) rfl)))) (fun _ h9 => h9) rfl (by decide +kernel) rfl rfl (Nat.le_of_ble_eq_true rfl) dX5_bad_13 (wfRD_3 (v := (A 5 3))) (fun H locs A4 hA4 hP hS => ?_)
  have hI := isRD_3 hA4 hI (show (-1 : Int) ≤ (A 5 3) ∧ (A 5 3) ≤ 1600 from (rb r3 (by decide) (by decide)))
  refine lv_iconst (v := iI 0) hx hb dX5_bad_16 (by decide +kernel) ?_
  exact RET 0 _ _ _ _ _ ⟨(u_r_X5_bad ⟨A1, hA1, ⟨A4, hA4, ⟨rfl, rfl⟩⟩⟩), hI, fk.df (fk.df (fk.rf) hA1 rfl) hA4 rfl, by omega⟩ hP hS dX5_bad_17

abbrev tr_r_X5_none (x1 : Int) (A : St) (z : Int) (u : St) : Prop := (∃ z1 : Int, ∃ A2 : St, q_X5_bad x1 A z1 A2 ∧ (z = (-1) ∧ u = A2))
def r_X5_none (x1 : Int) (A : St) (z : Int) (u : St) : Prop := tr_r_X5_none x1 A z u
theorem u_r_X5_none {x1 : Int} {A : St} {z : Int} {u : St} (h : tr_r_X5_none x1 A z u) : r_X5_none x1 A z u := h
def q_X5_none (x1 : Int) (A : St) (z : Int) (u : St) : Prop := r_X5_none x1 A z u ∧ IK u ∧ fk [] [(3, 2), (3, 3)] A u ∧ (z = -1)
def ws_kc_X5_none : List Cond := .code yX5_none cX5_none 2 (some .int) :: WY
set_option maxHeartbeats 4000000 in
set_option maxRecDepth 100000 in
theorem kc_X5_none (l : Launch) (dC : Nat → ClassId) (dI : Nat → Nat → Nat) (cB cI cJ cZ cQ : ClassId) (aL aS : Nat) (q : Nat → Nat) (A : St) (x1 : Int) (hI : IK A) (hx1 : (0 : Int) ≤ x1 ∧ x1 ≤ 5) : KMi l yX5_none ws_kc_X5_none ({ frames := 1, cells := 0, slots := 0, locals := 21 } : Room) aL aS (dC, dI) (tyA cB cI cJ cZ cQ) (WK cB cI cJ cZ cQ q) A [.ref (q 3), .int (iI x1)] (fun z u => r_X5_none x1 A z u ∧ IK u ∧ fk [] [(3, 2), (3, 3)] A u ∧ (z = -1)) := by
  refine k_meti (cc := cX5_none) (maxL := 2) WK_adr (plainFor_of_name (by decide +kernel)) rfl (Nat.le_of_ble_eq_true rfl) (fun p e s m below meth c Q AS ls hx hb hml hown hts hK hDD hA0 hE RET H locs hP hS hl => ?_)
  have hown : s.vm.findClass RX5 = some m.cls := hown
  have hl : lv_has ls 2 [(0, .ref (q 3)), (1, .int (iI x1))] := hl
  refine lv_aload_n hx hb dX5_none_0 rfl (lv_at hl 0 rfl) ?_
  refine lv_iload_n hx hb dX5_none_1 rfl (lv_at hl 1 rfl) ?_
  refine k_calli (As := [.int (iI x1)]) (rest := []) ⟨hx, hb, hml, hown, hts⟩ hE (kc_X5_bad l dC dI cB cI cJ cZ cQ aL aS q _ x1 hI hx1) (cwV 1 hts (goodVk (wk_in_5 _ (List.mem_of_getElem? (i := 37) rfl)) (wk_in_5 _ (List.mem_of_getElem? (i := 38) rfl)) (wk_in_5 _ (List.mem_of_getElem? (i := 39) rfl)) (wk_in_5 _ (List.mem_of_getElem? (i := 28) rfl)) (wk_in_5 _ (List.mem_of_getElem? (i := 40) rfl))) rfl rfl rfl (by decide +kernel) ⟨Nat.le_of_ble_eq_true rfl, Nat.le_of_ble_eq_true rfl⟩) hK hDD hA0 hP hS 3 5 (wkRD) rfl rfl hl.1 (Nat.le_of_ble_eq_true rfl) dX5_none_2 (fun z1 A2 H locs hw3 hP hS => ?_)
  have ghw3 : q_X5_bad x1 A z1 A2 := hw3
  obtain ⟨_, hI, hf4, hw3⟩ := hw3
  have rz1 : 0 ≤ z1 ∧ z1 ≤ 1 := hw3.1
  have hw3 := hw3.2
  refine lv_pop hx hb dX5_none_5 rfl ?_
  refine lv_iconst (v := iI (-1)) hx hb dX5_none_6 (by decide +kernel) ?_
  exact RET (-1) _ _ _ _ _ ⟨(u_r_X5_none ⟨z1, A2, ghw3, ⟨rfl, rfl⟩⟩), hI, fk.trans (fk.rf) hf4 rfl rfl, by omega⟩ hP hS dX5_none_7

abbrev tr_d_X5_statementWord_2 (K1 : Int → Prop) (z1 : Int) (z : Int) (u : St) : Prop := (K1 (z1 + 1))
def d_X5_statementWord_2 (K1 : Int → Prop) (z1 : Int) (z : Int) (u : St) : Prop := tr_d_X5_statementWord_2 K1 z1 z u
theorem u_d_X5_statementWord_2 {K1 : Int → Prop} {z1 : Int} {z : Int} {u : St} (h : tr_d_X5_statementWord_2 K1 z1 z u) : d_X5_statementWord_2 K1 z1 z u := h
abbrev tr_d_X5_statementWord_1 (ta : Nat) (A : St) (z : Int) (u : St) (K1 : Int → Prop) (z1 : Int) : Prop := ((0 ≤ z1 ∧ z1 ≤ 2147483647) ∧ (((12 ≤ z1) ∧ (∃ z8 : Int, ∃ A9 : St, q_X5_none 1 A z8 A9 ∧ (z = z8 ∧ u = A9))) ∨ ((¬ 12 ≤ z1) ∧ (((¬ (A 5 2) = 1) ∧ (d_X5_statementWord_2 K1 z1 z u)) ∨ (((A 5 2) = 1) ∧ (∃ z16 : Int, z16 = A 4 (z1).toNat ∧ (((¬ (A 5 4) = z16) ∧ (d_X5_statementWord_2 K1 z1 z u)) ∨ (((A 5 4) = z16) ∧ (∃ z18 : Int, z18 = kindK (z1).toNat ∧ (((z18 = (-1)) ∧ (∃ A20 : St, q_X3_pass A A20 ∧ (z = z1 ∧ u = A20))) ∨ ((¬ z18 = (-1)) ∧ (∃ z24 : Int, z24 = A (ta + 1) (z18).toNat ∧ (∃ z25 : Int, z25 = limK (z18).toNat ∧ (((z24 < z25) ∧ (∃ A27 : St, q_X3_pass A A27 ∧ (z = z1 ∧ u = A27))) ∨ ((¬ z24 < z25) ∧ (∃ z31 : Int, ∃ A32 : St, q_X5_none 5 A z31 A32 ∧ (z = z31 ∧ u = A32)))))))))))))))))
def d_X5_statementWord_1 (ta : Nat) (A : St) (z : Int) (u : St) : Nat → Int → Prop
  | 0, _ => False
  | nn9 + 1, z1 => tr_d_X5_statementWord_1 ta A z u (fun z1 => d_X5_statementWord_1 ta A z u nn9 z1) z1
theorem u_d_X5_statementWord_1 {ta : Nat} {A : St} {z : Int} {u : St} {nn9 : Nat} {z1 : Int} (h : tr_d_X5_statementWord_1 ta A z u (fun z1 => d_X5_statementWord_1 ta A z u nn9 z1) z1) : d_X5_statementWord_1 ta A z u (nn9 + 1) z1 := h
abbrev tr_r_X5_statementWord (ta : Nat) (A : St) (z : Int) (u : St) : Prop := (∃ nn9 : Nat, d_X5_statementWord_1 ta A z u nn9 0)
def r_X5_statementWord (ta : Nat) (A : St) (z : Int) (u : St) : Prop := tr_r_X5_statementWord ta A z u
theorem u_r_X5_statementWord {ta : Nat} {A : St} {z : Int} {u : St} (h : tr_r_X5_statementWord ta A z u) : r_X5_statementWord ta A z u := h
def q_X5_statementWord (ta : Nat) (A : St) (z : Int) (u : St) : Prop := r_X5_statementWord ta A z u ∧ IK u ∧ fk [] [(3, 2), (3, 3), (5, 6)] A u ∧ ((-1 ≤ z ∧ z ≤ 11) ∧ (z = 6 → u (ta + 1) (5 : Int).toNat < 6))
def ws_kc_X5_statementWord : List Cond := .code yX5_statementWord cX5_statementWord 4 (some .int) :: WY
set_option maxHeartbeats 4000000 in
set_option maxRecDepth 100000 in
theorem kc_X5_statementWord (l : Launch) (dC : Nat → ClassId) (dI : Nat → Nat → Nat) (cB cI cJ cZ cQ : ClassId) (aL aS : Nat) (q : Nat → Nat) (A : St) (ta : Nat) (hI : IK A) (hta : isT ta) : KMi l yX5_statementWord ws_kc_X5_statementWord ({ frames := 2, cells := 0, slots := 0, locals := 42 } : Room) aL aS (dC, dI) (tyA cB cI cJ cZ cQ) (WK cB cI cJ cZ cQ q) A [.ref (q 3), .ref (q ta)] (fun z u => r_X5_statementWord ta A z u ∧ IK u ∧ fk [] [(3, 2), (3, 3), (5, 6)] A u ∧ ((-1 ≤ z ∧ z ≤ 11) ∧ (z = 6 → u (ta + 1) (5 : Int).toNat < 6))) := by
  refine k_meti (cc := cX5_statementWord) (maxL := 4) WK_adr (plainFor_of_name (by decide +kernel)) rfl (Nat.le_of_ble_eq_true rfl) (fun p e s m below meth c Q AS ls hx hb hml hown hts hK hDD hA0 hE RET H locs hP hS hl => ?_)
  have hown : s.vm.findClass RX5 = some m.cls := hown
  have hl : lv_has ls 4 [(0, .ref (q 3)), (1, .ref (q ta))] := hl
  have hiX5 : ∀ w ∈ u_ws RX5 TX5 5, w ∈ ws_kc_X5_statementWord := fun w h => List.mem_cons_of_mem _ (wy_layX5 w h)
  have hiX3 : ∀ w ∈ u_ws RX3 TX3 7, w ∈ ws_kc_X5_statementWord := fun w h => List.mem_cons_of_mem _ (wy_layX3 w h)
  have hiX9 : ∀ w ∈ u_ws RX9 TX9 16, w ∈ ws_kc_X5_statementWord := fun w h => List.mem_cons_of_mem _ (wy_layX9 w h)
  refine lv_iconst (v := iI 0) hx hb dX5_statementWord_0 (by decide +kernel) ?_
  refine lv_istore_n (lv' := [(2, .int (iI 0)), (0, .ref (q 3)), (1, .ref (q ta))]) hx hb dX5_statementWord_1 rfl hl (by decide) rfl (fun ls hl => ?_)
  have L2_3 : ∀ (n6 : Nat) (z1 : Int) (H : Heap) (locs : List Loc) (ls : Array Slot), (0 ≤ z1 ∧ z1 ≤ 2147483647) → (∀ (z : Int) (u : St), (∃ n1 : Nat, (d_X5_statementWord_1 ta A z u n1 z1)) → r_X5_statementWord ta A z u) → ((13 - z1).toNat = n6) → va_P (dC, dI) vwCl (WK cB cI cJ cZ cQ q A) H → va_S AS s.heap H locs → lv_has ls 4 [(2, .int (iI z1)), (0, .ref (q 3)), (1, .ref (q ta))] → W p l e (headSpec ws_kc_X5_statementWord ({ frames := 2, cells := 0, slots := 0, locals := 42 } : Room)).room s m [.ref (q 3), .ref (q ta)].toArray below meth c H locs 0 0 Q (F0 m 2 ls []) := by
    intro n6
    induction n6 using Nat.strongRecOn with
    | ind n6 ih4 =>
      intro z1 H locs ls f5 hk1 hn6 hP hS hl
      refine lv_iload_n hx hb dX5_statementWord_2 rfl (lv_at hl 0 rfl) ?_
      refine va_getsN hx hb hE.2.2.2.1 hS hown (va_Nw.use rfl hE.1) (fun _ h => h) dX5_statementWord_3 ?_
      refine va_tlen (v := iI 12) hx hb hE.2.2.2.2.1 hS (by decide +kernel) dX5_statementWord_6 ?_
      refine lv_icmp_ge (tgt := 83) hx hb dX5_statementWord_7 (by decide) (fun c7 => ?_) (fun c7 => ?_)
      · have c7 : 12 ≤ z1 := (i_le ⟨by decide, by decide⟩ (rb f5 (by decide) (by decide))).mp c7
        refine lv_aload_n hx hb dX5_statementWord_83 rfl (lv_at hl 1 rfl) ?_
        refine lv_iconst (v := iI 1) hx hb dX5_statementWord_84 (by decide +kernel) ?_
        refine k_calli (As := [.int (iI 1)]) (rest := []) ⟨hx, hb, hml, hown, hts⟩ hE (kc_X5_none l dC dI cB cI cJ cZ cQ aL aS q _ 1 hI ⟨by decide, by decide⟩) (cwV 1 hts (goodVk (wk_in_5 _ (List.mem_of_getElem? (i := 33) rfl)) (wk_in_5 _ (List.mem_of_getElem? (i := 34) rfl)) (wk_in_5 _ (List.mem_of_getElem? (i := 35) rfl)) (wk_in_5 _ (List.mem_of_getElem? (i := 28) rfl)) (wk_in_5 _ (List.mem_of_getElem? (i := 36) rfl))) rfl rfl rfl (by decide +kernel) ⟨Nat.le_of_ble_eq_true rfl, Nat.le_of_ble_eq_true rfl⟩) hK hDD hA0 hP hS 3 5 (wkRD) rfl rfl hl.1 (Nat.le_of_ble_eq_true rfl) dX5_statementWord_85 (fun z8 A9 H locs hw10 hP hS => ?_)
        have ghw10 : q_X5_none 1 A z8 A9 := hw10
        obtain ⟨_, hI, hf11, hw10⟩ := hw10
        exact RET z8 _ _ _ _ _ ⟨hk1 _ _ ⟨0 + 1, (u_d_X5_statementWord_1 ⟨f5, (Or.inl ⟨c7, ⟨z8, A9, ghw10, ⟨rfl, rfl⟩⟩⟩)⟩)⟩, hI, fk.trans (fk.rf) hf11 rfl rfl, by omega⟩ hP hS dX5_statementWord_88
      · have c7 : ¬ 12 ≤ z1 := mt (i_le ⟨by decide, by decide⟩ (rb f5 (by decide) (by decide))).mpr c7
        refine lv_aload_n hx hb dX5_statementWord_10 rfl (lv_at hl 1 rfl) ?_
        refine va_get (D := (dC, dI)) (ci := 5) (v := .ref (q 5)) (C := RX5) (T := TX5) (N := 5) hx hb hts hiX5 hown hK hP 3 (wkRD) rfl 0 (by decide) (hts _ (List.mem_cons_of_mem _ (wk_in_5 _ (List.mem_of_getElem? (i := 6) rfl)))) (fun _ h9 => h9) rfl dX5_statementWord_11 ?_
        have r12 : (0 : Int) ≤ (A 5 2) ∧ (A 5 2) ≤ 4 := irLX_2 hI
        refine va_get (D := (dC, dI)) (ci := 3) (v := .int (iI (A 5 2))) (C := RX3) (T := TX3) (N := 7) hx hb hts hiX3 hown hK hP 5 (wkLX) rfl 2 (by decide) (hts _ (List.mem_cons_of_mem _ (wk_in_5 _ (List.mem_of_getElem? (i := 9) rfl)))) (fun _ h9 => h9) rfl dX5_statementWord_14 ?_
        refine lv_iconst (v := iI 1) hx hb dX5_statementWord_17 (by decide +kernel) ?_
        have J77_14 : ∀ (H : Heap) (locs : List Loc) (ls : Array Slot), (∀ (z : Int) (u : St), (∃ n1 : Nat, (d_X5_statementWord_2 (fun z1' => d_X5_statementWord_1 ta A z u n1 z1') z1 z u)) → r_X5_statementWord ta A z u) → va_P (dC, dI) vwCl (WK cB cI cJ cZ cQ q A) H → va_S AS s.heap H locs → lv_has ls 4 [(2, .int (iI z1)), (0, .ref (q 3)), (1, .ref (q ta))] → W p l e (headSpec ws_kc_X5_statementWord ({ frames := 2, cells := 0, slots := 0, locals := 42 } : Room)).room s m [.ref (q 3), .ref (q ta)].toArray below meth c H locs 0 0 Q (F0 m 77 ls []) := by
          intro H locs ls hk2 hP hS hl
          refine lv_iinc (v := iI (z1 + 1)) (lv' := [(2, .int (iI (z1 + 1))), (0, .ref (q 3)), (1, .ref (q ta))]) hx hb dX5_statementWord_77 hl (k := 0) rfl (i_inc (by omega)) (by decide) rfl (fun ls hl => ?_)
          refine lv_goto (tgt := 2) hx hb dX5_statementWord_80 (by decide) ?_
          exact ih4 _ (by omega) (z1 + 1) _ _ _ (by omega) (fun z9 u9 ⟨n1, h9⟩ => hk2 _ _ ⟨n1, (u_d_X5_statementWord_2 h9)⟩) rfl hP hS (lv_sub hl [0, 1, 2] rfl)
        refine lv_icmp_ne (tgt := 77) hx hb dX5_statementWord_18 (by decide) (fun c13 => ?_) (fun c13 => ?_)
        · have c13 : ¬ (A 5 2) = 1 := mt (i_eq (rb r12 (by decide) (by decide)) ⟨by decide, by decide⟩).mpr c13
          exact J77_14 _ _ _ (fun z9 u9 ⟨n1, h9⟩ => hk1 _ _ ⟨n1 + 1, (u_d_X5_statementWord_1 ⟨f5, (Or.inr ⟨c7, (Or.inl ⟨c13, h9⟩)⟩)⟩)⟩) hP hS (lv_sub hl [0, 1, 2] rfl)
        · have c13 : (A 5 2) = 1 := (i_eq (rb r12 (by decide) (by decide)) ⟨by decide, by decide⟩).mp c13
          refine lv_aload_n hx hb dX5_statementWord_21 rfl (lv_at hl 1 rfl) ?_
          refine va_get (D := (dC, dI)) (ci := 5) (v := .ref (q 5)) (C := RX5) (T := TX5) (N := 5) hx hb hts hiX5 hown hK hP 3 (wkRD) rfl 0 (by decide) (hts _ (List.mem_cons_of_mem _ (wk_in_5 _ (List.mem_of_getElem? (i := 6) rfl)))) (fun _ h9 => h9) rfl dX5_statementWord_22 ?_
          have r15 : (-2147483648 : Int) ≤ (A 5 4) ∧ (A 5 4) ≤ 2147483647 := irLX_4 hI
          refine va_get (D := (dC, dI)) (ci := 3) (v := .int (iI (A 5 4))) (C := RX3) (T := TX3) (N := 7) hx hb hts hiX3 hown hK hP 5 (wkLX) rfl 4 (by decide) (hts _ (List.mem_cons_of_mem _ (wk_in_5 _ (List.mem_of_getElem? (i := 30) rfl)))) (fun _ h9 => h9) rfl dX5_statementWord_25 ?_
          refine lv_aload_n hx hb dX5_statementWord_28 rfl (lv_at hl 1 rfl) ?_
          refine va_get (D := (dC, dI)) (ci := 5) (v := .ref (q 4)) (C := RX5) (T := TX5) (N := 5) hx hb hts hiX5 hown hK hP 3 (wkRD) rfl 1 (by decide) (hts _ (List.mem_cons_of_mem _ (wk_in_5 _ (List.mem_of_getElem? (i := 31) rfl)))) (fun _ h9 => h9) rfl dX5_statementWord_29 ?_
          refine lv_iload_n hx hb dX5_statementWord_32 rfl (lv_at hl 0 rfl) ?_
          refine x_iald (Wf := WK cB cI cJ cZ cQ q) hx hb hK hP 4 1 (wkRDo) rfl (by omega) (by decide) dX5_statementWord_33 (fun z16 hz16 => ?_)
          have rz16 : (-2147483648 : Int) ≤ z16 ∧ z16 ≤ 2147483647 := by rw [hz16]; exact irRDo hI
          have gz16 := Hd.mk hz16
          refine lv_icmp_ne (tgt := 77) hx hb dX5_statementWord_34 (by decide) (fun c17 => ?_) (fun c17 => ?_)
          · have c17 : ¬ (A 5 4) = z16 := mt (i_eq r15 rz16).mpr c17
            exact J77_14 _ _ _ (fun z9 u9 ⟨n1, h9⟩ => hk1 _ _ ⟨n1 + 1, (u_d_X5_statementWord_1 ⟨f5, (Or.inr ⟨c7, (Or.inr ⟨c13, ⟨z16, gz16.out, (Or.inl ⟨c17, h9⟩)⟩⟩)⟩)⟩)⟩) hP hS (lv_sub hl [0, 1, 2] rfl)
          · have c17 : (A 5 4) = z16 := (i_eq r15 rz16).mp c17
            refine va_getsN hx hb hE.2.2.2.1 hS hown (va_Nw.use rfl hE.1) (fun _ h => h) dX5_statementWord_37 ?_
            refine lv_iload_n hx hb dX5_statementWord_40 rfl (lv_at hl 0 rfl) ?_
            refine k_tald hx hb hE.2.2.2.2.1 hS (by omega) (by decide) dX5_statementWord_41 (fun z18 hz18 => ?_)
            have rz18 : (-1 : Int) ≤ z18 ∧ z18 ≤ 7 := by rw [hz18]; exact kindK_r _
            refine lv_istore_n (lv' := [(3, .int (iI z18)), (2, .int (iI z1)), (0, .ref (q 3)), (1, .ref (q ta))]) hx hb dX5_statementWord_42 rfl hl (by decide) rfl (fun ls hl => ?_)
            refine lv_iload_n hx hb dX5_statementWord_43 rfl (lv_at hl 0 rfl) ?_
            refine lv_iconst (v := iI (-1)) hx hb dX5_statementWord_44 (by decide +kernel) ?_
            refine lv_icmp_eq (tgt := 68) hx hb dX5_statementWord_45 (by decide) (fun c19 => ?_) (fun c19 => ?_)
            · have c19 : z18 = (-1) := (i_eq (rb rz18 (by decide) (by decide)) ⟨by decide, by decide⟩).mp c19
              refine lv_aload_n hx hb dX5_statementWord_68 rfl (lv_at hl 2 rfl) ?_
              refine va_get (D := (dC, dI)) (ci := 5) (v := .ref (q 5)) (C := RX5) (T := TX5) (N := 5) hx hb hts hiX5 hown hK hP 3 (wkRD) rfl 0 (by decide) (hts _ (List.mem_cons_of_mem _ (wk_in_5 _ (List.mem_of_getElem? (i := 6) rfl)))) (fun _ h9 => h9) rfl dX5_statementWord_69 ?_
              refine k_callv (As := []) (rest := []) ⟨hx, hb, hml, hown, hts⟩ hE (kc_X3_pass l dC dI cB cI cJ cZ cQ aL aS q _ hI) (cwV 0 hts (goodVk (wk_in_5 _ (List.mem_of_getElem? (i := 42) rfl)) (wk_in_5 _ (List.mem_of_getElem? (i := 43) rfl)) (wk_in_5 _ (List.mem_of_getElem? (i := 44) rfl)) (wk_in_4 _ (List.mem_of_getElem? (i := 10) rfl)) (wk_in_3 _ (List.mem_of_getElem? (i := 58) rfl))) rfl rfl rfl (by decide +kernel) ⟨Nat.le_of_ble_eq_true rfl, Nat.le_of_ble_eq_true rfl⟩) hK hDD hA0 hP hS 5 3 (wkLX) rfl rfl hl.1 (Nat.le_of_ble_eq_true rfl) dX5_statementWord_72 (fun A20 H locs hw21 hP hS => ?_)
              have ghw21 : q_X3_pass A A20 := hw21
              obtain ⟨_, hI, hf22, hw21⟩ := hw21
              clear hw21
              refine lv_iload_n hx hb dX5_statementWord_75 rfl (lv_at hl 1 rfl) ?_
              have a23 : ∀ k, A20 (ta + 1) k = A (ta + 1) k := fun k => hf22 (ta + 1) k (isT.b2 (o := fun b => List.contains [] (b + 1)) hta rfl rfl) (isT.b2 (o := fun b => fin2 [(5, 6)] (b + 1) k) hta rfl rfl)
              have h6 : z1 = 6 → A20 (ta + 1) (5 : Int).toNat < 6 := fun h => absurd (hz18.symm.trans (show z18 = -1 by omega)) (by rw [h]; decide)
              exact RET z1 _ _ _ _ _ ⟨hk1 _ _ ⟨0 + 1, (u_d_X5_statementWord_1 ⟨f5, (Or.inr ⟨c7, (Or.inr ⟨c13, ⟨z16, gz16.out, (Or.inr ⟨c17, ⟨z18, hz18, (Or.inl ⟨c19, ⟨A20, ghw21, ⟨rfl, rfl⟩⟩⟩)⟩⟩)⟩⟩)⟩)⟩)⟩, hI, fk.trans (fk.rf) hf22 rfl rfl, ⟨by omega, h6⟩⟩ hP hS dX5_statementWord_76
            · have c19 : ¬ z18 = (-1) := mt (i_eq (rb rz18 (by decide) (by decide)) ⟨by decide, by decide⟩).mpr c19
              refine lv_aload_n hx hb dX5_statementWord_48 rfl (lv_at hl 3 rfl) ?_
              refine va_get (D := (dC, dI)) (ci := 9) (v := .ref (q (ta + 1))) (C := RX9) (T := TX9) (N := 16) hx hb hts hiX9 hown hK hP ta (wkT hta) rfl 0 (by decide) (hts _ (List.mem_cons_of_mem _ (wk_in_5 _ (List.mem_of_getElem? (i := 32) rfl)))) (fun _ h9 => h9) rfl dX5_statementWord_49 ?_
              refine lv_iload_n hx hb dX5_statementWord_52 rfl (lv_at hl 0 rfl) ?_
              refine x_iald (Wf := WK cB cI cJ cZ cQ q) hx hb hK hP (ta + 1) 1 (wkTc hta) rfl (by omega) (by decide) dX5_statementWord_53 (fun z24 hz24 => ?_)
              have rz24 : (0 : Int) ≤ z24 ∧ z24 ≤ 10 := by rw [hz24]; exact irTc hta hI
              have gz24 := Hd.mk hz24
              refine va_getsN hx hb hE.2.2.2.2.2.1 hS hown (va_Nw.use rfl hE.2.1) (fun _ h => h) dX5_statementWord_54 ?_
              refine lv_iload_n hx hb dX5_statementWord_57 rfl (lv_at hl 0 rfl) ?_
              refine k_tald hx hb hE.2.2.2.2.2.2 hS (by omega) (by decide) dX5_statementWord_58 (fun z25 hz25 => ?_)
              have rz25 : (3 : Int) ≤ z25 ∧ z25 ≤ 10 := by rw [hz25]; exact ⟨limK_ge _, limK_le _⟩
              refine lv_icmp_lt (tgt := 68) hx hb dX5_statementWord_59 (by decide) (fun c26 => ?_) (fun c26 => ?_)
              · have c26 : z24 < z25 := (i_lt (rb rz24 (by decide) (by decide)) (rb rz25 (by decide) (by decide))).mp c26
                refine lv_aload_n hx hb dX5_statementWord_68 rfl (lv_at hl 2 rfl) ?_
                refine va_get (D := (dC, dI)) (ci := 5) (v := .ref (q 5)) (C := RX5) (T := TX5) (N := 5) hx hb hts hiX5 hown hK hP 3 (wkRD) rfl 0 (by decide) (hts _ (List.mem_cons_of_mem _ (wk_in_5 _ (List.mem_of_getElem? (i := 6) rfl)))) (fun _ h9 => h9) rfl dX5_statementWord_69 ?_
                refine k_callv (As := []) (rest := []) ⟨hx, hb, hml, hown, hts⟩ hE (kc_X3_pass l dC dI cB cI cJ cZ cQ aL aS q _ hI) (cwV 0 hts (goodVk (wk_in_5 _ (List.mem_of_getElem? (i := 42) rfl)) (wk_in_5 _ (List.mem_of_getElem? (i := 43) rfl)) (wk_in_5 _ (List.mem_of_getElem? (i := 44) rfl)) (wk_in_4 _ (List.mem_of_getElem? (i := 10) rfl)) (wk_in_3 _ (List.mem_of_getElem? (i := 58) rfl))) rfl rfl rfl (by decide +kernel) ⟨Nat.le_of_ble_eq_true rfl, Nat.le_of_ble_eq_true rfl⟩) hK hDD hA0 hP hS 5 3 (wkLX) rfl rfl hl.1 (Nat.le_of_ble_eq_true rfl) dX5_statementWord_72 (fun A27 H locs hw28 hP hS => ?_)
                have ghw28 : q_X3_pass A A27 := hw28
                obtain ⟨_, hI, hf29, hw28⟩ := hw28
                clear hw28
                refine lv_iload_n hx hb dX5_statementWord_75 rfl (lv_at hl 1 rfl) ?_
                have a30 : ∀ k, A27 (ta + 1) k = A (ta + 1) k := fun k => hf29 (ta + 1) k (isT.b2 (o := fun b => List.contains [] (b + 1)) hta rfl rfl) (isT.b2 (o := fun b => fin2 [(5, 6)] (b + 1) k) hta rfl rfl)
                have h6 : z1 = 6 → A27 (ta + 1) (5 : Int).toNat < 6 := by
                  intro h
                  have e5 : z18 = 5 := by rw [hz18, h]; decide
                  have g1 := hz24
                  have g2 := hz25
                  rw [e5] at g1 g2
                  have g3 : z25 = 6 := g2
                  rw [a30]
                  omega
                exact RET z1 _ _ _ _ _ ⟨hk1 _ _ ⟨0 + 1, (u_d_X5_statementWord_1 ⟨f5, (Or.inr ⟨c7, (Or.inr ⟨c13, ⟨z16, gz16.out, (Or.inr ⟨c17, ⟨z18, hz18, (Or.inr ⟨c19, ⟨z24, gz24.out, ⟨z25, hz25, (Or.inl ⟨c26, ⟨A27, ghw28, ⟨rfl, rfl⟩⟩⟩)⟩⟩⟩)⟩⟩)⟩⟩)⟩)⟩)⟩, hI, fk.trans (fk.rf) hf29 rfl rfl, ⟨by omega, h6⟩⟩ hP hS dX5_statementWord_76
              · have c26 : ¬ z24 < z25 := mt (i_lt (rb rz24 (by decide) (by decide)) (rb rz25 (by decide) (by decide))).mpr c26
                refine lv_aload_n hx hb dX5_statementWord_62 rfl (lv_at hl 2 rfl) ?_
                refine lv_iconst (v := iI 5) hx hb dX5_statementWord_63 (by decide +kernel) ?_
                refine k_calli (As := [.int (iI 5)]) (rest := []) ⟨hx, hb, hml, hown, hts⟩ hE (kc_X5_none l dC dI cB cI cJ cZ cQ aL aS q _ 5 hI ⟨by decide, by decide⟩) (cwV 1 hts (goodVk (wk_in_5 _ (List.mem_of_getElem? (i := 33) rfl)) (wk_in_5 _ (List.mem_of_getElem? (i := 34) rfl)) (wk_in_5 _ (List.mem_of_getElem? (i := 35) rfl)) (wk_in_5 _ (List.mem_of_getElem? (i := 28) rfl)) (wk_in_5 _ (List.mem_of_getElem? (i := 36) rfl))) rfl rfl rfl (by decide +kernel) ⟨Nat.le_of_ble_eq_true rfl, Nat.le_of_ble_eq_true rfl⟩) hK hDD hA0 hP hS 3 5 (wkRD) rfl rfl hl.1 (Nat.le_of_ble_eq_true rfl) dX5_statementWord_64 (fun z31 A32 H locs hw33 hP hS => ?_)
                have ghw33 : q_X5_none 5 A z31 A32 := hw33
                obtain ⟨_, hI, hf34, hw33⟩ := hw33
                exact RET z31 _ _ _ _ _ ⟨hk1 _ _ ⟨0 + 1, (u_d_X5_statementWord_1 ⟨f5, (Or.inr ⟨c7, (Or.inr ⟨c13, ⟨z16, gz16.out, (Or.inr ⟨c17, ⟨z18, hz18, (Or.inr ⟨c19, ⟨z24, gz24.out, ⟨z25, hz25, (Or.inr ⟨c26, ⟨z31, A32, ghw33, ⟨rfl, rfl⟩⟩⟩)⟩⟩⟩)⟩⟩)⟩⟩)⟩)⟩)⟩, hI, fk.trans (fk.rf) hf34 rfl rfl, by omega⟩ hP hS dX5_statementWord_67
  exact L2_3 _ 0 _ _ _ (by omega) (fun z9 u9 ⟨n1, h9⟩ => (u_r_X5_statementWord ⟨n1, h9⟩)) rfl hP hS (lv_sub hl [0, 1, 2] rfl)

abbrev tr_r_X5_sign (x1 : Int) (A : St) (z : Int) (u : St) : Prop := (∃ A1 : St, q_X3_look A A1 ∧ (∃ z4 : Int, q_X3_isSign x1 A1 z4 ∧ (((¬ z4 = 0) ∧ (∃ A8 : St, q_X3_pass A1 A8 ∧ (z = 1 ∧ u = A8))) ∨ ((z4 = 0) ∧ (∃ z11 : Int, ∃ A12 : St, q_X5_bad 1 A1 z11 A12 ∧ (z = z11 ∧ u = A12))))))
def r_X5_sign (x1 : Int) (A : St) (z : Int) (u : St) : Prop := tr_r_X5_sign x1 A z u
theorem u_r_X5_sign {x1 : Int} {A : St} {z : Int} {u : St} (h : tr_r_X5_sign x1 A z u) : r_X5_sign x1 A z u := h
def q_X5_sign (x1 : Int) (A : St) (z : Int) (u : St) : Prop := r_X5_sign x1 A z u ∧ IK u ∧ fk [] [(3, 2), (3, 3), (5, 1), (5, 2), (5, 3), (5, 4), (5, 5), (5, 6)] A u ∧ (0 ≤ z ∧ z ≤ 1)
def ws_kc_X5_sign : List Cond := .code yX5_sign cX5_sign 2 (some .boolean) :: WY
set_option maxHeartbeats 4000000 in
set_option maxRecDepth 100000 in
theorem kc_X5_sign (l : Launch) (dC : Nat → ClassId) (dI : Nat → Nat → Nat) (cB cI cJ cZ cQ : ClassId) (aL aS : Nat) (q : Nat → Nat) (A : St) (x1 : Int) (hI : IK A) (hx1 : (0 : Int) ≤ x1 ∧ x1 ≤ 65535) : KMi l yX5_sign ws_kc_X5_sign ({ frames := 2, cells := 0, slots := 0, locals := 45 } : Room) aL aS (dC, dI) (tyA cB cI cJ cZ cQ) (WK cB cI cJ cZ cQ q) A [.ref (q 3), .int (iI x1)] (fun z u => r_X5_sign x1 A z u ∧ IK u ∧ fk [] [(3, 2), (3, 3), (5, 1), (5, 2), (5, 3), (5, 4), (5, 5), (5, 6)] A u ∧ (0 ≤ z ∧ z ≤ 1)) := by
  refine k_metz (cc := cX5_sign) (maxL := 2) WK_adr (plainFor_of_name (by decide +kernel)) rfl (Nat.le_of_ble_eq_true rfl) (fun z u h => h.2.2.2) (fun p e s m below meth c Q AS ls hx hb hml hown hts hK hDD hA0 hE RET H locs hP hS hl => ?_)
  have hown : s.vm.findClass RX5 = some m.cls := hown
  have hl : lv_has ls 2 [(0, .ref (q 3)), (1, .int (iI x1))] := hl
  have hiX5 : ∀ w ∈ u_ws RX5 TX5 5, w ∈ ws_kc_X5_sign := fun w h => List.mem_cons_of_mem _ (wy_layX5 w h)
  refine lv_aload_n hx hb dX5_sign_0 rfl (lv_at hl 0 rfl) ?_
  refine va_get (D := (dC, dI)) (ci := 5) (v := .ref (q 5)) (C := RX5) (T := TX5) (N := 5) hx hb hts hiX5 hown hK hP 3 (wkRD) rfl 0 (by decide) (hts _ (List.mem_cons_of_mem _ (wk_in_5 _ (List.mem_of_getElem? (i := 6) rfl)))) (fun _ h9 => h9) rfl dX5_sign_1 ?_
  refine k_callv (As := []) (rest := []) ⟨hx, hb, hml, hown, hts⟩ hE (kc_X3_look l dC dI cB cI cJ cZ cQ aL aS q _ hI) (cwV 0 hts (goodVk (wk_in_5 _ (List.mem_of_getElem? (i := 22) rfl)) (wk_in_5 _ (List.mem_of_getElem? (i := 23) rfl)) (wk_in_5 _ (List.mem_of_getElem? (i := 24) rfl)) (wk_in_4 _ (List.mem_of_getElem? (i := 10) rfl)) (wk_in_4 _ (List.mem_of_getElem? (i := 2) rfl))) rfl rfl rfl (by decide +kernel) ⟨Nat.le_of_ble_eq_true rfl, Nat.le_of_ble_eq_true rfl⟩) hK hDD hA0 hP hS 5 3 (wkLX) rfl rfl hl.1 (Nat.le_of_ble_eq_true rfl) dX5_sign_4 (fun A1 H locs hw2 hP hS => ?_)
  have ghw2 : q_X3_look A A1 := hw2
  obtain ⟨_, hI, hf3, hw2⟩ := hw2
  clear hw2
  refine lv_aload_n hx hb dX5_sign_7 rfl (lv_at hl 0 rfl) ?_
  refine va_get (D := (dC, dI)) (ci := 5) (v := .ref (q 5)) (C := RX5) (T := TX5) (N := 5) hx hb hts hiX5 hown hK hP 3 (wkRD) rfl 0 (by decide) (hts _ (List.mem_cons_of_mem _ (wk_in_5 _ (List.mem_of_getElem? (i := 6) rfl)))) (fun _ h9 => h9) rfl dX5_sign_8 ?_
  refine lv_iload_n hx hb dX5_sign_11 rfl (lv_at hl 1 rfl) ?_
  refine k_calli (As := [.int (iI x1)]) (rest := []) ⟨hx, hb, hml, hown, hts⟩ hE (kc_X3_isSign l dC dI cB cI cJ cZ cQ aL aS q _ x1 hI hx1) (cwV 1 hts (goodVk (wk_in_7 _ (List.mem_of_getElem? (i := 46) rfl)) (wk_in_7 _ (List.mem_of_getElem? (i := 47) rfl)) (wk_in_7 _ (List.mem_of_getElem? (i := 48) rfl)) (wk_in_4 _ (List.mem_of_getElem? (i := 10) rfl)) (wk_in_3 _ (List.mem_of_getElem? (i := 59) rfl))) rfl rfl rfl (by decide +kernel) ⟨Nat.le_of_ble_eq_true rfl, Nat.le_of_ble_eq_true rfl⟩) hK hDD hA0 hP hS 5 3 (wkLX) rfl rfl hl.1 (Nat.le_of_ble_eq_true rfl) dX5_sign_12 (fun z4 A5 H locs hw6 hP hS => ?_)
  obtain ⟨rfl, hw6⟩ := hw6
  have ghw6 : q_X3_isSign x1 A1 z4 := hw6
  have hw6 := hw6.2
  refine lv_if_ne (tgt := 24) hx hb dX5_sign_15 (by decide) (fun c7 => ?_) (fun c7 => ?_)
  · have c7 : ¬ z4 = 0 := mt (i_eq0 (rb hw6 (by decide) (by decide))).mpr c7
    refine lv_aload_n hx hb dX5_sign_24 rfl (lv_at hl 0 rfl) ?_
    refine va_get (D := (dC, dI)) (ci := 5) (v := .ref (q 5)) (C := RX5) (T := TX5) (N := 5) hx hb hts hiX5 hown hK hP 3 (wkRD) rfl 0 (by decide) (hts _ (List.mem_cons_of_mem _ (wk_in_5 _ (List.mem_of_getElem? (i := 6) rfl)))) (fun _ h9 => h9) rfl dX5_sign_25 ?_
    refine k_callv (As := []) (rest := []) ⟨hx, hb, hml, hown, hts⟩ hE (kc_X3_pass l dC dI cB cI cJ cZ cQ aL aS q _ hI) (cwV 0 hts (goodVk (wk_in_5 _ (List.mem_of_getElem? (i := 42) rfl)) (wk_in_5 _ (List.mem_of_getElem? (i := 43) rfl)) (wk_in_5 _ (List.mem_of_getElem? (i := 44) rfl)) (wk_in_4 _ (List.mem_of_getElem? (i := 10) rfl)) (wk_in_3 _ (List.mem_of_getElem? (i := 58) rfl))) rfl rfl rfl (by decide +kernel) ⟨Nat.le_of_ble_eq_true rfl, Nat.le_of_ble_eq_true rfl⟩) hK hDD hA0 hP hS 5 3 (wkLX) rfl rfl hl.1 (Nat.le_of_ble_eq_true rfl) dX5_sign_28 (fun A8 H locs hw9 hP hS => ?_)
    have ghw9 : q_X3_pass A1 A8 := hw9
    obtain ⟨_, hI, hf10, hw9⟩ := hw9
    clear hw9
    refine lv_iconst (v := iI 1) hx hb dX5_sign_31 (by decide +kernel) ?_
    exact RET 1 _ _ _ _ _ ⟨(u_r_X5_sign ⟨A1, ghw2, ⟨z4, ghw6, (Or.inl ⟨c7, ⟨A8, ghw9, ⟨rfl, rfl⟩⟩⟩)⟩⟩), hI, fk.trans (fk.trans (fk.rf) hf3 rfl rfl) hf10 rfl rfl, ⟨by decide, by decide⟩⟩ hP hS dX5_sign_32
  · have c7 : z4 = 0 := (i_eq0 (rb hw6 (by decide) (by decide))).mp c7
    refine lv_aload_n hx hb dX5_sign_18 rfl (lv_at hl 0 rfl) ?_
    refine lv_iconst (v := iI 1) hx hb dX5_sign_19 (by decide +kernel) ?_
    refine k_calli (As := [.int (iI 1)]) (rest := []) ⟨hx, hb, hml, hown, hts⟩ hE (kc_X5_bad l dC dI cB cI cJ cZ cQ aL aS q _ 1 hI ⟨by decide, by decide⟩) (cwV 1 hts (goodVk (wk_in_5 _ (List.mem_of_getElem? (i := 37) rfl)) (wk_in_5 _ (List.mem_of_getElem? (i := 38) rfl)) (wk_in_5 _ (List.mem_of_getElem? (i := 39) rfl)) (wk_in_5 _ (List.mem_of_getElem? (i := 28) rfl)) (wk_in_5 _ (List.mem_of_getElem? (i := 40) rfl))) rfl rfl rfl (by decide +kernel) ⟨Nat.le_of_ble_eq_true rfl, Nat.le_of_ble_eq_true rfl⟩) hK hDD hA0 hP hS 3 5 (wkRD) rfl rfl hl.1 (Nat.le_of_ble_eq_true rfl) dX5_sign_20 (fun z11 A12 H locs hw13 hP hS => ?_)
    have ghw13 : q_X5_bad 1 A1 z11 A12 := hw13
    obtain ⟨_, hI, hf14, hw13⟩ := hw13
    have rz11 : 0 ≤ z11 ∧ z11 ≤ 1 := hw13.1
    have hw13 := hw13.2
    exact RET z11 _ _ _ _ _ ⟨(u_r_X5_sign ⟨A1, ghw2, ⟨z4, ghw6, (Or.inr ⟨c7, ⟨z11, A12, ghw13, ⟨rfl, rfl⟩⟩⟩)⟩⟩), hI, fk.trans (fk.trans (fk.rf) hf3 rfl rfl) hf14 rfl rfl, rz11⟩ hP hS dX5_sign_23

abbrev tr_d_X5_isNameAhead_1 (A1 : St) (z : Int) (u : St) (K1 : Int → Prop) (z6 : Int) : Prop := ((0 ≤ z6 ∧ z6 ≤ 2147483647) ∧ (((26 ≤ z6) ∧ (z = 1 ∧ u = A1)) ∨ ((¬ 26 ≤ z6) ∧ (∃ z15 : Int, z15 = A1 4 (z6).toNat ∧ (((¬ (A1 5 4) = z15) ∧ (K1 (z6 + 1))) ∨ (((A1 5 4) = z15) ∧ (z = 0 ∧ u = A1)))))))
def d_X5_isNameAhead_1 (A1 : St) (z : Int) (u : St) : Nat → Int → Prop
  | 0, _ => False
  | nn9 + 1, z6 => tr_d_X5_isNameAhead_1 A1 z u (fun z6 => d_X5_isNameAhead_1 A1 z u nn9 z6) z6
theorem u_d_X5_isNameAhead_1 {A1 : St} {z : Int} {u : St} {nn9 : Nat} {z6 : Int} (h : tr_d_X5_isNameAhead_1 A1 z u (fun z6 => d_X5_isNameAhead_1 A1 z u nn9 z6) z6) : d_X5_isNameAhead_1 A1 z u (nn9 + 1) z6 := h
abbrev tr_r_X5_isNameAhead (A : St) (z : Int) (u : St) : Prop := (∃ A1 : St, q_X3_look A A1 ∧ ((((A1 5 2) = 1) ∧ (∃ nn9 : Nat, d_X5_isNameAhead_1 A1 z u nn9 0)) ∨ ((¬ (A1 5 2) = 1) ∧ (z = 0 ∧ u = A1))))
def r_X5_isNameAhead (A : St) (z : Int) (u : St) : Prop := tr_r_X5_isNameAhead A z u
theorem u_r_X5_isNameAhead {A : St} {z : Int} {u : St} (h : tr_r_X5_isNameAhead A z u) : r_X5_isNameAhead A z u := h
def q_X5_isNameAhead (A : St) (z : Int) (u : St) : Prop := r_X5_isNameAhead A z u ∧ IK u ∧ fk [] [(5, 1), (5, 2), (5, 3), (5, 4), (5, 5), (5, 6)] A u ∧ (0 ≤ z ∧ z ≤ 1)
def ws_kc_X5_isNameAhead : List Cond := .code yX5_isNameAhead cX5_isNameAhead 2 (some .boolean) :: WY
set_option maxHeartbeats 4000000 in
set_option maxRecDepth 100000 in
theorem kc_X5_isNameAhead (l : Launch) (dC : Nat → ClassId) (dI : Nat → Nat → Nat) (cB cI cJ cZ cQ : ClassId) (aL aS : Nat) (q : Nat → Nat) (A : St) (hI : IK A) : KMi l yX5_isNameAhead ws_kc_X5_isNameAhead ({ frames := 2, cells := 0, slots := 0, locals := 45 } : Room) aL aS (dC, dI) (tyA cB cI cJ cZ cQ) (WK cB cI cJ cZ cQ q) A [.ref (q 3)] (fun z u => r_X5_isNameAhead A z u ∧ IK u ∧ fk [] [(5, 1), (5, 2), (5, 3), (5, 4), (5, 5), (5, 6)] A u ∧ (0 ≤ z ∧ z ≤ 1)) := by
  refine k_metz (cc := cX5_isNameAhead) (maxL := 2) WK_adr (plainFor_of_name (by decide +kernel)) rfl (Nat.le_of_ble_eq_true rfl) (fun z u h => h.2.2.2) (fun p e s m below meth c Q AS ls hx hb hml hown hts hK hDD hA0 hE RET H locs hP hS hl => ?_)
  have hown : s.vm.findClass RX5 = some m.cls := hown
  have hl : lv_has ls 2 [(0, .ref (q 3))] := hl
  have hiX5 : ∀ w ∈ u_ws RX5 TX5 5, w ∈ ws_kc_X5_isNameAhead := fun w h => List.mem_cons_of_mem _ (wy_layX5 w h)
  have hiX3 : ∀ w ∈ u_ws RX3 TX3 7, w ∈ ws_kc_X5_isNameAhead := fun w h => List.mem_cons_of_mem _ (wy_layX3 w h)
  refine lv_aload_n hx hb dX5_isNameAhead_0 rfl (lv_at hl 0 rfl) ?_
  refine va_get (D := (dC, dI)) (ci := 5) (v := .ref (q 5)) (C := RX5) (T := TX5) (N := 5) hx hb hts hiX5 hown hK hP 3 (wkRD) rfl 0 (by decide) (hts _ (List.mem_cons_of_mem _ (wk_in_5 _ (List.mem_of_getElem? (i := 6) rfl)))) (fun _ h9 => h9) rfl dX5_isNameAhead_1 ?_
  refine k_callv (As := []) (rest := []) ⟨hx, hb, hml, hown, hts⟩ hE (kc_X3_look l dC dI cB cI cJ cZ cQ aL aS q _ hI) (cwV 0 hts (goodVk (wk_in_5 _ (List.mem_of_getElem? (i := 22) rfl)) (wk_in_5 _ (List.mem_of_getElem? (i := 23) rfl)) (wk_in_5 _ (List.mem_of_getElem? (i := 24) rfl)) (wk_in_4 _ (List.mem_of_getElem? (i := 10) rfl)) (wk_in_4 _ (List.mem_of_getElem? (i := 2) rfl))) rfl rfl rfl (by decide +kernel) ⟨Nat.le_of_ble_eq_true rfl, Nat.le_of_ble_eq_true rfl⟩) hK hDD hA0 hP hS 5 3 (wkLX) rfl rfl hl.1 (Nat.le_of_ble_eq_true rfl) dX5_isNameAhead_4 (fun A1 H locs hw2 hP hS => ?_)
  have ghw2 : q_X3_look A A1 := hw2
  obtain ⟨_, hI, hf3, hw2⟩ := hw2
  clear hw2
  refine lv_aload_n hx hb dX5_isNameAhead_7 rfl (lv_at hl 0 rfl) ?_
  refine va_get (D := (dC, dI)) (ci := 5) (v := .ref (q 5)) (C := RX5) (T := TX5) (N := 5) hx hb hts hiX5 hown hK hP 3 (wkRD) rfl 0 (by decide) (hts _ (List.mem_cons_of_mem _ (wk_in_5 _ (List.mem_of_getElem? (i := 6) rfl)))) (fun _ h9 => h9) rfl dX5_isNameAhead_8 ?_
  have r4 : (0 : Int) ≤ (A1 5 2) ∧ (A1 5 2) ≤ 4 := irLX_2 hI
  refine va_get (D := (dC, dI)) (ci := 3) (v := .int (iI (A1 5 2))) (C := RX3) (T := TX3) (N := 7) hx hb hts hiX3 hown hK hP 5 (wkLX) rfl 2 (by decide) (hts _ (List.mem_cons_of_mem _ (wk_in_5 _ (List.mem_of_getElem? (i := 9) rfl)))) (fun _ h9 => h9) rfl dX5_isNameAhead_11 ?_
  refine lv_iconst (v := iI 1) hx hb dX5_isNameAhead_14 (by decide +kernel) ?_
  refine lv_icmp_eq (tgt := 20) hx hb dX5_isNameAhead_15 (by decide) (fun c5 => ?_) (fun c5 => ?_)
  · have c5 : (A1 5 2) = 1 := (i_eq (rb r4 (by decide) (by decide)) ⟨by decide, by decide⟩).mp c5
    refine lv_iconst (v := iI 0) hx hb dX5_isNameAhead_20 (by decide +kernel) ?_
    refine lv_istore_n (lv' := [(1, .int (iI 0)), (0, .ref (q 3))]) hx hb dX5_isNameAhead_21 rfl hl (by decide) rfl (fun ls hl => ?_)
    have L22_8 : ∀ (n11 : Nat) (z6 : Int) (H : Heap) (locs : List Loc) (ls : Array Slot), (0 ≤ z6 ∧ z6 ≤ 2147483647) → (∀ (z : Int) (u : St), (∃ n1 : Nat, (d_X5_isNameAhead_1 A1 z u n1 z6)) → r_X5_isNameAhead A z u) → ((27 - z6).toNat = n11) → va_P (dC, dI) vwCl (WK cB cI cJ cZ cQ q A1) H → va_S AS s.heap H locs → lv_has ls 2 [(1, .int (iI z6)), (0, .ref (q 3))] → W p l e (headSpec ws_kc_X5_isNameAhead ({ frames := 2, cells := 0, slots := 0, locals := 45 } : Room)).room s m [.ref (q 3)].toArray below meth c H locs 0 0 Q (F0 m 22 ls []) := by
      intro n11
      induction n11 using Nat.strongRecOn with
      | ind n11 ih9 =>
        intro z6 H locs ls f10 hk1 hn11 hP hS hl
        refine lv_iload_n hx hb dX5_isNameAhead_22 rfl (lv_at hl 0 rfl) ?_
        refine lv_bipush (v := iI 26) hx hb dX5_isNameAhead_23 (by decide +kernel) ?_
        refine lv_icmp_ge (tgt := 52) hx hb dX5_isNameAhead_25 (by decide) (fun c12 => ?_) (fun c12 => ?_)
        · have c12 : 26 ≤ z6 := (i_le ⟨by decide, by decide⟩ (rb f10 (by decide) (by decide))).mp c12
          refine lv_iconst (v := iI 1) hx hb dX5_isNameAhead_52 (by decide +kernel) ?_
          exact RET 1 _ _ _ _ _ ⟨hk1 _ _ ⟨0 + 1, (u_d_X5_isNameAhead_1 ⟨f10, (Or.inl ⟨c12, ⟨rfl, rfl⟩⟩)⟩)⟩, hI, fk.trans (fk.rf) hf3 rfl rfl, ⟨by decide, by decide⟩⟩ hP hS dX5_isNameAhead_53
        · have c12 : ¬ 26 ≤ z6 := mt (i_le ⟨by decide, by decide⟩ (rb f10 (by decide) (by decide))).mpr c12
          refine lv_aload_n hx hb dX5_isNameAhead_28 rfl (lv_at hl 1 rfl) ?_
          refine va_get (D := (dC, dI)) (ci := 5) (v := .ref (q 5)) (C := RX5) (T := TX5) (N := 5) hx hb hts hiX5 hown hK hP 3 (wkRD) rfl 0 (by decide) (hts _ (List.mem_cons_of_mem _ (wk_in_5 _ (List.mem_of_getElem? (i := 6) rfl)))) (fun _ h9 => h9) rfl dX5_isNameAhead_29 ?_
          have r13 : (-2147483648 : Int) ≤ (A1 5 4) ∧ (A1 5 4) ≤ 2147483647 := irLX_4 hI
          refine va_get (D := (dC, dI)) (ci := 3) (v := .int (iI (A1 5 4))) (C := RX3) (T := TX3) (N := 7) hx hb hts hiX3 hown hK hP 5 (wkLX) rfl 4 (by decide) (hts _ (List.mem_cons_of_mem _ (wk_in_5 _ (List.mem_of_getElem? (i := 30) rfl)))) (fun _ h9 => h9) rfl dX5_isNameAhead_32 ?_
          refine lv_aload_n hx hb dX5_isNameAhead_35 rfl (lv_at hl 1 rfl) ?_
          refine va_get (D := (dC, dI)) (ci := 5) (v := .ref (q 4)) (C := RX5) (T := TX5) (N := 5) hx hb hts hiX5 hown hK hP 3 (wkRD) rfl 1 (by decide) (hts _ (List.mem_cons_of_mem _ (wk_in_5 _ (List.mem_of_getElem? (i := 31) rfl)))) (fun _ h9 => h9) rfl dX5_isNameAhead_36 ?_
          refine lv_iload_n hx hb dX5_isNameAhead_39 rfl (lv_at hl 0 rfl) ?_
          have a14 : ∀ k, A1 4 k = A 4 k := fun k => hf3 4 k rfl rfl
          refine x_iald (Wf := WK cB cI cJ cZ cQ q) hx hb hK hP 4 1 (wkRDo) rfl (by omega) (by decide) dX5_isNameAhead_40 (fun z15 hz15 => ?_)
          have rz15 : (-2147483648 : Int) ≤ z15 ∧ z15 ≤ 2147483647 := by rw [hz15]; exact irRDo hI
          have gz15 := Hd.mk hz15
          have hz15 : z15 = A 4 (z6).toNat := hz15.trans (a14 _)
          refine lv_icmp_ne (tgt := 46) hx hb dX5_isNameAhead_41 (by decide) (fun c16 => ?_) (fun c16 => ?_)
          · have c16 : ¬ (A1 5 4) = z15 := mt (i_eq r13 rz15).mpr c16
            refine lv_iinc (v := iI (z6 + 1)) (lv' := [(1, .int (iI (z6 + 1))), (0, .ref (q 3))]) hx hb dX5_isNameAhead_46 hl (k := 0) rfl (i_inc (by omega)) (by decide) rfl (fun ls hl => ?_)
            refine lv_goto (tgt := 22) hx hb dX5_isNameAhead_49 (by decide) ?_
            exact ih9 _ (by omega) (z6 + 1) _ _ _ (by omega) (fun z9 u9 ⟨n1, h9⟩ => hk1 _ _ ⟨n1 + 1, (u_d_X5_isNameAhead_1 ⟨f10, (Or.inr ⟨c12, ⟨z15, gz15.out, (Or.inl ⟨c16, h9⟩)⟩⟩)⟩)⟩) rfl hP hS (lv_sub hl [0, 1] rfl)
          · have c16 : (A1 5 4) = z15 := (i_eq r13 rz15).mp c16
            refine lv_iconst (v := iI 0) hx hb dX5_isNameAhead_44 (by decide +kernel) ?_
            exact RET 0 _ _ _ _ _ ⟨hk1 _ _ ⟨0 + 1, (u_d_X5_isNameAhead_1 ⟨f10, (Or.inr ⟨c12, ⟨z15, gz15.out, (Or.inr ⟨c16, ⟨rfl, rfl⟩⟩)⟩⟩)⟩)⟩, hI, fk.trans (fk.rf) hf3 rfl rfl, ⟨by decide, by decide⟩⟩ hP hS dX5_isNameAhead_45
    exact L22_8 _ 0 _ _ _ (by omega) (fun z9 u9 ⟨n1, h9⟩ => (u_r_X5_isNameAhead ⟨A1, ghw2, (Or.inl ⟨c5, ⟨n1, h9⟩⟩)⟩)) rfl hP hS (lv_sub hl [0, 1] rfl)
  · have c5 : ¬ (A1 5 2) = 1 := mt (i_eq (rb r4 (by decide) (by decide)) ⟨by decide, by decide⟩).mpr c5
    refine lv_iconst (v := iI 0) hx hb dX5_isNameAhead_18 (by decide +kernel) ?_
    exact RET 0 _ _ _ _ _ ⟨(u_r_X5_isNameAhead ⟨A1, ghw2, (Or.inr ⟨c5, ⟨rfl, rfl⟩⟩)⟩), hI, fk.trans (fk.rf) hf3 rfl rfl, ⟨by decide, by decide⟩⟩ hP hS dX5_isNameAhead_19

abbrev tr_d_X9_find_1_0_1 (ta : Nat) (x2 : Int) (A : St) (z : Int) (K1 : Int → Prop) (z3 : Int) : Prop := ((0 ≤ z3 ∧ z3 ≤ 2147483647) ∧ (∃ z10 : Int, z10 = A (ta + 1) (0 : Int).toNat ∧ (((z10 ≤ z3) ∧ (z = (-1))) ∨ ((¬ z10 ≤ z3) ∧ (∃ z13 : Int, z13 = A (ta + 3 + (0 : Int).toNat) (z3).toNat ∧ (((¬ z13 = x2) ∧ (K1 (z3 + 1))) ∨ ((z13 = x2) ∧ (z = z3))))))))
def d_X9_find_1_0_1 (ta : Nat) (x2 : Int) (A : St) (z : Int) : Nat → Int → Prop
  | 0, _ => False
  | nn9 + 1, z3 => tr_d_X9_find_1_0_1 ta x2 A z (fun z3 => d_X9_find_1_0_1 ta x2 A z nn9 z3) z3
theorem u_d_X9_find_1_0_1 {ta : Nat} {x2 : Int} {A : St} {z : Int} {nn9 : Nat} {z3 : Int} (h : tr_d_X9_find_1_0_1 ta x2 A z (fun z3 => d_X9_find_1_0_1 ta x2 A z nn9 z3) z3) : d_X9_find_1_0_1 ta x2 A z (nn9 + 1) z3 := h
abbrev tr_r_X9_find_1_0 (ta : Nat) (x2 : Int) (A : St) (z : Int) : Prop := (∃ nn9 : Nat, d_X9_find_1_0_1 ta x2 A z nn9 0)
def r_X9_find_1_0 (ta : Nat) (x2 : Int) (A : St) (z : Int) : Prop := tr_r_X9_find_1_0 ta x2 A z
theorem u_r_X9_find_1_0 {ta : Nat} {x2 : Int} {A : St} {z : Int} (h : tr_r_X9_find_1_0 ta x2 A z) : r_X9_find_1_0 ta x2 A z := h
def q_X9_find_1_0 (ta : Nat) (x2 : Int) (A : St) (z : Int) : Prop := r_X9_find_1_0 ta x2 A z ∧ (-1 ≤ z ∧ z ≤ 7)
def ws_kc_X9_find_1_0 : List Cond := .code yX9_find cX9_find 4 (some .int) :: WY
set_option maxHeartbeats 4000000 in
set_option maxRecDepth 100000 in
theorem kc_X9_find_1_0 (l : Launch) (dC : Nat → ClassId) (dI : Nat → Nat → Nat) (cB cI cJ cZ cQ : ClassId) (aL aS : Nat) (q : Nat → Nat) (A : St) (ta : Nat) (x2 : Int) (hI : IK A) (hta : isT ta) (hx2 : (-2147483648 : Int) ≤ x2 ∧ x2 ≤ 2147483647) : KMi l yX9_find ws_kc_X9_find_1_0 ({ frames := 0, cells := 0, slots := 0, locals := 0 } : Room) aL aS (dC, dI) (tyA cB cI cJ cZ cQ) (WK cB cI cJ cZ cQ q) A [.ref (q ta), .int (iI 0), .int (iI x2)] (fun z u => A = u ∧ r_X9_find_1_0 ta x2 A z ∧ (-1 ≤ z ∧ z ≤ 7)) := by
  refine k_meti (cc := cX9_find) (maxL := 4) WK_adr (plainFor_of_name (by decide +kernel)) rfl (Nat.le_of_ble_eq_true rfl) (fun p e s m below meth c Q AS ls hx hb hml hown hts hK hDD hA0 hE RET H locs hP hS hl => ?_)
  have hown : s.vm.findClass RX9 = some m.cls := hown
  have hl : lv_has ls 4 [(0, .ref (q ta)), (1, .int (iI 0)), (2, .int (iI x2))] := hl
  have hiX9 : ∀ w ∈ u_ws RX9 TX9 16, w ∈ ws_kc_X9_find_1_0 := fun w h => List.mem_cons_of_mem _ (wy_layX9 w h)
  refine lv_iload_n hx hb dX9_find_0 rfl (lv_at hl 1 rfl) ?_
  refine lv_if_lt (tgt := 9) hx hb dX9_find_1 (by decide) (fun c1 => absurd c1 (by decide +kernel)) (fun _ => ?_)
  refine lv_iload_n hx hb dX9_find_4 rfl (lv_at hl 1 rfl) ?_
  refine lv_iconst (v := iI 5) hx hb dX9_find_5 (by decide +kernel) ?_
  refine lv_icmp_lt (tgt := 11) hx hb dX9_find_6 (by decide) (fun _ => ?_) (fun c2 => absurd c2 (by decide +kernel))
  refine lv_iconst (v := iI 0) hx hb dX9_find_11 (by decide +kernel) ?_
  refine lv_istore_n (lv' := [(3, .int (iI 0)), (0, .ref (q ta)), (1, .int (iI 0)), (2, .int (iI x2))]) hx hb dX9_find_12 rfl hl (by decide) rfl (fun ls hl => ?_)
  have L13_5 : ∀ (n9 : Nat) (z3 : Int) (H : Heap) (locs : List Loc) (ls : Array Slot), (0 ≤ z3 ∧ z3 ≤ 2147483647) → (∀ (z : Int), (∃ n1 : Nat, (d_X9_find_1_0_1 ta x2 A z n1 z3)) → r_X9_find_1_0 ta x2 A z) → ((9 - z3).toNat = n9) → va_P (dC, dI) vwCl (WK cB cI cJ cZ cQ q A) H → va_S AS s.heap H locs → lv_has ls 4 [(3, .int (iI z3)), (0, .ref (q ta)), (1, .int (iI 0)), (2, .int (iI x2))] → W p l e (headSpec ws_kc_X9_find_1_0 ({ frames := 0, cells := 0, slots := 0, locals := 0 } : Room)).room s m [.ref (q ta), .int (iI 0), .int (iI x2)].toArray below meth c H locs 0 0 Q (F0 m 13 ls []) := by
    intro n9
    induction n9 using Nat.strongRecOn with
    | ind n9 ih6 =>
      intro z3 H locs ls f7 hk1 hn9 hP hS hl
      refine lv_iload_n hx hb dX9_find_13 rfl (lv_at hl 0 rfl) ?_
      refine lv_aload_n hx hb dX9_find_14 rfl (lv_at hl 1 rfl) ?_
      refine va_get (D := (dC, dI)) (ci := 9) (v := .ref (q (ta + 1))) (C := RX9) (T := TX9) (N := 16) hx hb hts hiX9 hown hK hP ta (wkT hta) rfl 0 (by decide) (hts _ (List.mem_cons_of_mem _ (wk_in_0 _ (List.mem_of_getElem? (i := 8) rfl)))) (fun _ h9 => h9) rfl dX9_find_15 ?_
      refine lv_iload_n hx hb dX9_find_18 rfl (lv_at hl 2 rfl) ?_
      refine x_iald (Wf := WK cB cI cJ cZ cQ q) hx hb hK hP (ta + 1) 1 (wkTc hta) rfl (by decide) (by decide) dX9_find_19 (fun z10 hz10 => ?_)
      have rz10 : (0 : Int) ≤ z10 ∧ z10 ≤ 8 := by rw [hz10]; exact irTc0 hta hI
      have gz10 := Hd.mk hz10
      refine lv_icmp_ge (tgt := 49) hx hb dX9_find_20 (by decide) (fun c11 => ?_) (fun c11 => ?_)
      · have c11 : z10 ≤ z3 := (i_le (rb rz10 (by decide) (by decide)) (rb f7 (by decide) (by decide))).mp c11
        refine lv_iconst (v := iI (-1)) hx hb dX9_find_49 (by decide +kernel) ?_
        exact RET (-1) _ _ _ _ _ ⟨rfl, hk1 _ ⟨0 + 1, (u_d_X9_find_1_0_1 ⟨f7, ⟨z10, gz10.out, (Or.inl ⟨c11, rfl⟩)⟩⟩)⟩, by omega⟩ hP hS dX9_find_50
      · have c11 : ¬ z10 ≤ z3 := mt (i_le (rb rz10 (by decide) (by decide)) (rb f7 (by decide) (by decide))).mpr c11
        refine lv_iload_n hx hb dX9_find_23 rfl (lv_at hl 0 rfl) ?_
        refine lv_bipush (v := iI 10) hx hb dX9_find_24 (by decide +kernel) ?_
        refine lv_icmp_ge (tgt := 49) hx hb dX9_find_26 (by decide) (fun c12 => False.elim (by have c12 : 10 ≤ z3 := (i_le ⟨by decide, by decide⟩ (rb f7 (by decide) (by decide))).mp c12; omega)) (fun _ => ?_)
        refine lv_aload_n hx hb dX9_find_29 rfl (lv_at hl 1 rfl) ?_
        refine va_get (D := (dC, dI)) (ci := 9) (v := .ref (q (ta + 2))) (C := RX9) (T := TX9) (N := 16) hx hb hts hiX9 hown hK hP ta (wkT hta) rfl 1 (by decide) (hts _ (List.mem_cons_of_mem _ (wk_in_5 _ (List.mem_of_getElem? (i := 57) rfl)))) (fun _ h9 => h9) rfl dX9_find_30 ?_
        refine lv_iload_n hx hb dX9_find_33 rfl (lv_at hl 2 rfl) ?_
        refine k_aald (Wf := WK cB cI cJ cZ cQ q) hx hb hK hP (ta + 2) 4 (wkTq hta) rfl (by omega) (by decide) (b := q (ta + 3 + (0 : Int).toNat)) rfl dX9_find_34 ?_
        refine lv_iload_n hx hb dX9_find_35 rfl (lv_at hl 0 rfl) ?_
        refine x_iald (Wf := WK cB cI cJ cZ cQ q) hx hb hK hP (ta + 3 + (0 : Int).toNat) 1 (wkTn hta (i := 0) (by decide)) rfl (by omega) (by decide) dX9_find_36 (fun z13 hz13 => ?_)
        have rz13 : (-2147483648 : Int) ≤ z13 ∧ z13 ≤ 2147483647 := by rw [hz13]; exact irTn hta (i := 0) (by decide) hI
        have gz13 := Hd.mk hz13
        refine lv_iload_n hx hb dX9_find_37 rfl (lv_at hl 3 rfl) ?_
        refine lv_icmp_ne (tgt := 43) hx hb dX9_find_38 (by decide) (fun c14 => ?_) (fun c14 => ?_)
        · have c14 : ¬ z13 = x2 := mt (i_eq rz13 hx2).mpr c14
          refine lv_iinc (v := iI (z3 + 1)) (lv' := [(3, .int (iI (z3 + 1))), (0, .ref (q ta)), (1, .int (iI 0)), (2, .int (iI x2))]) hx hb dX9_find_43 hl (k := 0) rfl (i_inc (by omega)) (by decide) rfl (fun ls hl => ?_)
          refine lv_goto (tgt := 13) hx hb dX9_find_46 (by decide) ?_
          exact ih6 _ (by omega) (z3 + 1) _ _ _ (by omega) (fun z9 ⟨n1, h9⟩ => hk1 _ ⟨n1 + 1, (u_d_X9_find_1_0_1 ⟨f7, ⟨z10, gz10.out, (Or.inr ⟨c11, ⟨z13, gz13.out, (Or.inl ⟨c14, h9⟩)⟩⟩)⟩⟩)⟩) rfl hP hS (lv_sub hl [0, 1, 2, 3] rfl)
        · have c14 : z13 = x2 := (i_eq rz13 hx2).mp c14
          refine lv_iload_n hx hb dX9_find_41 rfl (lv_at hl 0 rfl) ?_
          exact RET z3 _ _ _ _ _ ⟨rfl, hk1 _ ⟨0 + 1, (u_d_X9_find_1_0_1 ⟨f7, ⟨z10, gz10.out, (Or.inr ⟨c11, ⟨z13, gz13.out, (Or.inr ⟨c14, rfl⟩)⟩⟩)⟩⟩)⟩, by omega⟩ hP hS dX9_find_42
  exact L13_5 _ 0 _ _ _ (by omega) (fun z9 ⟨n1, h9⟩ => (u_r_X9_find_1_0 ⟨n1, h9⟩)) rfl hP hS (lv_sub hl [0, 1, 2, 3] rfl)

abbrev tr_d_X9_find_1_1_1 (ta : Nat) (x2 : Int) (A : St) (z : Int) (K1 : Int → Prop) (z3 : Int) : Prop := ((0 ≤ z3 ∧ z3 ≤ 2147483647) ∧ (∃ z10 : Int, z10 = A (ta + 1) (1 : Int).toNat ∧ (((z10 ≤ z3) ∧ (z = (-1))) ∨ ((¬ z10 ≤ z3) ∧ (∃ z13 : Int, z13 = A (ta + 3 + (1 : Int).toNat) (z3).toNat ∧ (((¬ z13 = x2) ∧ (K1 (z3 + 1))) ∨ ((z13 = x2) ∧ (z = z3))))))))
def d_X9_find_1_1_1 (ta : Nat) (x2 : Int) (A : St) (z : Int) : Nat → Int → Prop
  | 0, _ => False
  | nn9 + 1, z3 => tr_d_X9_find_1_1_1 ta x2 A z (fun z3 => d_X9_find_1_1_1 ta x2 A z nn9 z3) z3
theorem u_d_X9_find_1_1_1 {ta : Nat} {x2 : Int} {A : St} {z : Int} {nn9 : Nat} {z3 : Int} (h : tr_d_X9_find_1_1_1 ta x2 A z (fun z3 => d_X9_find_1_1_1 ta x2 A z nn9 z3) z3) : d_X9_find_1_1_1 ta x2 A z (nn9 + 1) z3 := h
abbrev tr_r_X9_find_1_1 (ta : Nat) (x2 : Int) (A : St) (z : Int) : Prop := (∃ nn9 : Nat, d_X9_find_1_1_1 ta x2 A z nn9 0)
def r_X9_find_1_1 (ta : Nat) (x2 : Int) (A : St) (z : Int) : Prop := tr_r_X9_find_1_1 ta x2 A z
theorem u_r_X9_find_1_1 {ta : Nat} {x2 : Int} {A : St} {z : Int} (h : tr_r_X9_find_1_1 ta x2 A z) : r_X9_find_1_1 ta x2 A z := h
def q_X9_find_1_1 (ta : Nat) (x2 : Int) (A : St) (z : Int) : Prop := r_X9_find_1_1 ta x2 A z ∧ (-1 ≤ z ∧ z ≤ 9)
def ws_kc_X9_find_1_1 : List Cond := .code yX9_find cX9_find 4 (some .int) :: WY
set_option maxHeartbeats 4000000 in
set_option maxRecDepth 100000 in
theorem kc_X9_find_1_1 (l : Launch) (dC : Nat → ClassId) (dI : Nat → Nat → Nat) (cB cI cJ cZ cQ : ClassId) (aL aS : Nat) (q : Nat → Nat) (A : St) (ta : Nat) (x2 : Int) (hI : IK A) (hta : isT ta) (hx2 : (-2147483648 : Int) ≤ x2 ∧ x2 ≤ 2147483647) : KMi l yX9_find ws_kc_X9_find_1_1 ({ frames := 0, cells := 0, slots := 0, locals := 0 } : Room) aL aS (dC, dI) (tyA cB cI cJ cZ cQ) (WK cB cI cJ cZ cQ q) A [.ref (q ta), .int (iI 1), .int (iI x2)] (fun z u => A = u ∧ r_X9_find_1_1 ta x2 A z ∧ (-1 ≤ z ∧ z ≤ 9)) := by
  refine k_meti (cc := cX9_find) (maxL := 4) WK_adr (plainFor_of_name (by decide +kernel)) rfl (Nat.le_of_ble_eq_true rfl) (fun p e s m below meth c Q AS ls hx hb hml hown hts hK hDD hA0 hE RET H locs hP hS hl => ?_)
  have hown : s.vm.findClass RX9 = some m.cls := hown
  have hl : lv_has ls 4 [(0, .ref (q ta)), (1, .int (iI 1)), (2, .int (iI x2))] := hl
  have hiX9 : ∀ w ∈ u_ws RX9 TX9 16, w ∈ ws_kc_X9_find_1_1 := fun w h => List.mem_cons_of_mem _ (wy_layX9 w h)
  refine lv_iload_n hx hb dX9_find_0 rfl (lv_at hl 1 rfl) ?_
  refine lv_if_lt (tgt := 9) hx hb dX9_find_1 (by decide) (fun c1 => absurd c1 (by decide +kernel)) (fun _ => ?_)
  refine lv_iload_n hx hb dX9_find_4 rfl (lv_at hl 1 rfl) ?_
  refine lv_iconst (v := iI 5) hx hb dX9_find_5 (by decide +kernel) ?_
  refine lv_icmp_lt (tgt := 11) hx hb dX9_find_6 (by decide) (fun _ => ?_) (fun c2 => absurd c2 (by decide +kernel))
  refine lv_iconst (v := iI 0) hx hb dX9_find_11 (by decide +kernel) ?_
  refine lv_istore_n (lv' := [(3, .int (iI 0)), (0, .ref (q ta)), (1, .int (iI 1)), (2, .int (iI x2))]) hx hb dX9_find_12 rfl hl (by decide) rfl (fun ls hl => ?_)
  have L13_5 : ∀ (n9 : Nat) (z3 : Int) (H : Heap) (locs : List Loc) (ls : Array Slot), (0 ≤ z3 ∧ z3 ≤ 2147483647) → (∀ (z : Int), (∃ n1 : Nat, (d_X9_find_1_1_1 ta x2 A z n1 z3)) → r_X9_find_1_1 ta x2 A z) → ((11 - z3).toNat = n9) → va_P (dC, dI) vwCl (WK cB cI cJ cZ cQ q A) H → va_S AS s.heap H locs → lv_has ls 4 [(3, .int (iI z3)), (0, .ref (q ta)), (1, .int (iI 1)), (2, .int (iI x2))] → W p l e (headSpec ws_kc_X9_find_1_1 ({ frames := 0, cells := 0, slots := 0, locals := 0 } : Room)).room s m [.ref (q ta), .int (iI 1), .int (iI x2)].toArray below meth c H locs 0 0 Q (F0 m 13 ls []) := by
    intro n9
    induction n9 using Nat.strongRecOn with
    | ind n9 ih6 =>
      intro z3 H locs ls f7 hk1 hn9 hP hS hl
      refine lv_iload_n hx hb dX9_find_13 rfl (lv_at hl 0 rfl) ?_
      refine lv_aload_n hx hb dX9_find_14 rfl (lv_at hl 1 rfl) ?_
      refine va_get (D := (dC, dI)) (ci := 9) (v := .ref (q (ta + 1))) (C := RX9) (T := TX9) (N := 16) hx hb hts hiX9 hown hK hP ta (wkT hta) rfl 0 (by decide) (hts _ (List.mem_cons_of_mem _ (wk_in_0 _ (List.mem_of_getElem? (i := 8) rfl)))) (fun _ h9 => h9) rfl dX9_find_15 ?_
      refine lv_iload_n hx hb dX9_find_18 rfl (lv_at hl 2 rfl) ?_
      refine x_iald (Wf := WK cB cI cJ cZ cQ q) hx hb hK hP (ta + 1) 1 (wkTc hta) rfl (by decide) (by decide) dX9_find_19 (fun z10 hz10 => ?_)
      have rz10 : (0 : Int) ≤ z10 ∧ z10 ≤ 10 := by rw [hz10]; exact irTc1 hta hI
      have gz10 := Hd.mk hz10
      refine lv_icmp_ge (tgt := 49) hx hb dX9_find_20 (by decide) (fun c11 => ?_) (fun c11 => ?_)
      · have c11 : z10 ≤ z3 := (i_le (rb rz10 (by decide) (by decide)) (rb f7 (by decide) (by decide))).mp c11
        refine lv_iconst (v := iI (-1)) hx hb dX9_find_49 (by decide +kernel) ?_
        exact RET (-1) _ _ _ _ _ ⟨rfl, hk1 _ ⟨0 + 1, (u_d_X9_find_1_1_1 ⟨f7, ⟨z10, gz10.out, (Or.inl ⟨c11, rfl⟩)⟩⟩)⟩, by omega⟩ hP hS dX9_find_50
      · have c11 : ¬ z10 ≤ z3 := mt (i_le (rb rz10 (by decide) (by decide)) (rb f7 (by decide) (by decide))).mpr c11
        refine lv_iload_n hx hb dX9_find_23 rfl (lv_at hl 0 rfl) ?_
        refine lv_bipush (v := iI 10) hx hb dX9_find_24 (by decide +kernel) ?_
        refine lv_icmp_ge (tgt := 49) hx hb dX9_find_26 (by decide) (fun c12 => False.elim (by have c12 : 10 ≤ z3 := (i_le ⟨by decide, by decide⟩ (rb f7 (by decide) (by decide))).mp c12; omega)) (fun _ => ?_)
        refine lv_aload_n hx hb dX9_find_29 rfl (lv_at hl 1 rfl) ?_
        refine va_get (D := (dC, dI)) (ci := 9) (v := .ref (q (ta + 2))) (C := RX9) (T := TX9) (N := 16) hx hb hts hiX9 hown hK hP ta (wkT hta) rfl 1 (by decide) (hts _ (List.mem_cons_of_mem _ (wk_in_5 _ (List.mem_of_getElem? (i := 57) rfl)))) (fun _ h9 => h9) rfl dX9_find_30 ?_
        refine lv_iload_n hx hb dX9_find_33 rfl (lv_at hl 2 rfl) ?_
        refine k_aald (Wf := WK cB cI cJ cZ cQ q) hx hb hK hP (ta + 2) 4 (wkTq hta) rfl (by omega) (by decide) (b := q (ta + 3 + (1 : Int).toNat)) rfl dX9_find_34 ?_
        refine lv_iload_n hx hb dX9_find_35 rfl (lv_at hl 0 rfl) ?_
        refine x_iald (Wf := WK cB cI cJ cZ cQ q) hx hb hK hP (ta + 3 + (1 : Int).toNat) 1 (wkTn hta (i := 1) (by decide)) rfl (by omega) (by decide) dX9_find_36 (fun z13 hz13 => ?_)
        have rz13 : (-2147483648 : Int) ≤ z13 ∧ z13 ≤ 2147483647 := by rw [hz13]; exact irTn hta (i := 1) (by decide) hI
        have gz13 := Hd.mk hz13
        refine lv_iload_n hx hb dX9_find_37 rfl (lv_at hl 3 rfl) ?_
        refine lv_icmp_ne (tgt := 43) hx hb dX9_find_38 (by decide) (fun c14 => ?_) (fun c14 => ?_)
        · have c14 : ¬ z13 = x2 := mt (i_eq rz13 hx2).mpr c14
          refine lv_iinc (v := iI (z3 + 1)) (lv' := [(3, .int (iI (z3 + 1))), (0, .ref (q ta)), (1, .int (iI 1)), (2, .int (iI x2))]) hx hb dX9_find_43 hl (k := 0) rfl (i_inc (by omega)) (by decide) rfl (fun ls hl => ?_)
          refine lv_goto (tgt := 13) hx hb dX9_find_46 (by decide) ?_
          exact ih6 _ (by omega) (z3 + 1) _ _ _ (by omega) (fun z9 ⟨n1, h9⟩ => hk1 _ ⟨n1 + 1, (u_d_X9_find_1_1_1 ⟨f7, ⟨z10, gz10.out, (Or.inr ⟨c11, ⟨z13, gz13.out, (Or.inl ⟨c14, h9⟩)⟩⟩)⟩⟩)⟩) rfl hP hS (lv_sub hl [0, 1, 2, 3] rfl)
        · have c14 : z13 = x2 := (i_eq rz13 hx2).mp c14
          refine lv_iload_n hx hb dX9_find_41 rfl (lv_at hl 0 rfl) ?_
          exact RET z3 _ _ _ _ _ ⟨rfl, hk1 _ ⟨0 + 1, (u_d_X9_find_1_1_1 ⟨f7, ⟨z10, gz10.out, (Or.inr ⟨c11, ⟨z13, gz13.out, (Or.inr ⟨c14, rfl⟩)⟩⟩)⟩⟩)⟩, by omega⟩ hP hS dX9_find_42
  exact L13_5 _ 0 _ _ _ (by omega) (fun z9 ⟨n1, h9⟩ => (u_r_X9_find_1_1 ⟨n1, h9⟩)) rfl hP hS (lv_sub hl [0, 1, 2, 3] rfl)

abbrev tr_d_X9_find_1_2_1 (ta : Nat) (x2 : Int) (A : St) (z : Int) (K1 : Int → Prop) (z3 : Int) : Prop := ((0 ≤ z3 ∧ z3 ≤ 2147483647) ∧ (∃ z10 : Int, z10 = A (ta + 1) (2 : Int).toNat ∧ (((z10 ≤ z3) ∧ (z = (-1))) ∨ ((¬ z10 ≤ z3) ∧ (∃ z13 : Int, z13 = A (ta + 3 + (2 : Int).toNat) (z3).toNat ∧ (((¬ z13 = x2) ∧ (K1 (z3 + 1))) ∨ ((z13 = x2) ∧ (z = z3))))))))
def d_X9_find_1_2_1 (ta : Nat) (x2 : Int) (A : St) (z : Int) : Nat → Int → Prop
  | 0, _ => False
  | nn9 + 1, z3 => tr_d_X9_find_1_2_1 ta x2 A z (fun z3 => d_X9_find_1_2_1 ta x2 A z nn9 z3) z3
theorem u_d_X9_find_1_2_1 {ta : Nat} {x2 : Int} {A : St} {z : Int} {nn9 : Nat} {z3 : Int} (h : tr_d_X9_find_1_2_1 ta x2 A z (fun z3 => d_X9_find_1_2_1 ta x2 A z nn9 z3) z3) : d_X9_find_1_2_1 ta x2 A z (nn9 + 1) z3 := h
abbrev tr_r_X9_find_1_2 (ta : Nat) (x2 : Int) (A : St) (z : Int) : Prop := (∃ nn9 : Nat, d_X9_find_1_2_1 ta x2 A z nn9 0)
def r_X9_find_1_2 (ta : Nat) (x2 : Int) (A : St) (z : Int) : Prop := tr_r_X9_find_1_2 ta x2 A z
theorem u_r_X9_find_1_2 {ta : Nat} {x2 : Int} {A : St} {z : Int} (h : tr_r_X9_find_1_2 ta x2 A z) : r_X9_find_1_2 ta x2 A z := h
def q_X9_find_1_2 (ta : Nat) (x2 : Int) (A : St) (z : Int) : Prop := r_X9_find_1_2 ta x2 A z ∧ (-1 ≤ z ∧ z ≤ 3)
def ws_kc_X9_find_1_2 : List Cond := .code yX9_find cX9_find 4 (some .int) :: WY
set_option maxHeartbeats 4000000 in
set_option maxRecDepth 100000 in
theorem kc_X9_find_1_2 (l : Launch) (dC : Nat → ClassId) (dI : Nat → Nat → Nat) (cB cI cJ cZ cQ : ClassId) (aL aS : Nat) (q : Nat → Nat) (A : St) (ta : Nat) (x2 : Int) (hI : IK A) (hta : isT ta) (hx2 : (-2147483648 : Int) ≤ x2 ∧ x2 ≤ 2147483647) : KMi l yX9_find ws_kc_X9_find_1_2 ({ frames := 0, cells := 0, slots := 0, locals := 0 } : Room) aL aS (dC, dI) (tyA cB cI cJ cZ cQ) (WK cB cI cJ cZ cQ q) A [.ref (q ta), .int (iI 2), .int (iI x2)] (fun z u => A = u ∧ r_X9_find_1_2 ta x2 A z ∧ (-1 ≤ z ∧ z ≤ 3)) := by
  refine k_meti (cc := cX9_find) (maxL := 4) WK_adr (plainFor_of_name (by decide +kernel)) rfl (Nat.le_of_ble_eq_true rfl) (fun p e s m below meth c Q AS ls hx hb hml hown hts hK hDD hA0 hE RET H locs hP hS hl => ?_)
  have hown : s.vm.findClass RX9 = some m.cls := hown
  have hl : lv_has ls 4 [(0, .ref (q ta)), (1, .int (iI 2)), (2, .int (iI x2))] := hl
  have hiX9 : ∀ w ∈ u_ws RX9 TX9 16, w ∈ ws_kc_X9_find_1_2 := fun w h => List.mem_cons_of_mem _ (wy_layX9 w h)
  refine lv_iload_n hx hb dX9_find_0 rfl (lv_at hl 1 rfl) ?_
  refine lv_if_lt (tgt := 9) hx hb dX9_find_1 (by decide) (fun c1 => absurd c1 (by decide +kernel)) (fun _ => ?_)
  refine lv_iload_n hx hb dX9_find_4 rfl (lv_at hl 1 rfl) ?_
  refine lv_iconst (v := iI 5) hx hb dX9_find_5 (by decide +kernel) ?_
  refine lv_icmp_lt (tgt := 11) hx hb dX9_find_6 (by decide) (fun _ => ?_) (fun c2 => absurd c2 (by decide +kernel))
  refine lv_iconst (v := iI 0) hx hb dX9_find_11 (by decide +kernel) ?_
  refine lv_istore_n (lv' := [(3, .int (iI 0)), (0, .ref (q ta)), (1, .int (iI 2)), (2, .int (iI x2))]) hx hb dX9_find_12 rfl hl (by decide) rfl (fun ls hl => ?_)
  have L13_5 : ∀ (n9 : Nat) (z3 : Int) (H : Heap) (locs : List Loc) (ls : Array Slot), (0 ≤ z3 ∧ z3 ≤ 2147483647) → (∀ (z : Int), (∃ n1 : Nat, (d_X9_find_1_2_1 ta x2 A z n1 z3)) → r_X9_find_1_2 ta x2 A z) → ((5 - z3).toNat = n9) → va_P (dC, dI) vwCl (WK cB cI cJ cZ cQ q A) H → va_S AS s.heap H locs → lv_has ls 4 [(3, .int (iI z3)), (0, .ref (q ta)), (1, .int (iI 2)), (2, .int (iI x2))] → W p l e (headSpec ws_kc_X9_find_1_2 ({ frames := 0, cells := 0, slots := 0, locals := 0 } : Room)).room s m [.ref (q ta), .int (iI 2), .int (iI x2)].toArray below meth c H locs 0 0 Q (F0 m 13 ls []) := by
    intro n9
    induction n9 using Nat.strongRecOn with
    | ind n9 ih6 =>
      intro z3 H locs ls f7 hk1 hn9 hP hS hl
      refine lv_iload_n hx hb dX9_find_13 rfl (lv_at hl 0 rfl) ?_
      refine lv_aload_n hx hb dX9_find_14 rfl (lv_at hl 1 rfl) ?_
      refine va_get (D := (dC, dI)) (ci := 9) (v := .ref (q (ta + 1))) (C := RX9) (T := TX9) (N := 16) hx hb hts hiX9 hown hK hP ta (wkT hta) rfl 0 (by decide) (hts _ (List.mem_cons_of_mem _ (wk_in_0 _ (List.mem_of_getElem? (i := 8) rfl)))) (fun _ h9 => h9) rfl dX9_find_15 ?_
      refine lv_iload_n hx hb dX9_find_18 rfl (lv_at hl 2 rfl) ?_
      refine x_iald (Wf := WK cB cI cJ cZ cQ q) hx hb hK hP (ta + 1) 1 (wkTc hta) rfl (by decide) (by decide) dX9_find_19 (fun z10 hz10 => ?_)
      have rz10 : (0 : Int) ≤ z10 ∧ z10 ≤ 4 := by rw [hz10]; exact irTc2 hta hI
      have gz10 := Hd.mk hz10
      refine lv_icmp_ge (tgt := 49) hx hb dX9_find_20 (by decide) (fun c11 => ?_) (fun c11 => ?_)
      · have c11 : z10 ≤ z3 := (i_le (rb rz10 (by decide) (by decide)) (rb f7 (by decide) (by decide))).mp c11
        refine lv_iconst (v := iI (-1)) hx hb dX9_find_49 (by decide +kernel) ?_
        exact RET (-1) _ _ _ _ _ ⟨rfl, hk1 _ ⟨0 + 1, (u_d_X9_find_1_2_1 ⟨f7, ⟨z10, gz10.out, (Or.inl ⟨c11, rfl⟩)⟩⟩)⟩, by omega⟩ hP hS dX9_find_50
      · have c11 : ¬ z10 ≤ z3 := mt (i_le (rb rz10 (by decide) (by decide)) (rb f7 (by decide) (by decide))).mpr c11
        refine lv_iload_n hx hb dX9_find_23 rfl (lv_at hl 0 rfl) ?_
        refine lv_bipush (v := iI 10) hx hb dX9_find_24 (by decide +kernel) ?_
        refine lv_icmp_ge (tgt := 49) hx hb dX9_find_26 (by decide) (fun c12 => False.elim (by have c12 : 10 ≤ z3 := (i_le ⟨by decide, by decide⟩ (rb f7 (by decide) (by decide))).mp c12; omega)) (fun _ => ?_)
        refine lv_aload_n hx hb dX9_find_29 rfl (lv_at hl 1 rfl) ?_
        refine va_get (D := (dC, dI)) (ci := 9) (v := .ref (q (ta + 2))) (C := RX9) (T := TX9) (N := 16) hx hb hts hiX9 hown hK hP ta (wkT hta) rfl 1 (by decide) (hts _ (List.mem_cons_of_mem _ (wk_in_5 _ (List.mem_of_getElem? (i := 57) rfl)))) (fun _ h9 => h9) rfl dX9_find_30 ?_
        refine lv_iload_n hx hb dX9_find_33 rfl (lv_at hl 2 rfl) ?_
        refine k_aald (Wf := WK cB cI cJ cZ cQ q) hx hb hK hP (ta + 2) 4 (wkTq hta) rfl (by omega) (by decide) (b := q (ta + 3 + (2 : Int).toNat)) rfl dX9_find_34 ?_
        refine lv_iload_n hx hb dX9_find_35 rfl (lv_at hl 0 rfl) ?_
        refine x_iald (Wf := WK cB cI cJ cZ cQ q) hx hb hK hP (ta + 3 + (2 : Int).toNat) 1 (wkTn hta (i := 2) (by decide)) rfl (by omega) (by decide) dX9_find_36 (fun z13 hz13 => ?_)
        have rz13 : (-2147483648 : Int) ≤ z13 ∧ z13 ≤ 2147483647 := by rw [hz13]; exact irTn hta (i := 2) (by decide) hI
        have gz13 := Hd.mk hz13
        refine lv_iload_n hx hb dX9_find_37 rfl (lv_at hl 3 rfl) ?_
        refine lv_icmp_ne (tgt := 43) hx hb dX9_find_38 (by decide) (fun c14 => ?_) (fun c14 => ?_)
        · have c14 : ¬ z13 = x2 := mt (i_eq rz13 hx2).mpr c14
          refine lv_iinc (v := iI (z3 + 1)) (lv' := [(3, .int (iI (z3 + 1))), (0, .ref (q ta)), (1, .int (iI 2)), (2, .int (iI x2))]) hx hb dX9_find_43 hl (k := 0) rfl (i_inc (by omega)) (by decide) rfl (fun ls hl => ?_)
          refine lv_goto (tgt := 13) hx hb dX9_find_46 (by decide) ?_
          exact ih6 _ (by omega) (z3 + 1) _ _ _ (by omega) (fun z9 ⟨n1, h9⟩ => hk1 _ ⟨n1 + 1, (u_d_X9_find_1_2_1 ⟨f7, ⟨z10, gz10.out, (Or.inr ⟨c11, ⟨z13, gz13.out, (Or.inl ⟨c14, h9⟩)⟩⟩)⟩⟩)⟩) rfl hP hS (lv_sub hl [0, 1, 2, 3] rfl)
        · have c14 : z13 = x2 := (i_eq rz13 hx2).mp c14
          refine lv_iload_n hx hb dX9_find_41 rfl (lv_at hl 0 rfl) ?_
          exact RET z3 _ _ _ _ _ ⟨rfl, hk1 _ ⟨0 + 1, (u_d_X9_find_1_2_1 ⟨f7, ⟨z10, gz10.out, (Or.inr ⟨c11, ⟨z13, gz13.out, (Or.inr ⟨c14, rfl⟩)⟩⟩)⟩⟩)⟩, by omega⟩ hP hS dX9_find_42
  exact L13_5 _ 0 _ _ _ (by omega) (fun z9 ⟨n1, h9⟩ => (u_r_X9_find_1_2 ⟨n1, h9⟩)) rfl hP hS (lv_sub hl [0, 1, 2, 3] rfl)

abbrev tr_d_X9_find_1_3_1 (ta : Nat) (x2 : Int) (A : St) (z : Int) (K1 : Int → Prop) (z3 : Int) : Prop := ((0 ≤ z3 ∧ z3 ≤ 2147483647) ∧ (∃ z10 : Int, z10 = A (ta + 1) (3 : Int).toNat ∧ (((z10 ≤ z3) ∧ (z = (-1))) ∨ ((¬ z10 ≤ z3) ∧ (∃ z13 : Int, z13 = A (ta + 3 + (3 : Int).toNat) (z3).toNat ∧ (((¬ z13 = x2) ∧ (K1 (z3 + 1))) ∨ ((z13 = x2) ∧ (z = z3))))))))
def d_X9_find_1_3_1 (ta : Nat) (x2 : Int) (A : St) (z : Int) : Nat → Int → Prop
  | 0, _ => False
  | nn9 + 1, z3 => tr_d_X9_find_1_3_1 ta x2 A z (fun z3 => d_X9_find_1_3_1 ta x2 A z nn9 z3) z3
theorem u_d_X9_find_1_3_1 {ta : Nat} {x2 : Int} {A : St} {z : Int} {nn9 : Nat} {z3 : Int} (h : tr_d_X9_find_1_3_1 ta x2 A z (fun z3 => d_X9_find_1_3_1 ta x2 A z nn9 z3) z3) : d_X9_find_1_3_1 ta x2 A z (nn9 + 1) z3 := h
abbrev tr_r_X9_find_1_3 (ta : Nat) (x2 : Int) (A : St) (z : Int) : Prop := (∃ nn9 : Nat, d_X9_find_1_3_1 ta x2 A z nn9 0)
def r_X9_find_1_3 (ta : Nat) (x2 : Int) (A : St) (z : Int) : Prop := tr_r_X9_find_1_3 ta x2 A z
theorem u_r_X9_find_1_3 {ta : Nat} {x2 : Int} {A : St} {z : Int} (h : tr_r_X9_find_1_3 ta x2 A z) : r_X9_find_1_3 ta x2 A z := h
def q_X9_find_1_3 (ta : Nat) (x2 : Int) (A : St) (z : Int) : Prop := r_X9_find_1_3 ta x2 A z ∧ (-1 ≤ z ∧ z ≤ 2)
def ws_kc_X9_find_1_3 : List Cond := .code yX9_find cX9_find 4 (some .int) :: WY
set_option maxHeartbeats 4000000 in
set_option maxRecDepth 100000 in
theorem kc_X9_find_1_3 (l : Launch) (dC : Nat → ClassId) (dI : Nat → Nat → Nat) (cB cI cJ cZ cQ : ClassId) (aL aS : Nat) (q : Nat → Nat) (A : St) (ta : Nat) (x2 : Int) (hI : IK A) (hta : isT ta) (hx2 : (-2147483648 : Int) ≤ x2 ∧ x2 ≤ 2147483647) : KMi l yX9_find ws_kc_X9_find_1_3 ({ frames := 0, cells := 0, slots := 0, locals := 0 } : Room) aL aS (dC, dI) (tyA cB cI cJ cZ cQ) (WK cB cI cJ cZ cQ q) A [.ref (q ta), .int (iI 3), .int (iI x2)] (fun z u => A = u ∧ r_X9_find_1_3 ta x2 A z ∧ (-1 ≤ z ∧ z ≤ 2)) := by
  refine k_meti (cc := cX9_find) (maxL := 4) WK_adr (plainFor_of_name (by decide +kernel)) rfl (Nat.le_of_ble_eq_true rfl) (fun p e s m below meth c Q AS ls hx hb hml hown hts hK hDD hA0 hE RET H locs hP hS hl => ?_)
  have hown : s.vm.findClass RX9 = some m.cls := hown
  have hl : lv_has ls 4 [(0, .ref (q ta)), (1, .int (iI 3)), (2, .int (iI x2))] := hl
  have hiX9 : ∀ w ∈ u_ws RX9 TX9 16, w ∈ ws_kc_X9_find_1_3 := fun w h => List.mem_cons_of_mem _ (wy_layX9 w h)
  refine lv_iload_n hx hb dX9_find_0 rfl (lv_at hl 1 rfl) ?_
  refine lv_if_lt (tgt := 9) hx hb dX9_find_1 (by decide) (fun c1 => absurd c1 (by decide +kernel)) (fun _ => ?_)
  refine lv_iload_n hx hb dX9_find_4 rfl (lv_at hl 1 rfl) ?_
  refine lv_iconst (v := iI 5) hx hb dX9_find_5 (by decide +kernel) ?_
  refine lv_icmp_lt (tgt := 11) hx hb dX9_find_6 (by decide) (fun _ => ?_) (fun c2 => absurd c2 (by decide +kernel))
  refine lv_iconst (v := iI 0) hx hb dX9_find_11 (by decide +kernel) ?_
  refine lv_istore_n (lv' := [(3, .int (iI 0)), (0, .ref (q ta)), (1, .int (iI 3)), (2, .int (iI x2))]) hx hb dX9_find_12 rfl hl (by decide) rfl (fun ls hl => ?_)
  have L13_5 : ∀ (n9 : Nat) (z3 : Int) (H : Heap) (locs : List Loc) (ls : Array Slot), (0 ≤ z3 ∧ z3 ≤ 2147483647) → (∀ (z : Int), (∃ n1 : Nat, (d_X9_find_1_3_1 ta x2 A z n1 z3)) → r_X9_find_1_3 ta x2 A z) → ((4 - z3).toNat = n9) → va_P (dC, dI) vwCl (WK cB cI cJ cZ cQ q A) H → va_S AS s.heap H locs → lv_has ls 4 [(3, .int (iI z3)), (0, .ref (q ta)), (1, .int (iI 3)), (2, .int (iI x2))] → W p l e (headSpec ws_kc_X9_find_1_3 ({ frames := 0, cells := 0, slots := 0, locals := 0 } : Room)).room s m [.ref (q ta), .int (iI 3), .int (iI x2)].toArray below meth c H locs 0 0 Q (F0 m 13 ls []) := by
    intro n9
    induction n9 using Nat.strongRecOn with
    | ind n9 ih6 =>
      intro z3 H locs ls f7 hk1 hn9 hP hS hl
      refine lv_iload_n hx hb dX9_find_13 rfl (lv_at hl 0 rfl) ?_
      refine lv_aload_n hx hb dX9_find_14 rfl (lv_at hl 1 rfl) ?_
      refine va_get (D := (dC, dI)) (ci := 9) (v := .ref (q (ta + 1))) (C := RX9) (T := TX9) (N := 16) hx hb hts hiX9 hown hK hP ta (wkT hta) rfl 0 (by decide) (hts _ (List.mem_cons_of_mem _ (wk_in_0 _ (List.mem_of_getElem? (i := 8) rfl)))) (fun _ h9 => h9) rfl dX9_find_15 ?_
      refine lv_iload_n hx hb dX9_find_18 rfl (lv_at hl 2 rfl) ?_
      refine x_iald (Wf := WK cB cI cJ cZ cQ q) hx hb hK hP (ta + 1) 1 (wkTc hta) rfl (by decide) (by decide) dX9_find_19 (fun z10 hz10 => ?_)
      have rz10 : (0 : Int) ≤ z10 ∧ z10 ≤ 3 := by rw [hz10]; exact irTc3 hta hI
      have gz10 := Hd.mk hz10
      refine lv_icmp_ge (tgt := 49) hx hb dX9_find_20 (by decide) (fun c11 => ?_) (fun c11 => ?_)
      · have c11 : z10 ≤ z3 := (i_le (rb rz10 (by decide) (by decide)) (rb f7 (by decide) (by decide))).mp c11
        refine lv_iconst (v := iI (-1)) hx hb dX9_find_49 (by decide +kernel) ?_
        exact RET (-1) _ _ _ _ _ ⟨rfl, hk1 _ ⟨0 + 1, (u_d_X9_find_1_3_1 ⟨f7, ⟨z10, gz10.out, (Or.inl ⟨c11, rfl⟩)⟩⟩)⟩, by omega⟩ hP hS dX9_find_50
      · have c11 : ¬ z10 ≤ z3 := mt (i_le (rb rz10 (by decide) (by decide)) (rb f7 (by decide) (by decide))).mpr c11
        refine lv_iload_n hx hb dX9_find_23 rfl (lv_at hl 0 rfl) ?_
        refine lv_bipush (v := iI 10) hx hb dX9_find_24 (by decide +kernel) ?_
        refine lv_icmp_ge (tgt := 49) hx hb dX9_find_26 (by decide) (fun c12 => False.elim (by have c12 : 10 ≤ z3 := (i_le ⟨by decide, by decide⟩ (rb f7 (by decide) (by decide))).mp c12; omega)) (fun _ => ?_)
        refine lv_aload_n hx hb dX9_find_29 rfl (lv_at hl 1 rfl) ?_
        refine va_get (D := (dC, dI)) (ci := 9) (v := .ref (q (ta + 2))) (C := RX9) (T := TX9) (N := 16) hx hb hts hiX9 hown hK hP ta (wkT hta) rfl 1 (by decide) (hts _ (List.mem_cons_of_mem _ (wk_in_5 _ (List.mem_of_getElem? (i := 57) rfl)))) (fun _ h9 => h9) rfl dX9_find_30 ?_
        refine lv_iload_n hx hb dX9_find_33 rfl (lv_at hl 2 rfl) ?_
        refine k_aald (Wf := WK cB cI cJ cZ cQ q) hx hb hK hP (ta + 2) 4 (wkTq hta) rfl (by omega) (by decide) (b := q (ta + 3 + (3 : Int).toNat)) rfl dX9_find_34 ?_
        refine lv_iload_n hx hb dX9_find_35 rfl (lv_at hl 0 rfl) ?_
        refine x_iald (Wf := WK cB cI cJ cZ cQ q) hx hb hK hP (ta + 3 + (3 : Int).toNat) 1 (wkTn hta (i := 3) (by decide)) rfl (by omega) (by decide) dX9_find_36 (fun z13 hz13 => ?_)
        have rz13 : (-2147483648 : Int) ≤ z13 ∧ z13 ≤ 2147483647 := by rw [hz13]; exact irTn hta (i := 3) (by decide) hI
        have gz13 := Hd.mk hz13
        refine lv_iload_n hx hb dX9_find_37 rfl (lv_at hl 3 rfl) ?_
        refine lv_icmp_ne (tgt := 43) hx hb dX9_find_38 (by decide) (fun c14 => ?_) (fun c14 => ?_)
        · have c14 : ¬ z13 = x2 := mt (i_eq rz13 hx2).mpr c14
          refine lv_iinc (v := iI (z3 + 1)) (lv' := [(3, .int (iI (z3 + 1))), (0, .ref (q ta)), (1, .int (iI 3)), (2, .int (iI x2))]) hx hb dX9_find_43 hl (k := 0) rfl (i_inc (by omega)) (by decide) rfl (fun ls hl => ?_)
          refine lv_goto (tgt := 13) hx hb dX9_find_46 (by decide) ?_
          exact ih6 _ (by omega) (z3 + 1) _ _ _ (by omega) (fun z9 ⟨n1, h9⟩ => hk1 _ ⟨n1 + 1, (u_d_X9_find_1_3_1 ⟨f7, ⟨z10, gz10.out, (Or.inr ⟨c11, ⟨z13, gz13.out, (Or.inl ⟨c14, h9⟩)⟩⟩)⟩⟩)⟩) rfl hP hS (lv_sub hl [0, 1, 2, 3] rfl)
        · have c14 : z13 = x2 := (i_eq rz13 hx2).mp c14
          refine lv_iload_n hx hb dX9_find_41 rfl (lv_at hl 0 rfl) ?_
          exact RET z3 _ _ _ _ _ ⟨rfl, hk1 _ ⟨0 + 1, (u_d_X9_find_1_3_1 ⟨f7, ⟨z10, gz10.out, (Or.inr ⟨c11, ⟨z13, gz13.out, (Or.inr ⟨c14, rfl⟩)⟩⟩)⟩⟩)⟩, by omega⟩ hP hS dX9_find_42
  exact L13_5 _ 0 _ _ _ (by omega) (fun z9 ⟨n1, h9⟩ => (u_r_X9_find_1_3 ⟨n1, h9⟩)) rfl hP hS (lv_sub hl [0, 1, 2, 3] rfl)

abbrev tr_d_X9_find_1_4_1 (ta : Nat) (x2 : Int) (A : St) (z : Int) (K1 : Int → Prop) (z3 : Int) : Prop := ((0 ≤ z3 ∧ z3 ≤ 2147483647) ∧ (∃ z10 : Int, z10 = A (ta + 1) (4 : Int).toNat ∧ (((z10 ≤ z3) ∧ (z = (-1))) ∨ ((¬ z10 ≤ z3) ∧ (∃ z13 : Int, z13 = A (ta + 3 + (4 : Int).toNat) (z3).toNat ∧ (((¬ z13 = x2) ∧ (K1 (z3 + 1))) ∨ ((z13 = x2) ∧ (z = z3))))))))
def d_X9_find_1_4_1 (ta : Nat) (x2 : Int) (A : St) (z : Int) : Nat → Int → Prop
  | 0, _ => False
  | nn9 + 1, z3 => tr_d_X9_find_1_4_1 ta x2 A z (fun z3 => d_X9_find_1_4_1 ta x2 A z nn9 z3) z3
theorem u_d_X9_find_1_4_1 {ta : Nat} {x2 : Int} {A : St} {z : Int} {nn9 : Nat} {z3 : Int} (h : tr_d_X9_find_1_4_1 ta x2 A z (fun z3 => d_X9_find_1_4_1 ta x2 A z nn9 z3) z3) : d_X9_find_1_4_1 ta x2 A z (nn9 + 1) z3 := h
abbrev tr_r_X9_find_1_4 (ta : Nat) (x2 : Int) (A : St) (z : Int) : Prop := (∃ nn9 : Nat, d_X9_find_1_4_1 ta x2 A z nn9 0)
def r_X9_find_1_4 (ta : Nat) (x2 : Int) (A : St) (z : Int) : Prop := tr_r_X9_find_1_4 ta x2 A z
theorem u_r_X9_find_1_4 {ta : Nat} {x2 : Int} {A : St} {z : Int} (h : tr_r_X9_find_1_4 ta x2 A z) : r_X9_find_1_4 ta x2 A z := h
def q_X9_find_1_4 (ta : Nat) (x2 : Int) (A : St) (z : Int) : Prop := r_X9_find_1_4 ta x2 A z ∧ (-1 ≤ z ∧ z ≤ 3)
def ws_kc_X9_find_1_4 : List Cond := .code yX9_find cX9_find 4 (some .int) :: WY
set_option maxHeartbeats 4000000 in
set_option maxRecDepth 100000 in
theorem kc_X9_find_1_4 (l : Launch) (dC : Nat → ClassId) (dI : Nat → Nat → Nat) (cB cI cJ cZ cQ : ClassId) (aL aS : Nat) (q : Nat → Nat) (A : St) (ta : Nat) (x2 : Int) (hI : IK A) (hta : isT ta) (hx2 : (-2147483648 : Int) ≤ x2 ∧ x2 ≤ 2147483647) : KMi l yX9_find ws_kc_X9_find_1_4 ({ frames := 0, cells := 0, slots := 0, locals := 0 } : Room) aL aS (dC, dI) (tyA cB cI cJ cZ cQ) (WK cB cI cJ cZ cQ q) A [.ref (q ta), .int (iI 4), .int (iI x2)] (fun z u => A = u ∧ r_X9_find_1_4 ta x2 A z ∧ (-1 ≤ z ∧ z ≤ 3)) := by
  refine k_meti (cc := cX9_find) (maxL := 4) WK_adr (plainFor_of_name (by decide +kernel)) rfl (Nat.le_of_ble_eq_true rfl) (fun p e s m below meth c Q AS ls hx hb hml hown hts hK hDD hA0 hE RET H locs hP hS hl => ?_)
  have hown : s.vm.findClass RX9 = some m.cls := hown
  have hl : lv_has ls 4 [(0, .ref (q ta)), (1, .int (iI 4)), (2, .int (iI x2))] := hl
  have hiX9 : ∀ w ∈ u_ws RX9 TX9 16, w ∈ ws_kc_X9_find_1_4 := fun w h => List.mem_cons_of_mem _ (wy_layX9 w h)
  refine lv_iload_n hx hb dX9_find_0 rfl (lv_at hl 1 rfl) ?_
  refine lv_if_lt (tgt := 9) hx hb dX9_find_1 (by decide) (fun c1 => absurd c1 (by decide +kernel)) (fun _ => ?_)
  refine lv_iload_n hx hb dX9_find_4 rfl (lv_at hl 1 rfl) ?_
  refine lv_iconst (v := iI 5) hx hb dX9_find_5 (by decide +kernel) ?_
  refine lv_icmp_lt (tgt := 11) hx hb dX9_find_6 (by decide) (fun _ => ?_) (fun c2 => absurd c2 (by decide +kernel))
  refine lv_iconst (v := iI 0) hx hb dX9_find_11 (by decide +kernel) ?_
  refine lv_istore_n (lv' := [(3, .int (iI 0)), (0, .ref (q ta)), (1, .int (iI 4)), (2, .int (iI x2))]) hx hb dX9_find_12 rfl hl (by decide) rfl (fun ls hl => ?_)
  have L13_5 : ∀ (n9 : Nat) (z3 : Int) (H : Heap) (locs : List Loc) (ls : Array Slot), (0 ≤ z3 ∧ z3 ≤ 2147483647) → (∀ (z : Int), (∃ n1 : Nat, (d_X9_find_1_4_1 ta x2 A z n1 z3)) → r_X9_find_1_4 ta x2 A z) → ((5 - z3).toNat = n9) → va_P (dC, dI) vwCl (WK cB cI cJ cZ cQ q A) H → va_S AS s.heap H locs → lv_has ls 4 [(3, .int (iI z3)), (0, .ref (q ta)), (1, .int (iI 4)), (2, .int (iI x2))] → W p l e (headSpec ws_kc_X9_find_1_4 ({ frames := 0, cells := 0, slots := 0, locals := 0 } : Room)).room s m [.ref (q ta), .int (iI 4), .int (iI x2)].toArray below meth c H locs 0 0 Q (F0 m 13 ls []) := by
    intro n9
    induction n9 using Nat.strongRecOn with
    | ind n9 ih6 =>
      intro z3 H locs ls f7 hk1 hn9 hP hS hl
      refine lv_iload_n hx hb dX9_find_13 rfl (lv_at hl 0 rfl) ?_
      refine lv_aload_n hx hb dX9_find_14 rfl (lv_at hl 1 rfl) ?_
      refine va_get (D := (dC, dI)) (ci := 9) (v := .ref (q (ta + 1))) (C := RX9) (T := TX9) (N := 16) hx hb hts hiX9 hown hK hP ta (wkT hta) rfl 0 (by decide) (hts _ (List.mem_cons_of_mem _ (wk_in_0 _ (List.mem_of_getElem? (i := 8) rfl)))) (fun _ h9 => h9) rfl dX9_find_15 ?_
      refine lv_iload_n hx hb dX9_find_18 rfl (lv_at hl 2 rfl) ?_
      refine x_iald (Wf := WK cB cI cJ cZ cQ q) hx hb hK hP (ta + 1) 1 (wkTc hta) rfl (by decide) (by decide) dX9_find_19 (fun z10 hz10 => ?_)
      have rz10 : (0 : Int) ≤ z10 ∧ z10 ≤ 4 := by rw [hz10]; exact irTc4 hta hI
      have gz10 := Hd.mk hz10
      refine lv_icmp_ge (tgt := 49) hx hb dX9_find_20 (by decide) (fun c11 => ?_) (fun c11 => ?_)
      · have c11 : z10 ≤ z3 := (i_le (rb rz10 (by decide) (by decide)) (rb f7 (by decide) (by decide))).mp c11
        refine lv_iconst (v := iI (-1)) hx hb dX9_find_49 (by decide +kernel) ?_
        exact RET (-1) _ _ _ _ _ ⟨rfl, hk1 _ ⟨0 + 1, (u_d_X9_find_1_4_1 ⟨f7, ⟨z10, gz10.out, (Or.inl ⟨c11, rfl⟩)⟩⟩)⟩, by omega⟩ hP hS dX9_find_50
      · have c11 : ¬ z10 ≤ z3 := mt (i_le (rb rz10 (by decide) (by decide)) (rb f7 (by decide) (by decide))).mpr c11
        refine lv_iload_n hx hb dX9_find_23 rfl (lv_at hl 0 rfl) ?_
        refine lv_bipush (v := iI 10) hx hb dX9_find_24 (by decide +kernel) ?_
        refine lv_icmp_ge (tgt := 49) hx hb dX9_find_26 (by decide) (fun c12 => False.elim (by have c12 : 10 ≤ z3 := (i_le ⟨by decide, by decide⟩ (rb f7 (by decide) (by decide))).mp c12; omega)) (fun _ => ?_)
        refine lv_aload_n hx hb dX9_find_29 rfl (lv_at hl 1 rfl) ?_
        refine va_get (D := (dC, dI)) (ci := 9) (v := .ref (q (ta + 2))) (C := RX9) (T := TX9) (N := 16) hx hb hts hiX9 hown hK hP ta (wkT hta) rfl 1 (by decide) (hts _ (List.mem_cons_of_mem _ (wk_in_5 _ (List.mem_of_getElem? (i := 57) rfl)))) (fun _ h9 => h9) rfl dX9_find_30 ?_
        refine lv_iload_n hx hb dX9_find_33 rfl (lv_at hl 2 rfl) ?_
        refine k_aald (Wf := WK cB cI cJ cZ cQ q) hx hb hK hP (ta + 2) 4 (wkTq hta) rfl (by omega) (by decide) (b := q (ta + 3 + (4 : Int).toNat)) rfl dX9_find_34 ?_
        refine lv_iload_n hx hb dX9_find_35 rfl (lv_at hl 0 rfl) ?_
        refine x_iald (Wf := WK cB cI cJ cZ cQ q) hx hb hK hP (ta + 3 + (4 : Int).toNat) 1 (wkTn hta (i := 4) (by decide)) rfl (by omega) (by decide) dX9_find_36 (fun z13 hz13 => ?_)
        have rz13 : (-2147483648 : Int) ≤ z13 ∧ z13 ≤ 2147483647 := by rw [hz13]; exact irTn hta (i := 4) (by decide) hI
        have gz13 := Hd.mk hz13
        refine lv_iload_n hx hb dX9_find_37 rfl (lv_at hl 3 rfl) ?_
        refine lv_icmp_ne (tgt := 43) hx hb dX9_find_38 (by decide) (fun c14 => ?_) (fun c14 => ?_)
        · have c14 : ¬ z13 = x2 := mt (i_eq rz13 hx2).mpr c14
          refine lv_iinc (v := iI (z3 + 1)) (lv' := [(3, .int (iI (z3 + 1))), (0, .ref (q ta)), (1, .int (iI 4)), (2, .int (iI x2))]) hx hb dX9_find_43 hl (k := 0) rfl (i_inc (by omega)) (by decide) rfl (fun ls hl => ?_)
          refine lv_goto (tgt := 13) hx hb dX9_find_46 (by decide) ?_
          exact ih6 _ (by omega) (z3 + 1) _ _ _ (by omega) (fun z9 ⟨n1, h9⟩ => hk1 _ ⟨n1 + 1, (u_d_X9_find_1_4_1 ⟨f7, ⟨z10, gz10.out, (Or.inr ⟨c11, ⟨z13, gz13.out, (Or.inl ⟨c14, h9⟩)⟩⟩)⟩⟩)⟩) rfl hP hS (lv_sub hl [0, 1, 2, 3] rfl)
        · have c14 : z13 = x2 := (i_eq rz13 hx2).mp c14
          refine lv_iload_n hx hb dX9_find_41 rfl (lv_at hl 0 rfl) ?_
          exact RET z3 _ _ _ _ _ ⟨rfl, hk1 _ ⟨0 + 1, (u_d_X9_find_1_4_1 ⟨f7, ⟨z10, gz10.out, (Or.inr ⟨c11, ⟨z13, gz13.out, (Or.inr ⟨c14, rfl⟩)⟩⟩)⟩⟩)⟩, by omega⟩ hP hS dX9_find_42
  exact L13_5 _ 0 _ _ _ (by omega) (fun z9 ⟨n1, h9⟩ => (u_r_X9_find_1_4 ⟨n1, h9⟩)) rfl hP hS (lv_sub hl [0, 1, 2, 3] rfl)

abbrev tr_d_X9_find_1 (ta : Nat) (x1 : Int) (x2 : Int) (A : St) (z : Int) (K1 : Int → Prop) (z3 : Int) : Prop := ((0 ≤ z3 ∧ z3 ≤ 2147483647) ∧ (∃ z10 : Int, z10 = A (ta + 1) (x1).toNat ∧ (((z10 ≤ z3) ∧ (z = (-1))) ∨ ((¬ z10 ≤ z3) ∧ (∃ z13 : Int, z13 = A (ta + 3 + (x1).toNat) (z3).toNat ∧ (((¬ z13 = x2) ∧ (K1 (z3 + 1))) ∨ ((z13 = x2) ∧ (z = z3))))))))
def d_X9_find_1 (ta : Nat) (x1 : Int) (x2 : Int) (A : St) (z : Int) : Nat → Int → Prop
  | 0, _ => False
  | nn9 + 1, z3 => tr_d_X9_find_1 ta x1 x2 A z (fun z3 => d_X9_find_1 ta x1 x2 A z nn9 z3) z3
theorem u_d_X9_find_1 {ta : Nat} {x1 : Int} {x2 : Int} {A : St} {z : Int} {nn9 : Nat} {z3 : Int} (h : tr_d_X9_find_1 ta x1 x2 A z (fun z3 => d_X9_find_1 ta x1 x2 A z nn9 z3) z3) : d_X9_find_1 ta x1 x2 A z (nn9 + 1) z3 := h
abbrev tr_r_X9_find (ta : Nat) (x1 : Int) (x2 : Int) (A : St) (z : Int) : Prop := (((x1 < 0) ∧ (z = (-1))) ∨ ((¬ x1 < 0) ∧ (((x1 < 5) ∧ (∃ nn9 : Nat, d_X9_find_1 ta x1 x2 A z nn9 0)) ∨ ((¬ x1 < 5) ∧ (z = (-1))))))
def r_X9_find (ta : Nat) (x1 : Int) (x2 : Int) (A : St) (z : Int) : Prop := tr_r_X9_find ta x1 x2 A z
theorem u_r_X9_find {ta : Nat} {x1 : Int} {x2 : Int} {A : St} {z : Int} (h : tr_r_X9_find ta x1 x2 A z) : r_X9_find ta x1 x2 A z := h
def q_X9_find (ta : Nat) (x1 : Int) (x2 : Int) (A : St) (z : Int) : Prop := r_X9_find ta x1 x2 A z ∧ (-1 ≤ z ∧ z ≤ 9)
def ws_kc_X9_find : List Cond := .code yX9_find cX9_find 4 (some .int) :: WY
set_option maxHeartbeats 4000000 in
set_option maxRecDepth 100000 in
theorem kc_X9_find (l : Launch) (dC : Nat → ClassId) (dI : Nat → Nat → Nat) (cB cI cJ cZ cQ : ClassId) (aL aS : Nat) (q : Nat → Nat) (A : St) (ta : Nat) (x1 x2 : Int) (hI : IK A) (hta : isT ta) (hx1 : (-2147483648 : Int) ≤ x1 ∧ x1 ≤ 2147483647) (hx2 : (-2147483648 : Int) ≤ x2 ∧ x2 ≤ 2147483647) : KMi l yX9_find ws_kc_X9_find ({ frames := 0, cells := 0, slots := 0, locals := 0 } : Room) aL aS (dC, dI) (tyA cB cI cJ cZ cQ) (WK cB cI cJ cZ cQ q) A [.ref (q ta), .int (iI x1), .int (iI x2)] (fun z u => A = u ∧ r_X9_find ta x1 x2 A z ∧ (-1 ≤ z ∧ z ≤ 9)) := by
  refine k_meti (cc := cX9_find) (maxL := 4) WK_adr (plainFor_of_name (by decide +kernel)) rfl (Nat.le_of_ble_eq_true rfl) (fun p e s m below meth c Q AS ls hx hb hml hown hts hK hDD hA0 hE RET H locs hP hS hl => ?_)
  have hown : s.vm.findClass RX9 = some m.cls := hown
  have hl : lv_has ls 4 [(0, .ref (q ta)), (1, .int (iI x1)), (2, .int (iI x2))] := hl
  have hiX9 : ∀ w ∈ u_ws RX9 TX9 16, w ∈ ws_kc_X9_find := fun w h => List.mem_cons_of_mem _ (wy_layX9 w h)
  refine lv_iload_n hx hb dX9_find_0 rfl (lv_at hl 1 rfl) ?_
  refine lv_if_lt (tgt := 9) hx hb dX9_find_1 (by decide) (fun c1 => ?_) (fun c1 => ?_)
  · have c1 : x1 < 0 := (i_lt0 hx1).mp c1
    refine lv_iconst (v := iI (-1)) hx hb dX9_find_9 (by decide +kernel) ?_
    exact RET (-1) _ _ _ _ _ ⟨rfl, (u_r_X9_find (Or.inl ⟨c1, rfl⟩)), by omega⟩ hP hS dX9_find_10
  · have c1 : ¬ x1 < 0 := mt (i_lt0 hx1).mpr c1
    refine lv_iload_n hx hb dX9_find_4 rfl (lv_at hl 1 rfl) ?_
    refine lv_iconst (v := iI 5) hx hb dX9_find_5 (by decide +kernel) ?_
    refine lv_icmp_lt (tgt := 11) hx hb dX9_find_6 (by decide) (fun c2 => ?_) (fun c2 => ?_)
    · have c2 : x1 < 5 := (i_lt hx1 ⟨by decide, by decide⟩).mp c2
      refine lv_iconst (v := iI 0) hx hb dX9_find_11 (by decide +kernel) ?_
      refine lv_istore_n (lv' := [(3, .int (iI 0)), (0, .ref (q ta)), (1, .int (iI x1)), (2, .int (iI x2))]) hx hb dX9_find_12 rfl hl (by decide) rfl (fun ls hl => ?_)
      have L13_5 : ∀ (n9 : Nat) (z3 : Int) (H : Heap) (locs : List Loc) (ls : Array Slot), (0 ≤ z3 ∧ z3 ≤ 2147483647) → (∀ (z : Int), (∃ n1 : Nat, (d_X9_find_1 ta x1 x2 A z n1 z3)) → r_X9_find ta x1 x2 A z) → ((11 - z3).toNat = n9) → va_P (dC, dI) vwCl (WK cB cI cJ cZ cQ q A) H → va_S AS s.heap H locs → lv_has ls 4 [(3, .int (iI z3)), (0, .ref (q ta)), (1, .int (iI x1)), (2, .int (iI x2))] → W p l e (headSpec ws_kc_X9_find ({ frames := 0, cells := 0, slots := 0, locals := 0 } : Room)).room s m [.ref (q ta), .int (iI x1), .int (iI x2)].toArray below meth c H locs 0 0 Q (F0 m 13 ls []) := by
        intro n9
        induction n9 using Nat.strongRecOn with
        | ind n9 ih6 =>
          intro z3 H locs ls f7 hk1 hn9 hP hS hl
          refine lv_iload_n hx hb dX9_find_13 rfl (lv_at hl 0 rfl) ?_
          refine lv_aload_n hx hb dX9_find_14 rfl (lv_at hl 1 rfl) ?_
          refine va_get (D := (dC, dI)) (ci := 9) (v := .ref (q (ta + 1))) (C := RX9) (T := TX9) (N := 16) hx hb hts hiX9 hown hK hP ta (wkT hta) rfl 0 (by decide) (hts _ (List.mem_cons_of_mem _ (wk_in_0 _ (List.mem_of_getElem? (i := 8) rfl)))) (fun _ h9 => h9) rfl dX9_find_15 ?_
          refine lv_iload_n hx hb dX9_find_18 rfl (lv_at hl 2 rfl) ?_
          refine x_iald (Wf := WK cB cI cJ cZ cQ q) hx hb hK hP (ta + 1) 1 (wkTc hta) rfl (by omega) (by decide) dX9_find_19 (fun z10 hz10 => ?_)
          have rz10 : (0 : Int) ≤ z10 ∧ z10 ≤ 10 := by rw [hz10]; exact irTc hta hI
          have gz10 := Hd.mk hz10
          refine lv_icmp_ge (tgt := 49) hx hb dX9_find_20 (by decide) (fun c11 => ?_) (fun c11 => ?_)
          · have c11 : z10 ≤ z3 := (i_le (rb rz10 (by decide) (by decide)) (rb f7 (by decide) (by decide))).mp c11
            refine lv_iconst (v := iI (-1)) hx hb dX9_find_49 (by decide +kernel) ?_
            exact RET (-1) _ _ _ _ _ ⟨rfl, hk1 _ ⟨0 + 1, (u_d_X9_find_1 ⟨f7, ⟨z10, gz10.out, (Or.inl ⟨c11, rfl⟩)⟩⟩)⟩, by omega⟩ hP hS dX9_find_50
          · have c11 : ¬ z10 ≤ z3 := mt (i_le (rb rz10 (by decide) (by decide)) (rb f7 (by decide) (by decide))).mpr c11
            refine lv_iload_n hx hb dX9_find_23 rfl (lv_at hl 0 rfl) ?_
            refine lv_bipush (v := iI 10) hx hb dX9_find_24 (by decide +kernel) ?_
            refine lv_icmp_ge (tgt := 49) hx hb dX9_find_26 (by decide) (fun c12 => False.elim (by have c12 : 10 ≤ z3 := (i_le ⟨by decide, by decide⟩ (rb f7 (by decide) (by decide))).mp c12; omega)) (fun _ => ?_)
            refine lv_aload_n hx hb dX9_find_29 rfl (lv_at hl 1 rfl) ?_
            refine va_get (D := (dC, dI)) (ci := 9) (v := .ref (q (ta + 2))) (C := RX9) (T := TX9) (N := 16) hx hb hts hiX9 hown hK hP ta (wkT hta) rfl 1 (by decide) (hts _ (List.mem_cons_of_mem _ (wk_in_5 _ (List.mem_of_getElem? (i := 57) rfl)))) (fun _ h9 => h9) rfl dX9_find_30 ?_
            refine lv_iload_n hx hb dX9_find_33 rfl (lv_at hl 2 rfl) ?_
            refine k_aald (Wf := WK cB cI cJ cZ cQ q) hx hb hK hP (ta + 2) 4 (wkTq hta) rfl (by omega) (by decide) (b := q (ta + 3 + (x1).toNat)) (by rcases (show x1 = 0 ∨ x1 = 1 ∨ x1 = 2 ∨ x1 = 3 ∨ x1 = 4 by omega) with h | h | h | h | h <;> rw [h] <;> rfl) dX9_find_34 ?_
            refine lv_iload_n hx hb dX9_find_35 rfl (lv_at hl 0 rfl) ?_
            refine x_iald (Wf := WK cB cI cJ cZ cQ q) hx hb hK hP (ta + 3 + (x1).toNat) 1 (wkTn hta (i := x1) (by omega)) rfl (by omega) (by decide) dX9_find_36 (fun z13 hz13 => ?_)
            have rz13 : (-2147483648 : Int) ≤ z13 ∧ z13 ≤ 2147483647 := by rw [hz13]; exact irTn hta (i := x1) (by omega) hI
            have gz13 := Hd.mk hz13
            refine lv_iload_n hx hb dX9_find_37 rfl (lv_at hl 3 rfl) ?_
            refine lv_icmp_ne (tgt := 43) hx hb dX9_find_38 (by decide) (fun c14 => ?_) (fun c14 => ?_)
            · have c14 : ¬ z13 = x2 := mt (i_eq rz13 hx2).mpr c14
              refine lv_iinc (v := iI (z3 + 1)) (lv' := [(3, .int (iI (z3 + 1))), (0, .ref (q ta)), (1, .int (iI x1)), (2, .int (iI x2))]) hx hb dX9_find_43 hl (k := 0) rfl (i_inc (by omega)) (by decide) rfl (fun ls hl => ?_)
              refine lv_goto (tgt := 13) hx hb dX9_find_46 (by decide) ?_
              exact ih6 _ (by omega) (z3 + 1) _ _ _ (by omega) (fun z9 ⟨n1, h9⟩ => hk1 _ ⟨n1 + 1, (u_d_X9_find_1 ⟨f7, ⟨z10, gz10.out, (Or.inr ⟨c11, ⟨z13, gz13.out, (Or.inl ⟨c14, h9⟩)⟩⟩)⟩⟩)⟩) rfl hP hS (lv_sub hl [0, 1, 2, 3] rfl)
            · have c14 : z13 = x2 := (i_eq rz13 hx2).mp c14
              refine lv_iload_n hx hb dX9_find_41 rfl (lv_at hl 0 rfl) ?_
              exact RET z3 _ _ _ _ _ ⟨rfl, hk1 _ ⟨0 + 1, (u_d_X9_find_1 ⟨f7, ⟨z10, gz10.out, (Or.inr ⟨c11, ⟨z13, gz13.out, (Or.inr ⟨c14, rfl⟩)⟩⟩)⟩⟩)⟩, by omega⟩ hP hS dX9_find_42
      exact L13_5 _ 0 _ _ _ (by omega) (fun z9 ⟨n1, h9⟩ => (u_r_X9_find (Or.inr ⟨c1, (Or.inl ⟨c2, ⟨n1, h9⟩⟩)⟩))) rfl hP hS (lv_sub hl [0, 1, 2, 3] rfl)
    · have c2 : ¬ x1 < 5 := mt (i_lt hx1 ⟨by decide, by decide⟩).mpr c2
      refine lv_iconst (v := iI (-1)) hx hb dX9_find_9 (by decide +kernel) ?_
      exact RET (-1) _ _ _ _ _ ⟨rfl, (u_r_X9_find (Or.inr ⟨c1, (Or.inr ⟨c2, rfl⟩)⟩)), by omega⟩ hP hS dX9_find_10
