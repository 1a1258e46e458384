abbrev tr_d_X5_isNameAhead_1 (A1 : St) (z : Int) (u : St) (K1 : Int → Prop) (z6 : Int) : Prop := ((0 ≤ z6 ∧ z6 ≤ 2147483647) ∧ (((26 ≤ z6) ∧ (z = 1 ∧ u = A1)) ∨ ((¬ 26 ≤ z6) ∧ (∃ z15 : Int, z15 = A1 4 (z6).toNat ∧ (((¬ (A1 5 4) = z15) ∧ (K1 (z6 + 1))) ∨ (((A1 5 4) = z15) ∧ (z = 0 ∧ u = A1)))))))
def d_X5_isNameAhead_1 (A1 : St) (z : Int) (u : St) : Nat → Int → Prop
  | 0, _ => False
  | nn9 + 1, z6 => tr_d_X5_isNameAhead_1 A1 z u (fun z6 => d_X5_isNameAhead_1 A1 z u nn9 z6) z6
theorem u_d_X5_isNameAhead_1 {A1 : St} {z : Int} {u : St} {nn9 : Nat} {z6 : Int} (h : tr_d_X5_isNameAhead_1 A1 z u (fun z6 => d_X5_isNameAhead_1 A1 z u nn9 z6) z6) : d_X5_isNameAhead_1 A1 z u (nn9 + 1) z6 := h
abbrev tr_r_X5_isNameAhead (A : St) (z : Int) (u : St) : Prop := (∃ A1 : St, q_X3_look A A1 ∧ ((((A1 5 2) = 1) ∧ (∃ nn9 : Nat, d_X5_isNameAhead_1 A1 z u nn9 0)) ∨ ((¬ (A1 5 2) = 1) ∧ (z = 0 ∧ u = A1))))
def r_X5_isNameAhead (A : St) (z : Int) (u : St) : Prop := tr_r_X5_isNameAhead A z u
theorem u_r_X5_isNameAhead {A : St} {z : Int} {u : St} (h : tr_r_X5_isNameAhead A z u) : r_X5_isNameAhead A z u := h
def q_X5_isNameAhead (A : St) (z : Int) (u : St) : Prop := r_X5_isNameAhead A z u ∧ IK u ∧ fk [] [(5, 1), (5, 2), (5, 3), (5, 4), (5, 5), (5, 6)] A u ∧ (0 ≤ z ∧ z ≤ 1)
def ws_kc_X5_isNameAhead : List Cond := .code yX5_isNameAhead cX5_isNameAhead 2 (some .boolean) :: WY
set_option maxHeartbeats 4000000 in
set_option maxRecDepth 100000 in
theorem kc_X5_isNameAhead (l : Launch) (dC : Nat → ClassId) (dI : Nat → Nat → Nat) (cB cI cJ cZ cQ : ClassId) (aL aS : Nat) (q : Nat → Nat) (A : St) (hI : IK A) : KMi l yX5_isNameAhead ws_kc_X5_isNameAhead ({ frames := 2, cells := 0, slots := 0, locals := 45 } : Room) aL aS (dC, dI) (tyA cB cI cJ cZ cQ) (WK cB cI cJ cZ cQ q) A [.ref (q 3)] (fun z u => r_X5_isNameAhead A z u ∧ IK u ∧ fk [] [(5, 1), (5, 2), (5, 3), (5, 4), (5, 5), (5, 6)] A u ∧ (0 ≤ z ∧ z ≤ 1)) := by
  refine k_metz (cc := cX5_isNameAhead) (maxL := 2) WK_adr (plainFor_of_name (by decide +kernel)) rfl (Nat.le_of_ble_eq_true rfl) (fun z u h => h.2.2.2) (fun p e s m below meth c Q AS ls hx hb hml hown hts hK hDD hA0 hE RET H locs hP hS hl => ?_)
  have hown : s.vm.findClass RX5 = some m.cls := hown
  have hl : lv_has ls 2 [(0, .ref (q 3))] := hl
  have hiX5 : ∀ w ∈ u_ws RX5 TX5 5, w ∈ ws_kc_X5_isNameAhead := fun w h => List.mem_cons_of_mem _ (wy_layX5 w h)
  have hiX3 : ∀ w ∈ u_ws RX3 TX3 7, w ∈ ws_kc_X5_isNameAhead := fun w h => List.mem_cons_of_mem _ (wy_layX3 w h)
  refine lv_aload_n hx hb dX5_isNameAhead_0 rfl (lv_at hl 0 rfl) ?_
  refine va_get (D := (dC, dI)) (ci := 5) (v := .ref (q 5)) (C := RX5) (T := TX5) (N := 5) hx hb hts hiX5 hown hK hP 3 (wkRD) rfl 0 (by decide) (hts _ (List.mem_cons_of_mem _ (wk_in_5 _ (List.mem_of_getElem? (i := 6) rfl)))) (fun _ h9 => h9) rfl dX5_isNameAhead_1 ?_
  refine k_callv (As := []) (rest := []) ⟨hx, hb, hml, hown, hts⟩ hE (kc_X3_look l dC dI cB cI cJ cZ cQ aL aS q _ hI) (cwV 0 hts (goodVk (wk_in_5 _ (List.mem_of_getElem? (i := 22) rfl)) (wk_in_5 _ (List.mem_of_getElem? (i := 23) rfl)) (wk_in_5 _ (List.mem_of_getElem? (i := 24) rfl)) (wk_in_4 _ (List.mem_of_getElem? (i := 10) rfl)) (wk_in_4 _ (List.mem_of_getElem? (i := 2) rfl))) rfl rfl rfl (by decide +kernel) ⟨Nat.le_of_ble_eq_true rfl, Nat.le_of_ble_eq_true rfl⟩) hK hDD hA0 hP hS 5 3 (wkLX) rfl rfl hl.1 (Nat.le_of_ble_eq_true rfl) dX5_isNameAhead_4 (fun A1 H locs hw2 hP hS => ?_)
  have ghw2 : q_X3_look A A1 := hw2
  obtain ⟨_, hI, hf3, hw2⟩ := hw2
  clear hw2
  refine lv_aload_n hx hb dX5_isNameAhead_7 rfl (lv_at hl 0 rfl) ?_
  refine va_get (D := (dC, dI)) (ci := 5) (v := .ref (q 5)) (C := RX5) (T := TX5) (N := 5) hx hb hts hiX5 hown hK hP 3 (wkRD) rfl 0 (by decide) (hts _ (List.mem_cons_of_mem _ (wk_in_5 _ (List.mem_of_getElem? (i := 6) rfl)))) (fun _ h9 => h9) rfl dX5_isNameAhead_8 ?_
  have r4 : (0 : Int) ≤ (A1 5 2) ∧ (A1 5 2) ≤ 4 := irLX_2 hI
  refine va_get (D := (dC, dI)) (ci := 3) (v := .int (iI (A1 5 2))) (C := RX3) (T := TX3) (N := 7) hx hb hts hiX3 hown hK hP 5 (wkLX) rfl 2 (by decide) (hts _ (List.mem_cons_of_mem _ (wk_in_5 _ (List.mem_of_getElem? (i := 9) rfl)))) (fun _ h9 => h9) rfl dX5_isNameAhead_11 ?_
  refine lv_iconst (v := iI 1) hx hb dX5_isNameAhead_14 (by decide +kernel) ?_
  refine lv_icmp_eq (tgt := 20) hx hb dX5_isNameAhead_15 (by decide) (fun c5 => ?_) (fun c5 => ?_)
  · have c5 : (A1 5 2) = 1 := (i_eq (rb r4 (by decide) (by decide)) ⟨by decide, by decide⟩).mp c5
    refine lv_iconst (v := iI 0) hx hb dX5_isNameAhead_20 (by decide +kernel) ?_
    refine lv_istore_n (lv' := [(1, .int (iI 0)), (0, .ref (q 3))]) hx hb dX5_isNameAhead_21 rfl hl (by decide) rfl (fun ls hl => ?_)
    have L22_8 : ∀ (n11 : Nat) (z6 : Int) (H : Heap) (locs : List Loc) (ls : Array Slot), (0 ≤ z6 ∧ z6 ≤ 2147483647) → (∀ (z : Int) (u : St), (∃ mm1 : Nat, (d_X5_isNameAhead_1 A1 z u mm1 z6)) → r_X5_isNameAhead A z u) → ((27 - z6).toNat = n11) → va_P (dC, dI) vwCl (WK cB cI cJ cZ cQ q A1) H → va_S AS s.heap H locs → lv_has ls 2 [(1, .int (iI z6)), (0, .ref (q 3))] → W p l e (headSpec ws_kc_X5_isNameAhead ({ frames := 2, cells := 0, slots := 0, locals := 45 } : Room)).room s m [.ref (q 3)].toArray below meth c H locs 0 0 Q (F0 m 22 ls []) := by
      intro n11
      induction n11 using Nat.strongRecOn with
      | ind n11 ih9 =>
        intro z6 H locs ls f10 hk1 hn11 hP hS hl
        refine lv_iload_n hx hb dX5_isNameAhead_22 rfl (lv_at hl 0 rfl) ?_
        refine lv_bipush (v := iI 26) hx hb dX5_isNameAhead_23 (by decide +kernel) ?_
        refine lv_icmp_ge (tgt := 52) hx hb dX5_isNameAhead_25 (by decide) (fun c12 => ?_) (fun c12 => ?_)
        · have c12 : 26 ≤ z6 := (i_le ⟨by decide, by decide⟩ (rb f10 (by decide) (by decide))).mp c12
          refine lv_iconst (v := iI 1) hx hb dX5_isNameAhead_52 (by decide +kernel) ?_
          exact RET 1 _ _ _ _ _ ⟨hk1 _ _ ⟨0 + 1, (u_d_X5_isNameAhead_1 ⟨f10, (Or.inl ⟨c12, ⟨rfl, rfl⟩⟩)⟩)⟩, hI, fk.trans (fk.rf) hf3 rfl rfl, ⟨by decide, by decide⟩⟩ hP hS dX5_isNameAhead_53
        · have c12 : ¬ 26 ≤ z6 := mt (i_le ⟨by decide, by decide⟩ (rb f10 (by decide) (by decide))).mpr c12
          refine lv_aload_n hx hb dX5_isNameAhead_28 rfl (lv_at hl 1 rfl) ?_
          refine va_get (D := (dC, dI)) (ci := 5) (v := .ref (q 5)) (C := RX5) (T := TX5) (N := 5) hx hb hts hiX5 hown hK hP 3 (wkRD) rfl 0 (by decide) (hts _ (List.mem_cons_of_mem _ (wk_in_5 _ (List.mem_of_getElem? (i := 6) rfl)))) (fun _ h9 => h9) rfl dX5_isNameAhead_29 ?_
          have r13 : (-2147483648 : Int) ≤ (A1 5 4) ∧ (A1 5 4) ≤ 2147483647 := irLX_4 hI
          refine va_get (D := (dC, dI)) (ci := 3) (v := .int (iI (A1 5 4))) (C := RX3) (T := TX3) (N := 7) hx hb hts hiX3 hown hK hP 5 (wkLX) rfl 4 (by decide) (hts _ (List.mem_cons_of_mem _ (wk_in_5 _ (List.mem_of_getElem? (i := 30) rfl)))) (fun _ h9 => h9) rfl dX5_isNameAhead_32 ?_
          refine lv_aload_n hx hb dX5_isNameAhead_35 rfl (lv_at hl 1 rfl) ?_
          refine va_get (D := (dC, dI)) (ci := 5) (v := .ref (q 4)) (C := RX5) (T := TX5) (N := 5) hx hb hts hiX5 hown hK hP 3 (wkRD) rfl 1 (by decide) (hts _ (List.mem_cons_of_mem _ (wk_in_5 _ (List.mem_of_getElem? (i := 31) rfl)))) (fun _ h9 => h9) rfl dX5_isNameAhead_36 ?_
          refine lv_iload_n hx hb dX5_isNameAhead_39 rfl (lv_at hl 0 rfl) ?_
          have a14 : ∀ k, A1 4 k = A 4 k := fun k => hf3 4 k rfl rfl
          refine x_iald (Wf := WK cB cI cJ cZ cQ q) hx hb hK hP 4 1 (wkRDo) rfl (by omega) (by decide) dX5_isNameAhead_40 (fun z15 hz15 => ?_)
          have rz15 : (-2147483648 : Int) ≤ z15 ∧ z15 ≤ 2147483647 := by rw [hz15]; exact irRDo hI
          have gz15 := Hd.mk hz15
          have hz15 : z15 = A 4 (z6).toNat := hz15.trans (a14 _)
          refine lv_icmp_ne (tgt := 46) hx hb dX5_isNameAhead_41 (by decide) (fun c16 => ?_) (fun c16 => ?_)
          · have c16 : ¬ (A1 5 4) = z15 := mt (i_eq r13 rz15).mpr c16
            refine lv_iinc (v := iI (z6 + 1)) (lv' := [(1, .int (iI (z6 + 1))), (0, .ref (q 3))]) hx hb dX5_isNameAhead_46 hl (k := 0) rfl (i_inc (by omega)) (by decide) rfl (fun ls hl => ?_)
            refine lv_goto (tgt := 22) hx hb dX5_isNameAhead_49 (by decide) ?_
            exact ih9 _ (by omega) (z6 + 1) _ _ _ (by omega) (fun zq uq ⟨mm1, hq⟩ => hk1 _ _ ⟨mm1 + 1, (u_d_X5_isNameAhead_1 ⟨f10, (Or.inr ⟨c12, ⟨z15, gz15.out, (Or.inl ⟨c16, hq⟩)⟩⟩)⟩)⟩) rfl hP hS (lv_sub hl [0, 1] rfl)
          · have c16 : (A1 5 4) = z15 := (i_eq r13 rz15).mp c16
            refine lv_iconst (v := iI 0) hx hb dX5_isNameAhead_44 (by decide +kernel) ?_
            exact RET 0 _ _ _ _ _ ⟨hk1 _ _ ⟨0 + 1, (u_d_X5_isNameAhead_1 ⟨f10, (Or.inr ⟨c12, ⟨z15, gz15.out, (Or.inr ⟨c16, ⟨rfl, rfl⟩⟩)⟩⟩)⟩)⟩, hI, fk.trans (fk.rf) hf3 rfl rfl, ⟨by decide, by decide⟩⟩ hP hS dX5_isNameAhead_45
    exact L22_8 _ 0 _ _ _ (by omega) (fun zq uq ⟨mm1, hq⟩ => (u_r_X5_isNameAhead ⟨A1, ghw2, (Or.inl ⟨c5, ⟨mm1, hq⟩⟩)⟩)) rfl hP hS (lv_sub hl [0, 1] rfl)
  · have c5 : ¬ (A1 5 2) = 1 := mt (i_eq (rb r4 (by decide) (by decide)) ⟨by decide, by decide⟩).mpr c5
    refine lv_iconst (v := iI 0) hx hb dX5_isNameAhead_18 (by decide +kernel) ?_
    exact RET 0 _ _ _ _ _ ⟨(u_r_X5_isNameAhead ⟨A1, ghw2, (Or.inr ⟨c5, ⟨rfl, rfl⟩⟩)⟩), hI, fk.trans (fk.rf) hf3 rfl rfl, ⟨by decide, by decide⟩⟩ hP hS dX5_isNameAhead_19

abbrev tr_d_X9_find_1_0_1 (ta : Nat) (x2 : Int) (A : St) (z : Int) (K1 : Int → Prop) (z3 : Int) : Prop := ((0 ≤ z3 ∧ z3 ≤ 2147483647) ∧ (∃ z10 : Int, z10 = A (ta + 1) (0 : Int).toNat ∧ (((z10 ≤ z3) ∧ (z = (-1))) ∨ ((¬ z10 ≤ z3) ∧ (∃ z13 : Int, z13 = A (ta + 3 + (0 : Int).toNat) (z3).toNat ∧ (((¬ z13 = x2) ∧ (K1 (z3 + 1))) ∨ ((z13 = x2) ∧ (z = z3))))))))
def d_X9_find_1_0_1 (ta : Nat) (x2 : Int) (A : St) (z : Int) : Nat → Int → Prop
  | 0, _ => False
  | nn9 + 1, z3 => tr_d_X9_find_1_0_1 ta x2 A z (fun z3 => d_X9_find_1_0_1 ta x2 A z nn9 z3) z3
theorem u_d_X9_find_1_0_1 {ta : Nat} {x2 : Int} {A : St} {z : Int} {nn9 : Nat} {z3 : Int} (h : tr_d_X9_find_1_0_1 ta x2 A z (fun z3 => d_X9_find_1_0_1 ta x2 A z nn9 z3) z3) : d_X9_find_1_0_1 ta x2 A z (nn9 + 1) z3 := h
abbrev tr_r_X9_find_1_0 (ta : Nat) (x2 : Int) (A : St) (z : Int) : Prop := (∃ nn9 : Nat, d_X9_find_1_0_1 ta x2 A z nn9 0)
def r_X9_find_1_0 (ta : Nat) (x2 : Int) (A : St) (z : Int) : Prop := tr_r_X9_find_1_0 ta x2 A z
theorem u_r_X9_find_1_0 {ta : Nat} {x2 : Int} {A : St} {z : Int} (h : tr_r_X9_find_1_0 ta x2 A z) : r_X9_find_1_0 ta x2 A z := h
def q_X9_find_1_0 (ta : Nat) (x2 : Int) (A : St) (z : Int) : Prop := r_X9_find_1_0 ta x2 A z ∧ (-1 ≤ z ∧ z ≤ 7)
def ws_kc_X9_find_1_0 : List Cond := .code yX9_find cX9_find 4 (some .int) :: WY
set_option maxHeartbeats 4000000 in
set_option maxRecDepth 100000 in
theorem kc_X9_find_1_0 (l : Launch) (dC : Nat → ClassId) (dI : Nat → Nat → Nat) (cB cI cJ cZ cQ : ClassId) (aL aS : Nat) (q : Nat → Nat) (A : St) (ta : Nat) (x2 : Int) (hI : IK A) (hta : isT ta) (hx2 : (-2147483648 : Int) ≤ x2 ∧ x2 ≤ 2147483647) : KMi l yX9_find ws_kc_X9_find_1_0 ({ frames := 0, cells := 0, slots := 0, locals := 0 } : Room) aL aS (dC, dI) (tyA cB cI cJ cZ cQ) (WK cB cI cJ cZ cQ q) A [.ref (q ta), .int (iI 0), .int (iI x2)] (fun z u => A = u ∧ r_X9_find_1_0 ta x2 A z ∧ (-1 ≤ z ∧ z ≤ 7)) := by
  refine k_meti (cc := cX9_find) (maxL := 4) WK_adr (plainFor_of_name (by decide +kernel)) rfl (Nat.le_of_ble_eq_true rfl) (fun p e s m below meth c Q AS ls hx hb hml hown hts hK hDD hA0 hE RET H locs hP hS hl => ?_)
  have hown : s.vm.findClass RX9 = some m.cls := hown
  have hl : lv_has ls 4 [(0, .ref (q ta)), (1, .int (iI 0)), (2, .int (iI x2))] := hl
  have hiX9 : ∀ w ∈ u_ws RX9 TX9 16, w ∈ ws_kc_X9_find_1_0 := fun w h => List.mem_cons_of_mem _ (wy_layX9 w h)
  refine lv_iload_n hx hb dX9_find_0 rfl (lv_at hl 1 rfl) ?_
  refine lv_if_lt (tgt := 9) hx hb dX9_find_1 (by decide) (fun c1 => absurd c1 (by decide +kernel)) (fun _ => ?_)
  refine lv_iload_n hx hb dX9_find_4 rfl (lv_at hl 1 rfl) ?_
  refine lv_iconst (v := iI 5) hx hb dX9_find_5 (by decide +kernel) ?_
  refine lv_icmp_lt (tgt := 11) hx hb dX9_find_6 (by decide) (fun _ => ?_) (fun c2 => absurd c2 (by decide +kernel))
  refine lv_iconst (v := iI 0) hx hb dX9_find_11 (by decide +kernel) ?_
  refine lv_istore_n (lv' := [(3, .int (iI 0)), (0, .ref (q ta)), (1, .int (iI 0)), (2, .int (iI x2))]) hx hb dX9_find_12 rfl hl (by decide) rfl (fun ls hl => ?_)
  have L13_5 : ∀ (n9 : Nat) (z3 : Int) (H : Heap) (locs : List Loc) (ls : Array Slot), (0 ≤ z3 ∧ z3 ≤ 2147483647) → (∀ (z : Int), (∃ mm1 : Nat, (d_X9_find_1_0_1 ta x2 A z mm1 z3)) → r_X9_find_1_0 ta x2 A z) → ((9 - z3).toNat = n9) → va_P (dC, dI) vwCl (WK cB cI cJ cZ cQ q A) H → va_S AS s.heap H locs → lv_has ls 4 [(3, .int (iI z3)), (0, .ref (q ta)), (1, .int (iI 0)), (2, .int (iI x2))] → W p l e (headSpec ws_kc_X9_find_1_0 ({ frames := 0, cells := 0, slots := 0, locals := 0 } : Room)).room s m [.ref (q ta), .int (iI 0), .int (iI x2)].toArray below meth c H locs 0 0 Q (F0 m 13 ls []) := by
    intro n9
    induction n9 using Nat.strongRecOn with
    | ind n9 ih6 =>
      intro z3 H locs ls f7 hk1 hn9 hP hS hl
      refine lv_iload_n hx hb dX9_find_13 rfl (lv_at hl 0 rfl) ?_
      refine lv_aload_n hx hb dX9_find_14 rfl (lv_at hl 1 rfl) ?_
      refine va_get (D := (dC, dI)) (ci := 9) (v := .ref (q (ta + 1))) (C := RX9) (T := TX9) (N := 16) hx hb hts hiX9 hown hK hP ta (wkT hta) rfl 0 (by decide) (hts _ (List.mem_cons_of_mem _ (wk_in_0 _ (List.mem_of_getElem? (i := 8) rfl)))) (fun _ h9 => h9) rfl dX9_find_15 ?_
      refine lv_iload_n hx hb dX9_find_18 rfl (lv_at hl 2 rfl) ?_
      refine x_iald (Wf := WK cB cI cJ cZ cQ q) hx hb hK hP (ta + 1) 1 (wkTc hta) rfl (by decide) (by decide) dX9_find_19 (fun z10 hz10 => ?_)
      have rz10 : (0 : Int) ≤ z10 ∧ z10 ≤ 8 := by rw [hz10]; exact irTc0 hta hI
      have gz10 := Hd.mk hz10
      refine lv_icmp_ge (tgt := 49) hx hb dX9_find_20 (by decide) (fun c11 => ?_) (fun c11 => ?_)
      · have c11 : z10 ≤ z3 := (i_le (rb rz10 (by decide) (by decide)) (rb f7 (by decide) (by decide))).mp c11
        refine lv_iconst (v := iI (-1)) hx hb dX9_find_49 (by decide +kernel) ?_
        exact RET (-1) _ _ _ _ _ ⟨rfl, hk1 _ ⟨0 + 1, (u_d_X9_find_1_0_1 ⟨f7, ⟨z10, gz10.out, (Or.inl ⟨c11, rfl⟩)⟩⟩)⟩, by omega⟩ hP hS dX9_find_50
      · have c11 : ¬ z10 ≤ z3 := mt (i_le (rb rz10 (by decide) (by decide)) (rb f7 (by decide) (by decide))).mpr c11
        refine lv_iload_n hx hb dX9_find_23 rfl (lv_at hl 0 rfl) ?_
        refine lv_bipush (v := iI 10) hx hb dX9_find_24 (by decide +kernel) ?_
        refine lv_icmp_ge (tgt := 49) hx hb dX9_find_26 (by decide) (fun c12 => False.elim (by have c12 : 10 ≤ z3 := (i_le ⟨by decide, by decide⟩ (rb f7 (by decide) (by decide))).mp c12; omega)) (fun _ => ?_)
        refine lv_aload_n hx hb dX9_find_29 rfl (lv_at hl 1 rfl) ?_
        refine va_get (D := (dC, dI)) (ci := 9) (v := .ref (q (ta + 2))) (C := RX9) (T := TX9) (N := 16) hx hb hts hiX9 hown hK hP ta (wkT hta) rfl 1 (by decide) (hts _ (List.mem_cons_of_mem _ (wk_in_5 _ (List.mem_of_getElem? (i := 57) rfl)))) (fun _ h9 => h9) rfl dX9_find_30 ?_
        refine lv_iload_n hx hb dX9_find_33 rfl (lv_at hl 2 rfl) ?_
        refine k_aald (Wf := WK cB cI cJ cZ cQ q) hx hb hK hP (ta + 2) 4 (wkTq hta) rfl (by omega) (by decide) (b := q (ta + 3 + (0 : Int).toNat)) rfl dX9_find_34 ?_
        refine lv_iload_n hx hb dX9_find_35 rfl (lv_at hl 0 rfl) ?_
        refine x_iald (Wf := WK cB cI cJ cZ cQ q) hx hb hK hP (ta + 3 + (0 : Int).toNat) 1 (wkTn hta (i := 0) (by decide)) rfl (by omega) (by decide) dX9_find_36 (fun z13 hz13 => ?_)
        have rz13 : (-2147483648 : Int) ≤ z13 ∧ z13 ≤ 2147483647 := by rw [hz13]; exact irTn hta (i := 0) (by decide) hI
        have gz13 := Hd.mk hz13
        refine lv_iload_n hx hb dX9_find_37 rfl (lv_at hl 3 rfl) ?_
        refine lv_icmp_ne (tgt := 43) hx hb dX9_find_38 (by decide) (fun c14 => ?_) (fun c14 => ?_)
        · have c14 : ¬ z13 = x2 := mt (i_eq rz13 hx2).mpr c14
          refine lv_iinc (v := iI (z3 + 1)) (lv' := [(3, .int (iI (z3 + 1))), (0, .ref (q ta)), (1, .int (iI 0)), (2, .int (iI x2))]) hx hb dX9_find_43 hl (k := 0) rfl (i_inc (by omega)) (by decide) rfl (fun ls hl => ?_)
          refine lv_goto (tgt := 13) hx hb dX9_find_46 (by decide) ?_
          exact ih6 _ (by omega) (z3 + 1) _ _ _ (by omega) (fun zq ⟨mm1, hq⟩ => hk1 _ ⟨mm1 + 1, (u_d_X9_find_1_0_1 ⟨f7, ⟨z10, gz10.out, (Or.inr ⟨c11, ⟨z13, gz13.out, (Or.inl ⟨c14, hq⟩)⟩⟩)⟩⟩)⟩) rfl hP hS (lv_sub hl [0, 1, 2, 3] rfl)
        · have c14 : z13 = x2 := (i_eq rz13 hx2).mp c14
          refine lv_iload_n hx hb dX9_find_41 rfl (lv_at hl 0 rfl) ?_
          exact RET z3 _ _ _ _ _ ⟨rfl, hk1 _ ⟨0 + 1, (u_d_X9_find_1_0_1 ⟨f7, ⟨z10, gz10.out, (Or.inr ⟨c11, ⟨z13, gz13.out, (Or.inr ⟨c14, rfl⟩)⟩⟩)⟩⟩)⟩, by omega⟩ hP hS dX9_find_42
  exact L13_5 _ 0 _ _ _ (by omega) (fun zq ⟨mm1, hq⟩ => (u_r_X9_find_1_0 ⟨mm1, hq⟩)) rfl hP hS (lv_sub hl [0, 1, 2, 3] rfl)

abbrev tr_d_X9_find_1_1_1 (ta : Nat) (x2 : Int) (A : St) (z : Int) (K1 : Int → Prop) (z3 : Int) : Prop := ((0 ≤ z3 ∧ z3 ≤ 2147483647) ∧ (∃ z10 : Int, z10 = A (ta + 1) (1 : Int).toNat ∧ (((z10 ≤ z3) ∧ (z = (-1))) ∨ ((¬ z10 ≤ z3) ∧ (∃ z13 : Int, z13 = A (ta + 3 + (1 : Int).toNat) (z3).toNat ∧ (((¬ z13 = x2) ∧ (K1 (z3 + 1))) ∨ ((z13 = x2) ∧ (z = z3))))))))
def d_X9_find_1_1_1 (ta : Nat) (x2 : Int) (A : St) (z : Int) : Nat → Int → Prop
  | 0, _ => False
  | nn9 + 1, z3 => tr_d_X9_find_1_1_1 ta x2 A z (fun z3 => d_X9_find_1_1_1 ta x2 A z nn9 z3) z3
theorem u_d_X9_find_1_1_1 {ta : Nat} {x2 : Int} {A : St} {z : Int} {nn9 : Nat} {z3 : Int} (h : tr_d_X9_find_1_1_1 ta x2 A z (fun z3 => d_X9_find_1_1_1 ta x2 A z nn9 z3) z3) : d_X9_find_1_1_1 ta x2 A z (nn9 + 1) z3 := h
abbrev tr_r_X9_find_1_1 (ta : Nat) (x2 : Int) (A : St) (z : Int) : Prop := (∃ nn9 : Nat, d_X9_find_1_1_1 ta x2 A z nn9 0)
def r_X9_find_1_1 (ta : Nat) (x2 : Int) (A : St) (z : Int) : Prop := tr_r_X9_find_1_1 ta x2 A z
theorem u_r_X9_find_1_1 {ta : Nat} {x2 : Int} {A : St} {z : Int} (h : tr_r_X9_find_1_1 ta x2 A z) : r_X9_find_1_1 ta x2 A z := h
def q_X9_find_1_1 (ta : Nat) (x2 : Int) (A : St) (z : Int) : Prop := r_X9_find_1_1 ta x2 A z ∧ (-1 ≤ z ∧ z ≤ 9)
def ws_kc_X9_find_1_1 : List Cond := .code yX9_find cX9_find 4 (some .int) :: WY
set_option maxHeartbeats 4000000 in
set_option maxRecDepth 100000 in
theorem kc_X9_find_1_1 (l : Launch) (dC : Nat → ClassId) (dI : Nat → Nat → Nat) (cB cI cJ cZ cQ : ClassId) (aL aS : Nat) (q : Nat → Nat) (A : St) (ta : Nat) (x2 : Int) (hI : IK A) (hta : isT ta) (hx2 : (-2147483648 : Int) ≤ x2 ∧ x2 ≤ 2147483647) : KMi l yX9_find ws_kc_X9_find_1_1 ({ frames := 0, cells := 0, slots := 0, locals := 0 } : Room) aL aS (dC, dI) (tyA cB cI cJ cZ cQ) (WK cB cI cJ cZ cQ q) A [.ref (q ta), .int (iI 1), .int (iI x2)] (fun z u => A = u ∧ r_X9_find_1_1 ta x2 A z ∧ (-1 ≤ z ∧ z ≤ 9)) := by
  refine k_meti (cc := cX9_find) (maxL := 4) WK_adr (plainFor_of_name (by decide +kernel)) rfl (Nat.le_of_ble_eq_true rfl) (fun p e s m below meth c Q AS ls hx hb hml hown hts hK hDD hA0 hE RET H locs hP hS hl => ?_)
  have hown : s.vm.findClass RX9 = some m.cls := hown
  have hl : lv_has ls 4 [(0, .ref (q ta)), (1, .int (iI 1)), (2, .int (iI x2))] := hl
  have hiX9 : ∀ w ∈ u_ws RX9 TX9 16, w ∈ ws_kc_X9_find_1_1 := fun w h => List.mem_cons_of_mem _ (wy_layX9 w h)
  refine lv_iload_n hx hb dX9_find_0 rfl (lv_at hl 1 rfl) ?_
  refine lv_if_lt (tgt := 9) hx hb dX9_find_1 (by decide) (fun c1 => absurd c1 (by decide +kernel)) (fun _ => ?_)
  refine lv_iload_n hx hb dX9_find_4 rfl (lv_at hl 1 rfl) ?_
  refine lv_iconst (v := iI 5) hx hb dX9_find_5 (by decide +kernel) ?_
  refine lv_icmp_lt (tgt := 11) hx hb dX9_find_6 (by decide) (fun _ => ?_) (fun c2 => absurd c2 (by decide +kernel))
  refine lv_iconst (v := iI 0) hx hb dX9_find_11 (by decide +kernel) ?_
  refine lv_istore_n (lv' := [(3, .int (iI 0)), (0, .ref (q ta)), (1, .int (iI 1)), (2, .int (iI x2))]) hx hb dX9_find_12 rfl hl (by decide) rfl (fun ls hl => ?_)
  have L13_5 : ∀ (n9 : Nat) (z3 : Int) (H : Heap) (locs : List Loc) (ls : Array Slot), (0 ≤ z3 ∧ z3 ≤ 2147483647) → (∀ (z : Int), (∃ mm1 : Nat, (d_X9_find_1_1_1 ta x2 A z mm1 z3)) → r_X9_find_1_1 ta x2 A z) → ((11 - z3).toNat = n9) → va_P (dC, dI) vwCl (WK cB cI cJ cZ cQ q A) H → va_S AS s.heap H locs → lv_has ls 4 [(3, .int (iI z3)), (0, .ref (q ta)), (1, .int (iI 1)), (2, .int (iI x2))] → W p l e (headSpec ws_kc_X9_find_1_1 ({ frames := 0, cells := 0, slots := 0, locals := 0 } : Room)).room s m [.ref (q ta), .int (iI 1), .int (iI x2)].toArray below meth c H locs 0 0 Q (F0 m 13 ls []) := by
    intro n9
    induction n9 using Nat.strongRecOn with
    | ind n9 ih6 =>
      intro z3 H locs ls f7 hk1 hn9 hP hS hl
      refine lv_iload_n hx hb dX9_find_13 rfl (lv_at hl 0 rfl) ?_
      refine lv_aload_n hx hb dX9_find_14 rfl (lv_at hl 1 rfl) ?_
      refine va_get (D := (dC, dI)) (ci := 9) (v := .ref (q (ta + 1))) (C := RX9) (T := TX9) (N := 16) hx hb hts hiX9 hown hK hP ta (wkT hta) rfl 0 (by decide) (hts _ (List.mem_cons_of_mem _ (wk_in_0 _ (List.mem_of_getElem? (i := 8) rfl)))) (fun _ h9 => h9) rfl dX9_find_15 ?_
      refine lv_iload_n hx hb dX9_find_18 rfl (lv_at hl 2 rfl) ?_
      refine x_iald (Wf := WK cB cI cJ cZ cQ q) hx hb hK hP (ta + 1) 1 (wkTc hta) rfl (by decide) (by decide) dX9_find_19 (fun z10 hz10 => ?_)
      have rz10 : (0 : Int) ≤ z10 ∧ z10 ≤ 10 := by rw [hz10]; exact irTc1 hta hI
      have gz10 := Hd.mk hz10
      refine lv_icmp_ge (tgt := 49) hx hb dX9_find_20 (by decide) (fun c11 => ?_) (fun c11 => ?_)
      · have c11 : z10 ≤ z3 := (i_le (rb rz10 (by decide) (by decide)) (rb f7 (by decide) (by decide))).mp c11
        refine lv_iconst (v := iI (-1)) hx hb dX9_find_49 (by decide +kernel) ?_
        exact RET (-1) _ _ _ _ _ ⟨rfl, hk1 _ ⟨0 + 1, (u_d_X9_find_1_1_1 ⟨f7, ⟨z10, gz10.out, (Or.inl ⟨c11, rfl⟩)⟩⟩)⟩, by omega⟩ hP hS dX9_find_50
      · have c11 : ¬ z10 ≤ z3 := mt (i_le (rb rz10 (by decide) (by decide)) (rb f7 (by decide) (by decide))).mpr c11
        refine lv_iload_n hx hb dX9_find_23 rfl (lv_at hl 0 rfl) ?_
        refine lv_bipush (v := iI 10) hx hb dX9_find_24 (by decide +kernel) ?_
        refine lv_icmp_ge (tgt := 49) hx hb dX9_find_26 (by decide) (fun c12 => False.elim (by have c12 : 10 ≤ z3 := (i_le ⟨by decide, by decide⟩ (rb f7 (by decide) (by decide))).mp c12; omega)) (fun _ => ?_)
        refine lv_aload_n hx hb dX9_find_29 rfl (lv_at hl 1 rfl) ?_
        refine va_get (D := (dC, dI)) (ci := 9) (v := .ref (q (ta + 2))) (C := RX9) (T := TX9) (N := 16) hx hb hts hiX9 hown hK hP ta (wkT hta) rfl 1 (by decide) (hts _ (List.mem_cons_of_mem _ (wk_in_5 _ (List.mem_of_getElem? (i := 57) rfl)))) (fun _ h9 => h9) rfl dX9_find_30 ?_
        refine lv_iload_n hx hb dX9_find_33 rfl (lv_at hl 2 rfl) ?_
        refine k_aald (Wf := WK cB cI cJ cZ cQ q) hx hb hK hP (ta + 2) 4 (wkTq hta) rfl (by omega) (by decide) (b := q (ta + 3 + (1 : Int).toNat)) rfl dX9_find_34 ?_
        refine lv_iload_n hx hb dX9_find_35 rfl (lv_at hl 0 rfl) ?_
        refine x_iald (Wf := WK cB cI cJ cZ cQ q) hx hb hK hP (ta + 3 + (1 : Int).toNat) 1 (wkTn hta (i := 1) (by decide)) rfl (by omega) (by decide) dX9_find_36 (fun z13 hz13 => ?_)
        have rz13 : (-2147483648 : Int) ≤ z13 ∧ z13 ≤ 2147483647 := by rw [hz13]; exact irTn hta (i := 1) (by decide) hI
        have gz13 := Hd.mk hz13
        refine lv_iload_n hx hb dX9_find_37 rfl (lv_at hl 3 rfl) ?_
        refine lv_icmp_ne (tgt := 43) hx hb dX9_find_38 (by decide) (fun c14 => ?_) (fun c14 => ?_)
        · have c14 : ¬ z13 = x2 := mt (i_eq rz13 hx2).mpr c14
          refine lv_iinc (v := iI (z3 + 1)) (lv' := [(3, .int (iI (z3 + 1))), (0, .ref (q ta)), (1, .int (iI 1)), (2, .int (iI x2))]) hx hb dX9_find_43 hl (k := 0) rfl (i_inc (by omega)) (by decide) rfl (fun ls hl => ?_)
          refine lv_goto (tgt := 13) hx hb dX9_find_46 (by decide) ?_
          exact ih6 _ (by omega) (z3 + 1) _ _ _ (by omega) (fun zq ⟨mm1, hq⟩ => hk1 _ ⟨mm1 + 1, (u_d_X9_find_1_1_1 ⟨f7, ⟨z10, gz10.out, (Or.inr ⟨c11, ⟨z13, gz13.out, (Or.inl ⟨c14, hq⟩)⟩⟩)⟩⟩)⟩) rfl hP hS (lv_sub hl [0, 1, 2, 3] rfl)
        · have c14 : z13 = x2 := (i_eq rz13 hx2).mp c14
          refine lv_iload_n hx hb dX9_find_41 rfl (lv_at hl 0 rfl) ?_
          exact RET z3 _ _ _ _ _ ⟨rfl, hk1 _ ⟨0 + 1, (u_d_X9_find_1_1_1 ⟨f7, ⟨z10, gz10.out, (Or.inr ⟨c11, ⟨z13, gz13.out, (Or.inr ⟨c14, rfl⟩)⟩⟩)⟩⟩)⟩, by omega⟩ hP hS dX9_find_42
  exact L13_5 _ 0 _ _ _ (by omega) (fun zq ⟨mm1, hq⟩ => (u_r_X9_find_1_1 ⟨mm1, hq⟩)) rfl hP hS (lv_sub hl [0, 1, 2, 3] rfl)

abbrev tr_d_X9_find_1_2_1 (ta : Nat) (x2 : Int) (A : St) (z : Int) (K1 : Int → Prop) (z3 : Int) : Prop := ((0 ≤ z3 ∧ z3 ≤ 2147483647) ∧ (∃ z10 : Int, z10 = A (ta + 1) (2 : Int).toNat ∧ (((z10 ≤ z3) ∧ (z = (-1))) ∨ ((¬ z10 ≤ z3) ∧ (∃ z13 : Int, z13 = A (ta + 3 + (2 : Int).toNat) (z3).toNat ∧ (((¬ z13 = x2) ∧ (K1 (z3 + 1))) ∨ ((z13 = x2) ∧ (z = z3))))))))
def d_X9_find_1_2_1 (ta : Nat) (x2 : Int) (A : St) (z : Int) : Nat → Int → Prop
  | 0, _ => False
  | nn9 + 1, z3 => tr_d_X9_find_1_2_1 ta x2 A z (fun z3 => d_X9_find_1_2_1 ta x2 A z nn9 z3) z3
theorem u_d_X9_find_1_2_1 {ta : Nat} {x2 : Int} {A : St} {z : Int} {nn9 : Nat} {z3 : Int} (h : tr_d_X9_find_1_2_1 ta x2 A z (fun z3 => d_X9_find_1_2_1 ta x2 A z nn9 z3) z3) : d_X9_find_1_2_1 ta x2 A z (nn9 + 1) z3 := h
abbrev tr_r_X9_find_1_2 (ta : Nat) (x2 : Int) (A : St) (z : Int) : Prop := (∃ nn9 : Nat, d_X9_find_1_2_1 ta x2 A z nn9 0)
def r_X9_find_1_2 (ta : Nat) (x2 : Int) (A : St) (z : Int) : Prop := tr_r_X9_find_1_2 ta x2 A z
theorem u_r_X9_find_1_2 {ta : Nat} {x2 : Int} {A : St} {z : Int} (h : tr_r_X9_find_1_2 ta x2 A z) : r_X9_find_1_2 ta x2 A z := h
def q_X9_find_1_2 (ta : Nat) (x2 : Int) (A : St) (z : Int) : Prop := r_X9_find_1_2 ta x2 A z ∧ (-1 ≤ z ∧ z ≤ 3)
def ws_kc_X9_find_1_2 : List Cond := .code yX9_find cX9_find 4 (some .int) :: WY
set_option maxHeartbeats 4000000 in
set_option maxRecDepth 100000 in
theorem kc_X9_find_1_2 (l : Launch) (dC : Nat → ClassId) (dI : Nat → Nat → Nat) (cB cI cJ cZ cQ : ClassId) (aL aS : Nat) (q : Nat → Nat) (A : St) (ta : Nat) (x2 : Int) (hI : IK A) (hta : isT ta) (hx2 : (-2147483648 : Int) ≤ x2 ∧ x2 ≤ 2147483647) : KMi l yX9_find ws_kc_X9_find_1_2 ({ frames := 0, cells := 0, slots := 0, locals := 0 } : Room) aL aS (dC, dI) (tyA cB cI cJ cZ cQ) (WK cB cI cJ cZ cQ q) A [.ref (q ta), .int (iI 2), .int (iI x2)] (fun z u => A = u ∧ r_X9_find_1_2 ta x2 A z ∧ (-1 ≤ z ∧ z ≤ 3)) := by
  refine k_meti (cc := cX9_find) (maxL := 4) WK_adr (plainFor_of_name (by decide +kernel)) rfl (Nat.le_of_ble_eq_true rfl) (fun p e s m below meth c Q AS ls hx hb hml hown hts hK hDD hA0 hE RET H locs hP hS hl => ?_)
  have hown : s.vm.findClass RX9 = some m.cls := hown
  have hl : lv_has ls 4 [(0, .ref (q ta)), (1, .int (iI 2)), (2, .int (iI x2))] := hl
  have hiX9 : ∀ w ∈ u_ws RX9 TX9 16, w ∈ ws_kc_X9_find_1_2 := fun w h => List.mem_cons_of_mem _ (wy_layX9 w h)
  refine lv_iload_n hx hb dX9_find_0 rfl (lv_at hl 1 rfl) ?_
  refine lv_if_lt (tgt := 9) hx hb dX9_find_1 (by decide) (fun c1 => absurd c1 (by decide +kernel)) (fun _ => ?_)
  refine lv_iload_n hx hb dX9_find_4 rfl (lv_at hl 1 rfl) ?_
  refine lv_iconst (v := iI 5) hx hb dX9_find_5 (by decide +kernel) ?_
  refine lv_icmp_lt (tgt := 11) hx hb dX9_find_6 (by decide) (fun _ => ?_) (fun c2 => absurd c2 (by decide +kernel))
  refine lv_iconst (v := iI 0) hx hb dX9_find_11 (by decide +kernel) ?_
  refine lv_istore_n (lv' := [(3, .int (iI 0)), (0, .ref (q ta)), (1, .int (iI 2)), (2, .int (iI x2))]) hx hb dX9_find_12 rfl hl (by decide) rfl (fun ls hl => ?_)
  have L13_5 : ∀ (n9 : Nat) (z3 : Int) (H : Heap) (locs : List Loc) (ls : Array Slot), (0 ≤ z3 ∧ z3 ≤ 2147483647) → (∀ (z : Int), (∃ mm1 : Nat, (d_X9_find_1_2_1 ta x2 A z mm1 z3)) → r_X9_find_1_2 ta x2 A z) → ((5 - z3).toNat = n9) → va_P (dC, dI) vwCl (WK cB cI cJ cZ cQ q A) H → va_S AS s.heap H locs → lv_has ls 4 [(3, .int (iI z3)), (0, .ref (q ta)), (1, .int (iI 2)), (2, .int (iI x2))] → W p l e (headSpec ws_kc_X9_find_1_2 ({ frames := 0, cells := 0, slots := 0, locals := 0 } : Room)).room s m [.ref (q ta), .int (iI 2), .int (iI x2)].toArray below meth c H locs 0 0 Q (F0 m 13 ls []) := by
    intro n9
    induction n9 using Nat.strongRecOn with
    | ind n9 ih6 =>
      intro z3 H locs ls f7 hk1 hn9 hP hS hl
      refine lv_iload_n hx hb dX9_find_13 rfl (lv_at hl 0 rfl) ?_
      refine lv_aload_n hx hb dX9_find_14 rfl (lv_at hl 1 rfl) ?_
      refine va_get (D := (dC, dI)) (ci := 9) (v := .ref (q (ta + 1))) (C := RX9) (T := TX9) (N := 16) hx hb hts hiX9 hown hK hP ta (wkT hta) rfl 0 (by decide) (hts _ (List.mem_cons_of_mem _ (wk_in_0 _ (List.mem_of_getElem? (i := 8) rfl)))) (fun _ h9 => h9) rfl dX9_find_15 ?_
      refine lv_iload_n hx hb dX9_find_18 rfl (lv_at hl 2 rfl) ?_
      refine x_iald (Wf := WK cB cI cJ cZ cQ q) hx hb hK hP (ta + 1) 1 (wkTc hta) rfl (by decide) (by decide) dX9_find_19 (fun z10 hz10 => ?_)
      have rz10 : (0 : Int) ≤ z10 ∧ z10 ≤ 4 := by rw [hz10]; exact irTc2 hta hI
      have gz10 := Hd.mk hz10
      refine lv_icmp_ge (tgt := 49) hx hb dX9_find_20 (by decide) (fun c11 => ?_) (fun c11 => ?_)
      · have c11 : z10 ≤ z3 := (i_le (rb rz10 (by decide) (by decide)) (rb f7 (by decide) (by decide))).mp c11
        refine lv_iconst (v := iI (-1)) hx hb dX9_find_49 (by decide +kernel) ?_
        exact RET (-1) _ _ _ _ _ ⟨rfl, hk1 _ ⟨0 + 1, (u_d_X9_find_1_2_1 ⟨f7, ⟨z10, gz10.out, (Or.inl ⟨c11, rfl⟩)⟩⟩)⟩, by omega⟩ hP hS dX9_find_50
      · have c11 : ¬ z10 ≤ z3 := mt (i_le (rb rz10 (by decide) (by decide)) (rb f7 (by decide) (by decide))).mpr c11
        refine lv_iload_n hx hb dX9_find_23 rfl (lv_at hl 0 rfl) ?_
        refine lv_bipush (v := iI 10) hx hb dX9_find_24 (by decide +kernel) ?_
        refine lv_icmp_ge (tgt := 49) hx hb dX9_find_26 (by decide) (fun c12 => False.elim (by have c12 : 10 ≤ z3 := (i_le ⟨by decide, by decide⟩ (rb f7 (by decide) (by decide))).mp c12; omega)) (fun _ => ?_)
        refine lv_aload_n hx hb dX9_find_29 rfl (lv_at hl 1 rfl) ?_
        refine va_get (D := (dC, dI)) (ci := 9) (v := .ref (q (ta + 2))) (C := RX9) (T := TX9) (N := 16) hx hb hts hiX9 hown hK hP ta (wkT hta) rfl 1 (by decide) (hts _ (List.mem_cons_of_mem _ (wk_in_5 _ (List.mem_of_getElem? (i := 57) rfl)))) (fun _ h9 => h9) rfl dX9_find_30 ?_
        refine lv_iload_n hx hb dX9_find_33 rfl (lv_at hl 2 rfl) ?_
        refine k_aald (Wf := WK cB cI cJ cZ cQ q) hx hb hK hP (ta + 2) 4 (wkTq hta) rfl (by omega) (by decide) (b := q (ta + 3 + (2 : Int).toNat)) rfl dX9_find_34 ?_
        refine lv_iload_n hx hb dX9_find_35 rfl (lv_at hl 0 rfl) ?_
        refine x_iald (Wf := WK cB cI cJ cZ cQ q) hx hb hK hP (ta + 3 + (2 : Int).toNat) 1 (wkTn hta (i := 2) (by decide)) rfl (by omega) (by decide) dX9_find_36 (fun z13 hz13 => ?_)
        have rz13 : (-2147483648 : Int) ≤ z13 ∧ z13 ≤ 2147483647 := by rw [hz13]; exact irTn hta (i := 2) (by decide) hI
        have gz13 := Hd.mk hz13
        refine lv_iload_n hx hb dX9_find_37 rfl (lv_at hl 3 rfl) ?_
        refine lv_icmp_ne (tgt := 43) hx hb dX9_find_38 (by decide) (fun c14 => ?_) (fun c14 => ?_)
        · have c14 : ¬ z13 = x2 := mt (i_eq rz13 hx2).mpr c14
          refine lv_iinc (v := iI (z3 + 1)) (lv' := [(3, .int (iI (z3 + 1))), (0, .ref (q ta)), (1, .int (iI 2)), (2, .int (iI x2))]) hx hb dX9_find_43 hl (k := 0) rfl (i_inc (by omega)) (by decide) rfl (fun ls hl => ?_)
          refine lv_goto (tgt := 13) hx hb dX9_find_46 (by decide) ?_
          exact ih6 _ (by omega) (z3 + 1) _ _ _ (by omega) (fun zq ⟨mm1, hq⟩ => hk1 _ ⟨mm1 + 1, (u_d_X9_find_1_2_1 ⟨f7, ⟨z10, gz10.out, (Or.inr ⟨c11, ⟨z13, gz13.out, (Or.inl ⟨c14, hq⟩)⟩⟩)⟩⟩)⟩) rfl hP hS (lv_sub hl [0, 1, 2, 3] rfl)
        · have c14 : z13 = x2 := (i_eq rz13 hx2).mp c14
          refine lv_iload_n hx hb dX9_find_41 rfl (lv_at hl 0 rfl) ?_
          exact RET z3 _ _ _ _ _ ⟨rfl, hk1 _ ⟨0 + 1, (u_d_X9_find_1_2_1 ⟨f7, ⟨z10, gz10.out, (Or.inr ⟨c11, ⟨z13, gz13.out, (Or.inr ⟨c14, rfl⟩)⟩⟩)⟩⟩)⟩, by omega⟩ hP hS dX9_find_42
  exact L13_5 _ 0 _ _ _ (by omega) (fun zq ⟨mm1, hq⟩ => (u_r_X9_find_1_2 ⟨mm1, hq⟩)) rfl hP hS (lv_sub hl [0, 1, 2, 3] rfl)

abbrev tr_d_X9_find_1_3_1 (ta : Nat) (x2 : Int) (A : St) (z : Int) (K1 : Int → Prop) (z3 : Int) : Prop := ((0 ≤ z3 ∧ z3 ≤ 2147483647) ∧ (∃ z10 : Int, z10 = A (ta + 1) (3 : Int).toNat ∧ (((z10 ≤ z3) ∧ (z = (-1))) ∨ ((¬ z10 ≤ z3) ∧ (∃ z13 : Int, z13 = A (ta + 3 + (3 : Int).toNat) (z3).toNat ∧ (((¬ z13 = x2) ∧ (K1 (z3 + 1))) ∨ ((z13 = x2) ∧ (z = z3))))))))
def d_X9_find_1_3_1 (ta : Nat) (x2 : Int) (A : St) (z : Int) : Nat → Int → Prop
  | 0, _ => False
  | nn9 + 1, z3 => tr_d_X9_find_1_3_1 ta x2 A z (fun z3 => d_X9_find_1_3_1 ta x2 A z nn9 z3) z3
theorem u_d_X9_find_1_3_1 {ta : Nat} {x2 : Int} {A : St} {z : Int} {nn9 : Nat} {z3 : Int} (h : tr_d_X9_find_1_3_1 ta x2 A z (fun z3 => d_X9_find_1_3_1 ta x2 A z nn9 z3) z3) : d_X9_find_1_3_1 ta x2 A z (nn9 + 1) z3 := h
abbrev tr_r_X9_find_1_3 (ta : Nat) (x2 : Int) (A : St) (z : Int) : Prop := (∃ nn9 : Nat, d_X9_find_1_3_1 ta x2 A z nn9 0)
def r_X9_find_1_3 (ta : Nat) (x2 : Int) (A : St) (z : Int) : Prop := tr_r_X9_find_1_3 ta x2 A z
theorem u_r_X9_find_1_3 {ta : Nat} {x2 : Int} {A : St} {z : Int} (h : tr_r_X9_find_1_3 ta x2 A z) : r_X9_find_1_3 ta x2 A z := h
def q_X9_find_1_3 (ta : Nat) (x2 : Int) (A : St) (z : Int) : Prop := r_X9_find_1_3 ta x2 A z ∧ (-1 ≤ z ∧ z ≤ 2)
def ws_kc_X9_find_1_3 : List Cond := .code yX9_find cX9_find 4 (some .int) :: WY
set_option maxHeartbeats 4000000 in
set_option maxRecDepth 100000 in
theorem kc_X9_find_1_3 (l : Launch) (dC : Nat → ClassId) (dI : Nat → Nat → Nat) (cB cI cJ cZ cQ : ClassId) (aL aS : Nat) (q : Nat → Nat) (A : St) (ta : Nat) (x2 : Int) (hI : IK A) (hta : isT ta) (hx2 : (-2147483648 : Int) ≤ x2 ∧ x2 ≤ 2147483647) : KMi l yX9_find ws_kc_X9_find_1_3 ({ frames := 0, cells := 0, slots := 0, locals := 0 } : Room) aL aS (dC, dI) (tyA cB cI cJ cZ cQ) (WK cB cI cJ cZ cQ q) A [.ref (q ta), .int (iI 3), .int (iI x2)] (fun z u => A = u ∧ r_X9_find_1_3 ta x2 A z ∧ (-1 ≤ z ∧ z ≤ 2)) := by
  refine k_meti (cc := cX9_find) (maxL := 4) WK_adr (plainFor_of_name (by decide +kernel)) rfl (Nat.le_of_ble_eq_true rfl) (fun p e s m below meth c Q AS ls hx hb hml hown hts hK hDD hA0 hE RET H locs hP hS hl => ?_)
  have hown : s.vm.findClass RX9 = some m.cls := hown
  have hl : lv_has ls 4 [(0, .ref (q ta)), (1, .int (iI 3)), (2, .int (iI x2))] := hl
  have hiX9 : ∀ w ∈ u_ws RX9 TX9 16, w ∈ ws_kc_X9_find_1_3 := fun w h => List.mem_cons_of_mem _ (wy_layX9 w h)
  refine lv_iload_n hx hb dX9_find_0 rfl (lv_at hl 1 rfl) ?_
  refine lv_if_lt (tgt := 9) hx hb dX9_find_1 (by decide) (fun c1 => absurd c1 (by decide +kernel)) (fun _ => ?_)
  refine lv_iload_n hx hb dX9_find_4 rfl (lv_at hl 1 rfl) ?_
  refine lv_iconst (v := iI 5) hx hb dX9_find_5 (by decide +kernel) ?_
  refine lv_icmp_lt (tgt := 11) hx hb dX9_find_6 (by decide) (fun _ => ?_) (fun c2 => absurd c2 (by decide +kernel))
  refine lv_iconst (v := iI 0) hx hb dX9_find_11 (by decide +kernel) ?_
  refine lv_istore_n (lv' := [(3, .int (iI 0)), (0, .ref (q ta)), (1, .int (iI 3)), (2, .int (iI x2))]) hx hb dX9_find_12 rfl hl (by decide) rfl (fun ls hl => ?_)
  have L13_5 : ∀ (n9 : Nat) (z3 : Int) (H : Heap) (locs : List Loc) (ls : Array Slot), (0 ≤ z3 ∧ z3 ≤ 2147483647) → (∀ (z : Int), (∃ mm1 : Nat, (d_X9_find_1_3_1 ta x2 A z mm1 z3)) → r_X9_find_1_3 ta x2 A z) → ((4 - z3).toNat = n9) → va_P (dC, dI) vwCl (WK cB cI cJ cZ cQ q A) H → va_S AS s.heap H locs → lv_has ls 4 [(3, .int (iI z3)), (0, .ref (q ta)), (1, .int (iI 3)), (2, .int (iI x2))] → W p l e (headSpec ws_kc_X9_find_1_3 ({ frames := 0, cells := 0, slots := 0, locals := 0 } : Room)).room s m [.ref (q ta), .int (iI 3), .int (iI x2)].toArray below meth c H locs 0 0 Q (F0 m 13 ls []) := by
    intro n9
    induction n9 using Nat.strongRecOn with
    | ind n9 ih6 =>
      intro z3 H locs ls f7 hk1 hn9 hP hS hl
      refine lv_iload_n hx hb dX9_find_13 rfl (lv_at hl 0 rfl) ?_
      refine lv_aload_n hx hb dX9_find_14 rfl (lv_at hl 1 rfl) ?_
      refine va_get (D := (dC, dI)) (ci := 9) (v := .ref (q (ta + 1))) (C := RX9) (T := TX9) (N := 16) hx hb hts hiX9 hown hK hP ta (wkT hta) rfl 0 (by decide) (hts _ (List.mem_cons_of_mem _ (wk_in_0 _ (List.mem_of_getElem? (i := 8) rfl)))) (fun _ h9 => h9) rfl dX9_find_15 ?_
      refine lv_iload_n hx hb dX9_find_18 rfl (lv_at hl 2 rfl) ?_
      refine x_iald (Wf := WK cB cI cJ cZ cQ q) hx hb hK hP (ta + 1) 1 (wkTc hta) rfl (by decide) (by decide) dX9_find_19 (fun z10 hz10 => ?_)
      have rz10 : (0 : Int) ≤ z10 ∧ z10 ≤ 3 := by rw [hz10]; exact irTc3 hta hI
      have gz10 := Hd.mk hz10
      refine lv_icmp_ge (tgt := 49) hx hb dX9_find_20 (by decide) (fun c11 => ?_) (fun c11 => ?_)
      · have c11 : z10 ≤ z3 := (i_le (rb rz10 (by decide) (by decide)) (rb f7 (by decide) (by decide))).mp c11
        refine lv_iconst (v := iI (-1)) hx hb dX9_find_49 (by decide +kernel) ?_
        exact RET (-1) _ _ _ _ _ ⟨rfl, hk1 _ ⟨0 + 1, (u_d_X9_find_1_3_1 ⟨f7, ⟨z10, gz10.out, (Or.inl ⟨c11, rfl⟩)⟩⟩)⟩, by omega⟩ hP hS dX9_find_50
      · have c11 : ¬ z10 ≤ z3 := mt (i_le (rb rz10 (by decide) (by decide)) (rb f7 (by decide) (by decide))).mpr c11
        refine lv_iload_n hx hb dX9_find_23 rfl (lv_at hl 0 rfl) ?_
        refine lv_bipush (v := iI 10) hx hb dX9_find_24 (by decide +kernel) ?_
        refine lv_icmp_ge (tgt := 49) hx hb dX9_find_26 (by decide) (fun c12 => False.elim (by have c12 : 10 ≤ z3 := (i_le ⟨by decide, by decide⟩ (rb f7 (by decide) (by decide))).mp c12; omega)) (fun _ => ?_)
        refine lv_aload_n hx hb dX9_find_29 rfl (lv_at hl 1 rfl) ?_
        refine va_get (D := (dC, dI)) (ci := 9) (v := .ref (q (ta + 2))) (C := RX9) (T := TX9) (N := 16) hx hb hts hiX9 hown hK hP ta (wkT hta) rfl 1 (by decide) (hts _ (List.mem_cons_of_mem _ (wk_in_5 _ (List.mem_of_getElem? (i := 57) rfl)))) (fun _ h9 => h9) rfl dX9_find_30 ?_
        refine lv_iload_n hx hb dX9_find_33 rfl (lv_at hl 2 rfl) ?_
        refine k_aald (Wf := WK cB cI cJ cZ cQ q) hx hb hK hP (ta + 2) 4 (wkTq hta) rfl (by omega) (by decide) (b := q (ta + 3 + (3 : Int).toNat)) rfl dX9_find_34 ?_
        refine lv_iload_n hx hb dX9_find_35 rfl (lv_at hl 0 rfl) ?_
        refine x_iald (Wf := WK cB cI cJ cZ cQ q) hx hb hK hP (ta + 3 + (3 : Int).toNat) 1 (wkTn hta (i := 3) (by decide)) rfl (by omega) (by decide) dX9_find_36 (fun z13 hz13 => ?_)
        have rz13 : (-2147483648 : Int) ≤ z13 ∧ z13 ≤ 2147483647 := by rw [hz13]; exact irTn hta (i := 3) (by decide) hI
        have gz13 := Hd.mk hz13
        refine lv_iload_n hx hb dX9_find_37 rfl (lv_at hl 3 rfl) ?_
        refine lv_icmp_ne (tgt := 43) hx hb dX9_find_38 (by decide) (fun c14 => ?_) (fun c14 => ?_)
        · have c14 : ¬ z13 = x2 := mt (i_eq rz13 hx2).mpr c14
          refine lv_iinc (v := iI (z3 + 1)) (lv' := [(3, .int (iI (z3 + 1))), (0, .ref (q ta)), (1, .int (iI 3)), (2, .int (iI x2))]) hx hb dX9_find_43 hl (k := 0) rfl (i_inc (by omega)) (by decide) rfl (fun ls hl => ?_)
          refine lv_goto (tgt := 13) hx hb dX9_find_46 (by decide) ?_
          exact ih6 _ (by omega) (z3 + 1) _ _ _ (by omega) (fun zq ⟨mm1, hq⟩ => hk1 _ ⟨mm1 + 1, (u_d_X9_find_1_3_1 ⟨f7, ⟨z10, gz10.out, (Or.inr ⟨c11, ⟨z13, gz13.out, (Or.inl ⟨c14, hq⟩)⟩⟩)⟩⟩)⟩) rfl hP hS (lv_sub hl [0, 1, 2, 3] rfl)
        · have c14 : z13 = x2 := (i_eq rz13 hx2).mp c14
          refine lv_iload_n hx hb dX9_find_41 rfl (lv_at hl 0 rfl) ?_
          exact RET z3 _ _ _ _ _ ⟨rfl, hk1 _ ⟨0 + 1, (u_d_X9_find_1_3_1 ⟨f7, ⟨z10, gz10.out, (Or.inr ⟨c11, ⟨z13, gz13.out, (Or.inr ⟨c14, rfl⟩)⟩⟩)⟩⟩)⟩, by omega⟩ hP hS dX9_find_42
  exact L13_5 _ 0 _ _ _ (by omega) (fun zq ⟨mm1, hq⟩ => (u_r_X9_find_1_3 ⟨mm1, hq⟩)) rfl hP hS (lv_sub hl [0, 1, 2, 3] rfl)

abbrev tr_d_X9_find_1_4_1 (ta : Nat) (x2 : Int) (A : St) (z : Int) (K1 : Int → Prop) (z3 : Int) : Prop := ((0 ≤ z3 ∧ z3 ≤ 2147483647) ∧ (∃ z10 : Int, z10 = A (ta + 1) (4 : Int).toNat ∧ (((z10 ≤ z3) ∧ (z = (-1))) ∨ ((¬ z10 ≤ z3) ∧ (∃ z13 : Int, z13 = A (ta + 3 + (4 : Int).toNat) (z3).toNat ∧ (((¬ z13 = x2) ∧ (K1 (z3 + 1))) ∨ ((z13 = x2) ∧ (z = z3))))))))
def d_X9_find_1_4_1 (ta : Nat) (x2 : Int) (A : St) (z : Int) : Nat → Int → Prop
  | 0, _ => False
  | nn9 + 1, z3 => tr_d_X9_find_1_4_1 ta x2 A z (fun z3 => d_X9_find_1_4_1 ta x2 A z nn9 z3) z3
theorem u_d_X9_find_1_4_1 {ta : Nat} {x2 : Int} {A : St} {z : Int} {nn9 : Nat} {z3 : Int} (h : tr_d_X9_find_1_4_1 ta x2 A z (fun z3 => d_X9_find_1_4_1 ta x2 A z nn9 z3) z3) : d_X9_find_1_4_1 ta x2 A z (nn9 + 1) z3 := h
abbrev tr_r_X9_find_1_4 (ta : Nat) (x2 : Int) (A : St) (z : Int) : Prop := (∃ nn9 : Nat, d_X9_find_1_4_1 ta x2 A z nn9 0)
def r_X9_find_1_4 (ta : Nat) (x2 : Int) (A : St) (z : Int) : Prop := tr_r_X9_find_1_4 ta x2 A z
theorem u_r_X9_find_1_4 {ta : Nat} {x2 : Int} {A : St} {z : Int} (h : tr_r_X9_find_1_4 ta x2 A z) : r_X9_find_1_4 ta x2 A z := h
def q_X9_find_1_4 (ta : Nat) (x2 : Int) (A : St) (z : Int) : Prop := r_X9_find_1_4 ta x2 A z ∧ (-1 ≤ z ∧ z ≤ 3)
def ws_kc_X9_find_1_4 : List Cond := .code yX9_find cX9_find 4 (some .int) :: WY
set_option maxHeartbeats 4000000 in
set_option maxRecDepth 100000 in
theorem kc_X9_find_1_4 (l : Launch) (dC : Nat → ClassId) (dI : Nat → Nat → Nat) (cB cI cJ cZ cQ : ClassId) (aL aS : Nat) (q : Nat → Nat) (A : St) (ta : Nat) (x2 : Int) (hI : IK A) (hta : isT ta) (hx2 : (-2147483648 : Int) ≤ x2 ∧ x2 ≤ 2147483647) : KMi l yX9_find ws_kc_X9_find_1_4 ({ frames := 0, cells := 0, slots := 0, locals := 0 } : Room) aL aS (dC, dI) (tyA cB cI cJ cZ cQ) (WK cB cI cJ cZ cQ q) A [.ref (q ta), .int (iI 4), .int (iI x2)] (fun z u => A = u ∧ r_X9_find_1_4 ta x2 A z ∧ (-1 ≤ z ∧ z ≤ 3)) := by
  refine k_meti (cc := cX9_find) (maxL := 4) WK_adr (plainFor_of_name (by decide +kernel)) rfl (Nat.le_of_ble_eq_true rfl) (fun p e s m below meth c Q AS ls hx hb hml hown hts hK hDD hA0 hE RET H locs hP hS hl => ?_)
  have hown : s.vm.findClass RX9 = some m.cls := hown
  have hl : lv_has ls 4 [(0, .ref (q ta)), (1, .int (iI 4)), (2, .int (iI x2))] := hl
  have hiX9 : ∀ w ∈ u_ws RX9 TX9 16, w ∈ ws_kc_X9_find_1_4 := fun w h => List.mem_cons_of_mem _ (wy_layX9 w h)
  refine lv_iload_n hx hb dX9_find_0 rfl (lv_at hl 1 rfl) ?_
  refine lv_if_lt (tgt := 9) hx hb dX9_find_1 (by decide) (fun c1 => absurd c1 (by decide +kernel)) (fun _ => ?_)
  refine lv_iload_n hx hb dX9_find_4 rfl (lv_at hl 1 rfl) ?_
  refine lv_iconst (v := iI 5) hx hb dX9_find_5 (by decide +kernel) ?_
  refine lv_icmp_lt (tgt := 11) hx hb dX9_find_6 (by decide) (fun _ => ?_) (fun c2 => absurd c2 (by decide +kernel))
  refine lv_iconst (v := iI 0) hx hb dX9_find_11 (by decide +kernel) ?_
  refine lv_istore_n (lv' := [(3, .int (iI 0)), (0, .ref (q ta)), (1, .int (iI 4)), (2, .int (iI x2))]) hx hb dX9_find_12 rfl hl (by decide) rfl (fun ls hl => ?_)
  have L13_5 : ∀ (n9 : Nat) (z3 : Int) (H : Heap) (locs : List Loc) (ls : Array Slot), (0 ≤ z3 ∧ z3 ≤ 2147483647) → (∀ (z : Int), (∃ mm1 : Nat, (d_X9_find_1_4_1 ta x2 A z mm1 z3)) → r_X9_find_1_4 ta x2 A z) → ((5 - z3).toNat = n9) → va_P (dC, dI) vwCl (WK cB cI cJ cZ cQ q A) H → va_S AS s.heap H locs → lv_has ls 4 [(3, .int (iI z3)), (0, .ref (q ta)), (1, .int (iI 4)), (2, .int (iI x2))] → W p l e (headSpec ws_kc_X9_find_1_4 ({ frames := 0, cells := 0, slots := 0, locals := 0 } : Room)).room s m [.ref (q ta), .int (iI 4), .int (iI x2)].toArray below meth c H locs 0 0 Q (F0 m 13 ls []) := by
    intro n9
    induction n9 using Nat.strongRecOn with
    | ind n9 ih6 =>
      intro z3 H locs ls f7 hk1 hn9 hP hS hl
      refine lv_iload_n hx hb dX9_find_13 rfl (lv_at hl 0 rfl) ?_
      refine lv_aload_n hx hb dX9_find_14 rfl (lv_at hl 1 rfl) ?_
      refine va_get (D := (dC, dI)) (ci := 9) (v := .ref (q (ta + 1))) (C := RX9) (T := TX9) (N := 16) hx hb hts hiX9 hown hK hP ta (wkT hta) rfl 0 (by decide) (hts _ (List.mem_cons_of_mem _ (wk_in_0 _ (List.mem_of_getElem? (i := 8) rfl)))) (fun _ h9 => h9) rfl dX9_find_15 ?_
      refine lv_iload_n hx hb dX9_find_18 rfl (lv_at hl 2 rfl) ?_
      refine x_iald (Wf := WK cB cI cJ cZ cQ q) hx hb hK hP (ta + 1) 1 (wkTc hta) rfl (by decide) (by decide) dX9_find_19 (fun z10 hz10 => ?_)
      have rz10 : (0 : Int) ≤ z10 ∧ z10 ≤ 4 := by rw [hz10]; exact irTc4 hta hI
      have gz10 := Hd.mk hz10
      refine lv_icmp_ge (tgt := 49) hx hb dX9_find_20 (by decide) (fun c11 => ?_) (fun c11 => ?_)
      · have c11 : z10 ≤ z3 := (i_le (rb rz10 (by decide) (by decide)) (rb f7 (by decide) (by decide))).mp c11
        refine lv_iconst (v := iI (-1)) hx hb dX9_find_49 (by decide +kernel) ?_
        exact RET (-1) _ _ _ _ _ ⟨rfl, hk1 _ ⟨0 + 1, (u_d_X9_find_1_4_1 ⟨f7, ⟨z10, gz10.out, (Or.inl ⟨c11, rfl⟩)⟩⟩)⟩, by omega⟩ hP hS dX9_find_50
      · have c11 : ¬ z10 ≤ z3 := mt (i_le (rb rz10 (by decide) (by decide)) (rb f7 (by decide) (by decide))).mpr c11
        refine lv_iload_n hx hb dX9_find_23 rfl (lv_at hl 0 rfl) ?_
        refine lv_bipush (v := iI 10) hx hb dX9_find_24 (by decide +kernel) ?_
        refine lv_icmp_ge (tgt := 49) hx hb dX9_find_26 (by decide) (fun c12 => False.elim (by have c12 : 10 ≤ z3 := (i_le ⟨by decide, by decide⟩ (rb f7 (by decide) (by decide))).mp c12; omega)) (fun _ => ?_)
        refine lv_aload_n hx hb dX9_find_29 rfl (lv_at hl 1 rfl) ?_
        refine va_get (D := (dC, dI)) (ci := 9) (v := .ref (q (ta + 2))) (C := RX9) (T := TX9) (N := 16) hx hb hts hiX9 hown hK hP ta (wkT hta) rfl 1 (by decide) (hts _ (List.mem_cons_of_mem _ (wk_in_5 _ (List.mem_of_getElem? (i := 57) rfl)))) (fun _ h9 => h9) rfl dX9_find_30 ?_
        refine lv_iload_n hx hb dX9_find_33 rfl (lv_at hl 2 rfl) ?_
        refine k_aald (Wf := WK cB cI cJ cZ cQ q) hx hb hK hP (ta + 2) 4 (wkTq hta) rfl (by omega) (by decide) (b := q (ta + 3 + (4 : Int).toNat)) rfl dX9_find_34 ?_
        refine lv_iload_n hx hb dX9_find_35 rfl (lv_at hl 0 rfl) ?_
        refine x_iald (Wf := WK cB cI cJ cZ cQ q) hx hb hK hP (ta + 3 + (4 : Int).toNat) 1 (wkTn hta (i := 4) (by decide)) rfl (by omega) (by decide) dX9_find_36 (fun z13 hz13 => ?_)
        have rz13 : (-2147483648 : Int) ≤ z13 ∧ z13 ≤ 2147483647 := by rw [hz13]; exact irTn hta (i := 4) (by decide) hI
        have gz13 := Hd.mk hz13
        refine lv_iload_n hx hb dX9_find_37 rfl (lv_at hl 3 rfl) ?_
        refine lv_icmp_ne (tgt := 43) hx hb dX9_find_38 (by decide) (fun c14 => ?_) (fun c14 => ?_)
        · have c14 : ¬ z13 = x2 := mt (i_eq rz13 hx2).mpr c14
          refine lv_iinc (v := iI (z3 + 1)) (lv' := [(3, .int (iI (z3 + 1))), (0, .ref (q ta)), (1, .int (iI 4)), (2, .int (iI x2))]) hx hb dX9_find_43 hl (k := 0) rfl (i_inc (by omega)) (by decide) rfl (fun ls hl => ?_)
          refine lv_goto (tgt := 13) hx hb dX9_find_46 (by decide) ?_
          exact ih6 _ (by omega) (z3 + 1) _ _ _ (by omega) (fun zq ⟨mm1, hq⟩ => hk1 _ ⟨mm1 + 1, (u_d_X9_find_1_4_1 ⟨f7, ⟨z10, gz10.out, (Or.inr ⟨c11, ⟨z13, gz13.out, (Or.inl ⟨c14, hq⟩)⟩⟩)⟩⟩)⟩) rfl hP hS (lv_sub hl [0, 1, 2, 3] rfl)
        · have c14 : z13 = x2 := (i_eq rz13 hx2).mp c14
          refine lv_iload_n hx hb dX9_find_41 rfl (lv_at hl 0 rfl) ?_
          exact RET z3 _ _ _ _ _ ⟨rfl, hk1 _ ⟨0 + 1, (u_d_X9_find_1_4_1 ⟨f7, ⟨z10, gz10.out, (Or.inr ⟨c11, ⟨z13, gz13.out, (Or.inr ⟨c14, rfl⟩)⟩⟩)⟩⟩)⟩, by omega⟩ hP hS dX9_find_42
  exact L13_5 _ 0 _ _ _ (by omega) (fun zq ⟨mm1, hq⟩ => (u_r_X9_find_1_4 ⟨mm1, hq⟩)) rfl hP hS (lv_sub hl [0, 1, 2, 3] rfl)

abbrev tr_d_X9_find_1 (ta : Nat) (x1 : Int) (x2 : Int) (A : St) (z : Int) (K1 : Int → Prop) (z3 : Int) : Prop := ((0 ≤ z3 ∧ z3 ≤ 2147483647) ∧ (∃ z10 : Int, z10 = A (ta + 1) (x1).toNat ∧ (((z10 ≤ z3) ∧ (z = (-1))) ∨ ((¬ z10 ≤ z3) ∧ (∃ z13 : Int, z13 = A (ta + 3 + (x1).toNat) (z3).toNat ∧ (((¬ z13 = x2) ∧ (K1 (z3 + 1))) ∨ ((z13 = x2) ∧ (z = z3))))))))
def d_X9_find_1 (ta : Nat) (x1 : Int) (x2 : Int) (A : St) (z : Int) : Nat → Int → Prop
  | 0, _ => False
  | nn9 + 1, z3 => tr_d_X9_find_1 ta x1 x2 A z (fun z3 => d_X9_find_1 ta x1 x2 A z nn9 z3) z3
theorem u_d_X9_find_1 {ta : Nat} {x1 : Int} {x2 : Int} {A : St} {z : Int} {nn9 : Nat} {z3 : Int} (h : tr_d_X9_find_1 ta x1 x2 A z (fun z3 => d_X9_find_1 ta x1 x2 A z nn9 z3) z3) : d_X9_find_1 ta x1 x2 A z (nn9 + 1) z3 := h
abbrev tr_r_X9_find (ta : Nat) (x1 : Int) (x2 : Int) (A : St) (z : Int) : Prop := (((x1 < 0) ∧ (z = (-1))) ∨ ((¬ x1 < 0) ∧ (((x1 < 5) ∧ (∃ nn9 : Nat, d_X9_find_1 ta x1 x2 A z nn9 0)) ∨ ((¬ x1 < 5) ∧ (z = (-1))))))
def r_X9_find (ta : Nat) (x1 : Int) (x2 : Int) (A : St) (z : Int) : Prop := tr_r_X9_find ta x1 x2 A z
theorem u_r_X9_find {ta : Nat} {x1 : Int} {x2 : Int} {A : St} {z : Int} (h : tr_r_X9_find ta x1 x2 A z) : r_X9_find ta x1 x2 A z := h
def q_X9_find (ta : Nat) (x1 : Int) (x2 : Int) (A : St) (z : Int) : Prop := r_X9_find ta x1 x2 A z ∧ (-1 ≤ z ∧ z ≤ 9)
def ws_kc_X9_find : List Cond := .code yX9_find cX9_find 4 (some .int) :: WY
set_option maxHeartbeats 4000000 in
set_option maxRecDepth 100000 in
theorem kc_X9_find (l : Launch) (dC : Nat → ClassId) (dI : Nat → Nat → Nat) (cB cI cJ cZ cQ : ClassId) (aL aS : Nat) (q : Nat → Nat) (A : St) (ta : Nat) (x1 x2 : Int) (hI : IK A) (hta : isT ta) (hx1 : (-2147483648 : Int) ≤ x1 ∧ x1 ≤ 2147483647) (hx2 : (-2147483648 : Int) ≤ x2 ∧ x2 ≤ 2147483647) : KMi l yX9_find ws_kc_X9_find ({ frames := 0, cells := 0, slots := 0, locals := 0 } : Room) aL aS (dC, dI) (tyA cB cI cJ cZ cQ) (WK cB cI cJ cZ cQ q) A [.ref (q ta), .int (iI x1), .int (iI x2)] (fun z u => A = u ∧ r_X9_find ta x1 x2 A z ∧ (-1 ≤ z ∧ z ≤ 9)) := by
  refine k_meti (cc := cX9_find) (maxL := 4) WK_adr (plainFor_of_name (by decide +kernel)) rfl (Nat.le_of_ble_eq_true rfl) (fun p e s m below meth c Q AS ls hx hb hml hown hts hK hDD hA0 hE RET H locs hP hS hl => ?_)
  have hown : s.vm.findClass RX9 = some m.cls := hown
  have hl : lv_has ls 4 [(0, .ref (q ta)), (1, .int (iI x1)), (2, .int (iI x2))] := hl
  have hiX9 : ∀ w ∈ u_ws RX9 TX9 16, w ∈ ws_kc_X9_find := fun w h => List.mem_cons_of_mem _ (wy_layX9 w h)
  refine lv_iload_n hx hb dX9_find_0 rfl (lv_at hl 1 rfl) ?_
  refine lv_if_lt (tgt := 9) hx hb dX9_find_1 (by decide) (fun c1 => ?_) (fun c1 => ?_)
  · have c1 : x1 < 0 := (i_lt0 hx1).mp c1
    refine lv_iconst (v := iI (-1)) hx hb dX9_find_9 (by decide +kernel) ?_
    exact RET (-1) _ _ _ _ _ ⟨rfl, (u_r_X9_find (Or.inl ⟨c1, rfl⟩)), by omega⟩ hP hS dX9_find_10
  · have c1 : ¬ x1 < 0 := mt (i_lt0 hx1).mpr c1
    refine lv_iload_n hx hb dX9_find_4 rfl (lv_at hl 1 rfl) ?_
    refine lv_iconst (v := iI 5) hx hb dX9_find_5 (by decide +kernel) ?_
    refine lv_icmp_lt (tgt := 11) hx hb dX9_find_6 (by decide) (fun c2 => ?_) (fun c2 => ?_)
    · have c2 : x1 < 5 := (i_lt hx1 ⟨by decide, by decide⟩).mp c2
      refine lv_iconst (v := iI 0) hx hb dX9_find_11 (by decide +kernel) ?_
      refine lv_istore_n (lv' := [(3, .int (iI 0)), (0, .ref (q ta)), (1, .int (iI x1)), (2, .int (iI x2))]) hx hb dX9_find_12 rfl hl (by decide) rfl (fun ls hl => ?_)
      have L13_5 : ∀ (n9 : Nat) (z3 : Int) (H : Heap) (locs : List Loc) (ls : Array Slot), (0 ≤ z3 ∧ z3 ≤ 2147483647) → (∀ (z : Int), (∃ mm1 : Nat, (d_X9_find_1 ta x1 x2 A z mm1 z3)) → r_X9_find ta x1 x2 A z) → ((11 - z3).toNat = n9) → va_P (dC, dI) vwCl (WK cB cI cJ cZ cQ q A) H → va_S AS s.heap H locs → lv_has ls 4 [(3, .int (iI z3)), (0, .ref (q ta)), (1, .int (iI x1)), (2, .int (iI x2))] → W p l e (headSpec ws_kc_X9_find ({ frames := 0, cells := 0, slots := 0, locals := 0 } : Room)).room s m [.ref (q ta), .int (iI x1), .int (iI x2)].toArray below meth c H locs 0 0 Q (F0 m 13 ls []) := by
        intro n9
        induction n9 using Nat.strongRecOn with
        | ind n9 ih6 =>
          intro z3 H locs ls f7 hk1 hn9 hP hS hl
          refine lv_iload_n hx hb dX9_find_13 rfl (lv_at hl 0 rfl) ?_
          refine lv_aload_n hx hb dX9_find_14 rfl (lv_at hl 1 rfl) ?_
          refine va_get (D := (dC, dI)) (ci := 9) (v := .ref (q (ta + 1))) (C := RX9) (T := TX9) (N := 16) hx hb hts hiX9 hown hK hP ta (wkT hta) rfl 0 (by decide) (hts _ (List.mem_cons_of_mem _ (wk_in_0 _ (List.mem_of_getElem? (i := 8) rfl)))) (fun _ h9 => h9) rfl dX9_find_15 ?_
          refine lv_iload_n hx hb dX9_find_18 rfl (lv_at hl 2 rfl) ?_
          refine x_iald (Wf := WK cB cI cJ cZ cQ q) hx hb hK hP (ta + 1) 1 (wkTc hta) rfl (by omega) (by decide) dX9_find_19 (fun z10 hz10 => ?_)
          have rz10 : (0 : Int) ≤ z10 ∧ z10 ≤ 10 := by rw [hz10]; exact irTc hta hI
          have gz10 := Hd.mk hz10
          refine lv_icmp_ge (tgt := 49) hx hb dX9_find_20 (by decide) (fun c11 => ?_) (fun c11 => ?_)
          · have c11 : z10 ≤ z3 := (i_le (rb rz10 (by decide) (by decide)) (rb f7 (by decide) (by decide))).mp c11
            refine lv_iconst (v := iI (-1)) hx hb dX9_find_49 (by decide +kernel) ?_
            exact RET (-1) _ _ _ _ _ ⟨rfl, hk1 _ ⟨0 + 1, (u_d_X9_find_1 ⟨f7, ⟨z10, gz10.out, (Or.inl ⟨c11, rfl⟩)⟩⟩)⟩, by omega⟩ hP hS dX9_find_50
          · have c11 : ¬ z10 ≤ z3 := mt (i_le (rb rz10 (by decide) (by decide)) (rb f7 (by decide) (by decide))).mpr c11
            refine lv_iload_n hx hb dX9_find_23 rfl (lv_at hl 0 rfl) ?_
            refine lv_bipush (v := iI 10) hx hb dX9_find_24 (by decide +kernel) ?_
            refine lv_icmp_ge (tgt := 49) hx hb dX9_find_26 (by decide) (fun c12 => False.elim (by have c12 : 10 ≤ z3 := (i_le ⟨by decide, by decide⟩ (rb f7 (by decide) (by decide))).mp c12; omega)) (fun _ => ?_)
            refine lv_aload_n hx hb dX9_find_29 rfl (lv_at hl 1 rfl) ?_
            refine va_get (D := (dC, dI)) (ci := 9) (v := .ref (q (ta + 2))) (C := RX9) (T := TX9) (N := 16) hx hb hts hiX9 hown hK hP ta (wkT hta) rfl 1 (by decide) (hts _ (List.mem_cons_of_mem _ (wk_in_5 _ (List.mem_of_getElem? (i := 57) rfl)))) (fun _ h9 => h9) rfl dX9_find_30 ?_
            refine lv_iload_n hx hb dX9_find_33 rfl (lv_at hl 2 rfl) ?_
            refine k_aald (Wf := WK cB cI cJ cZ cQ q) hx hb hK hP (ta + 2) 4 (wkTq hta) rfl (by omega) (by decide) (b := q (ta + 3 + (x1).toNat)) (by rcases (show x1 = 0 ∨ x1 = 1 ∨ x1 = 2 ∨ x1 = 3 ∨ x1 = 4 by omega) with h | h | h | h | h <;> rw [h] <;> rfl) dX9_find_34 ?_
            refine lv_iload_n hx hb dX9_find_35 rfl (lv_at hl 0 rfl) ?_
            refine x_iald (Wf := WK cB cI cJ cZ cQ q) hx hb hK hP (ta + 3 + (x1).toNat) 1 (wkTn hta (i := x1) (by omega)) rfl (by omega) (by decide) dX9_find_36 (fun z13 hz13 => ?_)
            have rz13 : (-2147483648 : Int) ≤ z13 ∧ z13 ≤ 2147483647 := by rw [hz13]; exact irTn hta (i := x1) (by omega) hI
            have gz13 := Hd.mk hz13
            refine lv_iload_n hx hb dX9_find_37 rfl (lv_at hl 3 rfl) ?_
            refine lv_icmp_ne (tgt := 43) hx hb dX9_find_38 (by decide) (fun c14 => ?_) (fun c14 => ?_)
            · have c14 : ¬ z13 = x2 := mt (i_eq rz13 hx2).mpr c14
              refine lv_iinc (v := iI (z3 + 1)) (lv' := [(3, .int (iI (z3 + 1))), (0, .ref (q ta)), (1, .int (iI x1)), (2, .int (iI x2))]) hx hb dX9_find_43 hl (k := 0) rfl (i_inc (by omega)) (by decide) rfl (fun ls hl => ?_)
              refine lv_goto (tgt := 13) hx hb dX9_find_46 (by decide) ?_
              exact ih6 _ (by omega) (z3 + 1) _ _ _ (by omega) (fun zq ⟨mm1, hq⟩ => hk1 _ ⟨mm1 + 1, (u_d_X9_find_1 ⟨f7, ⟨z10, gz10.out, (Or.inr ⟨c11, ⟨z13, gz13.out, (Or.inl ⟨c14, hq⟩)⟩⟩)⟩⟩)⟩) rfl hP hS (lv_sub hl [0, 1, 2, 3] rfl)
            · have c14 : z13 = x2 := (i_eq rz13 hx2).mp c14
              refine lv_iload_n hx hb dX9_find_41 rfl (lv_at hl 0 rfl) ?_
              exact RET z3 _ _ _ _ _ ⟨rfl, hk1 _ ⟨0 + 1, (u_d_X9_find_1 ⟨f7, ⟨z10, gz10.out, (Or.inr ⟨c11, ⟨z13, gz13.out, (Or.inr ⟨c14, rfl⟩)⟩⟩)⟩⟩)⟩, by omega⟩ hP hS dX9_find_42
      exact L13_5 _ 0 _ _ _ (by omega) (fun zq ⟨mm1, hq⟩ => (u_r_X9_find (Or.inr ⟨c1, (Or.inl ⟨c2, ⟨mm1, hq⟩⟩)⟩))) rfl hP hS (lv_sub hl [0, 1, 2, 3] rfl)
    · have c2 : ¬ x1 < 5 := mt (i_lt hx1 ⟨by decide, by decide⟩).mpr c2
      refine lv_iconst (v := iI (-1)) hx hb dX9_find_9 (by decide +kernel) ?_
      exact RET (-1) _ _ _ _ _ ⟨rfl, (u_r_X9_find (Or.inr ⟨c1, (Or.inr ⟨c2, rfl⟩)⟩)), by omega⟩ hP hS dX9_find_10

abbrev tr_r_X5_asked_2_0 (ta : Nat) (A : St) (z : Int) (u : St) : Prop := (∃ z1 : Int, ∃ A2 : St, q_X5_isNameAhead A z1 A2 ∧ (((¬ z1 = 0) ∧ (∃ A6 : St, q_X3_pass A2 A6 ∧ (∃ z11 : Int, q_X9_find_1_0 ta (A2 5 4) A6 z11 ∧ (((¬ z11 = (-1)) ∧ (z = z11 ∧ u = A6)) ∨ ((z11 = (-1)) ∧ (∃ z15 : Int, ∃ A16 : St, q_X5_none 3 A6 z15 A16 ∧ (z = z15 ∧ u = A16))))))) ∨ ((z1 = 0) ∧ (∃ z19 : Int, ∃ A20 : St, q_X5_none 1 A2 z19 A20 ∧ (z = z19 ∧ u = A20)))))
def r_X5_asked_2_0 (ta : Nat) (A : St) (z : Int) (u : St) : Prop := tr_r_X5_asked_2_0 ta A z u
theorem u_r_X5_asked_2_0 {ta : Nat} {A : St} {z : Int} {u : St} (h : tr_r_X5_asked_2_0 ta A z u) : r_X5_asked_2_0 ta A z u := h
def q_X5_asked_2_0 (ta : Nat) (A : St) (z : Int) (u : St) : Prop := r_X5_asked_2_0 ta A z u ∧ IK u ∧ fk [] [(3, 2), (3, 3), (5, 1), (5, 2), (5, 3), (5, 4), (5, 5), (5, 6)] A u ∧ (-1 ≤ z ∧ z ≤ 7)
def ws_kc_X5_asked_2_0 : List Cond := .code yX5_asked cX5_asked 4 (some .int) :: WY
set_option maxHeartbeats 4000000 in
set_option maxRecDepth 100000 in
theorem kc_X5_asked_2_0 (l : Launch) (dC : Nat → ClassId) (dI : Nat → Nat → Nat) (cB cI cJ cZ cQ : ClassId) (aL aS : Nat) (q : Nat → Nat) (A : St) (ta : Nat) (hI : IK A) (hta : isT ta) : KMi l yX5_asked ws_kc_X5_asked_2_0 ({ frames := 3, cells := 0, slots := 0, locals := 66 } : Room) aL aS (dC, dI) (tyA cB cI cJ cZ cQ) (WK cB cI cJ cZ cQ q) A [.ref (q 3), .ref (q ta), .int (iI 0)] (fun z u => r_X5_asked_2_0 ta A z u ∧ IK u ∧ fk [] [(3, 2), (3, 3), (5, 1), (5, 2), (5, 3), (5, 4), (5, 5), (5, 6)] A u ∧ (-1 ≤ z ∧ z ≤ 7)) := by
  refine k_meti (cc := cX5_asked) (maxL := 4) WK_adr (plainFor_of_name (by decide +kernel)) rfl (Nat.le_of_ble_eq_true rfl) (fun p e s m below meth c Q AS ls hx hb hml hown hts hK hDD hA0 hE RET H locs hP hS hl => ?_)
  have hown : s.vm.findClass RX5 = some m.cls := hown
  have hl : lv_has ls 4 [(0, .ref (q 3)), (1, .ref (q ta)), (2, .int (iI 0))] := hl
  have hiX5 : ∀ w ∈ u_ws RX5 TX5 5, w ∈ ws_kc_X5_asked_2_0 := fun w h => List.mem_cons_of_mem _ (wy_layX5 w h)
  have hiX3 : ∀ w ∈ u_ws RX3 TX3 7, w ∈ ws_kc_X5_asked_2_0 := fun w h => List.mem_cons_of_mem _ (wy_layX3 w h)
  refine lv_aload_n hx hb dX5_asked_0 rfl (lv_at hl 0 rfl) ?_
  refine k_calli (As := []) (rest := []) ⟨hx, hb, hml, hown, hts⟩ hE (kc_X5_isNameAhead l dC dI cB cI cJ cZ cQ aL aS q _ hI) (cwV 0 hts (goodVk (wk_in_5 _ (List.mem_of_getElem? (i := 49) rfl)) (wk_in_5 _ (List.mem_of_getElem? (i := 50) rfl)) (wk_in_5 _ (List.mem_of_getElem? (i := 51) rfl)) (wk_in_5 _ (List.mem_of_getElem? (i := 28) rfl)) (wk_in_5 _ (List.mem_of_getElem? (i := 52) rfl))) rfl rfl rfl (by decide +kernel) ⟨Nat.le_of_ble_eq_true rfl, Nat.le_of_ble_eq_true rfl⟩) hK hDD hA0 hP hS 3 5 (wkRD) rfl rfl hl.1 (Nat.le_of_ble_eq_true rfl) dX5_asked_1 (fun z1 A2 H locs hw3 hP hS => ?_)
  have ghw3 : q_X5_isNameAhead A z1 A2 := hw3
  obtain ⟨_, hI, hf4, hw3⟩ := hw3
  refine lv_if_ne (tgt := 13) hx hb dX5_asked_4 (by decide) (fun c5 => ?_) (fun c5 => ?_)
  · have c5 : ¬ z1 = 0 := mt (i_eq0 (rb hw3 (by decide) (by decide))).mpr c5
    refine lv_aload_n hx hb dX5_asked_13 rfl (lv_at hl 0 rfl) ?_
    refine va_get (D := (dC, dI)) (ci := 5) (v := .ref (q 5)) (C := RX5) (T := TX5) (N := 5) hx hb hts hiX5 hown hK hP 3 (wkRD) rfl 0 (by decide) (hts _ (List.mem_cons_of_mem _ (wk_in_5 _ (List.mem_of_getElem? (i := 6) rfl)))) (fun _ h9 => h9) rfl dX5_asked_14 ?_
    refine k_callv (As := []) (rest := []) ⟨hx, hb, hml, hown, hts⟩ hE (kc_X3_pass l dC dI cB cI cJ cZ cQ aL aS q _ hI) (cwV 0 hts (goodVk (wk_in_5 _ (List.mem_of_getElem? (i := 42) rfl)) (wk_in_5 _ (List.mem_of_getElem? (i := 43) rfl)) (wk_in_5 _ (List.mem_of_getElem? (i := 44) rfl)) (wk_in_4 _ (List.mem_of_getElem? (i := 10) rfl)) (wk_in_3 _ (List.mem_of_getElem? (i := 58) rfl))) rfl rfl rfl (by decide +kernel) ⟨Nat.le_of_ble_eq_true rfl, Nat.le_of_ble_eq_true rfl⟩) hK hDD hA0 hP hS 5 3 (wkLX) rfl rfl hl.1 (Nat.le_of_ble_eq_true rfl) dX5_asked_17 (fun A6 H locs hw7 hP hS => ?_)
    have ghw7 : q_X3_pass A2 A6 := hw7
    obtain ⟨_, hI, hf8, hw7⟩ := hw7
    clear hw7
    refine lv_aload_n hx hb dX5_asked_20 rfl (lv_at hl 1 rfl) ?_
    refine lv_iload_n hx hb dX5_asked_21 rfl (lv_at hl 2 rfl) ?_
    refine lv_aload_n hx hb dX5_asked_22 rfl (lv_at hl 0 rfl) ?_
    refine va_get (D := (dC, dI)) (ci := 5) (v := .ref (q 5)) (C := RX5) (T := TX5) (N := 5) hx hb hts hiX5 hown hK hP 3 (wkRD) rfl 0 (by decide) (hts _ (List.mem_cons_of_mem _ (wk_in_5 _ (List.mem_of_getElem? (i := 6) rfl)))) (fun _ h9 => h9) rfl dX5_asked_23 ?_
    have e9 : A6 5 4 = (A2 5 4) := (hf8 5 4 rfl rfl)
    have r10 : (-2147483648 : Int) ≤ (A2 5 4) ∧ (A2 5 4) ≤ 2147483647 := by rw [← e9]; exact irLX_4 hI
    refine va_get (D := (dC, dI)) (ci := 3) (v := .int (iI (A6 5 4))) (C := RX3) (T := TX3) (N := 7) hx hb hts hiX3 hown hK hP 5 (wkLX) rfl 4 (by decide) (hts _ (List.mem_cons_of_mem _ (wk_in_5 _ (List.mem_of_getElem? (i := 30) rfl)))) (fun _ h9 => h9) rfl dX5_asked_26 ?_
    refine tp_i (y := iI (A2 5 4)) (congrArg iI e9) ?_
    refine k_calli (As := [.int (iI 0), .int (iI (A2 5 4))]) (rest := []) ⟨hx, hb, hml, hown, hts⟩ hE (kc_X9_find_1_0 l dC dI cB cI cJ cZ cQ aL aS q _ ta (A2 5 4) hI hta r10) (cwV 2 hts (goodVk (wk_in_5 _ (List.mem_of_getElem? (i := 53) rfl)) (wk_in_5 _ (List.mem_of_getElem? (i := 54) rfl)) (wk_in_5 _ (List.mem_of_getElem? (i := 55) rfl)) (wk_in_0 _ (List.mem_of_getElem? (i := 6) rfl)) (wk_in_5 _ (List.mem_of_getElem? (i := 56) rfl))) rfl rfl rfl (by decide +kernel) ⟨Nat.le_of_ble_eq_true rfl, Nat.le_of_ble_eq_true rfl⟩) hK hDD hA0 hP hS ta 9 (wkT hta) rfl rfl hl.1 (Nat.le_of_ble_eq_true rfl) dX5_asked_29 (fun z11 A12 H locs hw13 hP hS => ?_)
    obtain ⟨rfl, hw13⟩ := hw13
    have ghw13 : q_X9_find_1_0 ta (A2 5 4) A6 z11 := hw13
    have hw13 := hw13.2
    refine lv_istore_n (lv' := [(3, .int (iI z11)), (0, .ref (q 3)), (1, .ref (q ta)), (2, .int (iI 0))]) hx hb dX5_asked_32 rfl hl (by decide) rfl (fun ls hl => ?_)
    refine lv_iload_n hx hb dX5_asked_33 rfl (lv_at hl 0 rfl) ?_
    refine lv_iconst (v := iI (-1)) hx hb dX5_asked_34 (by decide +kernel) ?_
    refine lv_icmp_ne (tgt := 46) hx hb dX5_asked_35 (by decide) (fun c14 => ?_) (fun c14 => ?_)
    · have c14 : ¬ z11 = (-1) := mt (i_eq (rb hw13 (by decide) (by decide)) ⟨by decide, by decide⟩).mpr c14
      refine lv_iload_n hx hb dX5_asked_46 rfl (lv_at hl 0 rfl) ?_
      exact RET z11 _ _ _ _ _ ⟨(u_r_X5_asked_2_0 ⟨z1, A2, ghw3, (Or.inl ⟨c5, ⟨A6, ghw7, ⟨z11, ghw13, (Or.inl ⟨c14, ⟨rfl, rfl⟩⟩)⟩⟩⟩)⟩), hI, fk.trans (fk.trans (fk.rf) hf4 rfl rfl) hf8 rfl rfl, by omega⟩ hP hS dX5_asked_47
    · have c14 : z11 = (-1) := (i_eq (rb hw13 (by decide) (by decide)) ⟨by decide, by decide⟩).mp c14
      refine lv_aload_n hx hb dX5_asked_38 rfl (lv_at hl 1 rfl) ?_
      refine lv_iconst (v := iI 3) hx hb dX5_asked_39 (by decide +kernel) ?_
      refine k_calli (As := [.int (iI 3)]) (rest := []) ⟨hx, hb, hml, hown, hts⟩ hE (kc_X5_none l dC dI cB cI cJ cZ cQ aL aS q _ 3 hI ⟨by decide, by decide⟩) (cwV 1 hts (goodVk (wk_in_5 _ (List.mem_of_getElem? (i := 33) rfl)) (wk_in_5 _ (List.mem_of_getElem? (i := 34) rfl)) (wk_in_5 _ (List.mem_of_getElem? (i := 35) rfl)) (wk_in_5 _ (List.mem_of_getElem? (i := 28) rfl)) (wk_in_5 _ (List.mem_of_getElem? (i := 36) rfl))) rfl rfl rfl (by decide +kernel) ⟨Nat.le_of_ble_eq_true rfl, Nat.le_of_ble_eq_true rfl⟩) hK hDD hA0 hP hS 3 5 (wkRD) rfl rfl hl.1 (Nat.le_of_ble_eq_true rfl) dX5_asked_40 (fun z15 A16 H locs hw17 hP hS => ?_)
      have ghw17 : q_X5_none 3 A6 z15 A16 := hw17
      obtain ⟨_, hI, hf18, hw17⟩ := hw17
      refine lv_goto (tgt := 47) hx hb dX5_asked_43 (by decide) ?_
      exact RET z15 _ _ _ _ _ ⟨(u_r_X5_asked_2_0 ⟨z1, A2, ghw3, (Or.inl ⟨c5, ⟨A6, ghw7, ⟨z11, ghw13, (Or.inr ⟨c14, ⟨z15, A16, ghw17, ⟨rfl, rfl⟩⟩⟩)⟩⟩⟩)⟩), hI, fk.trans (fk.trans (fk.trans (fk.rf) hf4 rfl rfl) hf8 rfl rfl) hf18 rfl rfl, by omega⟩ hP hS dX5_asked_47
  · have c5 : z1 = 0 := (i_eq0 (rb hw3 (by decide) (by decide))).mp c5
    refine lv_aload_n hx hb dX5_asked_7 rfl (lv_at hl 0 rfl) ?_
    refine lv_iconst (v := iI 1) hx hb dX5_asked_8 (by decide +kernel) ?_
    refine k_calli (As := [.int (iI 1)]) (rest := []) ⟨hx, hb, hml, hown, hts⟩ hE (kc_X5_none l dC dI cB cI cJ cZ cQ aL aS q _ 1 hI ⟨by decide, by decide⟩) (cwV 1 hts (goodVk (wk_in_5 _ (List.mem_of_getElem? (i := 33) rfl)) (wk_in_5 _ (List.mem_of_getElem? (i := 34) rfl)) (wk_in_5 _ (List.mem_of_getElem? (i := 35) rfl)) (wk_in_5 _ (List.mem_of_getElem? (i := 28) rfl)) (wk_in_5 _ (List.mem_of_getElem? (i := 36) rfl))) rfl rfl rfl (by decide +kernel) ⟨Nat.le_of_ble_eq_true rfl, Nat.le_of_ble_eq_true rfl⟩) hK hDD hA0 hP hS 3 5 (wkRD) rfl rfl hl.1 (Nat.le_of_ble_eq_true rfl) dX5_asked_9 (fun z19 A20 H locs hw21 hP hS => ?_)
    have ghw21 : q_X5_none 1 A2 z19 A20 := hw21
    obtain ⟨_, hI, hf22, hw21⟩ := hw21
    exact RET z19 _ _ _ _ _ ⟨(u_r_X5_asked_2_0 ⟨z1, A2, ghw3, (Or.inr ⟨c5, ⟨z19, A20, ghw21, ⟨rfl, rfl⟩⟩⟩)⟩), hI, fk.trans (fk.trans (fk.rf) hf4 rfl rfl) hf22 rfl rfl, by omega⟩ hP hS dX5_asked_12

abbrev tr_r_X5_asked_2_1 (ta : Nat) (A : St) (z : Int) (u : St) : Prop := (∃ z1 : Int, ∃ A2 : St, q_X5_isNameAhead A z1 A2 ∧ (((¬ z1 = 0) ∧ (∃ A6 : St, q_X3_pass A2 A6 ∧ (∃ z11 : Int, q_X9_find_1_1 ta (A2 5 4) A6 z11 ∧ (((¬ z11 = (-1)) ∧ (z = z11 ∧ u = A6)) ∨ ((z11 = (-1)) ∧ (∃ z15 : Int, ∃ A16 : St, q_X5_none 3 A6 z15 A16 ∧ (z = z15 ∧ u = A16))))))) ∨ ((z1 = 0) ∧ (∃ z19 : Int, ∃ A20 : St, q_X5_none 1 A2 z19 A20 ∧ (z = z19 ∧ u = A20)))))
def r_X5_asked_2_1 (ta : Nat) (A : St) (z : Int) (u : St) : Prop := tr_r_X5_asked_2_1 ta A z u
theorem u_r_X5_asked_2_1 {ta : Nat} {A : St} {z : Int} {u : St} (h : tr_r_X5_asked_2_1 ta A z u) : r_X5_asked_2_1 ta A z u := h
def q_X5_asked_2_1 (ta : Nat) (A : St) (z : Int) (u : St) : Prop := r_X5_asked_2_1 ta A z u ∧ IK u ∧ fk [] [(3, 2), (3, 3), (5, 1), (5, 2), (5, 3), (5, 4), (5, 5), (5, 6)] A u ∧ (-1 ≤ z ∧ z ≤ 9)
def ws_kc_X5_asked_2_1 : List Cond := .code yX5_asked cX5_asked 4 (some .int) :: WY
set_option maxHeartbeats 4000000 in
set_option maxRecDepth 100000 in
theorem kc_X5_asked_2_1 (l : Launch) (dC : Nat → ClassId) (dI : Nat → Nat → Nat) (cB cI cJ cZ cQ : ClassId) (aL aS : Nat) (q : Nat → Nat) (A : St) (ta : Nat) (hI : IK A) (hta : isT ta) : KMi l yX5_asked ws_kc_X5_asked_2_1 ({ frames := 3, cells := 0, slots := 0, locals := 66 } : Room) aL aS (dC, dI) (tyA cB cI cJ cZ cQ) (WK cB cI cJ cZ cQ q) A [.ref (q 3), .ref (q ta), .int (iI 1)] (fun z u => r_X5_asked_2_1 ta A z u ∧ IK u ∧ fk [] [(3, 2), (3, 3), (5, 1), (5, 2), (5, 3), (5, 4), (5, 5), (5, 6)] A u ∧ (-1 ≤ z ∧ z ≤ 9)) := by
  refine k_meti (cc := cX5_asked) (maxL := 4) WK_adr (plainFor_of_name (by decide +kernel)) rfl (Nat.le_of_ble_eq_true rfl) (fun p e s m below meth c Q AS ls hx hb hml hown hts hK hDD hA0 hE RET H locs hP hS hl => ?_)
  have hown : s.vm.findClass RX5 = some m.cls := hown
  have hl : lv_has ls 4 [(0, .ref (q 3)), (1, .ref (q ta)), (2, .int (iI 1))] := hl
  have hiX5 : ∀ w ∈ u_ws RX5 TX5 5, w ∈ ws_kc_X5_asked_2_1 := fun w h => List.mem_cons_of_mem _ (wy_layX5 w h)
  have hiX3 : ∀ w ∈ u_ws RX3 TX3 7, w ∈ ws_kc_X5_asked_2_1 := fun w h => List.mem_cons_of_mem _ (wy_layX3 w h)
  refine lv_aload_n hx hb dX5_asked_0 rfl (lv_at hl 0 rfl) ?_
  refine k_calli (As := []) (rest := []) ⟨hx, hb, hml, hown, hts⟩ hE (kc_X5_isNameAhead l dC dI cB cI cJ cZ cQ aL aS q _ hI) (cwV 0 hts (goodVk (wk_in_5 _ (List.mem_of_getElem? (i := 49) rfl)) (wk_in_5 _ (List.mem_of_getElem? (i := 50) rfl)) (wk_in_5 _ (List.mem_of_getElem? (i := 51) rfl)) (wk_in_5 _ (List.mem_of_getElem? (i := 28) rfl)) (wk_in_5 _ (List.mem_of_getElem? (i := 52) rfl))) rfl rfl rfl (by decide +kernel) ⟨Nat.le_of_ble_eq_true rfl, Nat.le_of_ble_eq_true rfl⟩) hK hDD hA0 hP hS 3 5 (wkRD) rfl rfl hl.1 (Nat.le_of_ble_eq_true rfl) dX5_asked_1 (fun z1 A2 H locs hw3 hP hS => ?_)
  have ghw3 : q_X5_isNameAhead A z1 A2 := hw3
  obtain ⟨_, hI, hf4, hw3⟩ := hw3
  refine lv_if_ne (tgt := 13) hx hb dX5_asked_4 (by decide) (fun c5 => ?_) (fun c5 => ?_)
  · have c5 : ¬ z1 = 0 := mt (i_eq0 (rb hw3 (by decide) (by decide))).mpr c5
    refine lv_aload_n hx hb dX5_asked_13 rfl (lv_at hl 0 rfl) ?_
    refine va_get (D := (dC, dI)) (ci := 5) (v := .ref (q 5)) (C := RX5) (T := TX5) (N := 5) hx hb hts hiX5 hown hK hP 3 (wkRD) rfl 0 (by decide) (hts _ (List.mem_cons_of_mem _ (wk_in_5 _ (List.mem_of_getElem? (i := 6) rfl)))) (fun _ h9 => h9) rfl dX5_asked_14 ?_
    refine k_callv (As := []) (rest := []) ⟨hx, hb, hml, hown, hts⟩ hE (kc_X3_pass l dC dI cB cI cJ cZ cQ aL aS q _ hI) (cwV 0 hts (goodVk (wk_in_5 _ (List.mem_of_getElem? (i := 42) rfl)) (wk_in_5 _ (List.mem_of_getElem? (i := 43) rfl)) (wk_in_5 _ (List.mem_of_getElem? (i := 44) rfl)) (wk_in_4 _ (List.mem_of_getElem? (i := 10) rfl)) (wk_in_3 _ (List.mem_of_getElem? (i := 58) rfl))) rfl rfl rfl (by decide +kernel) ⟨Nat.le_of_ble_eq_true rfl, Nat.le_of_ble_eq_true rfl⟩) hK hDD hA0 hP hS 5 3 (wkLX) rfl rfl hl.1 (Nat.le_of_ble_eq_true rfl) dX5_asked_17 (fun A6 H locs hw7 hP hS => ?_)
    have ghw7 : q_X3_pass A2 A6 := hw7
    obtain ⟨_, hI, hf8, hw7⟩ := hw7
    clear hw7
    refine lv_aload_n hx hb dX5_asked_20 rfl (lv_at hl 1 rfl) ?_
    refine lv_iload_n hx hb dX5_asked_21 rfl (lv_at hl 2 rfl) ?_
    refine lv_aload_n hx hb dX5_asked_22 rfl (lv_at hl 0 rfl) ?_
    refine va_get (D := (dC, dI)) (ci := 5) (v := .ref (q 5)) (C := RX5) (T := TX5) (N := 5) hx hb hts hiX5 hown hK hP 3 (wkRD) rfl 0 (by decide) (hts _ (List.mem_cons_of_mem _ (wk_in_5 _ (List.mem_of_getElem? (i := 6) rfl)))) (fun _ h9 => h9) rfl dX5_asked_23 ?_
    have e9 : A6 5 4 = (A2 5 4) := (hf8 5 4 rfl rfl)
    have r10 : (-2147483648 : Int) ≤ (A2 5 4) ∧ (A2 5 4) ≤ 2147483647 := by rw [← e9]; exact irLX_4 hI
    refine va_get (D := (dC, dI)) (ci := 3) (v := .int (iI (A6 5 4))) (C := RX3) (T := TX3) (N := 7) hx hb hts hiX3 hown hK hP 5 (wkLX) rfl 4 (by decide) (hts _ (List.mem_cons_of_mem _ (wk_in_5 _ (List.mem_of_getElem? (i := 30) rfl)))) (fun _ h9 => h9) rfl dX5_asked_26 ?_
    refine tp_i (y := iI (A2 5 4)) (congrArg iI e9) ?_
    refine k_calli (As := [.int (iI 1), .int (iI (A2 5 4))]) (rest := []) ⟨hx, hb, hml, hown, hts⟩ hE (kc_X9_find_1_1 l dC dI cB cI cJ cZ cQ aL aS q _ ta (A2 5 4) hI hta r10) (cwV 2 hts (goodVk (wk_in_5 _ (List.mem_of_getElem? (i := 53) rfl)) (wk_in_5 _ (List.mem_of_getElem? (i := 54) rfl)) (wk_in_5 _ (List.mem_of_getElem? (i := 55) rfl)) (wk_in_0 _ (List.mem_of_getElem? (i := 6) rfl)) (wk_in_5 _ (List.mem_of_getElem? (i := 56) rfl))) rfl rfl rfl (by decide +kernel) ⟨Nat.le_of_ble_eq_true rfl, Nat.le_of_ble_eq_true rfl⟩) hK hDD hA0 hP hS ta 9 (wkT hta) rfl rfl hl.1 (Nat.le_of_ble_eq_true rfl) dX5_asked_29 (fun z11 A12 H locs hw13 hP hS => ?_)
    obtain ⟨rfl, hw13⟩ := hw13
    have ghw13 : q_X9_find_1_1 ta (A2 5 4) A6 z11 := hw13
    have hw13 := hw13.2
    refine lv_istore_n (lv' := [(3, .int (iI z11)), (0, .ref (q 3)), (1, .ref (q ta)), (2, .int (iI 1))]) hx hb dX5_asked_32 rfl hl (by decide) rfl (fun ls hl => ?_)
    refine lv_iload_n hx hb dX5_asked_33 rfl (lv_at hl 0 rfl) ?_
    refine lv_iconst (v := iI (-1)) hx hb dX5_asked_34 (by decide +kernel) ?_
    refine lv_icmp_ne (tgt := 46) hx hb dX5_asked_35 (by decide) (fun c14 => ?_) (fun c14 => ?_)
    · have c14 : ¬ z11 = (-1) := mt (i_eq (rb hw13 (by decide) (by decide)) ⟨by decide, by decide⟩).mpr c14
      refine lv_iload_n hx hb dX5_asked_46 rfl (lv_at hl 0 rfl) ?_
      exact RET z11 _ _ _ _ _ ⟨(u_r_X5_asked_2_1 ⟨z1, A2, ghw3, (Or.inl ⟨c5, ⟨A6, ghw7, ⟨z11, ghw13, (Or.inl ⟨c14, ⟨rfl, rfl⟩⟩)⟩⟩⟩)⟩), hI, fk.trans (fk.trans (fk.rf) hf4 rfl rfl) hf8 rfl rfl, by omega⟩ hP hS dX5_asked_47
    · have c14 : z11 = (-1) := (i_eq (rb hw13 (by decide) (by decide)) ⟨by decide, by decide⟩).mp c14
      refine lv_aload_n hx hb dX5_asked_38 rfl (lv_at hl 1 rfl) ?_
      refine lv_iconst (v := iI 3) hx hb dX5_asked_39 (by decide +kernel) ?_
      refine k_calli (As := [.int (iI 3)]) (rest := []) ⟨hx, hb, hml, hown, hts⟩ hE (kc_X5_none l dC dI cB cI cJ cZ cQ aL aS q _ 3 hI ⟨by decide, by decide⟩) (cwV 1 hts (goodVk (wk_in_5 _ (List.mem_of_getElem? (i := 33) rfl)) (wk_in_5 _ (List.mem_of_getElem? (i := 34) rfl)) (wk_in_5 _ (List.mem_of_getElem? (i := 35) rfl)) (wk_in_5 _ (List.mem_of_getElem? (i := 28) rfl)) (wk_in_5 _ (List.mem_of_getElem? (i := 36) rfl))) rfl rfl rfl (by decide +kernel) ⟨Nat.le_of_ble_eq_true rfl, Nat.le_of_ble_eq_true rfl⟩) hK hDD hA0 hP hS 3 5 (wkRD) rfl rfl hl.1 (Nat.le_of_ble_eq_true rfl) dX5_asked_40 (fun z15 A16 H locs hw17 hP hS => ?_)
      have ghw17 : q_X5_none 3 A6 z15 A16 := hw17
      obtain ⟨_, hI, hf18, hw17⟩ := hw17
      refine lv_goto (tgt := 47) hx hb dX5_asked_43 (by decide) ?_
      exact RET z15 _ _ _ _ _ ⟨(u_r_X5_asked_2_1 ⟨z1, A2, ghw3, (Or.inl ⟨c5, ⟨A6, ghw7, ⟨z11, ghw13, (Or.inr ⟨c14, ⟨z15, A16, ghw17, ⟨rfl, rfl⟩⟩⟩)⟩⟩⟩)⟩), hI, fk.trans (fk.trans (fk.trans (fk.rf) hf4 rfl rfl) hf8 rfl rfl) hf18 rfl rfl, by omega⟩ hP hS dX5_asked_47
  · have c5 : z1 = 0 := (i_eq0 (rb hw3 (by decide) (by decide))).mp c5
    refine lv_aload_n hx hb dX5_asked_7 rfl (lv_at hl 0 rfl) ?_
    refine lv_iconst (v := iI 1) hx hb dX5_asked_8 (by decide +kernel) ?_
    refine k_calli (As := [.int (iI 1)]) (rest := []) ⟨hx, hb, hml, hown, hts⟩ hE (kc_X5_none l dC dI cB cI cJ cZ cQ aL aS q _ 1 hI ⟨by decide, by decide⟩) (cwV 1 hts (goodVk (wk_in_5 _ (List.mem_of_getElem? (i := 33) rfl)) (wk_in_5 _ (List.mem_of_getElem? (i := 34) rfl)) (wk_in_5 _ (List.mem_of_getElem? (i := 35) rfl)) (wk_in_5 _ (List.mem_of_getElem? (i := 28) rfl)) (wk_in_5 _ (List.mem_of_getElem? (i := 36) rfl))) rfl rfl rfl (by decide +kernel) ⟨Nat.le_of_ble_eq_true rfl, Nat.le_of_ble_eq_true rfl⟩) hK hDD hA0 hP hS 3 5 (wkRD) rfl rfl hl.1 (Nat.le_of_ble_eq_true rfl) dX5_asked_9 (fun z19 A20 H locs hw21 hP hS => ?_)
    have ghw21 : q_X5_none 1 A2 z19 A20 := hw21
    obtain ⟨_, hI, hf22, hw21⟩ := hw21
    exact RET z19 _ _ _ _ _ ⟨(u_r_X5_asked_2_1 ⟨z1, A2, ghw3, (Or.inr ⟨c5, ⟨z19, A20, ghw21, ⟨rfl, rfl⟩⟩⟩)⟩), hI, fk.trans (fk.trans (fk.rf) hf4 rfl rfl) hf22 rfl rfl, by omega⟩ hP hS dX5_asked_12

abbrev tr_r_X5_asked_2_2 (ta : Nat) (A : St) (z : Int) (u : St) : Prop := (∃ z1 : Int, ∃ A2 : St, q_X5_isNameAhead A z1 A2 ∧ (((¬ z1 = 0) ∧ (∃ A6 : St, q_X3_pass A2 A6 ∧ (∃ z11 : Int, q_X9_find_1_2 ta (A2 5 4) A6 z11 ∧ (((¬ z11 = (-1)) ∧ (z = z11 ∧ u = A6)) ∨ ((z11 = (-1)) ∧ (∃ z15 : Int, ∃ A16 : St, q_X5_none 3 A6 z15 A16 ∧ (z = z15 ∧ u = A16))))))) ∨ ((z1 = 0) ∧ (∃ z19 : Int, ∃ A20 : St, q_X5_none 1 A2 z19 A20 ∧ (z = z19 ∧ u = A20)))))
def r_X5_asked_2_2 (ta : Nat) (A : St) (z : Int) (u : St) : Prop := tr_r_X5_asked_2_2 ta A z u
theorem u_r_X5_asked_2_2 {ta : Nat} {A : St} {z : Int} {u : St} (h : tr_r_X5_asked_2_2 ta A z u) : r_X5_asked_2_2 ta A z u := h
def q_X5_asked_2_2 (ta : Nat) (A : St) (z : Int) (u : St) : Prop := r_X5_asked_2_2 ta A z u ∧ IK u ∧ fk [] [(3, 2), (3, 3), (5, 1), (5, 2), (5, 3), (5, 4), (5, 5), (5, 6)] A u ∧ (-1 ≤ z ∧ z ≤ 3)
def ws_kc_X5_asked_2_2 : List Cond := .code yX5_asked cX5_asked 4 (some .int) :: WY
set_option maxHeartbeats 4000000 in
set_option maxRecDepth 100000 in
theorem kc_X5_asked_2_2 (l : Launch) (dC : Nat → ClassId) (dI : Nat → Nat → Nat) (cB cI cJ cZ cQ : ClassId) (aL aS : Nat) (q : Nat → Nat) (A : St) (ta : Nat) (hI : IK A) (hta : isT ta) : KMi l yX5_asked ws_kc_X5_asked_2_2 ({ frames := 3, cells := 0, slots := 0, locals := 66 } : Room) aL aS (dC, dI) (tyA cB cI cJ cZ cQ) (WK cB cI cJ cZ cQ q) A [.ref (q 3), .ref (q ta), .int (iI 2)] (fun z u => r_X5_asked_2_2 ta A z u ∧ IK u ∧ fk [] [(3, 2), (3, 3), (5, 1), (5, 2), (5, 3), (5, 4), (5, 5), (5, 6)] A u ∧ (-1 ≤ z ∧ z ≤ 3)) := by
  refine k_meti (cc := cX5_asked) (maxL := 4) WK_adr (plainFor_of_name (by decide +kernel)) rfl (Nat.le_of_ble_eq_true rfl) (fun p e s m below meth c Q AS ls hx hb hml hown hts hK hDD hA0 hE RET H locs hP hS hl => ?_)
  have hown : s.vm.findClass RX5 = some m.cls := hown
  have hl : lv_has ls 4 [(0, .ref (q 3)), (1, .ref (q ta)), (2, .int (iI 2))] := hl
  have hiX5 : ∀ w ∈ u_ws RX5 TX5 5, w ∈ ws_kc_X5_asked_2_2 := fun w h => List.mem_cons_of_mem _ (wy_layX5 w h)
  have hiX3 : ∀ w ∈ u_ws RX3 TX3 7, w ∈ ws_kc_X5_asked_2_2 := fun w h => List.mem_cons_of_mem _ (wy_layX3 w h)
  refine lv_aload_n hx hb dX5_asked_0 rfl (lv_at hl 0 rfl) ?_
  refine k_calli (As := []) (rest := []) ⟨hx, hb, hml, hown, hts⟩ hE (kc_X5_isNameAhead l dC dI cB cI cJ cZ cQ aL aS q _ hI) (cwV 0 hts (goodVk (wk_in_5 _ (List.mem_of_getElem? (i := 49) rfl)) (wk_in_5 _ (List.mem_of_getElem? (i := 50) rfl)) (wk_in_5 _ (List.mem_of_getElem? (i := 51) rfl)) (wk_in_5 _ (List.mem_of_getElem? (i := 28) rfl)) (wk_in_5 _ (List.mem_of_getElem? (i := 52) rfl))) rfl rfl rfl (by decide +kernel) ⟨Nat.le_of_ble_eq_true rfl, Nat.le_of_ble_eq_true rfl⟩) hK hDD hA0 hP hS 3 5 (wkRD) rfl rfl hl.1 (Nat.le_of_ble_eq_true rfl) dX5_asked_1 (fun z1 A2 H locs hw3 hP hS => ?_)
  have ghw3 : q_X5_isNameAhead A z1 A2 := hw3
  obtain ⟨_, hI, hf4, hw3⟩ := hw3
  refine lv_if_ne (tgt := 13) hx hb dX5_asked_4 (by decide) (fun c5 => ?_) (fun c5 => ?_)
  · have c5 : ¬ z1 = 0 := mt (i_eq0 (rb hw3 (by decide) (by decide))).mpr c5
    refine lv_aload_n hx hb dX5_asked_13 rfl (lv_at hl 0 rfl) ?_
    refine va_get (D := (dC, dI)) (ci := 5) (v := .ref (q 5)) (C := RX5) (T := TX5) (N := 5) hx hb hts hiX5 hown hK hP 3 (wkRD) rfl 0 (by decide) (hts _ (List.mem_cons_of_mem _ (wk_in_5 _ (List.mem_of_getElem? (i := 6) rfl)))) (fun _ h9 => h9) rfl dX5_asked_14 ?_
    refine k_callv (As := []) (rest := []) ⟨hx, hb, hml, hown, hts⟩ hE (kc_X3_pass l dC dI cB cI cJ cZ cQ aL aS q _ hI) (cwV 0 hts (goodVk (wk_in_5 _ (List.mem_of_getElem? (i := 42) rfl)) (wk_in_5 _ (List.mem_of_getElem? (i := 43) rfl)) (wk_in_5 _ (List.mem_of_getElem? (i := 44) rfl)) (wk_in_4 _ (List.mem_of_getElem? (i := 10) rfl)) (wk_in_3 _ (List.mem_of_getElem? (i := 58) rfl))) rfl rfl rfl (by decide +kernel) ⟨Nat.le_of_ble_eq_true rfl, Nat.le_of_ble_eq_true rfl⟩) hK hDD hA0 hP hS 5 3 (wkLX) rfl rfl hl.1 (Nat.le_of_ble_eq_true rfl) dX5_asked_17 (fun A6 H locs hw7 hP hS => ?_)
    have ghw7 : q_X3_pass A2 A6 := hw7
    obtain ⟨_, hI, hf8, hw7⟩ := hw7
    clear hw7
    refine lv_aload_n hx hb dX5_asked_20 rfl (lv_at hl 1 rfl) ?_
    refine lv_iload_n hx hb dX5_asked_21 rfl (lv_at hl 2 rfl) ?_
    refine lv_aload_n hx hb dX5_asked_22 rfl (lv_at hl 0 rfl) ?_
    refine va_get (D := (dC, dI)) (ci := 5) (v := .ref (q 5)) (C := RX5) (T := TX5) (N := 5) hx hb hts hiX5 hown hK hP 3 (wkRD) rfl 0 (by decide) (hts _ (List.mem_cons_of_mem _ (wk_in_5 _ (List.mem_of_getElem? (i := 6) rfl)))) (fun _ h9 => h9) rfl dX5_asked_23 ?_
    have e9 : A6 5 4 = (A2 5 4) := (hf8 5 4 rfl rfl)
    have r10 : (-2147483648 : Int) ≤ (A2 5 4) ∧ (A2 5 4) ≤ 2147483647 := by rw [← e9]; exact irLX_4 hI
    refine va_get (D := (dC, dI)) (ci := 3) (v := .int (iI (A6 5 4))) (C := RX3) (T := TX3) (N := 7) hx hb hts hiX3 hown hK hP 5 (wkLX) rfl 4 (by decide) (hts _ (List.mem_cons_of_mem _ (wk_in_5 _ (List.mem_of_getElem? (i := 30) rfl)))) (fun _ h9 => h9) rfl dX5_asked_26 ?_
    refine tp_i (y := iI (A2 5 4)) (congrArg iI e9) ?_
    refine k_calli (As := [.int (iI 2), .int (iI (A2 5 4))]) (rest := []) ⟨hx, hb, hml, hown, hts⟩ hE (kc_X9_find_1_2 l dC dI cB cI cJ cZ cQ aL aS q _ ta (A2 5 4) hI hta r10) (cwV 2 hts (goodVk (wk_in_5 _ (List.mem_of_getElem? (i := 53) rfl)) (wk_in_5 _ (List.mem_of_getElem? (i := 54) rfl)) (wk_in_5 _ (List.mem_of_getElem? (i := 55) rfl)) (wk_in_0 _ (List.mem_of_getElem? (i := 6) rfl)) (wk_in_5 _ (List.mem_of_getElem? (i := 56) rfl))) rfl rfl rfl (by decide +kernel) ⟨Nat.le_of_ble_eq_true rfl, Nat.le_of_ble_eq_true rfl⟩) hK hDD hA0 hP hS ta 9 (wkT hta) rfl rfl hl.1 (Nat.le_of_ble_eq_true rfl) dX5_asked_29 (fun z11 A12 H locs hw13 hP hS => ?_)
    obtain ⟨rfl, hw13⟩ := hw13
    have ghw13 : q_X9_find_1_2 ta (A2 5 4) A6 z11 := hw13
    have hw13 := hw13.2
    refine lv_istore_n (lv' := [(3, .int (iI z11)), (0, .ref (q 3)), (1, .ref (q ta)), (2, .int (iI 2))]) hx hb dX5_asked_32 rfl hl (by decide) rfl (fun ls hl => ?_)
    refine lv_iload_n hx hb dX5_asked_33 rfl (lv_at hl 0 rfl) ?_
    refine lv_iconst (v := iI (-1)) hx hb dX5_asked_34 (by decide +kernel) ?_
    refine lv_icmp_ne (tgt := 46) hx hb dX5_asked_35 (by decide) (fun c14 => ?_) (fun c14 => ?_)
    · have c14 : ¬ z11 = (-1) := mt (i_eq (rb hw13 (by decide) (by decide)) ⟨by decide, by decide⟩).mpr c14
      refine lv_iload_n hx hb dX5_asked_46 rfl (lv_at hl 0 rfl) ?_
      exact RET z11 _ _ _ _ _ ⟨(u_r_X5_asked_2_2 ⟨z1, A2, ghw3, (Or.inl ⟨c5, ⟨A6, ghw7, ⟨z11, ghw13, (Or.inl ⟨c14, ⟨rfl, rfl⟩⟩)⟩⟩⟩)⟩), hI, fk.trans (fk.trans (fk.rf) hf4 rfl rfl) hf8 rfl rfl, by omega⟩ hP hS dX5_asked_47
    · have c14 : z11 = (-1) := (i_eq (rb hw13 (by decide) (by decide)) ⟨by decide, by decide⟩).mp c14
      refine lv_aload_n hx hb dX5_asked_38 rfl (lv_at hl 1 rfl) ?_
      refine lv_iconst (v := iI 3) hx hb dX5_asked_39 (by decide +kernel) ?_
      refine k_calli (As := [.int (iI 3)]) (rest := []) ⟨hx, hb, hml, hown, hts⟩ hE (kc_X5_none l dC dI cB cI cJ cZ cQ aL aS q _ 3 hI ⟨by decide, by decide⟩) (cwV 1 hts (goodVk (wk_in_5 _ (List.mem_of_getElem? (i := 33) rfl)) (wk_in_5 _ (List.mem_of_getElem? (i := 34) rfl)) (wk_in_5 _ (List.mem_of_getElem? (i := 35) rfl)) (wk_in_5 _ (List.mem_of_getElem? (i := 28) rfl)) (wk_in_5 _ (List.mem_of_getElem? (i := 36) rfl))) rfl rfl rfl (by decide +kernel) ⟨Nat.le_of_ble_eq_true rfl, Nat.le_of_ble_eq_true rfl⟩) hK hDD hA0 hP hS 3 5 (wkRD) rfl rfl hl.1 (Nat.le_of_ble_eq_true rfl) dX5_asked_40 (fun z15 A16 H locs hw17 hP hS => ?_)
      have ghw17 : q_X5_none 3 A6 z15 A16 := hw17
      obtain ⟨_, hI, hf18, hw17⟩ := hw17
      refine lv_goto (tgt := 47) hx hb dX5_asked_43 (by decide) ?_
      exact RET z15 _ _ _ _ _ ⟨(u_r_X5_asked_2_2 ⟨z1, A2, ghw3, (Or.inl ⟨c5, ⟨A6, ghw7, ⟨z11, ghw13, (Or.inr ⟨c14, ⟨z15, A16, ghw17, ⟨rfl, rfl⟩⟩⟩)⟩⟩⟩)⟩), hI, fk.trans (fk.trans (fk.trans (fk.rf) hf4 rfl rfl) hf8 rfl rfl) hf18 rfl rfl, by omega⟩ hP hS dX5_asked_47
  · have c5 : z1 = 0 := (i_eq0 (rb hw3 (by decide) (by decide))).mp c5
    refine lv_aload_n hx hb dX5_asked_7 rfl (lv_at hl 0 rfl) ?_
    refine lv_iconst (v := iI 1) hx hb dX5_asked_8 (by decide +kernel) ?_
    refine k_calli (As := [.int (iI 1)]) (rest := []) ⟨hx, hb, hml, hown, hts⟩ hE (kc_X5_none l dC dI cB cI cJ cZ cQ aL aS q _ 1 hI ⟨by decide, by decide⟩) (cwV 1 hts (goodVk (wk_in_5 _ (List.mem_of_getElem? (i := 33) rfl)) (wk_in_5 _ (List.mem_of_getElem? (i := 34) rfl)) (wk_in_5 _ (List.mem_of_getElem? (i := 35) rfl)) (wk_in_5 _ (List.mem_of_getElem? (i := 28) rfl)) (wk_in_5 _ (List.mem_of_getElem? (i := 36) rfl))) rfl rfl rfl (by decide +kernel) ⟨Nat.le_of_ble_eq_true rfl, Nat.le_of_ble_eq_true rfl⟩) hK hDD hA0 hP hS 3 5 (wkRD) rfl rfl hl.1 (Nat.le_of_ble_eq_true rfl) dX5_asked_9 (fun z19 A20 H locs hw21 hP hS => ?_)
    have ghw21 : q_X5_none 1 A2 z19 A20 := hw21
    obtain ⟨_, hI, hf22, hw21⟩ := hw21
    exact RET z19 _ _ _ _ _ ⟨(u_r_X5_asked_2_2 ⟨z1, A2, ghw3, (Or.inr ⟨c5, ⟨z19, A20, ghw21, ⟨rfl, rfl⟩⟩⟩)⟩), hI, fk.trans (fk.trans (fk.rf) hf4 rfl rfl) hf22 rfl rfl, by omega⟩ hP hS dX5_asked_12

abbrev tr_r_X5_asked_2_3 (ta : Nat) (A : St) (z : Int) (u : St) : Prop := (∃ z1 : Int, ∃ A2 : St, q_X5_isNameAhead A z1 A2 ∧ (((¬ z1 = 0) ∧ (∃ A6 : St, q_X3_pass A2 A6 ∧ (∃ z11 : Int, q_X9_find_1_3 ta (A2 5 4) A6 z11 ∧ (((¬ z11 = (-1)) ∧ (z = z11 ∧ u = A6)) ∨ ((z11 = (-1)) ∧ (∃ z15 : Int, ∃ A16 : St, q_X5_none 3 A6 z15 A16 ∧ (z = z15 ∧ u = A16))))))) ∨ ((z1 = 0) ∧ (∃ z19 : Int, ∃ A20 : St, q_X5_none 1 A2 z19 A20 ∧ (z = z19 ∧ u = A20)))))
def r_X5_asked_2_3 (ta : Nat) (A : St) (z : Int) (u : St) : Prop := tr_r_X5_asked_2_3 ta A z u
theorem u_r_X5_asked_2_3 {ta : Nat} {A : St} {z : Int} {u : St} (h : tr_r_X5_asked_2_3 ta A z u) : r_X5_asked_2_3 ta A z u := h
def q_X5_asked_2_3 (ta : Nat) (A : St) (z : Int) (u : St) : Prop := r_X5_asked_2_3 ta A z u ∧ IK u ∧ fk [] [(3, 2), (3, 3), (5, 1), (5, 2), (5, 3), (5, 4), (5, 5), (5, 6)] A u ∧ (-1 ≤ z ∧ z ≤ 2)
def ws_kc_X5_asked_2_3 : List Cond := .code yX5_asked cX5_asked 4 (some .int) :: WY
set_option maxHeartbeats 4000000 in
set_option maxRecDepth 100000 in
theorem kc_X5_asked_2_3 (l : Launch) (dC : Nat → ClassId) (dI : Nat → Nat → Nat) (cB cI cJ cZ cQ : ClassId) (aL aS : Nat) (q : Nat → Nat) (A : St) (ta : Nat) (hI : IK A) (hta : isT ta) : KMi l yX5_asked ws_kc_X5_asked_2_3 ({ frames := 3, cells := 0, slots := 0, locals := 66 } : Room) aL aS (dC, dI) (tyA cB cI cJ cZ cQ) (WK cB cI cJ cZ cQ q) A [.ref (q 3), .ref (q ta), .int (iI 3)] (fun z u => r_X5_asked_2_3 ta A z u ∧ IK u ∧ fk [] [(3, 2), (3, 3), (5, 1), (5, 2), (5, 3), (5, 4), (5, 5), (5, 6)] A u ∧ (-1 ≤ z ∧ z ≤ 2)) := by
  refine k_meti (cc := cX5_asked) (maxL := 4) WK_adr (plainFor_of_name (by decide +kernel)) rfl (Nat.le_of_ble_eq_true rfl) (fun p e s m below meth c Q AS ls hx hb hml hown hts hK hDD hA0 hE RET H locs hP hS hl => ?_)
  have hown : s.vm.findClass RX5 = some m.cls := hown
  have hl : lv_has ls 4 [(0, .ref (q 3)), (1, .ref (q ta)), (2, .int (iI 3))] := hl
  have hiX5 : ∀ w ∈ u_ws RX5 TX5 5, w ∈ ws_kc_X5_asked_2_3 := fun w h => List.mem_cons_of_mem _ (wy_layX5 w h)
  have hiX3 : ∀ w ∈ u_ws RX3 TX3 7, w ∈ ws_kc_X5_asked_2_3 := fun w h => List.mem_cons_of_mem _ (wy_layX3 w h)
  refine lv_aload_n hx hb dX5_asked_0 rfl (lv_at hl 0 rfl) ?_
  refine k_calli (As := []) (rest := []) ⟨hx, hb, hml, hown, hts⟩ hE (kc_X5_isNameAhead l dC dI cB cI cJ cZ cQ aL aS q _ hI) (cwV 0 hts (goodVk (wk_in_5 _ (List.mem_of_getElem? (i := 49) rfl)) (wk_in_5 _ (List.mem_of_getElem? (i := 50) rfl)) (wk_in_5 _ (List.mem_of_getElem? (i := 51) rfl)) (wk_in_5 _ (List.mem_of_getElem? (i := 28) rfl)) (wk_in_5 _ (List.mem_of_getElem? (i := 52) rfl))) rfl rfl rfl (by decide +kernel) ⟨Nat.le_of_ble_eq_true rfl, Nat.le_of_ble_eq_true rfl⟩) hK hDD hA0 hP hS 3 5 (wkRD) rfl rfl hl.1 (Nat.le_of_ble_eq_true rfl) dX5_asked_1 (fun z1 A2 H locs hw3 hP hS => ?_)
  have ghw3 : q_X5_isNameAhead A z1 A2 := hw3
  obtain ⟨_, hI, hf4, hw3⟩ := hw3
  refine lv_if_ne (tgt := 13) hx hb dX5_asked_4 (by decide) (fun c5 => ?_) (fun c5 => ?_)
  · have c5 : ¬ z1 = 0 := mt (i_eq0 (rb hw3 (by decide) (by decide))).mpr c5
    refine lv_aload_n hx hb dX5_asked_13 rfl (lv_at hl 0 rfl) ?_
    refine va_get (D := (dC, dI)) (ci := 5) (v := .ref (q 5)) (C := RX5) (T := TX5) (N := 5) hx hb hts hiX5 hown hK hP 3 (wkRD) rfl 0 (by decide) (hts _ (List.mem_cons_of_mem _ (wk_in_5 _ (List.mem_of_getElem? (i := 6) rfl)))) (fun _ h9 => h9) rfl dX5_asked_14 ?_
    refine k_callv (As := []) (rest := []) ⟨hx, hb, hml, hown, hts⟩ hE (kc_X3_pass l dC dI cB cI cJ cZ cQ aL aS q _ hI) (cwV 0 hts (goodVk (wk_in_5 _ (List.mem_of_getElem? (i := 42) rfl)) (wk_in_5 _ (List.mem_of_getElem? (i := 43) rfl)) (wk_in_5 _ (List.mem_of_getElem? (i := 44) rfl)) (wk_in_4 _ (List.mem_of_getElem? (i := 10) rfl)) (wk_in_3 _ (List.mem_of_getElem? (i := 58) rfl))) rfl rfl rfl (by decide +kernel) ⟨Nat.le_of_ble_eq_true rfl, Nat.le_of_ble_eq_true rfl⟩) hK hDD hA0 hP hS 5 3 (wkLX) rfl rfl hl.1 (Nat.le_of_ble_eq_true rfl) dX5_asked_17 (fun A6 H locs hw7 hP hS => ?_)
    have ghw7 : q_X3_pass A2 A6 := hw7
    obtain ⟨_, hI, hf8, hw7⟩ := hw7
    clear hw7
    refine lv_aload_n hx hb dX5_asked_20 rfl (lv_at hl 1 rfl) ?_
    refine lv_iload_n hx hb dX5_asked_21 rfl (lv_at hl 2 rfl) ?_
    refine lv_aload_n hx hb dX5_asked_22 rfl (lv_at hl 0 rfl) ?_
    refine va_get (D := (dC, dI)) (ci := 5) (v := .ref (q 5)) (C := RX5) (T := TX5) (N := 5) hx hb hts hiX5 hown hK hP 3 (wkRD) rfl 0 (by decide) (hts _ (List.mem_cons_of_mem _ (wk_in_5 _ (List.mem_of_getElem? (i := 6) rfl)))) (fun _ h9 => h9) rfl dX5_asked_23 ?_
    have e9 : A6 5 4 = (A2 5 4) := (hf8 5 4 rfl rfl)
    have r10 : (-2147483648 : Int) ≤ (A2 5 4) ∧ (A2 5 4) ≤ 2147483647 := by rw [← e9]; exact irLX_4 hI
    refine va_get (D := (dC, dI)) (ci := 3) (v := .int (iI (A6 5 4))) (C := RX3) (T := TX3) (N := 7) hx hb hts hiX3 hown hK hP 5 (wkLX) rfl 4 (by decide) (hts _ (List.mem_cons_of_mem _ (wk_in_5 _ (List.mem_of_getElem? (i := 30) rfl)))) (fun _ h9 => h9) rfl dX5_asked_26 ?_
    refine tp_i (y := iI (A2 5 4)) (congrArg iI e9) ?_
    refine k_calli (As := [.int (iI 3), .int (iI (A2 5 4))]) (rest := []) ⟨hx, hb, hml, hown, hts⟩ hE (kc_X9_find_1_3 l dC dI cB cI cJ cZ cQ aL aS q _ ta (A2 5 4) hI hta r10) (cwV 2 hts (goodVk (wk_in_5 _ (List.mem_of_getElem? (i := 53) rfl)) (wk_in_5 _ (List.mem_of_getElem? (i := 54) rfl)) (wk_in_5 _ (List.mem_of_getElem? (i := 55) rfl)) (wk_in_0 _ (List.mem_of_getElem? (i := 6) rfl)) (wk_in_5 _ (List.mem_of_getElem? (i := 56) rfl))) rfl rfl rfl (by decide +kernel) ⟨Nat.le_of_ble_eq_true rfl, Nat.le_of_ble_eq_true rfl⟩) hK hDD hA0 hP hS ta 9 (wkT hta) rfl rfl hl.1 (Nat.le_of_ble_eq_true rfl) dX5_asked_29 (fun z11 A12 H locs hw13 hP hS => ?_)
    obtain ⟨rfl, hw13⟩ := hw13
    have ghw13 : q_X9_find_1_3 ta (A2 5 4) A6 z11 := hw13
    have hw13 := hw13.2
    refine lv_istore_n (lv' := [(3, .int (iI z11)), (0, .ref (q 3)), (1, .ref (q ta)), (2, .int (iI 3))]) hx hb dX5_asked_32 rfl hl (by decide) rfl (fun ls hl => ?_)
    refine lv_iload_n hx hb dX5_asked_33 rfl (lv_at hl 0 rfl) ?_
    refine lv_iconst (v := iI (-1)) hx hb dX5_asked_34 (by decide +kernel) ?_
    refine lv_icmp_ne (tgt := 46) hx hb dX5_asked_35 (by decide) (fun c14 => ?_) (fun c14 => ?_)
    · have c14 : ¬ z11 = (-1) := mt (i_eq (rb hw13 (by decide) (by decide)) ⟨by decide, by decide⟩).mpr c14
      refine lv_iload_n hx hb dX5_asked_46 rfl (lv_at hl 0 rfl) ?_
      exact RET z11 _ _ _ _ _ ⟨(u_r_X5_asked_2_3 ⟨z1, A2, ghw3, (Or.inl ⟨c5, ⟨A6, ghw7, ⟨z11, ghw13, (Or.inl ⟨c14, ⟨rfl, rfl⟩⟩)⟩⟩⟩)⟩), hI, fk.trans (fk.trans (fk.rf) hf4 rfl rfl) hf8 rfl rfl, by omega⟩ hP hS dX5_asked_47
    · have c14 : z11 = (-1) := (i_eq (rb hw13 (by decide) (by decide)) ⟨by decide, by decide⟩).mp c14
      refine lv_aload_n hx hb dX5_asked_38 rfl (lv_at hl 1 rfl) ?_
      refine lv_iconst (v := iI 3) hx hb dX5_asked_39 (by decide +kernel) ?_
      refine k_calli (As := [.int (iI 3)]) (rest := []) ⟨hx, hb, hml, hown, hts⟩ hE (kc_X5_none l dC dI cB cI cJ cZ cQ aL aS q _ 3 hI ⟨by decide, by decide⟩) (cwV 1 hts (goodVk (wk_in_5 _ (List.mem_of_getElem? (i := 33) rfl)) (wk_in_5 _ (List.mem_of_getElem? (i := 34) rfl)) (wk_in_5 _ (List.mem_of_getElem? (i := 35) rfl)) (wk_in_5 _ (List.mem_of_getElem? (i := 28) rfl)) (wk_in_5 _ (List.mem_of_getElem? (i := 36) rfl))) rfl rfl rfl (by decide +kernel) ⟨Nat.le_of_ble_eq_true rfl, Nat.le_of_ble_eq_true rfl⟩) hK hDD hA0 hP hS 3 5 (wkRD) rfl rfl hl.1 (Nat.le_of_ble_eq_true rfl) dX5_asked_40 (fun z15 A16 H locs hw17 hP hS => ?_)
      have ghw17 : q_X5_none 3 A6 z15 A16 := hw17
      obtain ⟨_, hI, hf18, hw17⟩ := hw17
      refine lv_goto (tgt := 47) hx hb dX5_asked_43 (by decide) ?_
      exact RET z15 _ _ _ _ _ ⟨(u_r_X5_asked_2_3 ⟨z1, A2, ghw3, (Or.inl ⟨c5, ⟨A6, ghw7, ⟨z11, ghw13, (Or.inr ⟨c14, ⟨z15, A16, ghw17, ⟨rfl, rfl⟩⟩⟩)⟩⟩⟩)⟩), hI, fk.trans (fk.trans (fk.trans (fk.rf) hf4 rfl rfl) hf8 rfl rfl) hf18 rfl rfl, by omega⟩ hP hS dX5_asked_47
  · have c5 : z1 = 0 := (i_eq0 (rb hw3 (by decide) (by decide))).mp c5
    refine lv_aload_n hx hb dX5_asked_7 rfl (lv_at hl 0 rfl) ?_
    refine lv_iconst (v := iI 1) hx hb dX5_asked_8 (by decide +kernel) ?_
    refine k_calli (As := [.int (iI 1)]) (rest := []) ⟨hx, hb, hml, hown, hts⟩ hE (kc_X5_none l dC dI cB cI cJ cZ cQ aL aS q _ 1 hI ⟨by decide, by decide⟩) (cwV 1 hts (goodVk (wk_in_5 _ (List.mem_of_getElem? (i := 33) rfl)) (wk_in_5 _ (List.mem_of_getElem? (i := 34) rfl)) (wk_in_5 _ (List.mem_of_getElem? (i := 35) rfl)) (wk_in_5 _ (List.mem_of_getElem? (i := 28) rfl)) (wk_in_5 _ (List.mem_of_getElem? (i := 36) rfl))) rfl rfl rfl (by decide +kernel) ⟨Nat.le_of_ble_eq_true rfl, Nat.le_of_ble_eq_true rfl⟩) hK hDD hA0 hP hS 3 5 (wkRD) rfl rfl hl.1 (Nat.le_of_ble_eq_true rfl) dX5_asked_9 (fun z19 A20 H locs hw21 hP hS => ?_)
    have ghw21 : q_X5_none 1 A2 z19 A20 := hw21
    obtain ⟨_, hI, hf22, hw21⟩ := hw21
    exact RET z19 _ _ _ _ _ ⟨(u_r_X5_asked_2_3 ⟨z1, A2, ghw3, (Or.inr ⟨c5, ⟨z19, A20, ghw21, ⟨rfl, rfl⟩⟩⟩)⟩), hI, fk.trans (fk.trans (fk.rf) hf4 rfl rfl) hf22 rfl rfl, by omega⟩ hP hS dX5_asked_12

abbrev tr_r_X5_asked_2_4 (ta : Nat) (A : St) (z : Int) (u : St) : Prop := (∃ z1 : Int, ∃ A2 : St, q_X5_isNameAhead A z1 A2 ∧ (((¬ z1 = 0) ∧ (∃ A6 : St, q_X3_pass A2 A6 ∧ (∃ z11 : Int, q_X9_find_1_4 ta (A2 5 4) A6 z11 ∧ (((¬ z11 = (-1)) ∧ (z = z11 ∧ u = A6)) ∨ ((z11 = (-1)) ∧ (∃ z15 : Int, ∃ A16 : St, q_X5_none 3 A6 z15 A16 ∧ (z = z15 ∧ u = A16))))))) ∨ ((z1 = 0) ∧ (∃ z19 : Int, ∃ A20 : St, q_X5_none 1 A2 z19 A20 ∧ (z = z19 ∧ u = A20)))))
def r_X5_asked_2_4 (ta : Nat) (A : St) (z : Int) (u : St) : Prop := tr_r_X5_asked_2_4 ta A z u
theorem u_r_X5_asked_2_4 {ta : Nat} {A : St} {z : Int} {u : St} (h : tr_r_X5_asked_2_4 ta A z u) : r_X5_asked_2_4 ta A z u := h
def q_X5_asked_2_4 (ta : Nat) (A : St) (z : Int) (u : St) : Prop := r_X5_asked_2_4 ta A z u ∧ IK u ∧ fk [] [(3, 2), (3, 3), (5, 1), (5, 2), (5, 3), (5, 4), (5, 5), (5, 6)] A u ∧ (-1 ≤ z ∧ z ≤ 3)
def ws_kc_X5_asked_2_4 : List Cond := .code yX5_asked cX5_asked 4 (some .int) :: WY
set_option maxHeartbeats 4000000 in
set_option maxRecDepth 100000 in
theorem kc_X5_asked_2_4 (l : Launch) (dC : Nat → ClassId) (dI : Nat → Nat → Nat) (cB cI cJ cZ cQ : ClassId) (aL aS : Nat) (q : Nat → Nat) (A : St) (ta : Nat) (hI : IK A) (hta : isT ta) : KMi l yX5_asked ws_kc_X5_asked_2_4 ({ frames := 3, cells := 0, slots := 0, locals := 66 } : Room) aL aS (dC, dI) (tyA cB cI cJ cZ cQ) (WK cB cI cJ cZ cQ q) A [.ref (q 3), .ref (q ta), .int (iI 4)] (fun z u => r_X5_asked_2_4 ta A z u ∧ IK u ∧ fk [] [(3, 2), (3, 3), (5, 1), (5, 2), (5, 3), (5, 4), (5, 5), (5, 6)] A u ∧ (-1 ≤ z ∧ z ≤ 3)) := by
  refine k_meti (cc := cX5_asked) (maxL := 4) WK_adr (plainFor_of_name (by decide +kernel)) rfl (Nat.le_of_ble_eq_true rfl) (fun p e s m below meth c Q AS ls hx hb hml hown hts hK hDD hA0 hE RET H locs hP hS hl => ?_)
  have hown : s.vm.findClass RX5 = some m.cls := hown
  have hl : lv_has ls 4 [(0, .ref (q 3)), (1, .ref (q ta)), (2, .int (iI 4))] := hl
  have hiX5 : ∀ w ∈ u_ws RX5 TX5 5, w ∈ ws_kc_X5_asked_2_4 := fun w h => List.mem_cons_of_mem _ (wy_layX5 w h)
  have hiX3 : ∀ w ∈ u_ws RX3 TX3 7, w ∈ ws_kc_X5_asked_2_4 := fun w h => List.mem_cons_of_mem _ (wy_layX3 w h)
  refine lv_aload_n hx hb dX5_asked_0 rfl (lv_at hl 0 rfl) ?_
  refine k_calli (As := []) (rest := []) ⟨hx, hb, hml, hown, hts⟩ hE (kc_X5_isNameAhead l dC dI cB cI cJ cZ cQ aL aS q _ hI) (cwV 0 hts (goodVk (wk_in_5 _ (List.mem_of_getElem? (i := 49) rfl)) (wk_in_5 _ (List.mem_of_getElem? (i := 50) rfl)) (wk_in_5 _ (List.mem_of_getElem? (i := 51) rfl)) (wk_in_5 _ (List.mem_of_getElem? (i := 28) rfl)) (wk_in_5 _ (List.mem_of_getElem? (i := 52) rfl))) rfl rfl rfl (by decide +kernel) ⟨Nat.le_of_ble_eq_true rfl, Nat.le_of_ble_eq_true rfl⟩) hK hDD hA0 hP hS 3 5 (wkRD) rfl rfl hl.1 (Nat.le_of_ble_eq_true rfl) dX5_asked_1 (fun z1 A2 H locs hw3 hP hS => ?_)
  have ghw3 : q_X5_isNameAhead A z1 A2 := hw3
  obtain ⟨_, hI, hf4, hw3⟩ := hw3
  refine lv_if_ne (tgt := 13) hx hb dX5_asked_4 (by decide) (fun c5 => ?_) (fun c5 => ?_)
  · have c5 : ¬ z1 = 0 := mt (i_eq0 (rb hw3 (by decide) (by decide))).mpr c5
    refine lv_aload_n hx hb dX5_asked_13 rfl (lv_at hl 0 rfl) ?_
    refine va_get (D := (dC, dI)) (ci := 5) (v := .ref (q 5)) (C := RX5) (T := TX5) (N := 5) hx hb hts hiX5 hown hK hP 3 (wkRD) rfl 0 (by decide) (hts _ (List.mem_cons_of_mem _ (wk_in_5 _ (List.mem_of_getElem? (i := 6) rfl)))) (fun _ h9 => h9) rfl dX5_asked_14 ?_
    refine k_callv (As := []) (rest := []) ⟨hx, hb, hml, hown, hts⟩ hE (kc_X3_pass l dC dI cB cI cJ cZ cQ aL aS q _ hI) (cwV 0 hts (goodVk (wk_in_5 _ (List.mem_of_getElem? (i := 42) rfl)) (wk_in_5 _ (List.mem_of_getElem? (i := 43) rfl)) (wk_in_5 _ (List.mem_of_getElem? (i := 44) rfl)) (wk_in_4 _ (List.mem_of_getElem? (i := 10) rfl)) (wk_in_3 _ (List.mem_of_getElem? (i := 58) rfl))) rfl rfl rfl (by decide +kernel) ⟨Nat.le_of_ble_eq_true rfl, Nat.le_of_ble_eq_true rfl⟩) hK hDD hA0 hP hS 5 3 (wkLX) rfl rfl hl.1 (Nat.le_of_ble_eq_true rfl) dX5_asked_17 (fun A6 H locs hw7 hP hS => ?_)
    have ghw7 : q_X3_pass A2 A6 := hw7
    obtain ⟨_, hI, hf8, hw7⟩ := hw7
    clear hw7
    refine lv_aload_n hx hb dX5_asked_20 rfl (lv_at hl 1 rfl) ?_
    refine lv_iload_n hx hb dX5_asked_21 rfl (lv_at hl 2 rfl) ?_
    refine lv_aload_n hx hb dX5_asked_22 rfl (lv_at hl 0 rfl) ?_
    refine va_get (D := (dC, dI)) (ci := 5) (v := .ref (q 5)) (C := RX5) (T := TX5) (N := 5) hx hb hts hiX5 hown hK hP 3 (wkRD) rfl 0 (by decide) (hts _ (List.mem_cons_of_mem _ (wk_in_5 _ (List.mem_of_getElem? (i := 6) rfl)))) (fun _ h9 => h9) rfl dX5_asked_23 ?_
    have e9 : A6 5 4 = (A2 5 4) := (hf8 5 4 rfl rfl)
    have r10 : (-2147483648 : Int) ≤ (A2 5 4) ∧ (A2 5 4) ≤ 2147483647 := by rw [← e9]; exact irLX_4 hI
    refine va_get (D := (dC, dI)) (ci := 3) (v := .int (iI (A6 5 4))) (C := RX3) (T := TX3) (N := 7) hx hb hts hiX3 hown hK hP 5 (wkLX) rfl 4 (by decide) (hts _ (List.mem_cons_of_mem _ (wk_in_5 _ (List.mem_of_getElem? (i := 30) rfl)))) (fun _ h9 => h9) rfl dX5_asked_26 ?_
    refine tp_i (y := iI (A2 5 4)) (congrArg iI e9) ?_
    refine k_calli (As := [.int (iI 4), .int (iI (A2 5 4))]) (rest := []) ⟨hx, hb, hml, hown, hts⟩ hE (kc_X9_find_1_4 l dC dI cB cI cJ cZ cQ aL aS q _ ta (A2 5 4) hI hta r10) (cwV 2 hts (goodVk (wk_in_5 _ (List.mem_of_getElem? (i := 53) rfl)) (wk_in_5 _ (List.mem_of_getElem? (i := 54) rfl)) (wk_in_5 _ (List.mem_of_getElem? (i := 55) rfl)) (wk_in_0 _ (List.mem_of_getElem? (i := 6) rfl)) (wk_in_5 _ (List.mem_of_getElem? (i := 56) rfl))) rfl rfl rfl (by decide +kernel) ⟨Nat.le_of_ble_eq_true rfl, Nat.le_of_ble_eq_true rfl⟩) hK hDD hA0 hP hS ta 9 (wkT hta) rfl rfl hl.1 (Nat.le_of_ble_eq_true rfl) dX5_asked_29 (fun z11 A12 H locs hw13 hP hS => ?_)
    obtain ⟨rfl, hw13⟩ := hw13
    have ghw13 : q_X9_find_1_4 ta (A2 5 4) A6 z11 := hw13
    have hw13 := hw13.2
    refine lv_istore_n (lv' := [(3, .int (iI z11)), (0, .ref (q 3)), (1, .ref (q ta)), (2, .int (iI 4))]) hx hb dX5_asked_32 rfl hl (by decide) rfl (fun ls hl => ?_)
    refine lv_iload_n hx hb dX5_asked_33 rfl (lv_at hl 0 rfl) ?_
    refine lv_iconst (v := iI (-1)) hx hb dX5_asked_34 (by decide +kernel) ?_
    refine lv_icmp_ne (tgt := 46) hx hb dX5_asked_35 (by decide) (fun c14 => ?_) (fun c14 => ?_)
    · have c14 : ¬ z11 = (-1) := mt (i_eq (rb hw13 (by decide) (by decide)) ⟨by decide, by decide⟩).mpr c14
      refine lv_iload_n hx hb dX5_asked_46 rfl (lv_at hl 0 rfl) ?_
      exact RET z11 _ _ _ _ _ ⟨(u_r_X5_asked_2_4 ⟨z1, A2, ghw3, (Or.inl ⟨c5, ⟨A6, ghw7, ⟨z11, ghw13, (Or.inl ⟨c14, ⟨rfl, rfl⟩⟩)⟩⟩⟩)⟩), hI, fk.trans (fk.trans (fk.rf) hf4 rfl rfl) hf8 rfl rfl, by omega⟩ hP hS dX5_asked_47
    · have c14 : z11 = (-1) := (i_eq (rb hw13 (by decide) (by decide)) ⟨by decide, by decide⟩).mp c14
      refine lv_aload_n hx hb dX5_asked_38 rfl (lv_at hl 1 rfl) ?_
      refine lv_iconst (v := iI 3) hx hb dX5_asked_39 (by decide +kernel) ?_
      refine k_calli (As := [.int (iI 3)]) (rest := []) ⟨hx, hb, hml, hown, hts⟩ hE (kc_X5_none l dC dI cB cI cJ cZ cQ aL aS q _ 3 hI ⟨by decide, by decide⟩) (cwV 1 hts (goodVk (wk_in_5 _ (List.mem_of_getElem? (i := 33) rfl)) (wk_in_5 _ (List.mem_of_getElem? (i := 34) rfl)) (wk_in_5 _ (List.mem_of_getElem? (i := 35) rfl)) (wk_in_5 _ (List.mem_of_getElem? (i := 28) rfl)) (wk_in_5 _ (List.mem_of_getElem? (i := 36) rfl))) rfl rfl rfl (by decide +kernel) ⟨Nat.le_of_ble_eq_true rfl, Nat.le_of_ble_eq_true rfl⟩) hK hDD hA0 hP hS 3 5 (wkRD) rfl rfl hl.1 (Nat.le_of_ble_eq_true rfl) dX5_asked_40 (fun z15 A16 H locs hw17 hP hS => ?_)
      have ghw17 : q_X5_none 3 A6 z15 A16 := hw17
      obtain ⟨_, hI, hf18, hw17⟩ := hw17
      refine lv_goto (tgt := 47) hx hb dX5_asked_43 (by decide) ?_
      exact RET z15 _ _ _ _ _ ⟨(u_r_X5_asked_2_4 ⟨z1, A2, ghw3, (Or.inl ⟨c5, ⟨A6, ghw7, ⟨z11, ghw13, (Or.inr ⟨c14, ⟨z15, A16, ghw17, ⟨rfl, rfl⟩⟩⟩)⟩⟩⟩)⟩), hI, fk.trans (fk.trans (fk.trans (fk.rf) hf4 rfl rfl) hf8 rfl rfl) hf18 rfl rfl, by omega⟩ hP hS dX5_asked_47
  · have c5 : z1 = 0 := (i_eq0 (rb hw3 (by decide) (by decide))).mp c5
    refine lv_aload_n hx hb dX5_asked_7 rfl (lv_at hl 0 rfl) ?_
    refine lv_iconst (v := iI 1) hx hb dX5_asked_8 (by decide +kernel) ?_
    refine k_calli (As := [.int (iI 1)]) (rest := []) ⟨hx, hb, hml, hown, hts⟩ hE (kc_X5_none l dC dI cB cI cJ cZ cQ aL aS q _ 1 hI ⟨by decide, by decide⟩) (cwV 1 hts (goodVk (wk_in_5 _ (List.mem_of_getElem? (i := 33) rfl)) (wk_in_5 _ (List.mem_of_getElem? (i := 34) rfl)) (wk_in_5 _ (List.mem_of_getElem? (i := 35) rfl)) (wk_in_5 _ (List.mem_of_getElem? (i := 28) rfl)) (wk_in_5 _ (List.mem_of_getElem? (i := 36) rfl))) rfl rfl rfl (by decide +kernel) ⟨Nat.le_of_ble_eq_true rfl, Nat.le_of_ble_eq_true rfl⟩) hK hDD hA0 hP hS 3 5 (wkRD) rfl rfl hl.1 (Nat.le_of_ble_eq_true rfl) dX5_asked_9 (fun z19 A20 H locs hw21 hP hS => ?_)
    have ghw21 : q_X5_none 1 A2 z19 A20 := hw21
    obtain ⟨_, hI, hf22, hw21⟩ := hw21
    exact RET z19 _ _ _ _ _ ⟨(u_r_X5_asked_2_4 ⟨z1, A2, ghw3, (Or.inr ⟨c5, ⟨z19, A20, ghw21, ⟨rfl, rfl⟩⟩⟩)⟩), hI, fk.trans (fk.trans (fk.rf) hf4 rfl rfl) hf22 rfl rfl, by omega⟩ hP hS dX5_asked_12

abbrev tr_r_X5_readLost (ta : Nat) (A : St) (z : Int) (u : St) : Prop := (∃ z1 : Int, ∃ A2 : St, q_X5_asked_2_1 ta A z1 A2 ∧ (((¬ z1 = (-1)) ∧ (∃ z8 : Int, z8 = oShr (A ta 15) z1 ∧ (∃ z9 : Int, z9 = oAnd z8 1 ∧ (((z9 = 0) ∧ (∃ z11 : Int, z11 = oShl 1 z1 ∧ (∃ z12 : Int, z12 = oOr (A ta 15) z11 ∧ (∃ A13 : St, A13 = stA A2 ta 15 z12 ∧ (z = 1 ∧ u = A13))))) ∨ ((¬ z9 = 0) ∧ (∃ z14 : Int, ∃ A15 : St, q_X5_bad 3 A2 z14 A15 ∧ (z = z14 ∧ u = A15))))))) ∨ ((z1 = (-1)) ∧ (z = 0 ∧ u = A2))))
def r_X5_readLost (ta : Nat) (A : St) (z : Int) (u : St) : Prop := tr_r_X5_readLost ta A z u
theorem u_r_X5_readLost {ta : Nat} {A : St} {z : Int} {u : St} (h : tr_r_X5_readLost ta A z u) : r_X5_readLost ta A z u := h
def q_X5_readLost (ta : Nat) (A : St) (z : Int) (u : St) : Prop := r_X5_readLost ta A z u ∧ IK u ∧ fk [] [(3, 2), (3, 3), (5, 1), (5, 2), (5, 3), (5, 4), (5, 5), (5, 6), (51, 15), (82, 15)] A u ∧ (0 ≤ z ∧ z ≤ 1)
def ws_kc_X5_readLost : List Cond := .code yX5_readLost cX5_readLost 3 (some .boolean) :: WY
set_option maxHeartbeats 4000000 in
set_option maxRecDepth 100000 in
theorem kc_X5_readLost (l : Launch) (dC : Nat → ClassId) (dI : Nat → Nat → Nat) (cB cI cJ cZ cQ : ClassId) (aL aS : Nat) (q : Nat → Nat) (A : St) (ta : Nat) (hI : IK A) (hta : isT ta) : KMi l yX5_readLost ws_kc_X5_readLost ({ frames := 4, cells := 0, slots := 0, locals := 89 } : Room) aL aS (dC, dI) (tyA cB cI cJ cZ cQ) (WK cB cI cJ cZ cQ q) A [.ref (q 3), .ref (q ta)] (fun z u => r_X5_readLost ta A z u ∧ IK u ∧ fk [] [(3, 2), (3, 3), (5, 1), (5, 2), (5, 3), (5, 4), (5, 5), (5, 6), (51, 15), (82, 15)] A u ∧ (0 ≤ z ∧ z ≤ 1)) := by
  refine k_metz (cc := cX5_readLost) (maxL := 3) WK_adr (plainFor_of_name (by decide +kernel)) rfl (Nat.le_of_ble_eq_true rfl) (fun z u h => h.2.2.2) (fun p e s m below meth c Q AS ls hx hb hml hown hts hK hDD hA0 hE RET H locs hP hS hl => ?_)
  have hown : s.vm.findClass RX5 = some m.cls := hown
  have hl : lv_has ls 3 [(0, .ref (q 3)), (1, .ref (q ta))] := hl
  have hiX9 : ∀ w ∈ u_ws RX9 TX9 16, w ∈ ws_kc_X5_readLost := fun w h => List.mem_cons_of_mem _ (wy_layX9 w h)
  refine lv_aload_n hx hb dX5_readLost_0 rfl (lv_at hl 0 rfl) ?_
  refine lv_aload_n hx hb dX5_readLost_1 rfl (lv_at hl 1 rfl) ?_
  refine lv_iconst (v := iI 1) hx hb dX5_readLost_2 (by decide +kernel) ?_
  refine k_calli (As := [.ref (q ta), .int (iI 1)]) (rest := []) ⟨hx, hb, hml, hown, hts⟩ hE (kc_X5_asked_2_1 l dC dI cB cI cJ cZ cQ aL aS q _ ta hI hta) (cwV 2 hts (goodVk (wk_in_6 _ (List.mem_of_getElem? (i := 6) rfl)) (wk_in_6 _ (List.mem_of_getElem? (i := 7) rfl)) (wk_in_6 _ (List.mem_of_getElem? (i := 8) rfl)) (wk_in_5 _ (List.mem_of_getElem? (i := 28) rfl)) (wk_in_6 _ (List.mem_of_getElem? (i := 9) rfl))) rfl rfl rfl (by decide +kernel) ⟨Nat.le_of_ble_eq_true rfl, Nat.le_of_ble_eq_true rfl⟩) hK hDD hA0 hP hS 3 5 (wkRD) rfl rfl hl.1 (Nat.le_of_ble_eq_true rfl) dX5_readLost_3 (fun z1 A2 H locs hw3 hP hS => ?_)
  have ghw3 : q_X5_asked_2_1 ta A z1 A2 := hw3
  obtain ⟨_, hI, hf4, hw3⟩ := hw3
  refine lv_istore_n (lv' := [(2, .int (iI z1)), (0, .ref (q 3)), (1, .ref (q ta))]) hx hb dX5_readLost_6 rfl hl (by decide) rfl (fun ls hl => ?_)
  refine lv_iload_n hx hb dX5_readLost_7 rfl (lv_at hl 0 rfl) ?_
  refine lv_iconst (v := iI (-1)) hx hb dX5_readLost_8 (by decide +kernel) ?_
  refine lv_icmp_ne (tgt := 14) hx hb dX5_readLost_9 (by decide) (fun c5 => ?_) (fun c5 => ?_)
  · have c5 : ¬ z1 = (-1) := mt (i_eq (rb hw3 (by decide) (by decide)) ⟨by decide, by decide⟩).mpr c5
    refine lv_aload_n hx hb dX5_readLost_14 rfl (lv_at hl 2 rfl) ?_
    have e6 : A2 ta 15 = (A ta 15) := (hf4 ta 15 (isT.b2 (o := fun b => List.contains [] b) hta rfl rfl) (isT.b2 (o := fun b => fin2 [(3, 2), (3, 3), (5, 1), (5, 2), (5, 3), (5, 4), (5, 5), (5, 6)] b 15) hta rfl rfl))
    have r7 : (-2147483648 : Int) ≤ (A ta 15) ∧ (A ta 15) ≤ 2147483647 := by rw [← e6]; exact irT_15 hta hI
    refine va_get (D := (dC, dI)) (ci := 9) (v := .int (iI (A2 ta 15))) (C := RX9) (T := TX9) (N := 16) hx hb hts hiX9 hown hK hP ta (wkT hta) rfl 15 (by decide) (hts _ (List.mem_cons_of_mem _ (wk_in_8 _ (List.mem_of_getElem? (i := 43) rfl)))) (fun _ h9 => h9) rfl dX5_readLost_15 ?_
    refine tp_i (y := iI (A ta 15)) (congrArg iI e6) ?_
    refine lv_iload_n hx hb dX5_readLost_18 rfl (lv_at hl 0 rfl) ?_
    refine lv_ishr hx hb dX5_readLost_19 ?_
    refine x_absE (fun z8 gz8 hz8 => ?_)
    refine lv_iconst (v := iI 1) hx hb dX5_readLost_20 (by decide +kernel) ?_
    refine lv_iand hx hb dX5_readLost_21 ?_
    refine x_andE (b := 1) (by omega) (fun z9 gz9 hz9 => ?_)
    refine lv_if_eq (tgt := 31) hx hb dX5_readLost_22 (by decide) (fun c10 => ?_) (fun c10 => ?_)
    · have c10 : z9 = 0 := (i_eq0 (by omega)).mp c10
      refine lv_aload_n hx hb dX5_readLost_31 rfl (lv_at hl 2 rfl) ?_
      refine lv_dup hx hb dX5_readLost_32 rfl ?_
      refine va_get (D := (dC, dI)) (ci := 9) (v := .int (iI (A2 ta 15))) (C := RX9) (T := TX9) (N := 16) hx hb hts hiX9 hown hK hP ta (wkT hta) rfl 15 (by decide) (hts _ (List.mem_cons_of_mem _ (wk_in_8 _ (List.mem_of_getElem? (i := 43) rfl)))) (fun _ h9 => h9) rfl dX5_readLost_33 ?_
      refine tp_i (y := iI (A ta 15)) (congrArg iI e6) ?_
      refine lv_iconst (v := iI 1) hx hb dX5_readLost_36 (by decide +kernel) ?_
      refine lv_iload_n hx hb dX5_readLost_37 rfl (lv_at hl 0 rfl) ?_
      refine lv_ishl hx hb dX5_readLost_38 ?_
      refine x_absE (fun z11 gz11 hz11 => ?_)
      refine lv_ior hx hb dX5_readLost_39 ?_
      refine x_absE (fun z12 gz12 hz12 => ?_)
      refine k_put (Wf := WK cB cI cJ cZ cQ q) (D := (dC, dI)) (ci := 9) (v := .int (iI z12)) (ty := .int) (C := RX9) (T := TX9) (N := 16) hx hb hts hiX9 tyX9 tyX9_ok nmX9 hown hK hP hDD hS ta (wkT hta) rfl 15 (by decide) (hts _ (List.mem_cons_of_mem _ (wk_in_8 _ (List.mem_of_getElem? (i := 43) rfl)))) (fun _ h9 => h9) rfl (by decide +kernel) rfl rfl (Nat.le_of_ble_eq_true rfl) dX5_readLost_40 (wfT_15 hta (v := z12)) (fun H locs A13 hA13 hP hS => ?_)
      have hI := isT_15 hta hA13 hI (show (-2147483648 : Int) ≤ z12 ∧ z12 ≤ 2147483647 from hz12)
      refine lv_iconst (v := iI 1) hx hb dX5_readLost_43 (by decide +kernel) ?_
      exact RET 1 _ _ _ _ _ ⟨(u_r_X5_readLost ⟨z1, A2, ghw3, (Or.inl ⟨c5, ⟨z8, gz8.out, ⟨z9, gz9.out, (Or.inl ⟨c10, ⟨z11, gz11.out, ⟨z12, gz12.out, ⟨A13, hA13, ⟨rfl, rfl⟩⟩⟩⟩⟩)⟩⟩⟩)⟩), hI, fk.df (fk.trans (fk.rf) hf4 rfl rfl) hA13 (isT.b2 (o := fun b => fin2 [(3, 2), (3, 3), (5, 1), (5, 2), (5, 3), (5, 4), (5, 5), (5, 6), (51, 15), (82, 15)] b 15) hta rfl rfl), ⟨by decide, by decide⟩⟩ hP hS dX5_readLost_44
    · have c10 : ¬ z9 = 0 := mt (i_eq0 (by omega)).mpr c10
      refine lv_aload_n hx hb dX5_readLost_25 rfl (lv_at hl 1 rfl) ?_
      refine lv_iconst (v := iI 3) hx hb dX5_readLost_26 (by decide +kernel) ?_
      refine k_calli (As := [.int (iI 3)]) (rest := []) ⟨hx, hb, hml, hown, hts⟩ hE (kc_X5_bad l dC dI cB cI cJ cZ cQ aL aS q _ 3 hI ⟨by decide, by decide⟩) (cwV 1 hts (goodVk (wk_in_5 _ (List.mem_of_getElem? (i := 37) rfl)) (wk_in_5 _ (List.mem_of_getElem? (i := 38) rfl)) (wk_in_5 _ (List.mem_of_getElem? (i := 39) rfl)) (wk_in_5 _ (List.mem_of_getElem? (i := 28) rfl)) (wk_in_5 _ (List.mem_of_getElem? (i := 40) rfl))) rfl rfl rfl (by decide +kernel) ⟨Nat.le_of_ble_eq_true rfl, Nat.le_of_ble_eq_true rfl⟩) hK hDD hA0 hP hS 3 5 (wkRD) rfl rfl hl.1 (Nat.le_of_ble_eq_true rfl) dX5_readLost_27 (fun z14 A15 H locs hw16 hP hS => ?_)
      have ghw16 : q_X5_bad 3 A2 z14 A15 := hw16
      obtain ⟨_, hI, hf17, hw16⟩ := hw16
      have rz14 : 0 ≤ z14 ∧ z14 ≤ 1 := hw16.1
      have hw16 := hw16.2
      exact RET z14 _ _ _ _ _ ⟨(u_r_X5_readLost ⟨z1, A2, ghw3, (Or.inl ⟨c5, ⟨z8, gz8.out, ⟨z9, gz9.out, (Or.inr ⟨c10, ⟨z14, A15, ghw16, ⟨rfl, rfl⟩⟩⟩)⟩⟩⟩)⟩), hI, fk.trans (fk.trans (fk.rf) hf4 rfl rfl) hf17 rfl rfl, rz14⟩ hP hS dX5_readLost_30
  · have c5 : z1 = (-1) := (i_eq (rb hw3 (by decide) (by decide)) ⟨by decide, by decide⟩).mp c5
    refine lv_iconst (v := iI 0) hx hb dX5_readLost_12 (by decide +kernel) ?_
    exact RET 0 _ _ _ _ _ ⟨(u_r_X5_readLost ⟨z1, A2, ghw3, (Or.inr ⟨c5, ⟨rfl, rfl⟩⟩)⟩), hI, fk.trans (fk.rf) hf4 rfl rfl, ⟨by decide, by decide⟩⟩ hP hS dX5_readLost_13

abbrev tr_r_X5_passesWord (x1 : Int) (A : St) (z : Int) (u : St) : Prop := (∃ A1 : St, q_X3_look A A1 ∧ (((¬ (A1 5 2) = 1) ∧ (z = 0 ∧ u = A1)) ∨ (((A1 5 2) = 1) ∧ (((x1 < 0) ∧ (z = 0 ∧ u = A1)) ∨ ((¬ x1 < 0) ∧ (((26 ≤ x1) ∧ (z = 0 ∧ u = A1)) ∨ ((¬ 26 ≤ x1) ∧ (∃ z10 : Int, z10 = A1 4 (x1).toNat ∧ ((((A1 5 4) = z10) ∧ (∃ A12 : St, q_X3_pass A1 A12 ∧ (z = 1 ∧ u = A12))) ∨ ((¬ (A1 5 4) = z10) ∧ (z = 0 ∧ u = A1)))))))))))
def r_X5_passesWord (x1 : Int) (A : St) (z : Int) (u : St) : Prop := tr_r_X5_passesWord x1 A z u
theorem u_r_X5_passesWord {x1 : Int} {A : St} {z : Int} {u : St} (h : tr_r_X5_passesWord x1 A z u) : r_X5_passesWord x1 A z u := h
def q_X5_passesWord (x1 : Int) (A : St) (z : Int) (u : St) : Prop := r_X5_passesWord x1 A z u ∧ IK u ∧ fk [] [(5, 1), (5, 2), (5, 3), (5, 4), (5, 5), (5, 6)] A u ∧ (0 ≤ z ∧ z ≤ 1)
def ws_kc_X5_passesWord : List Cond := .code yX5_passesWord cX5_passesWord 2 (some .boolean) :: WY
set_option maxHeartbeats 4000000 in
set_option maxRecDepth 100000 in
theorem kc_X5_passesWord (l : Launch) (dC : Nat → ClassId) (dI : Nat → Nat → Nat) (cB cI cJ cZ cQ : ClassId) (aL aS : Nat) (q : Nat → Nat) (A : St) (x1 : Int) (hI : IK A) (hx1 : (-2147483648 : Int) ≤ x1 ∧ x1 ≤ 2147483647) : KMi l yX5_passesWord ws_kc_X5_passesWord ({ frames := 2, cells := 0, slots := 0, locals := 45 } : Room) aL aS (dC, dI) (tyA cB cI cJ cZ cQ) (WK cB cI cJ cZ cQ q) A [.ref (q 3), .int (iI x1)] (fun z u => r_X5_passesWord x1 A z u ∧ IK u ∧ fk [] [(5, 1), (5, 2), (5, 3), (5, 4), (5, 5), (5, 6)] A u ∧ (0 ≤ z ∧ z ≤ 1)) := by
  refine k_metz (cc := cX5_passesWord) (maxL := 2) WK_adr (plainFor_of_name (by decide +kernel)) rfl (Nat.le_of_ble_eq_true rfl) (fun z u h => h.2.2.2) (fun p e s m below meth c Q AS ls hx hb hml hown hts hK hDD hA0 hE RET H locs hP hS hl => ?_)
  have hown : s.vm.findClass RX5 = some m.cls := hown
  have hl : lv_has ls 2 [(0, .ref (q 3)), (1, .int (iI x1))] := hl
  have hiX5 : ∀ w ∈ u_ws RX5 TX5 5, w ∈ ws_kc_X5_passesWord := fun w h => List.mem_cons_of_mem _ (wy_layX5 w h)
  have hiX3 : ∀ w ∈ u_ws RX3 TX3 7, w ∈ ws_kc_X5_passesWord := fun w h => List.mem_cons_of_mem _ (wy_layX3 w h)
  refine lv_aload_n hx hb dX5_passesWord_0 rfl (lv_at hl 0 rfl) ?_
  refine va_get (D := (dC, dI)) (ci := 5) (v := .ref (q 5)) (C := RX5) (T := TX5) (N := 5) hx hb hts hiX5 hown hK hP 3 (wkRD) rfl 0 (by decide) (hts _ (List.mem_cons_of_mem _ (wk_in_5 _ (List.mem_of_getElem? (i := 6) rfl)))) (fun _ h9 => h9) rfl dX5_passesWord_1 ?_
  refine k_callv (As := []) (rest := []) ⟨hx, hb, hml, hown, hts⟩ hE (kc_X3_look l dC dI cB cI cJ cZ cQ aL aS q _ hI) (cwV 0 hts (goodVk (wk_in_5 _ (List.mem_of_getElem? (i := 22) rfl)) (wk_in_5 _ (List.mem_of_getElem? (i := 23) rfl)) (wk_in_5 _ (List.mem_of_getElem? (i := 24) rfl)) (wk_in_4 _ (List.mem_of_getElem? (i := 10) rfl)) (wk_in_4 _ (List.mem_of_getElem? (i := 2) rfl))) rfl rfl rfl (by decide +kernel) ⟨Nat.le_of_ble_eq_true rfl, Nat.le_of_ble_eq_true rfl⟩) hK hDD hA0 hP hS 5 3 (wkLX) rfl rfl hl.1 (Nat.le_of_ble_eq_true rfl) dX5_passesWord_4 (fun A1 H locs hw2 hP hS => ?_)
  have ghw2 : q_X3_look A A1 := hw2
  obtain ⟨_, hI, hf3, hw2⟩ := hw2
  clear hw2
  refine lv_aload_n hx hb dX5_passesWord_7 rfl (lv_at hl 0 rfl) ?_
  refine va_get (D := (dC, dI)) (ci := 5) (v := .ref (q 5)) (C := RX5) (T := TX5) (N := 5) hx hb hts hiX5 hown hK hP 3 (wkRD) rfl 0 (by decide) (hts _ (List.mem_cons_of_mem _ (wk_in_5 _ (List.mem_of_getElem? (i := 6) rfl)))) (fun _ h9 => h9) rfl dX5_passesWord_8 ?_
  have r4 : (0 : Int) ≤ (A1 5 2) ∧ (A1 5 2) ≤ 4 := irLX_2 hI
  refine va_get (D := (dC, dI)) (ci := 3) (v := .int (iI (A1 5 2))) (C := RX3) (T := TX3) (N := 7) hx hb hts hiX3 hown hK hP 5 (wkLX) rfl 2 (by decide) (hts _ (List.mem_cons_of_mem _ (wk_in_5 _ (List.mem_of_getElem? (i := 9) rfl)))) (fun _ h9 => h9) rfl dX5_passesWord_11 ?_
  refine lv_iconst (v := iI 1) hx hb dX5_passesWord_14 (by decide +kernel) ?_
  refine lv_icmp_ne (tgt := 44) hx hb dX5_passesWord_15 (by decide) (fun c5 => ?_) (fun c5 => ?_)
  · have c5 : ¬ (A1 5 2) = 1 := mt (i_eq (rb r4 (by decide) (by decide)) ⟨by decide, by decide⟩).mpr c5
    refine lv_iconst (v := iI 0) hx hb dX5_passesWord_44 (by decide +kernel) ?_
    exact RET 0 _ _ _ _ _ ⟨(u_r_X5_passesWord ⟨A1, ghw2, (Or.inl ⟨c5, ⟨rfl, rfl⟩⟩)⟩), hI, fk.trans (fk.rf) hf3 rfl rfl, ⟨by decide, by decide⟩⟩ hP hS dX5_passesWord_45
  · have c5 : (A1 5 2) = 1 := (i_eq (rb r4 (by decide) (by decide)) ⟨by decide, by decide⟩).mp c5
    refine lv_iload_n hx hb dX5_passesWord_18 rfl (lv_at hl 1 rfl) ?_
    refine lv_if_lt (tgt := 44) hx hb dX5_passesWord_19 (by decide) (fun c6 => ?_) (fun c6 => ?_)
    · have c6 : x1 < 0 := (i_lt0 hx1).mp c6
      refine lv_iconst (v := iI 0) hx hb dX5_passesWord_44 (by decide +kernel) ?_
      exact RET 0 _ _ _ _ _ ⟨(u_r_X5_passesWord ⟨A1, ghw2, (Or.inr ⟨c5, (Or.inl ⟨c6, ⟨rfl, rfl⟩⟩)⟩)⟩), hI, fk.trans (fk.rf) hf3 rfl rfl, ⟨by decide, by decide⟩⟩ hP hS dX5_passesWord_45
    · have c6 : ¬ x1 < 0 := mt (i_lt0 hx1).mpr c6
      refine lv_iload_n hx hb dX5_passesWord_22 rfl (lv_at hl 1 rfl) ?_
      refine lv_bipush (v := iI 26) hx hb dX5_passesWord_23 (by decide +kernel) ?_
      refine lv_icmp_ge (tgt := 44) hx hb dX5_passesWord_25 (by decide) (fun c7 => ?_) (fun c7 => ?_)
      · have c7 : 26 ≤ x1 := (i_le ⟨by decide, by decide⟩ hx1).mp c7
        refine lv_iconst (v := iI 0) hx hb dX5_passesWord_44 (by decide +kernel) ?_
        exact RET 0 _ _ _ _ _ ⟨(u_r_X5_passesWord ⟨A1, ghw2, (Or.inr ⟨c5, (Or.inr ⟨c6, (Or.inl ⟨c7, ⟨rfl, rfl⟩⟩)⟩)⟩)⟩), hI, fk.trans (fk.rf) hf3 rfl rfl, ⟨by decide, by decide⟩⟩ hP hS dX5_passesWord_45
      · have c7 : ¬ 26 ≤ x1 := mt (i_le ⟨by decide, by decide⟩ hx1).mpr c7
        refine lv_aload_n hx hb dX5_passesWord_28 rfl (lv_at hl 0 rfl) ?_
        refine va_get (D := (dC, dI)) (ci := 5) (v := .ref (q 5)) (C := RX5) (T := TX5) (N := 5) hx hb hts hiX5 hown hK hP 3 (wkRD) rfl 0 (by decide) (hts _ (List.mem_cons_of_mem _ (wk_in_5 _ (List.mem_of_getElem? (i := 6) rfl)))) (fun _ h9 => h9) rfl dX5_passesWord_29 ?_
        have r8 : (-2147483648 : Int) ≤ (A1 5 4) ∧ (A1 5 4) ≤ 2147483647 := irLX_4 hI
        refine va_get (D := (dC, dI)) (ci := 3) (v := .int (iI (A1 5 4))) (C := RX3) (T := TX3) (N := 7) hx hb hts hiX3 hown hK hP 5 (wkLX) rfl 4 (by decide) (hts _ (List.mem_cons_of_mem _ (wk_in_5 _ (List.mem_of_getElem? (i := 30) rfl)))) (fun _ h9 => h9) rfl dX5_passesWord_32 ?_
        refine lv_aload_n hx hb dX5_passesWord_35 rfl (lv_at hl 0 rfl) ?_
        refine va_get (D := (dC, dI)) (ci := 5) (v := .ref (q 4)) (C := RX5) (T := TX5) (N := 5) hx hb hts hiX5 hown hK hP 3 (wkRD) rfl 1 (by decide) (hts _ (List.mem_cons_of_mem _ (wk_in_5 _ (List.mem_of_getElem? (i := 31) rfl)))) (fun _ h9 => h9) rfl dX5_passesWord_36 ?_
        refine lv_iload_n hx hb dX5_passesWord_39 rfl (lv_at hl 1 rfl) ?_
        have a9 : ∀ k, A1 4 k = A 4 k := fun k => hf3 4 k rfl rfl
        refine x_iald (Wf := WK cB cI cJ cZ cQ q) hx hb hK hP 4 1 (wkRDo) rfl (by omega) (by decide) dX5_passesWord_40 (fun z10 hz10 => ?_)
        have rz10 : (-2147483648 : Int) ≤ z10 ∧ z10 ≤ 2147483647 := by rw [hz10]; exact irRDo hI
        have gz10 := Hd.mk hz10
        have hz10 : z10 = A 4 (x1).toNat := hz10.trans (a9 _)
        refine lv_icmp_eq (tgt := 46) hx hb dX5_passesWord_41 (by decide) (fun c11 => ?_) (fun c11 => ?_)
        · have c11 : (A1 5 4) = z10 := (i_eq r8 rz10).mp c11
          refine lv_aload_n hx hb dX5_passesWord_46 rfl (lv_at hl 0 rfl) ?_
          refine va_get (D := (dC, dI)) (ci := 5) (v := .ref (q 5)) (C := RX5) (T := TX5) (N := 5) hx hb hts hiX5 hown hK hP 3 (wkRD) rfl 0 (by decide) (hts _ (List.mem_cons_of_mem _ (wk_in_5 _ (List.mem_of_getElem? (i := 6) rfl)))) (fun _ h9 => h9) rfl dX5_passesWord_47 ?_
          refine k_callv (As := []) (rest := []) ⟨hx, hb, hml, hown, hts⟩ hE (kc_X3_pass l dC dI cB cI cJ cZ cQ aL aS q _ hI) (cwV 0 hts (goodVk (wk_in_5 _ (List.mem_of_getElem? (i := 42) rfl)) (wk_in_5 _ (List.mem_of_getElem? (i := 43) rfl)) (wk_in_5 _ (List.mem_of_getElem? (i := 44) rfl)) (wk_in_4 _ (List.mem_of_getElem? (i := 10) rfl)) (wk_in_3 _ (List.mem_of_getElem? (i := 58) rfl))) rfl rfl rfl (by decide +kernel) ⟨Nat.le_of_ble_eq_true rfl, Nat.le_of_ble_eq_true rfl⟩) hK hDD hA0 hP hS 5 3 (wkLX) rfl rfl hl.1 (Nat.le_of_ble_eq_true rfl) dX5_passesWord_50 (fun A12 H locs hw13 hP hS => ?_)
          have ghw13 : q_X3_pass A1 A12 := hw13
          obtain ⟨_, hI, hf14, hw13⟩ := hw13
          clear hw13
          refine lv_iconst (v := iI 1) hx hb dX5_passesWord_53 (by decide +kernel) ?_
          exact RET 1 _ _ _ _ _ ⟨(u_r_X5_passesWord ⟨A1, ghw2, (Or.inr ⟨c5, (Or.inr ⟨c6, (Or.inr ⟨c7, ⟨z10, gz10.out, (Or.inl ⟨c11, ⟨A12, ghw13, ⟨rfl, rfl⟩⟩⟩)⟩⟩)⟩)⟩)⟩), hI, fk.trans (fk.trans (fk.rf) hf3 rfl rfl) hf14 rfl rfl, ⟨by decide, by decide⟩⟩ hP hS dX5_passesWord_54
        · have c11 : ¬ (A1 5 4) = z10 := mt (i_eq r8 rz10).mpr c11
          refine lv_iconst (v := iI 0) hx hb dX5_passesWord_44 (by decide +kernel) ?_
          exact RET 0 _ _ _ _ _ ⟨(u_r_X5_passesWord ⟨A1, ghw2, (Or.inr ⟨c5, (Or.inr ⟨c6, (Or.inr ⟨c7, ⟨z10, gz10.out, (Or.inr ⟨c11, ⟨rfl, rfl⟩⟩)⟩⟩)⟩)⟩)⟩), hI, fk.trans (fk.rf) hf3 rfl rfl, ⟨by decide, by decide⟩⟩ hP hS dX5_passesWord_45

abbrev tr_r_X5_ownWord (x1 : Int) (A : St) (z : Int) (u : St) : Prop := (∃ z1 : Int, ∃ A2 : St, q_X5_passesWord x1 A z1 A2 ∧ (((¬ z1 = 0) ∧ (z = 1 ∧ u = A2)) ∨ ((z1 = 0) ∧ (∃ z6 : Int, ∃ A7 : St, q_X5_bad 1 A2 z6 A7 ∧ (z = 0 ∧ u = A7)))))
def r_X5_ownWord (x1 : Int) (A : St) (z : Int) (u : St) : Prop := tr_r_X5_ownWord x1 A z u
theorem u_r_X5_ownWord {x1 : Int} {A : St} {z : Int} {u : St} (h : tr_r_X5_ownWord x1 A z u) : r_X5_ownWord x1 A z u := h
def q_X5_ownWord (x1 : Int) (A : St) (z : Int) (u : St) : Prop := r_X5_ownWord x1 A z u ∧ IK u ∧ fk [] [(3, 2), (3, 3), (5, 1), (5, 2), (5, 3), (5, 4), (5, 5), (5, 6)] A u ∧ (0 ≤ z ∧ z ≤ 1)
def ws_kc_X5_ownWord : List Cond := .code yX5_ownWord cX5_ownWord 2 (some .boolean) :: WY
set_option maxHeartbeats 4000000 in
set_option maxRecDepth 100000 in
theorem kc_X5_ownWord (l : Launch) (dC : Nat → ClassId) (dI : Nat → Nat → Nat) (cB cI cJ cZ cQ : ClassId) (aL aS : Nat) (q : Nat → Nat) (A : St) (x1 : Int) (hI : IK A) (hx1 : (-2147483648 : Int) ≤ x1 ∧ x1 ≤ 2147483647) : KMi l yX5_ownWord ws_kc_X5_ownWord ({ frames := 3, cells := 0, slots := 0, locals := 66 } : Room) aL aS (dC, dI) (tyA cB cI cJ cZ cQ) (WK cB cI cJ cZ cQ q) A [.ref (q 3), .int (iI x1)] (fun z u => r_X5_ownWord x1 A z u ∧ IK u ∧ fk [] [(3, 2), (3, 3), (5, 1), (5, 2), (5, 3), (5, 4), (5, 5), (5, 6)] A u ∧ (0 ≤ z ∧ z ≤ 1)) := by
  refine k_metz (cc := cX5_ownWord) (maxL := 2) WK_adr (plainFor_of_name (by decide +kernel)) rfl (Nat.le_of_ble_eq_true rfl) (fun z u h => h.2.2.2) (fun p e s m below meth c Q AS ls hx hb hml hown hts hK hDD hA0 hE RET H locs hP hS hl => ?_)
  have hown : s.vm.findClass RX5 = some m.cls := hown
  have hl : lv_has ls 2 [(0, .ref (q 3)), (1, .int (iI x1))] := hl
  refine lv_aload_n hx hb dX5_ownWord_0 rfl (lv_at hl 0 rfl) ?_
  refine lv_iload_n hx hb dX5_ownWord_1 rfl (lv_at hl 1 rfl) ?_
  refine k_calli (As := [.int (iI x1)]) (rest := []) ⟨hx, hb, hml, hown, hts⟩ hE (kc_X5_passesWord l dC dI cB cI cJ cZ cQ aL aS q _ x1 hI hx1) (cwV 1 hts (goodVk (wk_in_6 _ (List.mem_of_getElem? (i := 27) rfl)) (wk_in_6 _ (List.mem_of_getElem? (i := 28) rfl)) (wk_in_6 _ (List.mem_of_getElem? (i := 29) rfl)) (wk_in_5 _ (List.mem_of_getElem? (i := 28) rfl)) (wk_in_6 _ (List.mem_of_getElem? (i := 30) rfl))) rfl rfl rfl (by decide +kernel) ⟨Nat.le_of_ble_eq_true rfl, Nat.le_of_ble_eq_true rfl⟩) hK hDD hA0 hP hS 3 5 (wkRD) rfl rfl hl.1 (Nat.le_of_ble_eq_true rfl) dX5_ownWord_2 (fun z1 A2 H locs hw3 hP hS => ?_)
  have ghw3 : q_X5_passesWord x1 A z1 A2 := hw3
  obtain ⟨_, hI, hf4, hw3⟩ := hw3
  refine lv_if_ne (tgt := 16) hx hb dX5_ownWord_5 (by decide) (fun c5 => ?_) (fun c5 => ?_)
  · have c5 : ¬ z1 = 0 := mt (i_eq0 (rb hw3 (by decide) (by decide))).mpr c5
    refine lv_iconst (v := iI 1) hx hb dX5_ownWord_16 (by decide +kernel) ?_
    refine lv_goto (tgt := 21) hx hb dX5_ownWord_17 (by decide) ?_
    exact RET 1 _ _ _ _ _ ⟨(u_r_X5_ownWord ⟨z1, A2, ghw3, (Or.inl ⟨c5, ⟨rfl, rfl⟩⟩)⟩), hI, fk.trans (fk.rf) hf4 rfl rfl, ⟨by decide, by decide⟩⟩ hP hS dX5_ownWord_21
  · have c5 : z1 = 0 := (i_eq0 (rb hw3 (by decide) (by decide))).mp c5
    refine lv_aload_n hx hb dX5_ownWord_8 rfl (lv_at hl 0 rfl) ?_
    refine lv_iconst (v := iI 1) hx hb dX5_ownWord_9 (by decide +kernel) ?_
    refine k_calli (As := [.int (iI 1)]) (rest := []) ⟨hx, hb, hml, hown, hts⟩ hE (kc_X5_bad l dC dI cB cI cJ cZ cQ aL aS q _ 1 hI ⟨by decide, by decide⟩) (cwV 1 hts (goodVk (wk_in_5 _ (List.mem_of_getElem? (i := 37) rfl)) (wk_in_5 _ (List.mem_of_getElem? (i := 38) rfl)) (wk_in_5 _ (List.mem_of_getElem? (i := 39) rfl)) (wk_in_5 _ (List.mem_of_getElem? (i := 28) rfl)) (wk_in_5 _ (List.mem_of_getElem? (i := 40) rfl))) rfl rfl rfl (by decide +kernel) ⟨Nat.le_of_ble_eq_true rfl, Nat.le_of_ble_eq_true rfl⟩) hK hDD hA0 hP hS 3 5 (wkRD) rfl rfl hl.1 (Nat.le_of_ble_eq_true rfl) dX5_ownWord_10 (fun z6 A7 H locs hw8 hP hS => ?_)
    have ghw8 : q_X5_bad 1 A2 z6 A7 := hw8
    obtain ⟨_, hI, hf9, hw8⟩ := hw8
    have rz6 : 0 ≤ z6 ∧ z6 ≤ 1 := hw8.1
    have hw8 := hw8.2
    refine lv_if_eq (tgt := 20) hx hb dX5_ownWord_13 (by decide) (fun _ => ?_) (fun c10 => False.elim (by have c10 : ¬ z6 = 0 := mt (i_eq0 (rb rz6 (by decide) (by decide))).mpr c10; omega))
    refine lv_iconst (v := iI 0) hx hb dX5_ownWord_20 (by decide +kernel) ?_
    exact RET 0 _ _ _ _ _ ⟨(u_r_X5_ownWord ⟨z1, A2, ghw3, (Or.inr ⟨c5, ⟨z6, A7, ghw8, ⟨rfl, rfl⟩⟩⟩)⟩), hI, fk.trans (fk.trans (fk.rf) hf4 rfl rfl) hf9 rfl rfl, ⟨by decide, by decide⟩⟩ hP hS dX5_ownWord_21

abbrev tr_r_X5_readShut (ta : Nat) (A : St) (z : Int) (u : St) : Prop := (∃ z1 : Int, ∃ A2 : St, q_X5_asked_2_1 ta A z1 A2 ∧ (((z1 = (-1)) ∧ (z = 0 ∧ u = A2)) ∨ ((¬ z1 = (-1)) ∧ (∃ z6 : Int, ∃ A7 : St, q_X5_ownWord 14 A2 z6 A7 ∧ (((¬ z6 = 0) ∧ (∃ z11 : Int, ∃ A12 : St, q_X5_asked_2_2 ta A7 z11 A12 ∧ (((¬ z11 = (-1)) ∧ (∃ z16 : Int, ∃ A17 : St, q_X6_push (ta + 22) z11 z1 A12 z16 A17 ∧ (((¬ z16 = 0) ∧ (z = 1 ∧ u = A17)) ∨ ((z16 = 0) ∧ (∃ z21 : Int, ∃ A22 : St, q_X5_bad 3 A17 z21 A22 ∧ (z = 0 ∧ u = A22)))))) ∨ ((z11 = (-1)) ∧ (z = 0 ∧ u = A12))))) ∨ ((z6 = 0) ∧ (z = 0 ∧ u = A7)))))))
def r_X5_readShut (ta : Nat) (A : St) (z : Int) (u : St) : Prop := tr_r_X5_readShut ta A z u
theorem u_r_X5_readShut {ta : Nat} {A : St} {z : Int} {u : St} (h : tr_r_X5_readShut ta A z u) : r_X5_readShut ta A z u := h
def q_X5_readShut (ta : Nat) (A : St) (z : Int) (u : St) : Prop := r_X5_readShut ta A z u ∧ IK u ∧ fk [35, 37, 38, 39, 40, 44, 46, 47, 48, 49, 76, 78, 79, 80, 81, 107, 109, 110, 111, 112] [(3, 2), (3, 3), (5, 1), (5, 2), (5, 3), (5, 4), (5, 5), (5, 6)] A u ∧ (0 ≤ z ∧ z ≤ 1)
def ws_kc_X5_readShut : List Cond := .code yX5_readShut cX5_readShut 4 (some .boolean) :: WY
set_option maxHeartbeats 4000000 in
set_option maxRecDepth 100000 in
theorem kc_X5_readShut (l : Launch) (dC : Nat → ClassId) (dI : Nat → Nat → Nat) (cB cI cJ cZ cQ : ClassId) (aL aS : Nat) (q : Nat → Nat) (A : St) (ta : Nat) (hI : IK A) (hta : isT ta) : KMi l yX5_readShut ws_kc_X5_readShut ({ frames := 4, cells := 0, slots := 0, locals := 89 } : Room) aL aS (dC, dI) (tyA cB cI cJ cZ cQ) (WK cB cI cJ cZ cQ q) A [.ref (q 3), .ref (q ta)] (fun z u => r_X5_readShut ta A z u ∧ IK u ∧ fk [35, 37, 38, 39, 40, 44, 46, 47, 48, 49, 76, 78, 79, 80, 81, 107, 109, 110, 111, 112] [(3, 2), (3, 3), (5, 1), (5, 2), (5, 3), (5, 4), (5, 5), (5, 6)] A u ∧ (0 ≤ z ∧ z ≤ 1)) := by
  refine k_metz (cc := cX5_readShut) (maxL := 4) WK_adr (plainFor_of_name (by decide +kernel)) rfl (Nat.le_of_ble_eq_true rfl) (fun z u h => h.2.2.2) (fun p e s m below meth c Q AS ls hx hb hml hown hts hK hDD hA0 hE RET H locs hP hS hl => ?_)
  have hown : s.vm.findClass RX5 = some m.cls := hown
  have hl : lv_has ls 4 [(0, .ref (q 3)), (1, .ref (q ta))] := hl
  have hiX9 : ∀ w ∈ u_ws RX9 TX9 16, w ∈ ws_kc_X5_readShut := fun w h => List.mem_cons_of_mem _ (wy_layX9 w h)
  refine lv_aload_n hx hb dX5_readShut_0 rfl (lv_at hl 0 rfl) ?_
  refine lv_aload_n hx hb dX5_readShut_1 rfl (lv_at hl 1 rfl) ?_
  refine lv_iconst (v := iI 1) hx hb dX5_readShut_2 (by decide +kernel) ?_
  refine k_calli (As := [.ref (q ta), .int (iI 1)]) (rest := []) ⟨hx, hb, hml, hown, hts⟩ hE (kc_X5_asked_2_1 l dC dI cB cI cJ cZ cQ aL aS q _ ta hI hta) (cwV 2 hts (goodVk (wk_in_6 _ (List.mem_of_getElem? (i := 6) rfl)) (wk_in_6 _ (List.mem_of_getElem? (i := 7) rfl)) (wk_in_6 _ (List.mem_of_getElem? (i := 8) rfl)) (wk_in_5 _ (List.mem_of_getElem? (i := 28) rfl)) (wk_in_6 _ (List.mem_of_getElem? (i := 9) rfl))) rfl rfl rfl (by decide +kernel) ⟨Nat.le_of_ble_eq_true rfl, Nat.le_of_ble_eq_true rfl⟩) hK hDD hA0 hP hS 3 5 (wkRD) rfl rfl hl.1 (Nat.le_of_ble_eq_true rfl) dX5_readShut_3 (fun z1 A2 H locs hw3 hP hS => ?_)
  have ghw3 : q_X5_asked_2_1 ta A z1 A2 := hw3
  obtain ⟨_, hI, hf4, hw3⟩ := hw3
  refine lv_istore_n (lv' := [(2, .int (iI z1)), (0, .ref (q 3)), (1, .ref (q ta))]) hx hb dX5_readShut_6 rfl hl (by decide) rfl (fun ls hl => ?_)
  refine lv_iload_n hx hb dX5_readShut_7 rfl (lv_at hl 0 rfl) ?_
  refine lv_iconst (v := iI (-1)) hx hb dX5_readShut_8 (by decide +kernel) ?_
  refine lv_icmp_eq (tgt := 21) hx hb dX5_readShut_9 (by decide) (fun c5 => ?_) (fun c5 => ?_)
  · have c5 : z1 = (-1) := (i_eq (rb hw3 (by decide) (by decide)) ⟨by decide, by decide⟩).mp c5
    refine lv_iconst (v := iI 0) hx hb dX5_readShut_21 (by decide +kernel) ?_
    exact RET 0 _ _ _ _ _ ⟨(u_r_X5_readShut ⟨z1, A2, ghw3, (Or.inl ⟨c5, ⟨rfl, rfl⟩⟩)⟩), hI, fk.trans (fk.rf) hf4 rfl rfl, ⟨by decide, by decide⟩⟩ hP hS dX5_readShut_22
  · have c5 : ¬ z1 = (-1) := mt (i_eq (rb hw3 (by decide) (by decide)) ⟨by decide, by decide⟩).mpr c5
    refine lv_aload_n hx hb dX5_readShut_12 rfl (lv_at hl 1 rfl) ?_
    refine lv_bipush (v := iI 14) hx hb dX5_readShut_13 (by decide +kernel) ?_
    refine k_calli (As := [.int (iI 14)]) (rest := []) ⟨hx, hb, hml, hown, hts⟩ hE (kc_X5_ownWord l dC dI cB cI cJ cZ cQ aL aS q _ 14 hI ⟨by decide, by decide⟩) (cwV 1 hts (goodVk (wk_in_6 _ (List.mem_of_getElem? (i := 23) rfl)) (wk_in_6 _ (List.mem_of_getElem? (i := 24) rfl)) (wk_in_6 _ (List.mem_of_getElem? (i := 25) rfl)) (wk_in_5 _ (List.mem_of_getElem? (i := 28) rfl)) (wk_in_6 _ (List.mem_of_getElem? (i := 26) rfl))) rfl rfl rfl (by decide +kernel) ⟨Nat.le_of_ble_eq_true rfl, Nat.le_of_ble_eq_true rfl⟩) hK hDD hA0 hP hS 3 5 (wkRD) rfl rfl hl.1 (Nat.le_of_ble_eq_true rfl) dX5_readShut_15 (fun z6 A7 H locs hw8 hP hS => ?_)
    have ghw8 : q_X5_ownWord 14 A2 z6 A7 := hw8
    obtain ⟨_, hI, hf9, hw8⟩ := hw8
    refine lv_if_ne (tgt := 23) hx hb dX5_readShut_18 (by decide) (fun c10 => ?_) (fun c10 => ?_)
    · have c10 : ¬ z6 = 0 := mt (i_eq0 (rb hw8 (by decide) (by decide))).mpr c10
      refine lv_aload_n hx hb dX5_readShut_23 rfl (lv_at hl 1 rfl) ?_
      refine lv_aload_n hx hb dX5_readShut_24 rfl (lv_at hl 2 rfl) ?_
      refine lv_iconst (v := iI 2) hx hb dX5_readShut_25 (by decide +kernel) ?_
      refine k_calli (As := [.ref (q ta), .int (iI 2)]) (rest := []) ⟨hx, hb, hml, hown, hts⟩ hE (kc_X5_asked_2_2 l dC dI cB cI cJ cZ cQ aL aS q _ ta hI hta) (cwV 2 hts (goodVk (wk_in_6 _ (List.mem_of_getElem? (i := 6) rfl)) (wk_in_6 _ (List.mem_of_getElem? (i := 7) rfl)) (wk_in_6 _ (List.mem_of_getElem? (i := 8) rfl)) (wk_in_5 _ (List.mem_of_getElem? (i := 28) rfl)) (wk_in_6 _ (List.mem_of_getElem? (i := 9) rfl))) rfl rfl rfl (by decide +kernel) ⟨Nat.le_of_ble_eq_true rfl, Nat.le_of_ble_eq_true rfl⟩) hK hDD hA0 hP hS 3 5 (wkRD) rfl rfl hl.1 (Nat.le_of_ble_eq_true rfl) dX5_readShut_26 (fun z11 A12 H locs hw13 hP hS => ?_)
      have ghw13 : q_X5_asked_2_2 ta A7 z11 A12 := hw13
      obtain ⟨_, hI, hf14, hw13⟩ := hw13
      refine lv_istore_n (lv' := [(3, .int (iI z11)), (2, .int (iI z1)), (0, .ref (q 3)), (1, .ref (q ta))]) hx hb dX5_readShut_29 rfl hl (by decide) rfl (fun ls hl => ?_)
      refine lv_iload_n hx hb dX5_readShut_30 rfl (lv_at hl 0 rfl) ?_
      refine lv_iconst (v := iI (-1)) hx hb dX5_readShut_31 (by decide +kernel) ?_
      refine lv_icmp_ne (tgt := 37) hx hb dX5_readShut_32 (by decide) (fun c15 => ?_) (fun c15 => ?_)
      · have c15 : ¬ z11 = (-1) := mt (i_eq (rb hw13 (by decide) (by decide)) ⟨by decide, by decide⟩).mpr c15
        refine lv_aload_n hx hb dX5_readShut_37 rfl (lv_at hl 3 rfl) ?_
        refine va_get (D := (dC, dI)) (ci := 9) (v := .ref (q (ta + 22))) (C := RX9) (T := TX9) (N := 16) hx hb hts hiX9 hown hK hP ta (wkT hta) rfl 14 (by decide) (hts _ (List.mem_cons_of_mem _ (wk_in_8 _ (List.mem_of_getElem? (i := 32) rfl)))) (fun _ h9 => h9) rfl dX5_readShut_38 ?_
        refine lv_iload_n hx hb dX5_readShut_41 rfl (lv_at hl 0 rfl) ?_
        refine lv_iload_n hx hb dX5_readShut_42 rfl (lv_at hl 1 rfl) ?_
        refine k_calli (As := [.int (iI z11), .int (iI z1)]) (rest := []) ⟨hx, hb, hml, hown, hts⟩ hE (kc_X6_push l dC dI cB cI cJ cZ cQ aL aS q _ (ta + 22) z11 z1 hI hta.s (rb hw13 (by decide) (by decide)) (rb hw3 (by decide) (by decide))) (cwV 2 hts (goodVk (wk_in_8 _ (List.mem_of_getElem? (i := 38) rfl)) (wk_in_4 _ (List.mem_of_getElem? (i := 55) rfl)) (wk_in_4 _ (List.mem_of_getElem? (i := 56) rfl)) (wk_in_0 _ (List.mem_of_getElem? (i := 52) rfl)) (wk_in_4 _ (List.mem_of_getElem? (i := 57) rfl))) rfl rfl rfl (by decide +kernel) ⟨Nat.le_of_ble_eq_true rfl, Nat.le_of_ble_eq_true rfl⟩) hK hDD hA0 hP hS (ta + 22) 6 (wkS hta.s) rfl rfl hl.1 (Nat.le_of_ble_eq_true rfl) dX5_readShut_43 (fun z16 A17 H locs hw18 hP hS => ?_)
        have ghw18 : q_X6_push (ta + 22) z11 z1 A12 z16 A17 := hw18
        obtain ⟨_, hI, hf19, hw18⟩ := hw18
        refine lv_if_ne (tgt := 57) hx hb dX5_readShut_46 (by decide) (fun c20 => ?_) (fun c20 => ?_)
        · have c20 : ¬ z16 = 0 := mt (i_eq0 (rb hw18 (by decide) (by decide))).mpr c20
          refine lv_iconst (v := iI 1) hx hb dX5_readShut_57 (by decide +kernel) ?_
          refine lv_goto (tgt := 62) hx hb dX5_readShut_58 (by decide) ?_
          exact RET 1 _ _ _ _ _ ⟨(u_r_X5_readShut ⟨z1, A2, ghw3, (Or.inr ⟨c5, ⟨z6, A7, ghw8, (Or.inl ⟨c10, ⟨z11, A12, ghw13, (Or.inl ⟨c15, ⟨z16, A17, ghw18, (Or.inl ⟨c20, ⟨rfl, rfl⟩⟩)⟩⟩)⟩⟩)⟩⟩)⟩), hI, fk.trans (fk.trans (fk.trans (fk.trans (fk.rf) hf4 rfl rfl) hf9 rfl rfl) hf14 rfl rfl) hf19 rfl rfl, ⟨by decide, by decide⟩⟩ hP hS dX5_readShut_62
        · have c20 : z16 = 0 := (i_eq0 (rb hw18 (by decide) (by decide))).mp c20
          refine lv_aload_n hx hb dX5_readShut_49 rfl (lv_at hl 2 rfl) ?_
          refine lv_iconst (v := iI 3) hx hb dX5_readShut_50 (by decide +kernel) ?_
          refine k_calli (As := [.int (iI 3)]) (rest := []) ⟨hx, hb, hml, hown, hts⟩ hE (kc_X5_bad l dC dI cB cI cJ cZ cQ aL aS q _ 3 hI ⟨by decide, by decide⟩) (cwV 1 hts (goodVk (wk_in_5 _ (List.mem_of_getElem? (i := 37) rfl)) (wk_in_5 _ (List.mem_of_getElem? (i := 38) rfl)) (wk_in_5 _ (List.mem_of_getElem? (i := 39) rfl)) (wk_in_5 _ (List.mem_of_getElem? (i := 28) rfl)) (wk_in_5 _ (List.mem_of_getElem? (i := 40) rfl))) rfl rfl rfl (by decide +kernel) ⟨Nat.le_of_ble_eq_true rfl, Nat.le_of_ble_eq_true rfl⟩) hK hDD hA0 hP hS 3 5 (wkRD) rfl rfl hl.1 (Nat.le_of_ble_eq_true rfl) dX5_readShut_51 (fun z21 A22 H locs hw23 hP hS => ?_)
          have ghw23 : q_X5_bad 3 A17 z21 A22 := hw23
          obtain ⟨_, hI, hf24, hw23⟩ := hw23
          have rz21 : 0 ≤ z21 ∧ z21 ≤ 1 := hw23.1
          have hw23 := hw23.2
          refine lv_if_eq (tgt := 61) hx hb dX5_readShut_54 (by decide) (fun _ => ?_) (fun c25 => False.elim (by have c25 : ¬ z21 = 0 := mt (i_eq0 (rb rz21 (by decide) (by decide))).mpr c25; omega))
          refine lv_iconst (v := iI 0) hx hb dX5_readShut_61 (by decide +kernel) ?_
          exact RET 0 _ _ _ _ _ ⟨(u_r_X5_readShut ⟨z1, A2, ghw3, (Or.inr ⟨c5, ⟨z6, A7, ghw8, (Or.inl ⟨c10, ⟨z11, A12, ghw13, (Or.inl ⟨c15, ⟨z16, A17, ghw18, (Or.inr ⟨c20, ⟨z21, A22, ghw23, ⟨rfl, rfl⟩⟩⟩)⟩⟩)⟩⟩)⟩⟩)⟩), hI, fk.trans (fk.trans (fk.trans (fk.trans (fk.trans (fk.rf) hf4 rfl rfl) hf9 rfl rfl) hf14 rfl rfl) hf19 rfl rfl) hf24 rfl rfl, ⟨by decide, by decide⟩⟩ hP hS dX5_readShut_62
      · have c15 : z11 = (-1) := (i_eq (rb hw13 (by decide) (by decide)) ⟨by decide, by decide⟩).mp c15
        refine lv_iconst (v := iI 0) hx hb dX5_readShut_35 (by decide +kernel) ?_
        exact RET 0 _ _ _ _ _ ⟨(u_r_X5_readShut ⟨z1, A2, ghw3, (Or.inr ⟨c5, ⟨z6, A7, ghw8, (Or.inl ⟨c10, ⟨z11, A12, ghw13, (Or.inr ⟨c15, ⟨rfl, rfl⟩⟩)⟩⟩)⟩⟩)⟩), hI, fk.trans (fk.trans (fk.trans (fk.rf) hf4 rfl rfl) hf9 rfl rfl) hf14 rfl rfl, ⟨by decide, by decide⟩⟩ hP hS dX5_readShut_36
    · have c10 : z6 = 0 := (i_eq0 (rb hw8 (by decide) (by decide))).mp c10
      refine lv_iconst (v := iI 0) hx hb dX5_readShut_21 (by decide +kernel) ?_
      exact RET 0 _ _ _ _ _ ⟨(u_r_X5_readShut ⟨z1, A2, ghw3, (Or.inr ⟨c5, ⟨z6, A7, ghw8, (Or.inr ⟨c10, ⟨rfl, rfl⟩⟩)⟩⟩)⟩), hI, fk.trans (fk.trans (fk.rf) hf4 rfl rfl) hf9 rfl rfl, ⟨by decide, by decide⟩⟩ hP hS dX5_readShut_22
