abbrev tr_d_X5_readHas_1 (ta : Nat) (z1 : Int) (z : Int) (u : St) (z11 : Int) (A13 : St) : Prop := ((IK A13) ∧ ((-1 ≤ z11 ∧ z11 ≤ 3) ∧ (((¬ z11 = (-1)) ∧ (∃ z19 : Int, z19 = A13 ((ta + 22) + 2) (z11).toNat ∧ (((10 ≤ z19) ∧ (∃ A21 : St, A21 = stA A13 ((ta + 22) + 2) (z11).toNat z1 ∧ (z = 1 ∧ u = A21))) ∨ ((¬ 10 ≤ z19) ∧ (∃ z22 : Int, ∃ A23 : St, q_X5_bad 3 A13 z22 A23 ∧ (z = z22 ∧ u = A23)))))) ∨ ((z11 = (-1)) ∧ (z = 0 ∧ u = A13)))))
def d_X5_readHas_1 (ta : Nat) (z1 : Int) (z : Int) (u : St) (z11 : Int) (A13 : St) : Prop := tr_d_X5_readHas_1 ta z1 z u z11 A13
theorem u_d_X5_readHas_1 {ta : Nat} {z1 : Int} {z : Int} {u : St} {z11 : Int} {A13 : St} (h : tr_d_X5_readHas_1 ta z1 z u z11 A13) : d_X5_readHas_1 ta z1 z u z11 A13 := h
abbrev tr_r_X5_readHas (ta : Nat) (A : St) (z : Int) (u : St) : Prop := (∃ z1 : Int, ∃ A2 : St, q_X5_asked_2_3 ta A z1 A2 ∧ (((¬ z1 = (-1)) ∧ (∃ z7 : Int, ∃ A8 : St, q_X5_asked_2_2 ta A2 z7 A8 ∧ (d_X5_readHas_1 ta z1 z u z7 A8))) ∨ ((z1 = (-1)) ∧ (d_X5_readHas_1 ta z1 z u (-1) A2))))
def r_X5_readHas (ta : Nat) (A : St) (z : Int) (u : St) : Prop := tr_r_X5_readHas ta A z u
theorem u_r_X5_readHas {ta : Nat} {A : St} {z : Int} {u : St} (h : tr_r_X5_readHas ta A z u) : r_X5_readHas ta A z u := h
def q_X5_readHas (ta : Nat) (A : St) (z : Int) (u : St) : Prop := r_X5_readHas ta A z u ∧ IK u ∧ fk [34, 43, 75, 106] [(3, 2), (3, 3), (5, 1), (5, 2), (5, 3), (5, 4), (5, 5), (5, 6)] A u ∧ (0 ≤ z ∧ z ≤ 1)
def ws_kc_X5_readHas : List Cond := .code yX5_readHas cX5_readHas 4 (some .boolean) :: WY
set_option maxHeartbeats 4000000 in
set_option maxRecDepth 100000 in
theorem kc_X5_readHas (l : Launch) (dC : Nat → ClassId) (dI : Nat → Nat → Nat) (cB cI cJ cZ cQ : ClassId) (aL aS : Nat) (q : Nat → Nat) (A : St) (ta : Nat) (hI : IK A) (hta : isT ta) : KMi l yX5_readHas ws_kc_X5_readHas ({ frames := 4, cells := 0, slots := 0, locals := 89 } : Room) aL aS (dC, dI) (tyA cB cI cJ cZ cQ) (WK cB cI cJ cZ cQ q) A [.ref (q 3), .ref (q ta)] (fun z u => r_X5_readHas ta A z u ∧ IK u ∧ fk [34, 43, 75, 106] [(3, 2), (3, 3), (5, 1), (5, 2), (5, 3), (5, 4), (5, 5), (5, 6)] A u ∧ (0 ≤ z ∧ z ≤ 1)) := by
  refine k_metz (cc := cX5_readHas) (maxL := 4) WK_adr (plainFor_of_name (by decide +kernel)) rfl (Nat.le_of_ble_eq_true rfl) (fun z u h => h.2.2.2) (fun p e s m below meth c Q AS ls hx hb hml hown hts hK hDD hA0 hE RET H locs hP hS hl => ?_)
  have hown : s.vm.findClass RX5 = some m.cls := hown
  have hl : lv_has ls 4 [(0, .ref (q 3)), (1, .ref (q ta))] := hl
  have hiX9 : ∀ w ∈ u_ws RX9 TX9 16, w ∈ ws_kc_X5_readHas := fun w h => List.mem_cons_of_mem _ (wy_layX9 w h)
  have hiX6 : ∀ w ∈ u_ws RX6 TX6 4, w ∈ ws_kc_X5_readHas := fun w h => List.mem_cons_of_mem _ (wy_layX6 w h)
  refine lv_aload_n hx hb dX5_readHas_0 rfl (lv_at hl 0 rfl) ?_
  refine lv_aload_n hx hb dX5_readHas_1 rfl (lv_at hl 1 rfl) ?_
  refine lv_iconst (v := iI 3) hx hb dX5_readHas_2 (by decide +kernel) ?_
  refine k_calli (As := [.ref (q ta), .int (iI 3)]) (rest := []) ⟨hx, hb, hml, hown, hts⟩ hE (kc_X5_asked_2_3 l dC dI cB cI cJ cZ cQ aL aS q _ ta hI hta) (cwV 2 hts (goodVk (wk_in_6 _ (List.mem_of_getElem? (i := 6) rfl)) (wk_in_6 _ (List.mem_of_getElem? (i := 7) rfl)) (wk_in_6 _ (List.mem_of_getElem? (i := 8) rfl)) (wk_in_5 _ (List.mem_of_getElem? (i := 28) rfl)) (wk_in_6 _ (List.mem_of_getElem? (i := 9) rfl))) rfl rfl rfl (by decide +kernel) ⟨Nat.le_of_ble_eq_true rfl, Nat.le_of_ble_eq_true rfl⟩) hK hDD hA0 hP hS 3 5 (wkRD) rfl rfl hl.1 (Nat.le_of_ble_eq_true rfl) dX5_readHas_3 (fun z1 A2 H locs hw3 hP hS => ?_)
  have ghw3 : q_X5_asked_2_3 ta A z1 A2 := hw3
  obtain ⟨_, hI, hf4, hw3⟩ := hw3
  refine lv_istore_n (lv' := [(2, .int (iI z1)), (0, .ref (q 3)), (1, .ref (q ta))]) hx hb dX5_readHas_6 rfl hl (by decide) rfl (fun ls hl => ?_)
  refine lv_iload_n hx hb dX5_readHas_7 rfl (lv_at hl 0 rfl) ?_
  refine lv_iconst (v := iI (-1)) hx hb dX5_readHas_8 (by decide +kernel) ?_
  have J22_6 : ∀ (z11 : Int) (A13 : St) (H : Heap) (locs : List Loc) (ls : Array Slot), (-1 ≤ z11 ∧ z11 ≤ 3) → (∀ (z : Int) (u : St), (d_X5_readHas_1 ta z1 z u z11 A13) → r_X5_readHas ta A z u) → IK A13 → fk [] [(3, 2), (3, 3), (5, 1), (5, 2), (5, 3), (5, 4), (5, 5), (5, 6)] A2 A13 → va_P (dC, dI) vwCl (WK cB cI cJ cZ cQ q A13) H → va_S AS s.heap H locs → lv_has ls 4 [(2, .int (iI z1)), (0, .ref (q 3)), (1, .ref (q ta))] → W p l e (headSpec ws_kc_X5_readHas ({ frames := 4, cells := 0, slots := 0, locals := 89 } : Room)).room s m [.ref (q 3), .ref (q ta)].toArray below meth c H locs 0 0 Q (F0 m 22 ls [.int (iI z11)]) := by
    intro z11 A13 H locs ls f14 hk1 hI hj12 hP hS hl
    have gI15 : Hd (IK A13) := Hd.mk hI
    refine lv_istore_n (lv' := [(3, .int (iI z11)), (2, .int (iI z1)), (0, .ref (q 3)), (1, .ref (q ta))]) hx hb dX5_readHas_22 rfl hl (by decide) rfl (fun ls hl => ?_)
    refine lv_iload_n hx hb dX5_readHas_23 rfl (lv_at hl 0 rfl) ?_
    refine lv_iconst (v := iI (-1)) hx hb dX5_readHas_24 (by decide +kernel) ?_
    refine lv_icmp_ne (tgt := 30) hx hb dX5_readHas_25 (by decide) (fun c16 => ?_) (fun c16 => ?_)
    · have c16 : ¬ z11 = (-1) := mt (i_eq (rb f14 (by decide) (by decide)) ⟨by decide, by decide⟩).mpr c16
      refine lv_aload_n hx hb dX5_readHas_30 rfl (lv_at hl 3 rfl) ?_
      refine va_get (D := (dC, dI)) (ci := 9) (v := .ref (q (ta + 22))) (C := RX9) (T := TX9) (N := 16) hx hb hts hiX9 hown hK hP ta (wkT hta) rfl 14 (by decide) (hts _ (List.mem_cons_of_mem _ (wk_in_8 _ (List.mem_of_getElem? (i := 32) rfl)))) (fun _ h9 => h9) rfl dX5_readHas_31 ?_
      refine va_get (D := (dC, dI)) (ci := 6) (v := .ref (q ((ta + 22) + 2))) (C := RX6) (T := TX6) (N := 4) hx hb hts hiX6 hown hK hP (ta + 22) (wkS hta.s) rfl 1 (by decide) (hts _ (List.mem_cons_of_mem _ (wk_in_8 _ (List.mem_of_getElem? (i := 33) rfl)))) (fun _ h9 => h9) rfl dX5_readHas_34 ?_
      refine lv_iload_n hx hb dX5_readHas_37 rfl (lv_at hl 0 rfl) ?_
      have a18 : ∀ k, A2 ((ta + 22) + 2) k = A ((ta + 22) + 2) k := fun k => hf4 ((ta + 22) + 2) k (isS.b2 (o := fun b => List.contains [] (b + 2)) hta.s rfl rfl rfl rfl) (isS.b2 (o := fun b => fin2 [(3, 2), (3, 3), (5, 1), (5, 2), (5, 3), (5, 4), (5, 5), (5, 6)] (b + 2) k) hta.s rfl rfl rfl rfl)
      have a17 : ∀ k, A13 ((ta + 22) + 2) k = A ((ta + 22) + 2) k := fun k => (hj12 ((ta + 22) + 2) k (isS.b2 (o := fun b => List.contains [] (b + 2)) hta.s rfl rfl rfl rfl) (isS.b2 (o := fun b => fin2 [(3, 2), (3, 3), (5, 1), (5, 2), (5, 3), (5, 4), (5, 5), (5, 6)] (b + 2) k) hta.s rfl rfl rfl rfl)).trans (a18 k)
      refine x_iald (Wf := WK cB cI cJ cZ cQ q) hx hb hK hP ((ta + 22) + 2) 1 (wkSw hta.s) rfl (by omega) (by decide) dX5_readHas_38 (fun z19 hz19 => ?_)
      have rz19 : (-2147483648 : Int) ≤ z19 ∧ z19 ≤ 2147483647 := by rw [hz19]; exact irSw hta.s hI
      have gz19 := Hd.mk hz19
      have hz19 : z19 = A ((ta + 22) + 2) (z11).toNat := hz19.trans (a17 _)
      refine lv_bipush (v := iI 10) hx hb dX5_readHas_39 (by decide +kernel) ?_
      refine lv_icmp_ge (tgt := 50) hx hb dX5_readHas_41 (by decide) (fun c20 => ?_) (fun c20 => ?_)
      · have c20 : 10 ≤ z19 := (i_le ⟨by decide, by decide⟩ rz19).mp c20
        refine lv_aload_n hx hb dX5_readHas_50 rfl (lv_at hl 3 rfl) ?_
        refine va_get (D := (dC, dI)) (ci := 9) (v := .ref (q (ta + 22))) (C := RX9) (T := TX9) (N := 16) hx hb hts hiX9 hown hK hP ta (wkT hta) rfl 14 (by decide) (hts _ (List.mem_cons_of_mem _ (wk_in_8 _ (List.mem_of_getElem? (i := 32) rfl)))) (fun _ h9 => h9) rfl dX5_readHas_51 ?_
        refine va_get (D := (dC, dI)) (ci := 6) (v := .ref (q ((ta + 22) + 2))) (C := RX6) (T := TX6) (N := 4) hx hb hts hiX6 hown hK hP (ta + 22) (wkS hta.s) rfl 1 (by decide) (hts _ (List.mem_cons_of_mem _ (wk_in_8 _ (List.mem_of_getElem? (i := 33) rfl)))) (fun _ h9 => h9) rfl dX5_readHas_54 ?_
        refine lv_iload_n hx hb dX5_readHas_57 rfl (lv_at hl 0 rfl) ?_
        refine lv_iload_n hx hb dX5_readHas_58 rfl (lv_at hl 1 rfl) ?_
        refine k_iast (Wf := WK cB cI cJ cZ cQ q) hx hb hK hP hDD hS ((ta + 22) + 2) 1 (wkSw hta.s) rfl (by omega) (by decide) dX5_readHas_59 (wsSw hta.s) (fun H locs A21 hA21 hP hS => ?_)
        have hI := isSw hta.s hA21 hI (show (-2147483648 : Int) ≤ z1 ∧ z1 ≤ 2147483647 from (rb hw3 (by decide) (by decide)))
        refine lv_iconst (v := iI 1) hx hb dX5_readHas_60 (by decide +kernel) ?_
        exact RET 1 _ _ _ _ _ ⟨hk1 _ _ (u_d_X5_readHas_1 ⟨gI15.out, ⟨f14, (Or.inl ⟨c16, ⟨z19, gz19.out, (Or.inl ⟨c20, ⟨A21, hA21, ⟨rfl, rfl⟩⟩⟩)⟩⟩)⟩⟩), hI, fk.da (fk.trans (fk.trans (fk.rf) hf4 rfl rfl) hj12 rfl rfl) hA21 (isS.b2 (o := fun b => List.contains [34, 43, 75, 106] (b + 2)) hta.s rfl rfl rfl rfl), ⟨by decide, by decide⟩⟩ hP hS dX5_readHas_61
      · have c20 : ¬ 10 ≤ z19 := mt (i_le ⟨by decide, by decide⟩ rz19).mpr c20
        refine lv_aload_n hx hb dX5_readHas_44 rfl (lv_at hl 2 rfl) ?_
        refine lv_iconst (v := iI 3) hx hb dX5_readHas_45 (by decide +kernel) ?_
        refine k_calli (As := [.int (iI 3)]) (rest := []) ⟨hx, hb, hml, hown, hts⟩ hE (kc_X5_bad l dC dI cB cI cJ cZ cQ aL aS q _ 3 hI ⟨by decide, by decide⟩) (cwV 1 hts (goodVk (wk_in_5 _ (List.mem_of_getElem? (i := 37) rfl)) (wk_in_5 _ (List.mem_of_getElem? (i := 38) rfl)) (wk_in_5 _ (List.mem_of_getElem? (i := 39) rfl)) (wk_in_5 _ (List.mem_of_getElem? (i := 28) rfl)) (wk_in_5 _ (List.mem_of_getElem? (i := 40) rfl))) rfl rfl rfl (by decide +kernel) ⟨Nat.le_of_ble_eq_true rfl, Nat.le_of_ble_eq_true rfl⟩) hK hDD hA0 hP hS 3 5 (wkRD) rfl rfl hl.1 (Nat.le_of_ble_eq_true rfl) dX5_readHas_46 (fun z22 A23 H locs hw24 hP hS => ?_)
        have ghw24 : q_X5_bad 3 A13 z22 A23 := hw24
        obtain ⟨_, hI, hf25, hw24⟩ := hw24
        have rz22 : 0 ≤ z22 ∧ z22 ≤ 1 := hw24.1
        have hw24 := hw24.2
        exact RET z22 _ _ _ _ _ ⟨hk1 _ _ (u_d_X5_readHas_1 ⟨gI15.out, ⟨f14, (Or.inl ⟨c16, ⟨z19, gz19.out, (Or.inr ⟨c20, ⟨z22, A23, ghw24, ⟨rfl, rfl⟩⟩⟩)⟩⟩)⟩⟩), hI, fk.trans (fk.trans (fk.trans (fk.rf) hf4 rfl rfl) hj12 rfl rfl) hf25 rfl rfl, rz22⟩ hP hS dX5_readHas_49
    · have c16 : z11 = (-1) := (i_eq (rb f14 (by decide) (by decide)) ⟨by decide, by decide⟩).mp c16
      refine lv_iconst (v := iI 0) hx hb dX5_readHas_28 (by decide +kernel) ?_
      exact RET 0 _ _ _ _ _ ⟨hk1 _ _ (u_d_X5_readHas_1 ⟨gI15.out, ⟨f14, (Or.inr ⟨c16, ⟨rfl, rfl⟩⟩)⟩⟩), hI, fk.trans (fk.trans (fk.rf) hf4 rfl rfl) hj12 rfl rfl, ⟨by decide, by decide⟩⟩ hP hS dX5_readHas_29
  refine lv_icmp_ne (tgt := 16) hx hb dX5_readHas_9 (by decide) (fun c5 => ?_) (fun c5 => ?_)
  · have c5 : ¬ z1 = (-1) := mt (i_eq (rb hw3 (by decide) (by decide)) ⟨by decide, by decide⟩).mpr c5
    refine lv_aload_n hx hb dX5_readHas_16 rfl (lv_at hl 1 rfl) ?_
    refine lv_aload_n hx hb dX5_readHas_17 rfl (lv_at hl 2 rfl) ?_
    refine lv_iconst (v := iI 2) hx hb dX5_readHas_18 (by decide +kernel) ?_
    refine k_calli (As := [.ref (q ta), .int (iI 2)]) (rest := []) ⟨hx, hb, hml, hown, hts⟩ hE (kc_X5_asked_2_2 l dC dI cB cI cJ cZ cQ aL aS q _ ta hI hta) (cwV 2 hts (goodVk (wk_in_6 _ (List.mem_of_getElem? (i := 6) rfl)) (wk_in_6 _ (List.mem_of_getElem? (i := 7) rfl)) (wk_in_6 _ (List.mem_of_getElem? (i := 8) rfl)) (wk_in_5 _ (List.mem_of_getElem? (i := 28) rfl)) (wk_in_6 _ (List.mem_of_getElem? (i := 9) rfl))) rfl rfl rfl (by decide +kernel) ⟨Nat.le_of_ble_eq_true rfl, Nat.le_of_ble_eq_true rfl⟩) hK hDD hA0 hP hS 3 5 (wkRD) rfl rfl hl.1 (Nat.le_of_ble_eq_true rfl) dX5_readHas_19 (fun z7 A8 H locs hw9 hP hS => ?_)
    have ghw9 : q_X5_asked_2_2 ta A2 z7 A8 := hw9
    obtain ⟨_, hI, hf10, hw9⟩ := hw9
    exact J22_6 z7 _ _ _ _ (by omega) (fun zq uq hq => (u_r_X5_readHas ⟨z1, A2, ghw3, (Or.inl ⟨c5, ⟨z7, A8, ghw9, hq⟩⟩)⟩)) hI (fk.trans (fk.rf) hf10 rfl rfl) hP hS (lv_sub hl [0, 1, 2] rfl)
  · have c5 : z1 = (-1) := (i_eq (rb hw3 (by decide) (by decide)) ⟨by decide, by decide⟩).mp c5
    refine lv_iconst (v := iI (-1)) hx hb dX5_readHas_12 (by decide +kernel) ?_
    refine lv_goto (tgt := 22) hx hb dX5_readHas_13 (by decide) ?_
    exact J22_6 (-1) _ _ _ _ (by omega) (fun zq uq hq => (u_r_X5_readHas ⟨z1, A2, ghw3, (Or.inr ⟨c5, hq⟩)⟩)) hI (fk.rf) hP hS (lv_sub hl [0, 1, 2] rfl)

abbrev tr_r_X8_add (ta : Nat) (x1 : Int) (A : St) (z : Int) (u : St) : Prop := ((((A ta 2) < 1600) ∧ (∃ A4 : St, A4 = stA A (ta + 1) ((A ta 2)).toNat x1 ∧ (∃ A6 : St, A6 = stA A4 ta 2 ((A ta 2) + 1) ∧ (z = 1 ∧ u = A6)))) ∨ ((¬ (A ta 2) < 1600) ∧ (z = 0 ∧ u = A)))
def r_X8_add (ta : Nat) (x1 : Int) (A : St) (z : Int) (u : St) : Prop := tr_r_X8_add ta x1 A z u
theorem u_r_X8_add {ta : Nat} {x1 : Int} {A : St} {z : Int} {u : St} (h : tr_r_X8_add ta x1 A z u) : r_X8_add ta x1 A z u := h
def q_X8_add (ta : Nat) (x1 : Int) (A : St) (z : Int) (u : St) : Prop := r_X8_add ta x1 A z u ∧ IK u ∧ fk [71, 102] [(70, 2), (101, 2)] A u ∧ (0 ≤ z ∧ z ≤ 1)
def ws_kc_X8_add : List Cond := .code yX8_add cX8_add 2 (some .boolean) :: WY
set_option maxHeartbeats 4000000 in
set_option maxRecDepth 100000 in
theorem kc_X8_add (l : Launch) (dC : Nat → ClassId) (dI : Nat → Nat → Nat) (cB cI cJ cZ cQ : ClassId) (aL aS : Nat) (q : Nat → Nat) (A : St) (ta : Nat) (x1 : Int) (hI : IK A) (hta : isE ta) (hx1 : (-2147483648 : Int) ≤ x1 ∧ x1 ≤ 2147483647) : KMi l yX8_add ws_kc_X8_add ({ frames := 0, cells := 0, slots := 0, locals := 0 } : Room) aL aS (dC, dI) (tyA cB cI cJ cZ cQ) (WK cB cI cJ cZ cQ q) A [.ref (q ta), .int (iI x1)] (fun z u => r_X8_add ta x1 A z u ∧ IK u ∧ fk [71, 102] [(70, 2), (101, 2)] A u ∧ (0 ≤ z ∧ z ≤ 1)) := by
  refine k_metz (cc := cX8_add) (maxL := 2) WK_adr (plainFor_of_name (by decide +kernel)) rfl (Nat.le_of_ble_eq_true rfl) (fun z u h => h.2.2.2) (fun p e s m below meth c Q AS ls hx hb hml hown hts hK hDD hA0 hE RET H locs hP hS hl => ?_)
  have hown : s.vm.findClass RX8 = some m.cls := hown
  have hl : lv_has ls 2 [(0, .ref (q ta)), (1, .int (iI x1))] := hl
  have hiX8 : ∀ w ∈ u_ws RX8 TX8 3, w ∈ ws_kc_X8_add := fun w h => List.mem_cons_of_mem _ (wy_layX8 w h)
  refine lv_aload_n hx hb dX8_add_0 rfl (lv_at hl 0 rfl) ?_
  have r1 : (0 : Int) ≤ (A ta 2) ∧ (A ta 2) ≤ 1600 := irE_2 hta hI
  refine va_get (D := (dC, dI)) (ci := 8) (v := .int (iI (A ta 2))) (C := RX8) (T := TX8) (N := 3) hx hb hts hiX8 hown hK hP ta (wkE hta) rfl 2 (by decide) (hts _ (List.mem_cons_of_mem _ (wk_in_1 _ (List.mem_of_getElem? (i := 40) rfl)))) (fun _ h9 => h9) rfl dX8_add_1 ?_
  refine lv_if_lt (tgt := 17) hx hb dX8_add_4 (by decide) (fun c2 => False.elim (by have c2 : (A ta 2) < 0 := (i_lt0 (rb r1 (by decide) (by decide))).mp c2; omega)) (fun _ => ?_)
  refine lv_aload_n hx hb dX8_add_7 rfl (lv_at hl 0 rfl) ?_
  refine va_get (D := (dC, dI)) (ci := 8) (v := .int (iI (A ta 2))) (C := RX8) (T := TX8) (N := 3) hx hb hts hiX8 hown hK hP ta (wkE hta) rfl 2 (by decide) (hts _ (List.mem_cons_of_mem _ (wk_in_1 _ (List.mem_of_getElem? (i := 40) rfl)))) (fun _ h9 => h9) rfl dX8_add_8 ?_
  refine lv_sipush (v := iI 1600) hx hb dX8_add_11 (by decide +kernel) ?_
  refine lv_icmp_lt (tgt := 19) hx hb dX8_add_14 (by decide) (fun c3 => ?_) (fun c3 => ?_)
  · have c3 : (A ta 2) < 1600 := (i_lt (rb r1 (by decide) (by decide)) ⟨by decide, by decide⟩).mp c3
    refine lv_aload_n hx hb dX8_add_19 rfl (lv_at hl 0 rfl) ?_
    refine va_get (D := (dC, dI)) (ci := 8) (v := .ref (q (ta + 1))) (C := RX8) (T := TX8) (N := 3) hx hb hts hiX8 hown hK hP ta (wkE hta) rfl 0 (by decide) (hts _ (List.mem_cons_of_mem _ (wk_in_1 _ (List.mem_of_getElem? (i := 41) rfl)))) (fun _ h9 => h9) rfl dX8_add_20 ?_
    refine lv_aload_n hx hb dX8_add_23 rfl (lv_at hl 0 rfl) ?_
    refine va_get (D := (dC, dI)) (ci := 8) (v := .int (iI (A ta 2))) (C := RX8) (T := TX8) (N := 3) hx hb hts hiX8 hown hK hP ta (wkE hta) rfl 2 (by decide) (hts _ (List.mem_cons_of_mem _ (wk_in_1 _ (List.mem_of_getElem? (i := 40) rfl)))) (fun _ h9 => h9) rfl dX8_add_24 ?_
    refine lv_iload_n hx hb dX8_add_27 rfl (lv_at hl 1 rfl) ?_
    refine k_iast (Wf := WK cB cI cJ cZ cQ q) hx hb hK hP hDD hS (ta + 1) 1 (wkEc hta) rfl (by omega) (by decide) dX8_add_28 (wsEc hta) (fun H locs A4 hA4 hP hS => ?_)
    have hI := isEc hta hA4 hI (show (-2147483648 : Int) ≤ x1 ∧ x1 ≤ 2147483647 from hx1)
    refine lv_aload_n hx hb dX8_add_29 rfl (lv_at hl 0 rfl) ?_
    refine lv_dup hx hb dX8_add_30 rfl ?_
    have e5 : A4 ta 2 = (A ta 2) := (rd_ne hA4 (by omega) 2)
    refine va_get (D := (dC, dI)) (ci := 8) (v := .int (iI (A4 ta 2))) (C := RX8) (T := TX8) (N := 3) hx hb hts hiX8 hown hK hP ta (wkE hta) rfl 2 (by decide) (hts _ (List.mem_cons_of_mem _ (wk_in_1 _ (List.mem_of_getElem? (i := 40) rfl)))) (fun _ h9 => h9) rfl dX8_add_31 ?_
    refine tp_i (y := iI (A ta 2)) (congrArg iI e5) ?_
    refine lv_iconst (v := iI 1) hx hb dX8_add_34 (by decide +kernel) ?_
    refine x_addv (v := (A ta 2) + 1) hx hb dX8_add_35 (by omega) ?_
    refine k_put (Wf := WK cB cI cJ cZ cQ q) (D := (dC, dI)) (ci := 8) (v := .int (iI ((A ta 2) + 1))) (ty := .int) (C := RX8) (T := TX8) (N := 3) hx hb hts hiX8 tyX8 tyX8_ok nmX8 hown hK hP hDD hS ta (wkE hta) rfl 2 (by decide) (hts _ (List.mem_cons_of_mem _ (wk_in_1 _ (List.mem_of_getElem? (i := 40) rfl)))) (fun _ h9 => h9) rfl (by decide +kernel) rfl rfl (Nat.le_of_ble_eq_true rfl) dX8_add_36 (wfE_2 hta (v := (A ta 2) + 1)) (fun H locs A6 hA6 hP hS => ?_)
    have hI := isE_2 hta hA6 hI (show (0 : Int) ≤ (A ta 2) + 1 ∧ (A ta 2) + 1 ≤ 1600 from (by omega))
    refine lv_iconst (v := iI 1) hx hb dX8_add_39 (by decide +kernel) ?_
    exact RET 1 _ _ _ _ _ ⟨(u_r_X8_add (Or.inl ⟨c3, ⟨A4, hA4, ⟨A6, hA6, ⟨rfl, rfl⟩⟩⟩⟩)), hI, fk.df (fk.da (fk.rf) hA4 (isE.b2 (o := fun b => List.contains [71, 102] (b + 1)) hta rfl rfl)) hA6 (isE.b2 (o := fun b => fin2 [(70, 2), (101, 2)] b 2) hta rfl rfl), ⟨by decide, by decide⟩⟩ hP hS dX8_add_40
  · have c3 : ¬ (A ta 2) < 1600 := mt (i_lt (rb r1 (by decide) (by decide)) ⟨by decide, by decide⟩).mpr c3
    refine lv_iconst (v := iI 0) hx hb dX8_add_17 (by decide +kernel) ?_
    exact RET 0 _ _ _ _ _ ⟨(u_r_X8_add (Or.inr ⟨c3, ⟨rfl, rfl⟩⟩)), hI, fk.rf, ⟨by decide, by decide⟩⟩ hP hS dX8_add_18

abbrev tr_r_X5_passesSign (x1 : Int) (A : St) (z : Int) (u : St) : Prop := (∃ A1 : St, q_X3_look A A1 ∧ (∃ z4 : Int, q_X3_isSign x1 A1 z4 ∧ (((¬ z4 = 0) ∧ (∃ A8 : St, q_X3_pass A1 A8 ∧ (z = 1 ∧ u = A8))) ∨ ((z4 = 0) ∧ (z = 0 ∧ u = A1)))))
def r_X5_passesSign (x1 : Int) (A : St) (z : Int) (u : St) : Prop := tr_r_X5_passesSign x1 A z u
theorem u_r_X5_passesSign {x1 : Int} {A : St} {z : Int} {u : St} (h : tr_r_X5_passesSign x1 A z u) : r_X5_passesSign x1 A z u := h
def q_X5_passesSign (x1 : Int) (A : St) (z : Int) (u : St) : Prop := r_X5_passesSign x1 A z u ∧ IK u ∧ fk [] [(5, 1), (5, 2), (5, 3), (5, 4), (5, 5), (5, 6)] A u ∧ (0 ≤ z ∧ z ≤ 1)
def ws_kc_X5_passesSign : List Cond := .code yX5_passesSign cX5_passesSign 2 (some .boolean) :: WY
set_option maxHeartbeats 4000000 in
set_option maxRecDepth 100000 in
theorem kc_X5_passesSign (l : Launch) (dC : Nat → ClassId) (dI : Nat → Nat → Nat) (cB cI cJ cZ cQ : ClassId) (aL aS : Nat) (q : Nat → Nat) (A : St) (x1 : Int) (hI : IK A) (hx1 : (0 : Int) ≤ x1 ∧ x1 ≤ 65535) : KMi l yX5_passesSign ws_kc_X5_passesSign ({ frames := 2, cells := 0, slots := 0, locals := 45 } : Room) aL aS (dC, dI) (tyA cB cI cJ cZ cQ) (WK cB cI cJ cZ cQ q) A [.ref (q 3), .int (iI x1)] (fun z u => r_X5_passesSign x1 A z u ∧ IK u ∧ fk [] [(5, 1), (5, 2), (5, 3), (5, 4), (5, 5), (5, 6)] A u ∧ (0 ≤ z ∧ z ≤ 1)) := by
  refine k_metz (cc := cX5_passesSign) (maxL := 2) WK_adr (plainFor_of_name (by decide +kernel)) rfl (Nat.le_of_ble_eq_true rfl) (fun z u h => h.2.2.2) (fun p e s m below meth c Q AS ls hx hb hml hown hts hK hDD hA0 hE RET H locs hP hS hl => ?_)
  have hown : s.vm.findClass RX5 = some m.cls := hown
  have hl : lv_has ls 2 [(0, .ref (q 3)), (1, .int (iI x1))] := hl
  have hiX5 : ∀ w ∈ u_ws RX5 TX5 5, w ∈ ws_kc_X5_passesSign := fun w h => List.mem_cons_of_mem _ (wy_layX5 w h)
  refine lv_aload_n hx hb dX5_passesSign_0 rfl (lv_at hl 0 rfl) ?_
  refine va_get (D := (dC, dI)) (ci := 5) (v := .ref (q 5)) (C := RX5) (T := TX5) (N := 5) hx hb hts hiX5 hown hK hP 3 (wkRD) rfl 0 (by decide) (hts _ (List.mem_cons_of_mem _ (wk_in_5 _ (List.mem_of_getElem? (i := 6) rfl)))) (fun _ h9 => h9) rfl dX5_passesSign_1 ?_
  refine k_callv (As := []) (rest := []) ⟨hx, hb, hml, hown, hts⟩ hE (kc_X3_look l dC dI cB cI cJ cZ cQ aL aS q _ hI) (cwV 0 hts (goodVk (wk_in_5 _ (List.mem_of_getElem? (i := 22) rfl)) (wk_in_5 _ (List.mem_of_getElem? (i := 23) rfl)) (wk_in_5 _ (List.mem_of_getElem? (i := 24) rfl)) (wk_in_4 _ (List.mem_of_getElem? (i := 10) rfl)) (wk_in_4 _ (List.mem_of_getElem? (i := 2) rfl))) rfl rfl rfl (by decide +kernel) ⟨Nat.le_of_ble_eq_true rfl, Nat.le_of_ble_eq_true rfl⟩) hK hDD hA0 hP hS 5 3 (wkLX) rfl rfl hl.1 (Nat.le_of_ble_eq_true rfl) dX5_passesSign_4 (fun A1 H locs hw2 hP hS => ?_)
  have ghw2 : q_X3_look A A1 := hw2
  obtain ⟨_, hI, hf3, hw2⟩ := hw2
  clear hw2
  refine lv_aload_n hx hb dX5_passesSign_7 rfl (lv_at hl 0 rfl) ?_
  refine va_get (D := (dC, dI)) (ci := 5) (v := .ref (q 5)) (C := RX5) (T := TX5) (N := 5) hx hb hts hiX5 hown hK hP 3 (wkRD) rfl 0 (by decide) (hts _ (List.mem_cons_of_mem _ (wk_in_5 _ (List.mem_of_getElem? (i := 6) rfl)))) (fun _ h9 => h9) rfl dX5_passesSign_8 ?_
  refine lv_iload_n hx hb dX5_passesSign_11 rfl (lv_at hl 1 rfl) ?_
  refine k_calli (As := [.int (iI x1)]) (rest := []) ⟨hx, hb, hml, hown, hts⟩ hE (kc_X3_isSign l dC dI cB cI cJ cZ cQ aL aS q _ x1 hI hx1) (cwV 1 hts (goodVk (wk_in_7 _ (List.mem_of_getElem? (i := 46) rfl)) (wk_in_7 _ (List.mem_of_getElem? (i := 47) rfl)) (wk_in_7 _ (List.mem_of_getElem? (i := 48) rfl)) (wk_in_4 _ (List.mem_of_getElem? (i := 10) rfl)) (wk_in_3 _ (List.mem_of_getElem? (i := 59) rfl))) rfl rfl rfl (by decide +kernel) ⟨Nat.le_of_ble_eq_true rfl, Nat.le_of_ble_eq_true rfl⟩) hK hDD hA0 hP hS 5 3 (wkLX) rfl rfl hl.1 (Nat.le_of_ble_eq_true rfl) dX5_passesSign_12 (fun z4 A5 H locs hw6 hP hS => ?_)
  obtain ⟨rfl, hw6⟩ := hw6
  have ghw6 : q_X3_isSign x1 A1 z4 := hw6
  have hw6 := hw6.2
  refine lv_if_ne (tgt := 20) hx hb dX5_passesSign_15 (by decide) (fun c7 => ?_) (fun c7 => ?_)
  · have c7 : ¬ z4 = 0 := mt (i_eq0 (rb hw6 (by decide) (by decide))).mpr c7
    refine lv_aload_n hx hb dX5_passesSign_20 rfl (lv_at hl 0 rfl) ?_
    refine va_get (D := (dC, dI)) (ci := 5) (v := .ref (q 5)) (C := RX5) (T := TX5) (N := 5) hx hb hts hiX5 hown hK hP 3 (wkRD) rfl 0 (by decide) (hts _ (List.mem_cons_of_mem _ (wk_in_5 _ (List.mem_of_getElem? (i := 6) rfl)))) (fun _ h9 => h9) rfl dX5_passesSign_21 ?_
    refine k_callv (As := []) (rest := []) ⟨hx, hb, hml, hown, hts⟩ hE (kc_X3_pass l dC dI cB cI cJ cZ cQ aL aS q _ hI) (cwV 0 hts (goodVk (wk_in_5 _ (List.mem_of_getElem? (i := 42) rfl)) (wk_in_5 _ (List.mem_of_getElem? (i := 43) rfl)) (wk_in_5 _ (List.mem_of_getElem? (i := 44) rfl)) (wk_in_4 _ (List.mem_of_getElem? (i := 10) rfl)) (wk_in_3 _ (List.mem_of_getElem? (i := 58) rfl))) rfl rfl rfl (by decide +kernel) ⟨Nat.le_of_ble_eq_true rfl, Nat.le_of_ble_eq_true rfl⟩) hK hDD hA0 hP hS 5 3 (wkLX) rfl rfl hl.1 (Nat.le_of_ble_eq_true rfl) dX5_passesSign_24 (fun A8 H locs hw9 hP hS => ?_)
    have ghw9 : q_X3_pass A1 A8 := hw9
    obtain ⟨_, hI, hf10, hw9⟩ := hw9
    clear hw9
    refine lv_iconst (v := iI 1) hx hb dX5_passesSign_27 (by decide +kernel) ?_
    exact RET 1 _ _ _ _ _ ⟨(u_r_X5_passesSign ⟨A1, ghw2, ⟨z4, ghw6, (Or.inl ⟨c7, ⟨A8, ghw9, ⟨rfl, rfl⟩⟩⟩)⟩⟩), hI, fk.trans (fk.trans (fk.rf) hf3 rfl rfl) hf10 rfl rfl, ⟨by decide, by decide⟩⟩ hP hS dX5_passesSign_28
  · have c7 : z4 = 0 := (i_eq0 (rb hw6 (by decide) (by decide))).mp c7
    refine lv_iconst (v := iI 0) hx hb dX5_passesSign_18 (by decide +kernel) ?_
    exact RET 0 _ _ _ _ _ ⟨(u_r_X5_passesSign ⟨A1, ghw2, ⟨z4, ghw6, (Or.inr ⟨c7, ⟨rfl, rfl⟩⟩)⟩⟩), hI, fk.trans (fk.rf) hf3 rfl rfl, ⟨by decide, by decide⟩⟩ hP hS dX5_passesSign_19

abbrev tr_r_X5_enter (A : St) (z : Int) (u : St) : Prop := ((((A 3 4) < 8) ∧ (∃ A3 : St, A3 = stA A 3 4 ((A 3 4) + 1) ∧ (z = 1 ∧ u = A3))) ∨ ((¬ (A 3 4) < 8) ∧ (∃ z5 : Int, ∃ A6 : St, q_X5_bad 5 A z5 A6 ∧ (z = z5 ∧ u = A6))))
def r_X5_enter (A : St) (z : Int) (u : St) : Prop := tr_r_X5_enter A z u
theorem u_r_X5_enter {A : St} {z : Int} {u : St} (h : tr_r_X5_enter A z u) : r_X5_enter A z u := h
def q_X5_enter (A : St) (z : Int) (u : St) : Prop := r_X5_enter A z u ∧ IK u ∧ fk [] [(3, 2), (3, 3), (3, 4)] A u ∧ ((0 ≤ z ∧ z ≤ 1) ∧ (z = 1 → u 3 4 = A 3 4 + 1 ∧ A 3 4 + 1 ≤ 8))
def ws_kc_X5_enter : List Cond := .code yX5_enter cX5_enter 1 (some .boolean) :: WY
set_option maxHeartbeats 4000000 in
set_option maxRecDepth 100000 in
theorem kc_X5_enter (l : Launch) (dC : Nat → ClassId) (dI : Nat → Nat → Nat) (cB cI cJ cZ cQ : ClassId) (aL aS : Nat) (q : Nat → Nat) (A : St) (hI : IK A) : KMi l yX5_enter ws_kc_X5_enter ({ frames := 1, cells := 0, slots := 0, locals := 21 } : Room) aL aS (dC, dI) (tyA cB cI cJ cZ cQ) (WK cB cI cJ cZ cQ q) A [.ref (q 3)] (fun z u => r_X5_enter A z u ∧ IK u ∧ fk [] [(3, 2), (3, 3), (3, 4)] A u ∧ ((0 ≤ z ∧ z ≤ 1) ∧ (z = 1 → u 3 4 = A 3 4 + 1 ∧ A 3 4 + 1 ≤ 8))) := by
  refine k_metz (cc := cX5_enter) (maxL := 1) WK_adr (plainFor_of_name (by decide +kernel)) rfl (Nat.le_of_ble_eq_true rfl) (fun z u h => h.2.2.2.1) (fun p e s m below meth c Q AS ls hx hb hml hown hts hK hDD hA0 hE RET H locs hP hS hl => ?_)
  have hown : s.vm.findClass RX5 = some m.cls := hown
  have hl : lv_has ls 1 [(0, .ref (q 3))] := hl
  have hiX5 : ∀ w ∈ u_ws RX5 TX5 5, w ∈ ws_kc_X5_enter := fun w h => List.mem_cons_of_mem _ (wy_layX5 w h)
  refine lv_aload_n hx hb dX5_enter_0 rfl (lv_at hl 0 rfl) ?_
  have r1 : (0 : Int) ≤ (A 3 4) ∧ (A 3 4) ≤ 8 := irRD_4 hI
  refine va_get (D := (dC, dI)) (ci := 5) (v := .int (iI (A 3 4))) (C := RX5) (T := TX5) (N := 5) hx hb hts hiX5 hown hK hP 3 (wkRD) rfl 4 (by decide) (hts _ (List.mem_cons_of_mem _ (wk_in_7 _ (List.mem_of_getElem? (i := 25) rfl)))) (fun _ h9 => h9) rfl dX5_enter_1 ?_
  refine lv_bipush (v := iI 8) hx hb dX5_enter_4 (by decide +kernel) ?_
  refine lv_icmp_lt (tgt := 15) hx hb dX5_enter_6 (by decide) (fun c2 => ?_) (fun c2 => ?_)
  · have c2 : (A 3 4) < 8 := (i_lt (rb r1 (by decide) (by decide)) ⟨by decide, by decide⟩).mp c2
    refine lv_aload_n hx hb dX5_enter_15 rfl (lv_at hl 0 rfl) ?_
    refine lv_dup hx hb dX5_enter_16 rfl ?_
    refine va_get (D := (dC, dI)) (ci := 5) (v := .int (iI (A 3 4))) (C := RX5) (T := TX5) (N := 5) hx hb hts hiX5 hown hK hP 3 (wkRD) rfl 4 (by decide) (hts _ (List.mem_cons_of_mem _ (wk_in_7 _ (List.mem_of_getElem? (i := 25) rfl)))) (fun _ h9 => h9) rfl dX5_enter_17 ?_
    refine lv_iconst (v := iI 1) hx hb dX5_enter_20 (by decide +kernel) ?_
    refine x_addv (v := (A 3 4) + 1) hx hb dX5_enter_21 (by omega) ?_
    refine k_put (Wf := WK cB cI cJ cZ cQ q) (D := (dC, dI)) (ci := 5) (v := .int (iI ((A 3 4) + 1))) (ty := .int) (C := RX5) (T := TX5) (N := 5) hx hb hts hiX5 tyX5 tyX5_ok nmX5 hown hK hP hDD hS 3 (wkRD) rfl 4 (by decide) (hts _ (List.mem_cons_of_mem _ (wk_in_7 _ (List.mem_of_getElem? (i := 25) rfl)))) (fun _ h9 => h9) rfl (by decide +kernel) rfl rfl (Nat.le_of_ble_eq_true rfl) dX5_enter_22 (wfRD_4 (v := (A 3 4) + 1)) (fun H locs A3 hA3 hP hS => ?_)
    have hI := isRD_4 hA3 hI (show (0 : Int) ≤ (A 3 4) + 1 ∧ (A 3 4) + 1 ≤ 8 from (by omega))
    refine lv_iconst (v := iI 1) hx hb dX5_enter_25 (by decide +kernel) ?_
    have e4 : A3 3 4 = (A 3 4) + 1 := rd_is hA3
    exact RET 1 _ _ _ _ _ ⟨(u_r_X5_enter (Or.inl ⟨c2, ⟨A3, hA3, ⟨rfl, rfl⟩⟩⟩)), hI, fk.df (fk.rf) hA3 rfl, by omega⟩ hP hS dX5_enter_26
  · have c2 : ¬ (A 3 4) < 8 := mt (i_lt (rb r1 (by decide) (by decide)) ⟨by decide, by decide⟩).mpr c2
    refine lv_aload_n hx hb dX5_enter_9 rfl (lv_at hl 0 rfl) ?_
    refine lv_iconst (v := iI 5) hx hb dX5_enter_10 (by decide +kernel) ?_
    refine k_calli (As := [.int (iI 5)]) (rest := []) ⟨hx, hb, hml, hown, hts⟩ hE (kc_X5_bad l dC dI cB cI cJ cZ cQ aL aS q _ 5 hI ⟨by decide, by decide⟩) (cwV 1 hts (goodVk (wk_in_5 _ (List.mem_of_getElem? (i := 37) rfl)) (wk_in_5 _ (List.mem_of_getElem? (i := 38) rfl)) (wk_in_5 _ (List.mem_of_getElem? (i := 39) rfl)) (wk_in_5 _ (List.mem_of_getElem? (i := 28) rfl)) (wk_in_5 _ (List.mem_of_getElem? (i := 40) rfl))) rfl rfl rfl (by decide +kernel) ⟨Nat.le_of_ble_eq_true rfl, Nat.le_of_ble_eq_true rfl⟩) hK hDD hA0 hP hS 3 5 (wkRD) rfl rfl hl.1 (Nat.le_of_ble_eq_true rfl) dX5_enter_11 (fun z5 A6 H locs hw7 hP hS => ?_)
    have ghw7 : q_X5_bad 5 A z5 A6 := hw7
    obtain ⟨_, hI, hf8, hw7⟩ := hw7
    have rz5 : 0 ≤ z5 ∧ z5 ≤ 1 := hw7.1
    have hw7 := hw7.2
    have e9 : A6 3 4 = (A 3 4) := (hf8 3 4 rfl rfl)
    exact RET z5 _ _ _ _ _ ⟨(u_r_X5_enter (Or.inr ⟨c2, ⟨z5, A6, ghw7, ⟨rfl, rfl⟩⟩⟩)), hI, fk.trans (fk.rf) hf8 rfl rfl, by omega⟩ hP hS dX5_enter_14

abbrev tr_r_X5_leave (A : St) (z : Int) (u : St) : Prop := (∃ A2 : St, A2 = stA A 3 4 ((A 3 4) - 1) ∧ (z = 1 ∧ u = A2))
def r_X5_leave (A : St) (z : Int) (u : St) : Prop := tr_r_X5_leave A z u
theorem u_r_X5_leave {A : St} {z : Int} {u : St} (h : tr_r_X5_leave A z u) : r_X5_leave A z u := h
def q_X5_leave (A : St) (z : Int) (u : St) : Prop := r_X5_leave A z u ∧ IK u ∧ fk [] [(3, 4)] A u ∧ ((0 ≤ z ∧ z ≤ 1) ∧ (z = 1 ∧ u 3 4 = A 3 4 - 1))
def ws_kc_X5_leave : List Cond := .code yX5_leave cX5_leave 1 (some .boolean) :: WY
set_option maxHeartbeats 4000000 in
set_option maxRecDepth 100000 in
theorem kc_X5_leave (l : Launch) (dC : Nat → ClassId) (dI : Nat → Nat → Nat) (cB cI cJ cZ cQ : ClassId) (aL aS : Nat) (q : Nat → Nat) (A : St) (hI : IK A) (hp0 : 1 ≤ A 3 4) : KMi l yX5_leave ws_kc_X5_leave ({ frames := 0, cells := 0, slots := 0, locals := 0 } : Room) aL aS (dC, dI) (tyA cB cI cJ cZ cQ) (WK cB cI cJ cZ cQ q) A [.ref (q 3)] (fun z u => r_X5_leave A z u ∧ IK u ∧ fk [] [(3, 4)] A u ∧ ((0 ≤ z ∧ z ≤ 1) ∧ (z = 1 ∧ u 3 4 = A 3 4 - 1))) := by
  refine k_metz (cc := cX5_leave) (maxL := 1) WK_adr (plainFor_of_name (by decide +kernel)) rfl (Nat.le_of_ble_eq_true rfl) (fun z u h => h.2.2.2.1) (fun p e s m below meth c Q AS ls hx hb hml hown hts hK hDD hA0 hE RET H locs hP hS hl => ?_)
  have hown : s.vm.findClass RX5 = some m.cls := hown
  have hl : lv_has ls 1 [(0, .ref (q 3))] := hl
  have hiX5 : ∀ w ∈ u_ws RX5 TX5 5, w ∈ ws_kc_X5_leave := fun w h => List.mem_cons_of_mem _ (wy_layX5 w h)
  refine lv_aload_n hx hb dX5_leave_0 rfl (lv_at hl 0 rfl) ?_
  refine lv_dup hx hb dX5_leave_1 rfl ?_
  have r1 : (0 : Int) ≤ (A 3 4) ∧ (A 3 4) ≤ 8 := irRD_4 hI
  refine va_get (D := (dC, dI)) (ci := 5) (v := .int (iI (A 3 4))) (C := RX5) (T := TX5) (N := 5) hx hb hts hiX5 hown hK hP 3 (wkRD) rfl 4 (by decide) (hts _ (List.mem_cons_of_mem _ (wk_in_7 _ (List.mem_of_getElem? (i := 25) rfl)))) (fun _ h9 => h9) rfl dX5_leave_2 ?_
  refine lv_iconst (v := iI 1) hx hb dX5_leave_5 (by decide +kernel) ?_
  refine x_subv (v := (A 3 4) - 1) hx hb dX5_leave_6 (by omega) ?_
  refine k_put (Wf := WK cB cI cJ cZ cQ q) (D := (dC, dI)) (ci := 5) (v := .int (iI ((A 3 4) - 1))) (ty := .int) (C := RX5) (T := TX5) (N := 5) hx hb hts hiX5 tyX5 tyX5_ok nmX5 hown hK hP hDD hS 3 (wkRD) rfl 4 (by decide) (hts _ (List.mem_cons_of_mem _ (wk_in_7 _ (List.mem_of_getElem? (i := 25) rfl)))) (fun _ h9 => h9) rfl (by decide +kernel) rfl rfl (Nat.le_of_ble_eq_true rfl) dX5_leave_7 (wfRD_4 (v := (A 3 4) - 1)) (fun H locs A2 hA2 hP hS => ?_)
  have hI := isRD_4 hA2 hI (show (0 : Int) ≤ (A 3 4) - 1 ∧ (A 3 4) - 1 ≤ 8 from (by omega))
  refine lv_iconst (v := iI 1) hx hb dX5_leave_10 (by decide +kernel) ?_
  have e3 : A2 3 4 = (A 3 4) - 1 := rd_is hA2
  exact RET 1 _ _ _ _ _ ⟨(u_r_X5_leave ⟨A2, hA2, ⟨rfl, rfl⟩⟩), hI, fk.df (fk.rf) hA2 rfl, by omega⟩ hP hS dX5_leave_11

abbrev tr_r_X5_comparisonSign (A : St) (z : Int) (u : St) : Prop := (∃ A1 : St, q_X3_look A A1 ∧ (∃ z4 : Int, q_X3_isSign 60 A1 z4 ∧ (((z4 = 0) ∧ (∃ z8 : Int, q_X3_isSign 62 A1 z8 ∧ (((z8 = 0) ∧ (∃ z12 : Int, q_X3_isSign 61 A1 z12 ∧ (((z12 = 0) ∧ (∃ z16 : Int, ∃ A17 : St, q_X5_bad 1 A1 z16 A17 ∧ (∃ A20 : St, q_X3_pass A17 A20 ∧ (z = (-1) ∧ u = A20)))) ∨ ((¬ z12 = 0) ∧ (∃ A23 : St, q_X3_pass A1 A23 ∧ (z = (-11) ∧ u = A23)))))) ∨ ((¬ z8 = 0) ∧ (∃ A26 : St, q_X3_pass A1 A26 ∧ (z = (-10) ∧ u = A26)))))) ∨ ((¬ z4 = 0) ∧ (∃ A29 : St, q_X3_pass A1 A29 ∧ (z = (-9) ∧ u = A29))))))
def r_X5_comparisonSign (A : St) (z : Int) (u : St) : Prop := tr_r_X5_comparisonSign A z u
theorem u_r_X5_comparisonSign {A : St} {z : Int} {u : St} (h : tr_r_X5_comparisonSign A z u) : r_X5_comparisonSign A z u := h
def q_X5_comparisonSign (A : St) (z : Int) (u : St) : Prop := r_X5_comparisonSign A z u ∧ IK u ∧ fk [] [(3, 2), (3, 3), (5, 1), (5, 2), (5, 3), (5, 4), (5, 5), (5, 6)] A u ∧ (-2147483648 ≤ z ∧ z ≤ 2147483647)
def ws_kc_X5_comparisonSign : List Cond := .code yX5_comparisonSign cX5_comparisonSign 2 (some .int) :: WY
set_option maxHeartbeats 4000000 in
set_option maxRecDepth 100000 in
theorem kc_X5_comparisonSign (l : Launch) (dC : Nat → ClassId) (dI : Nat → Nat → Nat) (cB cI cJ cZ cQ : ClassId) (aL aS : Nat) (q : Nat → Nat) (A : St) (hI : IK A) : KMi l yX5_comparisonSign ws_kc_X5_comparisonSign ({ frames := 2, cells := 0, slots := 0, locals := 45 } : Room) aL aS (dC, dI) (tyA cB cI cJ cZ cQ) (WK cB cI cJ cZ cQ q) A [.ref (q 3)] (fun z u => r_X5_comparisonSign A z u ∧ IK u ∧ fk [] [(3, 2), (3, 3), (5, 1), (5, 2), (5, 3), (5, 4), (5, 5), (5, 6)] A u ∧ (-2147483648 ≤ z ∧ z ≤ 2147483647)) := by
  refine k_meti (cc := cX5_comparisonSign) (maxL := 2) WK_adr (plainFor_of_name (by decide +kernel)) rfl (Nat.le_of_ble_eq_true rfl) (fun p e s m below meth c Q AS ls hx hb hml hown hts hK hDD hA0 hE RET H locs hP hS hl => ?_)
  have hown : s.vm.findClass RX5 = some m.cls := hown
  have hl : lv_has ls 2 [(0, .ref (q 3))] := hl
  have hiX5 : ∀ w ∈ u_ws RX5 TX5 5, w ∈ ws_kc_X5_comparisonSign := fun w h => List.mem_cons_of_mem _ (wy_layX5 w h)
  refine lv_aload_n hx hb dX5_comparisonSign_0 rfl (lv_at hl 0 rfl) ?_
  refine va_get (D := (dC, dI)) (ci := 5) (v := .ref (q 5)) (C := RX5) (T := TX5) (N := 5) hx hb hts hiX5 hown hK hP 3 (wkRD) rfl 0 (by decide) (hts _ (List.mem_cons_of_mem _ (wk_in_5 _ (List.mem_of_getElem? (i := 6) rfl)))) (fun _ h9 => h9) rfl dX5_comparisonSign_1 ?_
  refine k_callv (As := []) (rest := []) ⟨hx, hb, hml, hown, hts⟩ hE (kc_X3_look l dC dI cB cI cJ cZ cQ aL aS q _ hI) (cwV 0 hts (goodVk (wk_in_5 _ (List.mem_of_getElem? (i := 22) rfl)) (wk_in_5 _ (List.mem_of_getElem? (i := 23) rfl)) (wk_in_5 _ (List.mem_of_getElem? (i := 24) rfl)) (wk_in_4 _ (List.mem_of_getElem? (i := 10) rfl)) (wk_in_4 _ (List.mem_of_getElem? (i := 2) rfl))) rfl rfl rfl (by decide +kernel) ⟨Nat.le_of_ble_eq_true rfl, Nat.le_of_ble_eq_true rfl⟩) hK hDD hA0 hP hS 5 3 (wkLX) rfl rfl hl.1 (Nat.le_of_ble_eq_true rfl) dX5_comparisonSign_4 (fun A1 H locs hw2 hP hS => ?_)
  have ghw2 : q_X3_look A A1 := hw2
  obtain ⟨_, hI, hf3, hw2⟩ := hw2
  clear hw2
  refine lv_iconst (v := iI (-1)) hx hb dX5_comparisonSign_7 (by decide +kernel) ?_
  refine lv_istore_n (lv' := [(1, .int (iI (-1))), (0, .ref (q 3))]) hx hb dX5_comparisonSign_8 rfl hl (by decide) rfl (fun ls hl => ?_)
  refine lv_aload_n hx hb dX5_comparisonSign_9 rfl (lv_at hl 1 rfl) ?_
  refine va_get (D := (dC, dI)) (ci := 5) (v := .ref (q 5)) (C := RX5) (T := TX5) (N := 5) hx hb hts hiX5 hown hK hP 3 (wkRD) rfl 0 (by decide) (hts _ (List.mem_cons_of_mem _ (wk_in_5 _ (List.mem_of_getElem? (i := 6) rfl)))) (fun _ h9 => h9) rfl dX5_comparisonSign_10 ?_
  refine lv_bipush (v := iI 60) hx hb dX5_comparisonSign_13 (by decide +kernel) ?_
  refine k_calli (As := [.int (iI 60)]) (rest := []) ⟨hx, hb, hml, hown, hts⟩ hE (kc_X3_isSign l dC dI cB cI cJ cZ cQ aL aS q _ 60 hI ⟨by decide, by decide⟩) (cwV 1 hts (goodVk (wk_in_7 _ (List.mem_of_getElem? (i := 46) rfl)) (wk_in_7 _ (List.mem_of_getElem? (i := 47) rfl)) (wk_in_7 _ (List.mem_of_getElem? (i := 48) rfl)) (wk_in_4 _ (List.mem_of_getElem? (i := 10) rfl)) (wk_in_3 _ (List.mem_of_getElem? (i := 59) rfl))) rfl rfl rfl (by decide +kernel) ⟨Nat.le_of_ble_eq_true rfl, Nat.le_of_ble_eq_true rfl⟩) hK hDD hA0 hP hS 5 3 (wkLX) rfl rfl hl.1 (Nat.le_of_ble_eq_true rfl) dX5_comparisonSign_15 (fun z4 A5 H locs hw6 hP hS => ?_)
  obtain ⟨rfl, hw6⟩ := hw6
  have ghw6 : q_X3_isSign 60 A1 z4 := hw6
  have hw6 := hw6.2
  refine lv_if_eq (tgt := 27) hx hb dX5_comparisonSign_18 (by decide) (fun c7 => ?_) (fun c7 => ?_)
  · have c7 : z4 = 0 := (i_eq0 (rb hw6 (by decide) (by decide))).mp c7
    refine lv_aload_n hx hb dX5_comparisonSign_27 rfl (lv_at hl 1 rfl) ?_
    refine va_get (D := (dC, dI)) (ci := 5) (v := .ref (q 5)) (C := RX5) (T := TX5) (N := 5) hx hb hts hiX5 hown hK hP 3 (wkRD) rfl 0 (by decide) (hts _ (List.mem_cons_of_mem _ (wk_in_5 _ (List.mem_of_getElem? (i := 6) rfl)))) (fun _ h9 => h9) rfl dX5_comparisonSign_28 ?_
    refine lv_bipush (v := iI 62) hx hb dX5_comparisonSign_31 (by decide +kernel) ?_
    refine k_calli (As := [.int (iI 62)]) (rest := []) ⟨hx, hb, hml, hown, hts⟩ hE (kc_X3_isSign l dC dI cB cI cJ cZ cQ aL aS q _ 62 hI ⟨by decide, by decide⟩) (cwV 1 hts (goodVk (wk_in_7 _ (List.mem_of_getElem? (i := 46) rfl)) (wk_in_7 _ (List.mem_of_getElem? (i := 47) rfl)) (wk_in_7 _ (List.mem_of_getElem? (i := 48) rfl)) (wk_in_4 _ (List.mem_of_getElem? (i := 10) rfl)) (wk_in_3 _ (List.mem_of_getElem? (i := 59) rfl))) rfl rfl rfl (by decide +kernel) ⟨Nat.le_of_ble_eq_true rfl, Nat.le_of_ble_eq_true rfl⟩) hK hDD hA0 hP hS 5 3 (wkLX) rfl rfl hl.1 (Nat.le_of_ble_eq_true rfl) dX5_comparisonSign_33 (fun z8 A9 H locs hw10 hP hS => ?_)
    obtain ⟨rfl, hw10⟩ := hw10
    have ghw10 : q_X3_isSign 62 A1 z8 := hw10
    have hw10 := hw10.2
    refine lv_if_eq (tgt := 45) hx hb dX5_comparisonSign_36 (by decide) (fun c11 => ?_) (fun c11 => ?_)
    · have c11 : z8 = 0 := (i_eq0 (rb hw10 (by decide) (by decide))).mp c11
      refine lv_aload_n hx hb dX5_comparisonSign_45 rfl (lv_at hl 1 rfl) ?_
      refine va_get (D := (dC, dI)) (ci := 5) (v := .ref (q 5)) (C := RX5) (T := TX5) (N := 5) hx hb hts hiX5 hown hK hP 3 (wkRD) rfl 0 (by decide) (hts _ (List.mem_cons_of_mem _ (wk_in_5 _ (List.mem_of_getElem? (i := 6) rfl)))) (fun _ h9 => h9) rfl dX5_comparisonSign_46 ?_
      refine lv_bipush (v := iI 61) hx hb dX5_comparisonSign_49 (by decide +kernel) ?_
      refine k_calli (As := [.int (iI 61)]) (rest := []) ⟨hx, hb, hml, hown, hts⟩ hE (kc_X3_isSign l dC dI cB cI cJ cZ cQ aL aS q _ 61 hI ⟨by decide, by decide⟩) (cwV 1 hts (goodVk (wk_in_7 _ (List.mem_of_getElem? (i := 46) rfl)) (wk_in_7 _ (List.mem_of_getElem? (i := 47) rfl)) (wk_in_7 _ (List.mem_of_getElem? (i := 48) rfl)) (wk_in_4 _ (List.mem_of_getElem? (i := 10) rfl)) (wk_in_3 _ (List.mem_of_getElem? (i := 59) rfl))) rfl rfl rfl (by decide +kernel) ⟨Nat.le_of_ble_eq_true rfl, Nat.le_of_ble_eq_true rfl⟩) hK hDD hA0 hP hS 5 3 (wkLX) rfl rfl hl.1 (Nat.le_of_ble_eq_true rfl) dX5_comparisonSign_51 (fun z12 A13 H locs hw14 hP hS => ?_)
      obtain ⟨rfl, hw14⟩ := hw14
      have ghw14 : q_X3_isSign 61 A1 z12 := hw14
      have hw14 := hw14.2
      refine lv_if_eq (tgt := 63) hx hb dX5_comparisonSign_54 (by decide) (fun c15 => ?_) (fun c15 => ?_)
      · have c15 : z12 = 0 := (i_eq0 (rb hw14 (by decide) (by decide))).mp c15
        refine lv_aload_n hx hb dX5_comparisonSign_63 rfl (lv_at hl 1 rfl) ?_
        refine lv_iconst (v := iI 1) hx hb dX5_comparisonSign_64 (by decide +kernel) ?_
        refine k_calli (As := [.int (iI 1)]) (rest := []) ⟨hx, hb, hml, hown, hts⟩ hE (kc_X5_bad l dC dI cB cI cJ cZ cQ aL aS q _ 1 hI ⟨by decide, by decide⟩) (cwV 1 hts (goodVk (wk_in_5 _ (List.mem_of_getElem? (i := 37) rfl)) (wk_in_5 _ (List.mem_of_getElem? (i := 38) rfl)) (wk_in_5 _ (List.mem_of_getElem? (i := 39) rfl)) (wk_in_5 _ (List.mem_of_getElem? (i := 28) rfl)) (wk_in_5 _ (List.mem_of_getElem? (i := 40) rfl))) rfl rfl rfl (by decide +kernel) ⟨Nat.le_of_ble_eq_true rfl, Nat.le_of_ble_eq_true rfl⟩) hK hDD hA0 hP hS 3 5 (wkRD) rfl rfl hl.1 (Nat.le_of_ble_eq_true rfl) dX5_comparisonSign_65 (fun z16 A17 H locs hw18 hP hS => ?_)
        have ghw18 : q_X5_bad 1 A1 z16 A17 := hw18
        obtain ⟨_, hI, hf19, hw18⟩ := hw18
        have rz16 : 0 ≤ z16 ∧ z16 ≤ 1 := hw18.1
        have hw18 := hw18.2
        refine lv_pop hx hb dX5_comparisonSign_68 rfl ?_
        refine lv_aload_n hx hb dX5_comparisonSign_69 rfl (lv_at hl 1 rfl) ?_
        refine va_get (D := (dC, dI)) (ci := 5) (v := .ref (q 5)) (C := RX5) (T := TX5) (N := 5) hx hb hts hiX5 hown hK hP 3 (wkRD) rfl 0 (by decide) (hts _ (List.mem_cons_of_mem _ (wk_in_5 _ (List.mem_of_getElem? (i := 6) rfl)))) (fun _ h9 => h9) rfl dX5_comparisonSign_70 ?_
        refine k_callv (As := []) (rest := []) ⟨hx, hb, hml, hown, hts⟩ hE (kc_X3_pass l dC dI cB cI cJ cZ cQ aL aS q _ hI) (cwV 0 hts (goodVk (wk_in_5 _ (List.mem_of_getElem? (i := 42) rfl)) (wk_in_5 _ (List.mem_of_getElem? (i := 43) rfl)) (wk_in_5 _ (List.mem_of_getElem? (i := 44) rfl)) (wk_in_4 _ (List.mem_of_getElem? (i := 10) rfl)) (wk_in_3 _ (List.mem_of_getElem? (i := 58) rfl))) rfl rfl rfl (by decide +kernel) ⟨Nat.le_of_ble_eq_true rfl, Nat.le_of_ble_eq_true rfl⟩) hK hDD hA0 hP hS 5 3 (wkLX) rfl rfl hl.1 (Nat.le_of_ble_eq_true rfl) dX5_comparisonSign_73 (fun A20 H locs hw21 hP hS => ?_)
        have ghw21 : q_X3_pass A17 A20 := hw21
        obtain ⟨_, hI, hf22, hw21⟩ := hw21
        clear hw21
        refine lv_iload_n hx hb dX5_comparisonSign_76 rfl (lv_at hl 0 rfl) ?_
        exact RET (-1) _ _ _ _ _ ⟨(u_r_X5_comparisonSign ⟨A1, ghw2, ⟨z4, ghw6, (Or.inl ⟨c7, ⟨z8, ghw10, (Or.inl ⟨c11, ⟨z12, ghw14, (Or.inl ⟨c15, ⟨z16, A17, ghw18, ⟨A20, ghw21, ⟨rfl, rfl⟩⟩⟩⟩)⟩⟩)⟩⟩)⟩⟩), hI, fk.trans (fk.trans (fk.trans (fk.rf) hf3 rfl rfl) hf19 rfl rfl) hf22 rfl rfl, ⟨by decide, by decide⟩⟩ hP hS dX5_comparisonSign_77
      · have c15 : ¬ z12 = 0 := mt (i_eq0 (rb hw14 (by decide) (by decide))).mpr c15
        refine lv_bipush (v := iI (-11)) hx hb dX5_comparisonSign_57 (by decide +kernel) ?_
        refine lv_istore_n (lv' := [(1, .int (iI (-11))), (0, .ref (q 3))]) hx hb dX5_comparisonSign_59 rfl hl (by decide) rfl (fun ls hl => ?_)
        refine lv_goto (tgt := 69) hx hb dX5_comparisonSign_60 (by decide) ?_
        refine lv_aload_n hx hb dX5_comparisonSign_69 rfl (lv_at hl 1 rfl) ?_
        refine va_get (D := (dC, dI)) (ci := 5) (v := .ref (q 5)) (C := RX5) (T := TX5) (N := 5) hx hb hts hiX5 hown hK hP 3 (wkRD) rfl 0 (by decide) (hts _ (List.mem_cons_of_mem _ (wk_in_5 _ (List.mem_of_getElem? (i := 6) rfl)))) (fun _ h9 => h9) rfl dX5_comparisonSign_70 ?_
        refine k_callv (As := []) (rest := []) ⟨hx, hb, hml, hown, hts⟩ hE (kc_X3_pass l dC dI cB cI cJ cZ cQ aL aS q _ hI) (cwV 0 hts (goodVk (wk_in_5 _ (List.mem_of_getElem? (i := 42) rfl)) (wk_in_5 _ (List.mem_of_getElem? (i := 43) rfl)) (wk_in_5 _ (List.mem_of_getElem? (i := 44) rfl)) (wk_in_4 _ (List.mem_of_getElem? (i := 10) rfl)) (wk_in_3 _ (List.mem_of_getElem? (i := 58) rfl))) rfl rfl rfl (by decide +kernel) ⟨Nat.le_of_ble_eq_true rfl, Nat.le_of_ble_eq_true rfl⟩) hK hDD hA0 hP hS 5 3 (wkLX) rfl rfl hl.1 (Nat.le_of_ble_eq_true rfl) dX5_comparisonSign_73 (fun A23 H locs hw24 hP hS => ?_)
        have ghw24 : q_X3_pass A1 A23 := hw24
        obtain ⟨_, hI, hf25, hw24⟩ := hw24
        clear hw24
        refine lv_iload_n hx hb dX5_comparisonSign_76 rfl (lv_at hl 0 rfl) ?_
        exact RET (-11) _ _ _ _ _ ⟨(u_r_X5_comparisonSign ⟨A1, ghw2, ⟨z4, ghw6, (Or.inl ⟨c7, ⟨z8, ghw10, (Or.inl ⟨c11, ⟨z12, ghw14, (Or.inr ⟨c15, ⟨A23, ghw24, ⟨rfl, rfl⟩⟩⟩)⟩⟩)⟩⟩)⟩⟩), hI, fk.trans (fk.trans (fk.rf) hf3 rfl rfl) hf25 rfl rfl, ⟨by decide, by decide⟩⟩ hP hS dX5_comparisonSign_77
    · have c11 : ¬ z8 = 0 := mt (i_eq0 (rb hw10 (by decide) (by decide))).mpr c11
      refine lv_bipush (v := iI (-10)) hx hb dX5_comparisonSign_39 (by decide +kernel) ?_
      refine lv_istore_n (lv' := [(1, .int (iI (-10))), (0, .ref (q 3))]) hx hb dX5_comparisonSign_41 rfl hl (by decide) rfl (fun ls hl => ?_)
      refine lv_goto (tgt := 69) hx hb dX5_comparisonSign_42 (by decide) ?_
      refine lv_aload_n hx hb dX5_comparisonSign_69 rfl (lv_at hl 1 rfl) ?_
      refine va_get (D := (dC, dI)) (ci := 5) (v := .ref (q 5)) (C := RX5) (T := TX5) (N := 5) hx hb hts hiX5 hown hK hP 3 (wkRD) rfl 0 (by decide) (hts _ (List.mem_cons_of_mem _ (wk_in_5 _ (List.mem_of_getElem? (i := 6) rfl)))) (fun _ h9 => h9) rfl dX5_comparisonSign_70 ?_
      refine k_callv (As := []) (rest := []) ⟨hx, hb, hml, hown, hts⟩ hE (kc_X3_pass l dC dI cB cI cJ cZ cQ aL aS q _ hI) (cwV 0 hts (goodVk (wk_in_5 _ (List.mem_of_getElem? (i := 42) rfl)) (wk_in_5 _ (List.mem_of_getElem? (i := 43) rfl)) (wk_in_5 _ (List.mem_of_getElem? (i := 44) rfl)) (wk_in_4 _ (List.mem_of_getElem? (i := 10) rfl)) (wk_in_3 _ (List.mem_of_getElem? (i := 58) rfl))) rfl rfl rfl (by decide +kernel) ⟨Nat.le_of_ble_eq_true rfl, Nat.le_of_ble_eq_true rfl⟩) hK hDD hA0 hP hS 5 3 (wkLX) rfl rfl hl.1 (Nat.le_of_ble_eq_true rfl) dX5_comparisonSign_73 (fun A26 H locs hw27 hP hS => ?_)
      have ghw27 : q_X3_pass A1 A26 := hw27
      obtain ⟨_, hI, hf28, hw27⟩ := hw27
      clear hw27
      refine lv_iload_n hx hb dX5_comparisonSign_76 rfl (lv_at hl 0 rfl) ?_
      exact RET (-10) _ _ _ _ _ ⟨(u_r_X5_comparisonSign ⟨A1, ghw2, ⟨z4, ghw6, (Or.inl ⟨c7, ⟨z8, ghw10, (Or.inr ⟨c11, ⟨A26, ghw27, ⟨rfl, rfl⟩⟩⟩)⟩⟩)⟩⟩), hI, fk.trans (fk.trans (fk.rf) hf3 rfl rfl) hf28 rfl rfl, ⟨by decide, by decide⟩⟩ hP hS dX5_comparisonSign_77
  · have c7 : ¬ z4 = 0 := mt (i_eq0 (rb hw6 (by decide) (by decide))).mpr c7
    refine lv_bipush (v := iI (-9)) hx hb dX5_comparisonSign_21 (by decide +kernel) ?_
    refine lv_istore_n (lv' := [(1, .int (iI (-9))), (0, .ref (q 3))]) hx hb dX5_comparisonSign_23 rfl hl (by decide) rfl (fun ls hl => ?_)
    refine lv_goto (tgt := 69) hx hb dX5_comparisonSign_24 (by decide) ?_
    refine lv_aload_n hx hb dX5_comparisonSign_69 rfl (lv_at hl 1 rfl) ?_
    refine va_get (D := (dC, dI)) (ci := 5) (v := .ref (q 5)) (C := RX5) (T := TX5) (N := 5) hx hb hts hiX5 hown hK hP 3 (wkRD) rfl 0 (by decide) (hts _ (List.mem_cons_of_mem _ (wk_in_5 _ (List.mem_of_getElem? (i := 6) rfl)))) (fun _ h9 => h9) rfl dX5_comparisonSign_70 ?_
    refine k_callv (As := []) (rest := []) ⟨hx, hb, hml, hown, hts⟩ hE (kc_X3_pass l dC dI cB cI cJ cZ cQ aL aS q _ hI) (cwV 0 hts (goodVk (wk_in_5 _ (List.mem_of_getElem? (i := 42) rfl)) (wk_in_5 _ (List.mem_of_getElem? (i := 43) rfl)) (wk_in_5 _ (List.mem_of_getElem? (i := 44) rfl)) (wk_in_4 _ (List.mem_of_getElem? (i := 10) rfl)) (wk_in_3 _ (List.mem_of_getElem? (i := 58) rfl))) rfl rfl rfl (by decide +kernel) ⟨Nat.le_of_ble_eq_true rfl, Nat.le_of_ble_eq_true rfl⟩) hK hDD hA0 hP hS 5 3 (wkLX) rfl rfl hl.1 (Nat.le_of_ble_eq_true rfl) dX5_comparisonSign_73 (fun A29 H locs hw30 hP hS => ?_)
    have ghw30 : q_X3_pass A1 A29 := hw30
    obtain ⟨_, hI, hf31, hw30⟩ := hw30
    clear hw30
    refine lv_iload_n hx hb dX5_comparisonSign_76 rfl (lv_at hl 0 rfl) ?_
    exact RET (-9) _ _ _ _ _ ⟨(u_r_X5_comparisonSign ⟨A1, ghw2, ⟨z4, ghw6, (Or.inr ⟨c7, ⟨A29, ghw30, ⟨rfl, rfl⟩⟩⟩)⟩⟩), hI, fk.trans (fk.trans (fk.rf) hf3 rfl rfl) hf31 rfl rfl, ⟨by decide, by decide⟩⟩ hP hS dX5_comparisonSign_77

abbrev tr_r_X9_addBar (ta : Nat) (x1 : Int) (x2 : Int) (x3 : Int) (A : St) (z : Int) (u : St) : Prop := (∃ z1 : Int, z1 = A (ta + 1) (7 : Int).toNat ∧ (((z1 < 6) ∧ (∃ A4 : St, A4 = stA A (ta + 16) (z1).toNat x1 ∧ (∃ A5 : St, A5 = stA A4 (ta + 17) (z1).toNat x2 ∧ (∃ A6 : St, A6 = stA A5 (ta + 18) (z1).toNat x3 ∧ (∃ A11 : St, A11 = stA A6 (ta + 1) (7 : Int).toNat (z1 + 1) ∧ (z = 1 ∧ u = A11)))))) ∨ ((¬ z1 < 6) ∧ (z = 0 ∧ u = A))))
def r_X9_addBar (ta : Nat) (x1 : Int) (x2 : Int) (x3 : Int) (A : St) (z : Int) (u : St) : Prop := tr_r_X9_addBar ta x1 x2 x3 A z u
theorem u_r_X9_addBar {ta : Nat} {x1 : Int} {x2 : Int} {x3 : Int} {A : St} {z : Int} {u : St} (h : tr_r_X9_addBar ta x1 x2 x3 A z u) : r_X9_addBar ta x1 x2 x3 A z u := h
def q_X9_addBar (ta : Nat) (x1 : Int) (x2 : Int) (x3 : Int) (A : St) (z : Int) (u : St) : Prop := r_X9_addBar ta x1 x2 x3 A z u ∧ IK u ∧ fk [52, 67, 68, 69, 83, 98, 99, 100] [] A u ∧ (0 ≤ z ∧ z ≤ 1)
def ws_kc_X9_addBar : List Cond := .code yX9_addBar cX9_addBar 5 (some .boolean) :: WY
set_option maxHeartbeats 4000000 in
set_option maxRecDepth 100000 in
theorem kc_X9_addBar (l : Launch) (dC : Nat → ClassId) (dI : Nat → Nat → Nat) (cB cI cJ cZ cQ : ClassId) (aL aS : Nat) (q : Nat → Nat) (A : St) (ta : Nat) (x1 x2 x3 : Int) (hI : IK A) (hta : isT ta) (hx1 : (-2147483648 : Int) ≤ x1 ∧ x1 ≤ 2147483647) (hx2 : (-2147483648 : Int) ≤ x2 ∧ x2 ≤ 2147483647) (hx3 : (-2147483648 : Int) ≤ x3 ∧ x3 ≤ 2147483647) : KMi l yX9_addBar ws_kc_X9_addBar ({ frames := 0, cells := 0, slots := 0, locals := 0 } : Room) aL aS (dC, dI) (tyA cB cI cJ cZ cQ) (WK cB cI cJ cZ cQ q) A [.ref (q ta), .int (iI x1), .int (iI x2), .int (iI x3)] (fun z u => r_X9_addBar ta x1 x2 x3 A z u ∧ IK u ∧ fk [52, 67, 68, 69, 83, 98, 99, 100] [] A u ∧ (0 ≤ z ∧ z ≤ 1)) := by
  refine k_metz (cc := cX9_addBar) (maxL := 5) WK_adr (plainFor_of_name (by decide +kernel)) rfl (Nat.le_of_ble_eq_true rfl) (fun z u h => h.2.2.2) (fun p e s m below meth c Q AS ls hx hb hml hown hts hK hDD hA0 hE RET H locs hP hS hl => ?_)
  have hown : s.vm.findClass RX9 = some m.cls := hown
  have hl : lv_has ls 5 [(0, .ref (q ta)), (1, .int (iI x1)), (2, .int (iI x2)), (3, .int (iI x3))] := hl
  have hiX9 : ∀ w ∈ u_ws RX9 TX9 16, w ∈ ws_kc_X9_addBar := fun w h => List.mem_cons_of_mem _ (wy_layX9 w h)
  refine lv_aload_n hx hb dX9_addBar_0 rfl (lv_at hl 0 rfl) ?_
  refine va_get (D := (dC, dI)) (ci := 9) (v := .ref (q (ta + 1))) (C := RX9) (T := TX9) (N := 16) hx hb hts hiX9 hown hK hP ta (wkT hta) rfl 0 (by decide) (hts _ (List.mem_cons_of_mem _ (wk_in_0 _ (List.mem_of_getElem? (i := 8) rfl)))) (fun _ h9 => h9) rfl dX9_addBar_1 ?_
  refine lv_bipush (v := iI 7) hx hb dX9_addBar_4 (by decide +kernel) ?_
  refine x_iald (Wf := WK cB cI cJ cZ cQ q) hx hb hK hP (ta + 1) 1 (wkTc hta) rfl (by decide) (by decide) dX9_addBar_6 (fun z1 hz1 => ?_)
  have rz1 : (0 : Int) ≤ z1 ∧ z1 ≤ 6 := by rw [hz1]; exact irTc7 hta hI
  have gz1 := Hd.mk hz1
  refine lv_istore (lv' := [(4, .int (iI z1)), (0, .ref (q ta)), (1, .int (iI x1)), (2, .int (iI x2)), (3, .int (iI x3))]) hx hb dX9_addBar_7 hl (by decide) rfl (fun ls hl => ?_)
  refine lv_iload hx hb dX9_addBar_9 (lv_at hl 0 rfl) ?_
  refine lv_if_lt (tgt := 21) hx hb dX9_addBar_11 (by decide) (fun c2 => False.elim (by have c2 : z1 < 0 := (i_lt0 (rb rz1 (by decide) (by decide))).mp c2; omega)) (fun _ => ?_)
  refine lv_iload hx hb dX9_addBar_14 (lv_at hl 0 rfl) ?_
  refine lv_bipush (v := iI 6) hx hb dX9_addBar_16 (by decide +kernel) ?_
  refine lv_icmp_lt (tgt := 23) hx hb dX9_addBar_18 (by decide) (fun c3 => ?_) (fun c3 => ?_)
  · have c3 : z1 < 6 := (i_lt (rb rz1 (by decide) (by decide)) ⟨by decide, by decide⟩).mp c3
    refine lv_aload_n hx hb dX9_addBar_23 rfl (lv_at hl 1 rfl) ?_
    refine va_get (D := (dC, dI)) (ci := 9) (v := .ref (q (ta + 16))) (C := RX9) (T := TX9) (N := 16) hx hb hts hiX9 hown hK hP ta (wkT hta) rfl 10 (by decide) (hts _ (List.mem_cons_of_mem _ (wk_in_8 _ (List.mem_of_getElem? (i := 25) rfl)))) (fun _ h9 => h9) rfl dX9_addBar_24 ?_
    refine lv_iload hx hb dX9_addBar_27 (lv_at hl 0 rfl) ?_
    refine lv_iload_n hx hb dX9_addBar_29 rfl (lv_at hl 2 rfl) ?_
    refine k_iast (Wf := WK cB cI cJ cZ cQ q) hx hb hK hP hDD hS (ta + 16) 1 (wkTbd hta) rfl (by omega) (by decide) dX9_addBar_30 (wsTbd hta) (fun H locs A4 hA4 hP hS => ?_)
    have hI := isTbd hta hA4 hI (show (-2147483648 : Int) ≤ x1 ∧ x1 ≤ 2147483647 from hx1)
    refine lv_aload_n hx hb dX9_addBar_31 rfl (lv_at hl 1 rfl) ?_
    refine va_get (D := (dC, dI)) (ci := 9) (v := .ref (q (ta + 17))) (C := RX9) (T := TX9) (N := 16) hx hb hts hiX9 hown hK hP ta (wkT hta) rfl 11 (by decide) (hts _ (List.mem_cons_of_mem _ (wk_in_8 _ (List.mem_of_getElem? (i := 26) rfl)))) (fun _ h9 => h9) rfl dX9_addBar_32 ?_
    refine lv_iload hx hb dX9_addBar_35 (lv_at hl 0 rfl) ?_
    refine lv_iload_n hx hb dX9_addBar_37 rfl (lv_at hl 3 rfl) ?_
    refine k_iast (Wf := WK cB cI cJ cZ cQ q) hx hb hK hP hDD hS (ta + 17) 1 (wkTbf hta) rfl (by omega) (by decide) dX9_addBar_38 (wsTbf hta) (fun H locs A5 hA5 hP hS => ?_)
    have hI := isTbf hta hA5 hI (show (-2147483648 : Int) ≤ x2 ∧ x2 ≤ 2147483647 from hx2)
    refine lv_aload_n hx hb dX9_addBar_39 rfl (lv_at hl 1 rfl) ?_
    refine va_get (D := (dC, dI)) (ci := 9) (v := .ref (q (ta + 18))) (C := RX9) (T := TX9) (N := 16) hx hb hts hiX9 hown hK hP ta (wkT hta) rfl 12 (by decide) (hts _ (List.mem_cons_of_mem _ (wk_in_8 _ (List.mem_of_getElem? (i := 27) rfl)))) (fun _ h9 => h9) rfl dX9_addBar_40 ?_
    refine lv_iload hx hb dX9_addBar_43 (lv_at hl 0 rfl) ?_
    refine lv_iload_n hx hb dX9_addBar_45 rfl (lv_at hl 4 rfl) ?_
    refine k_iast (Wf := WK cB cI cJ cZ cQ q) hx hb hK hP hDD hS (ta + 18) 1 (wkTbt hta) rfl (by omega) (by decide) dX9_addBar_46 (wsTbt hta) (fun H locs A6 hA6 hP hS => ?_)
    have hI := isTbt hta hA6 hI (show (-2147483648 : Int) ≤ x3 ∧ x3 ≤ 2147483647 from hx3)
    refine lv_aload_n hx hb dX9_addBar_47 rfl (lv_at hl 1 rfl) ?_
    refine va_get (D := (dC, dI)) (ci := 9) (v := .ref (q (ta + 1))) (C := RX9) (T := TX9) (N := 16) hx hb hts hiX9 hown hK hP ta (wkT hta) rfl 0 (by decide) (hts _ (List.mem_cons_of_mem _ (wk_in_0 _ (List.mem_of_getElem? (i := 8) rfl)))) (fun _ h9 => h9) rfl dX9_addBar_48 ?_
    refine lv_bipush (v := iI 7) hx hb dX9_addBar_51 (by decide +kernel) ?_
    refine lv_dup2_11 hx hb dX9_addBar_53 rfl rfl ?_
    have a9 : ∀ k, A4 (ta + 1) k = A (ta + 1) k := fun k => rd_ne hA4 (by omega) k
    have a8 : ∀ k, A5 (ta + 1) k = A (ta + 1) k := fun k => (rd_ne hA5 (by omega) k).trans (a9 k)
    have a7 : ∀ k, A6 (ta + 1) k = A (ta + 1) k := fun k => (rd_ne hA6 (by omega) k).trans (a8 k)
    refine x_iald (Wf := WK cB cI cJ cZ cQ q) hx hb hK hP (ta + 1) 1 (wkTc hta) rfl (by decide) (by decide) dX9_addBar_54 (fun z10 hz10 => ?_)
    have rz10 : (0 : Int) ≤ z10 ∧ z10 ≤ 6 := by rw [hz10]; exact irTc7 hta hI
    have gz10 := Hd.mk hz10
    have hz10 : z10 = A (ta + 1) (7 : Int).toNat := hz10.trans (a7 _)
    have ez10 : z10 = z1 := hz10.trans hz1.symm
    refine tp_i (y := iI z1) (congrArg iI ez10) ?_
    refine lv_iconst (v := iI 1) hx hb dX9_addBar_55 (by decide +kernel) ?_
    refine x_addv (v := z1 + 1) hx hb dX9_addBar_56 (by omega) ?_
    refine k_iast (Wf := WK cB cI cJ cZ cQ q) hx hb hK hP hDD hS (ta + 1) 1 (wkTc hta) rfl (by decide) (by decide) dX9_addBar_57 (wsTc hta) (fun H locs A11 hA11 hP hS => ?_)
    have hI := isTc hta hA11 hI (show (0 : Int) ≤ z1 + 1 ∧ z1 + 1 ≤ 6 from (by omega))
    refine lv_iconst (v := iI 1) hx hb dX9_addBar_58 (by decide +kernel) ?_
    exact RET 1 _ _ _ _ _ ⟨(u_r_X9_addBar ⟨z1, gz1.out, (Or.inl ⟨c3, ⟨A4, hA4, ⟨A5, hA5, ⟨A6, hA6, ⟨A11, hA11, ⟨rfl, rfl⟩⟩⟩⟩⟩⟩)⟩), hI, fk.da (fk.da (fk.da (fk.da (fk.rf) hA4 (isT.b2 (o := fun b => List.contains [52, 67, 68, 69, 83, 98, 99, 100] (b + 16)) hta rfl rfl)) hA5 (isT.b2 (o := fun b => List.contains [52, 67, 68, 69, 83, 98, 99, 100] (b + 17)) hta rfl rfl)) hA6 (isT.b2 (o := fun b => List.contains [52, 67, 68, 69, 83, 98, 99, 100] (b + 18)) hta rfl rfl)) hA11 (isT.b2 (o := fun b => List.contains [52, 67, 68, 69, 83, 98, 99, 100] (b + 1)) hta rfl rfl), ⟨by decide, by decide⟩⟩ hP hS dX9_addBar_59
  · have c3 : ¬ z1 < 6 := mt (i_lt (rb rz1 (by decide) (by decide)) ⟨by decide, by decide⟩).mpr c3
    refine lv_iconst (v := iI 0) hx hb dX9_addBar_21 (by decide +kernel) ?_
    exact RET 0 _ _ _ _ _ ⟨(u_r_X9_addBar ⟨z1, gz1.out, (Or.inr ⟨c3, ⟨rfl, rfl⟩⟩)⟩), hI, fk.rf, ⟨by decide, by decide⟩⟩ hP hS dX9_addBar_22
