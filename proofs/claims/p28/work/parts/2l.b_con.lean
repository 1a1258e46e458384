abbrev tr_r_X9_addThing (ta : Nat) (x1 : Int) (x2 : Int) (A : St) (z : Int) (u : St) : Prop := (∃ z1 : Int, ∃ A2 : St, q_X9_add_1_4 ta x1 A z1 A2 ∧ (((¬ z1 = 0) ∧ (∃ z6 : Int, z6 = A2 (ta + 1) (4 : Int).toNat ∧ (∃ A7 : St, A7 = stA A2 (ta + 11) (z6 - 1).toNat x2 ∧ (z = 1 ∧ u = A7)))) ∨ ((z1 = 0) ∧ (z = 0 ∧ u = A2))))
def r_X9_addThing (ta : Nat) (x1 : Int) (x2 : Int) (A : St) (z : Int) (u : St) : Prop := tr_r_X9_addThing ta x1 x2 A z u
theorem u_r_X9_addThing {ta : Nat} {x1 : Int} {x2 : Int} {A : St} {z : Int} {u : St} (h : tr_r_X9_addThing ta x1 x2 A z u) : r_X9_addThing ta x1 x2 A z u := h
def q_X9_addThing (ta : Nat) (x1 : Int) (x2 : Int) (A : St) (z : Int) (u : St) : Prop := r_X9_addThing ta x1 x2 A z u ∧ IK u ∧ fk [52, 54, 55, 56, 57, 58, 62, 83, 85, 86, 87, 88, 89, 93] [] A u ∧ (0 ≤ z ∧ z ≤ 1)
def ws_kc_X9_addThing : List Cond := .code yX9_addThing cX9_addThing 3 (some .boolean) :: WY
set_option maxHeartbeats 4000000 in
set_option maxRecDepth 100000 in
theorem kc_X9_addThing (l : Launch) (dC : Nat → ClassId) (dI : Nat → Nat → Nat) (cB cI cJ cZ cQ : ClassId) (aL aS : Nat) (q : Nat → Nat) (A : St) (ta : Nat) (x1 x2 : Int) (hI : IK A) (hta : isT ta) (hx1 : (-2147483648 : Int) ≤ x1 ∧ x1 ≤ 2147483647) (hx2 : (-2147483648 : Int) ≤ x2 ∧ x2 ≤ 2147483647) : KMi l yX9_addThing ws_kc_X9_addThing ({ frames := 1, cells := 0, slots := 0, locals := 22 } : Room) aL aS (dC, dI) (tyA cB cI cJ cZ cQ) (WK cB cI cJ cZ cQ q) A [.ref (q ta), .int (iI x1), .int (iI x2)] (fun z u => r_X9_addThing ta x1 x2 A z u ∧ IK u ∧ fk [52, 54, 55, 56, 57, 58, 62, 83, 85, 86, 87, 88, 89, 93] [] A u ∧ (0 ≤ z ∧ z ≤ 1)) := by
  refine k_metz (cc := cX9_addThing) (maxL := 3) WK_adr (plainFor_of_name (by decide +kernel)) rfl (Nat.le_of_ble_eq_true rfl) (fun z u h => h.2.2.2) (fun p e s m below meth c Q AS ls hx hb hml hown hts hK hDD hA0 hE RET H locs hP hS hl => ?_)
  have hown : s.vm.findClass RX9 = some m.cls := hown
  have hl : lv_has ls 3 [(0, .ref (q ta)), (1, .int (iI x1)), (2, .int (iI x2))] := hl
  have hiX9 : ∀ w ∈ u_ws RX9 TX9 16, w ∈ ws_kc_X9_addThing := fun w h => List.mem_cons_of_mem _ (wy_layX9 w h)
  refine lv_aload_n hx hb (dk_at dkX9_addThing_0 0 rfl) rfl (lv_at hl 0 rfl) ?_
  refine lv_iconst (v := iI 4) hx hb (dk_at dkX9_addThing_0 1 rfl) (by decide +kernel) ?_
  refine lv_iload_n hx hb (dk_at dkX9_addThing_0 2 rfl) rfl (lv_at hl 1 rfl) ?_
  refine k_calli (As := [.int (iI 4), .int (iI x1)]) (rest := []) ⟨hx, hb, hml, hown, hts⟩ hE (kc_X9_add_1_4 l dC dI cB cI cJ cZ cQ aL aS q _ ta x1 hI hta hx1) (cwV 2 hts (goodVk wkq_6_18 wkq_5_59 wkq_6_0 wkq_0_6 wkq_6_1) rfl rfl rfl (by decide +kernel) ⟨Nat.le_of_ble_eq_true rfl, Nat.le_of_ble_eq_true rfl⟩) hK hDD hA0 hP hS ta 9 (wkT hta) rfl rfl hl.1 (Nat.le_of_ble_eq_true rfl) (dk_at dkX9_addThing_0 3 rfl) (fun z1 A2 H locs hw3 hP hS => ?_)
  have ghw3 : q_X9_add_1_4 ta x1 A z1 A2 := hw3
  obtain ⟨_, hI, hf4, hw3⟩ := hw3
  have rz1 : 0 ≤ z1 ∧ z1 ≤ 1 := hw3.1
  have hw3 := hw3.2
  refine lv_if_ne (tgt := 11) hx hb (dk_at dkX9_addThing_0 4 rfl) (by decide) (fun c5 => ?_) (fun c5 => ?_)
  · have c5 : ¬ z1 = 0 := mt (i_eq0 (rb rz1 (by decide) (by decide))).mpr c5
    have hw3b := hw3 (by omega)
    clear hw3
    refine lv_aload_n hx hb (dk_at dkX9_addThing_0 7 rfl) rfl (lv_at hl 0 rfl) ?_
    refine va_get (D := (dC, dI)) (ci := 9) (v := .ref (q (ta + 11))) (C := RX9) (T := TX9) (N := 16) hx hb hts hiX9 hown hK hP ta (wkT hta) rfl 5 (by decide) (hts _ (List.mem_cons_of_mem _ wkq_7_1)) (fun _ h9 => h9) rfl (dk_at dkX9_addThing_0 8 rfl) ?_
    refine lv_aload_n hx hb (dk_at dkX9_addThing_0 9 rfl) rfl (lv_at hl 0 rfl) ?_
    refine va_get (D := (dC, dI)) (ci := 9) (v := .ref (q (ta + 1))) (C := RX9) (T := TX9) (N := 16) hx hb hts hiX9 hown hK hP ta (wkT hta) rfl 0 (by decide) (hts _ (List.mem_cons_of_mem _ wkq_0_8)) (fun _ h9 => h9) rfl (dk_at dkX9_addThing_0 10 rfl) ?_
    refine lv_iconst (v := iI 4) hx hb (dk_at dkX9_addThing_0 11 rfl) (by decide +kernel) ?_
    refine x_iald (Wf := WK cB cI cJ cZ cQ q) hx hb hK hP (ta + 1) 1 (wkTc hta) rfl (by decide) (by decide) (dk_at dkX9_addThing_0 12 rfl) (fun z6 hz6 => ?_)
    have rz6 : (0 : Int) ≤ z6 ∧ z6 ≤ 4 := by rw [hz6]; exact irTc4 hta hI
    have gz6 := Hd.mk hz6
    refine lv_iconst (v := iI 1) hx hb (dk_at dkX9_addThing_0 13 rfl) (by decide +kernel) ?_
    refine x_subv (v := z6 - 1) hx hb (dk_at dkX9_addThing_0 14 rfl) (by omega) ?_
    refine lv_iload_n hx hb (dk_at dkX9_addThing_0 15 rfl) rfl (lv_at hl 2 rfl) ?_
    refine k_iast (Wf := WK cB cI cJ cZ cQ q) hx hb hK hP hDD hS (ta + 11) 1 (wkTt hta) rfl (by omega) (by decide) (dk_at dkX9_addThing_1 0 rfl) (wsTt hta) (fun H locs A7 hA7 hP hS => ?_)
    have hI := isTt hta hA7 hI (show (-2147483648 : Int) ≤ x2 ∧ x2 ≤ 2147483647 from hx2)
    refine lv_iconst (v := iI 1) hx hb (dk_at dkX9_addThing_1 1 rfl) (by decide +kernel) ?_
    exact RET 1 _ _ _ _ _ ⟨(u_r_X9_addThing ⟨z1, A2, ghw3, (Or.inl ⟨c5, ⟨z6, gz6.out, ⟨A7, hA7, ⟨rfl, rfl⟩⟩⟩⟩)⟩), hI, fk.da (fk.trans (fk.rf) hf4 rfl rfl) hA7 (isT.b2 (o := fun b => List.contains [52, 54, 55, 56, 57, 58, 62, 83, 85, 86, 87, 88, 89, 93] (b + 11)) hta rfl rfl), ⟨by decide, by decide⟩⟩ hP hS (dk_at dkX9_addThing_1 2 rfl)
  · have c5 : z1 = 0 := (i_eq0 (rb rz1 (by decide) (by decide))).mp c5
    clear hw3
    refine lv_iconst (v := iI 0) hx hb (dk_at dkX9_addThing_0 5 rfl) (by decide +kernel) ?_
    exact RET 0 _ _ _ _ _ ⟨(u_r_X9_addThing ⟨z1, A2, ghw3, (Or.inr ⟨c5, ⟨rfl, rfl⟩⟩)⟩), hI, fk.trans (fk.rf) hf4 rfl rfl, ⟨by decide, by decide⟩⟩ hP hS (dk_at dkX9_addThing_0 6 rfl)

abbrev tr_r_X5_readThing (ta : Nat) (A : St) (z : Int) (u : St) : Prop := (∃ z1 : Int, ∃ A2 : St, q_X5_newName ta A z1 A2 ∧ (((z1 = (-1)) ∧ (z = 0 ∧ u = A2)) ∨ ((¬ z1 = (-1)) ∧ (∃ z6 : Int, ∃ A7 : St, q_X5_ownWord 13 A2 z6 A7 ∧ (((¬ z6 = 0) ∧ (∃ z11 : Int, ∃ A12 : St, q_X5_askedSpot ta A7 z11 A12 ∧ (((z11 = (-1)) ∧ (z = 0 ∧ u = A12)) ∨ ((¬ z11 = (-1)) ∧ (∃ z16 : Int, ∃ A17 : St, q_X9_addThing ta z1 z11 A12 z16 A17 ∧ (((z16 = 0) ∧ (z = 0 ∧ u = A17)) ∨ ((¬ z16 = 0) ∧ (z = 1 ∧ u = A17)))))))) ∨ ((z6 = 0) ∧ (z = 0 ∧ u = A7)))))))
def r_X5_readThing (ta : Nat) (A : St) (z : Int) (u : St) : Prop := tr_r_X5_readThing ta A z u
theorem u_r_X5_readThing {ta : Nat} {A : St} {z : Int} {u : St} (h : tr_r_X5_readThing ta A z u) : r_X5_readThing ta A z u := h
def q_X5_readThing (ta : Nat) (A : St) (z : Int) (u : St) : Prop := r_X5_readThing ta A z u ∧ IK u ∧ fk [52, 54, 55, 56, 57, 58, 62, 83, 85, 86, 87, 88, 89, 93] [(3, 2), (3, 3), (5, 1), (5, 2), (5, 3), (5, 4), (5, 5), (5, 6)] A u ∧ (0 ≤ z ∧ z ≤ 1)
def ws_kc_X5_readThing : List Cond := .code yX5_readThing cX5_readThing 4 (some .boolean) :: WY
set_option maxHeartbeats 4000000 in
set_option maxRecDepth 100000 in
theorem kc_X5_readThing (l : Launch) (dC : Nat → ClassId) (dI : Nat → Nat → Nat) (cB cI cJ cZ cQ : ClassId) (aL aS : Nat) (q : Nat → Nat) (A : St) (ta : Nat) (hI : IK A) (hta : isT ta) : KMi l yX5_readThing ws_kc_X5_readThing ({ frames := 4, cells := 0, slots := 0, locals := 89 } : Room) aL aS (dC, dI) (tyA cB cI cJ cZ cQ) (WK cB cI cJ cZ cQ q) A [.ref (q 3), .ref (q ta)] (fun z u => r_X5_readThing ta A z u ∧ IK u ∧ fk [52, 54, 55, 56, 57, 58, 62, 83, 85, 86, 87, 88, 89, 93] [(3, 2), (3, 3), (5, 1), (5, 2), (5, 3), (5, 4), (5, 5), (5, 6)] A u ∧ (0 ≤ z ∧ z ≤ 1)) := by
  refine k_metz (cc := cX5_readThing) (maxL := 4) WK_adr (plainFor_of_name (by decide +kernel)) rfl (Nat.le_of_ble_eq_true rfl) (fun z u h => h.2.2.2) (fun p e s m below meth c Q AS ls hx hb hml hown hts hK hDD hA0 hE RET H locs hP hS hl => ?_)
  have hown : s.vm.findClass RX5 = some m.cls := hown
  have hl : lv_has ls 4 [(0, .ref (q 3)), (1, .ref (q ta))] := hl
  refine lv_aload_n hx hb (dk_at dkX5_readThing_0 0 rfl) rfl (lv_at hl 0 rfl) ?_
  refine lv_aload_n hx hb (dk_at dkX5_readThing_0 1 rfl) rfl (lv_at hl 1 rfl) ?_
  refine k_calli (As := [.ref (q ta)]) (rest := []) ⟨hx, hb, hml, hown, hts⟩ hE (kc_X5_newName l dC dI cB cI cJ cZ cQ aL aS q _ ta hI hta) (cwV 1 hts (goodVk wkq_5_45 wkq_5_46 wkq_5_47 wkq_5_28 wkq_5_48) rfl rfl rfl (by decide +kernel) ⟨Nat.le_of_ble_eq_true rfl, Nat.le_of_ble_eq_true rfl⟩) hK hDD hA0 hP hS 3 5 (wkRD) rfl rfl hl.1 (Nat.le_of_ble_eq_true rfl) (dk_at dkX5_readThing_0 2 rfl) (fun z1 A2 H locs hw3 hP hS => ?_)
  have ghw3 : q_X5_newName ta A z1 A2 := hw3
  obtain ⟨_, hI, hf4, hw3⟩ := hw3
  refine lv_istore_n (lv' := [(2, .int (iI z1)), (0, .ref (q 3)), (1, .ref (q ta))]) hx hb (dk_at dkX5_readThing_0 3 rfl) rfl hl (by decide) rfl (fun ls hl => ?_)
  refine lv_iload_n hx hb (dk_at dkX5_readThing_0 4 rfl) rfl (lv_at hl 0 rfl) ?_
  refine lv_iconst (v := iI (-1)) hx hb (dk_at dkX5_readThing_0 5 rfl) (by decide +kernel) ?_
  refine lv_icmp_eq (tgt := 20) hx hb (dk_at dkX5_readThing_0 6 rfl) (by decide) (fun c5 => ?_) (fun c5 => ?_)
  · have c5 : z1 = (-1) := (i_eq hw3 ⟨by decide, by decide⟩).mp c5
    refine lv_iconst (v := iI 0) hx hb (dk_at dkX5_readThing_0 11 rfl) (by decide +kernel) ?_
    exact RET 0 _ _ _ _ _ ⟨(u_r_X5_readThing ⟨z1, A2, ghw3, (Or.inl ⟨c5, ⟨rfl, rfl⟩⟩)⟩), hI, fk.trans (fk.rf) hf4 rfl rfl, ⟨by decide, by decide⟩⟩ hP hS (dk_at dkX5_readThing_0 12 rfl)
  · have c5 : ¬ z1 = (-1) := mt (i_eq hw3 ⟨by decide, by decide⟩).mpr c5
    refine lv_aload_n hx hb (dk_at dkX5_readThing_0 7 rfl) rfl (lv_at hl 1 rfl) ?_
    refine lv_bipush (v := iI 13) hx hb (dk_at dkX5_readThing_0 8 rfl) (by decide +kernel) ?_
    refine k_calli (As := [.int (iI 13)]) (rest := []) ⟨hx, hb, hml, hown, hts⟩ hE (kc_X5_ownWord l dC dI cB cI cJ cZ cQ aL aS q _ 13 hI ⟨by decide, by decide⟩) (cwV 1 hts (goodVk wkq_6_23 wkq_6_24 wkq_6_25 wkq_5_28 wkq_6_26) rfl rfl rfl (by decide +kernel) ⟨Nat.le_of_ble_eq_true rfl, Nat.le_of_ble_eq_true rfl⟩) hK hDD hA0 hP hS 3 5 (wkRD) rfl rfl hl.1 (Nat.le_of_ble_eq_true rfl) (dk_at dkX5_readThing_0 9 rfl) (fun z6 A7 H locs hw8 hP hS => ?_)
    have ghw8 : q_X5_ownWord 13 A2 z6 A7 := hw8
    obtain ⟨_, hI, hf9, hw8⟩ := hw8
    refine lv_if_ne (tgt := 22) hx hb (dk_at dkX5_readThing_0 10 rfl) (by decide) (fun c10 => ?_) (fun c10 => ?_)
    · have c10 : ¬ z6 = 0 := mt (i_eq0 (rb hw8 (by decide) (by decide))).mpr c10
      refine lv_aload_n hx hb (dk_at dkX5_readThing_0 13 rfl) rfl (lv_at hl 1 rfl) ?_
      refine lv_aload_n hx hb (dk_at dkX5_readThing_0 14 rfl) rfl (lv_at hl 2 rfl) ?_
      refine k_calli (As := [.ref (q ta)]) (rest := []) ⟨hx, hb, hml, hown, hts⟩ hE (kc_X5_askedSpot l dC dI cB cI cJ cZ cQ aL aS q _ ta hI hta) (cwV 1 hts (goodVk wkq_6_35 wkq_6_36 wkq_6_37 wkq_5_28 wkq_6_38) rfl rfl rfl (by decide +kernel) ⟨Nat.le_of_ble_eq_true rfl, Nat.le_of_ble_eq_true rfl⟩) hK hDD hA0 hP hS 3 5 (wkRD) rfl rfl hl.1 (Nat.le_of_ble_eq_true rfl) (dk_at dkX5_readThing_0 15 rfl) (fun z11 A12 H locs hw13 hP hS => ?_)
      have ghw13 : q_X5_askedSpot ta A7 z11 A12 := hw13
      obtain ⟨_, hI, hf14, hw13⟩ := hw13
      refine lv_istore_n (lv' := [(3, .int (iI z11)), (2, .int (iI z1)), (0, .ref (q 3)), (1, .ref (q ta))]) hx hb (dk_at dkX5_readThing_1 0 rfl) rfl hl (by decide) rfl (fun ls hl => ?_)
      refine lv_iload_n hx hb (dk_at dkX5_readThing_1 1 rfl) rfl (lv_at hl 0 rfl) ?_
      refine lv_iconst (v := iI (-1)) hx hb (dk_at dkX5_readThing_1 2 rfl) (by decide +kernel) ?_
      refine lv_icmp_eq (tgt := 46) hx hb (dk_at dkX5_readThing_1 3 rfl) (by decide) (fun c15 => ?_) (fun c15 => ?_)
      · have c15 : z11 = (-1) := (i_eq hw13 ⟨by decide, by decide⟩).mp c15
        refine lv_iconst (v := iI 0) hx hb (dk_at dkX5_readThing_1 11 rfl) (by decide +kernel) ?_
        exact RET 0 _ _ _ _ _ ⟨(u_r_X5_readThing ⟨z1, A2, ghw3, (Or.inr ⟨c5, ⟨z6, A7, ghw8, (Or.inl ⟨c10, ⟨z11, A12, ghw13, (Or.inl ⟨c15, ⟨rfl, rfl⟩⟩)⟩⟩)⟩⟩)⟩), hI, fk.trans (fk.trans (fk.trans (fk.rf) hf4 rfl rfl) hf9 rfl rfl) hf14 rfl rfl, ⟨by decide, by decide⟩⟩ hP hS (dk_at dkX5_readThing_1 12 rfl)
      · have c15 : ¬ z11 = (-1) := mt (i_eq hw13 ⟨by decide, by decide⟩).mpr c15
        refine lv_aload_n hx hb (dk_at dkX5_readThing_1 4 rfl) rfl (lv_at hl 3 rfl) ?_
        refine lv_iload_n hx hb (dk_at dkX5_readThing_1 5 rfl) rfl (lv_at hl 1 rfl) ?_
        refine lv_iload_n hx hb (dk_at dkX5_readThing_1 6 rfl) rfl (lv_at hl 0 rfl) ?_
        refine k_calli (As := [.int (iI z1), .int (iI z11)]) (rest := []) ⟨hx, hb, hml, hown, hts⟩ hE (kc_X9_addThing l dC dI cB cI cJ cZ cQ aL aS q _ ta z1 z11 hI hta hw3 hw13) (cwV 2 hts (goodVk wkq_6_57 wkq_6_58 wkq_6_59 wkq_0_6 wkq_7_0) rfl rfl rfl (by decide +kernel) ⟨Nat.le_of_ble_eq_true rfl, Nat.le_of_ble_eq_true rfl⟩) hK hDD hA0 hP hS ta 9 (wkT hta) rfl rfl hl.1 (Nat.le_of_ble_eq_true rfl) (dk_at dkX5_readThing_1 7 rfl) (fun z16 A17 H locs hw18 hP hS => ?_)
        have ghw18 : q_X9_addThing ta z1 z11 A12 z16 A17 := hw18
        obtain ⟨_, hI, hf19, hw18⟩ := hw18
        refine lv_if_eq (tgt := 46) hx hb (dk_at dkX5_readThing_1 8 rfl) (by decide) (fun c20 => ?_) (fun c20 => ?_)
        · have c20 : z16 = 0 := (i_eq0 (rb hw18 (by decide) (by decide))).mp c20
          refine lv_iconst (v := iI 0) hx hb (dk_at dkX5_readThing_1 11 rfl) (by decide +kernel) ?_
          exact RET 0 _ _ _ _ _ ⟨(u_r_X5_readThing ⟨z1, A2, ghw3, (Or.inr ⟨c5, ⟨z6, A7, ghw8, (Or.inl ⟨c10, ⟨z11, A12, ghw13, (Or.inr ⟨c15, ⟨z16, A17, ghw18, (Or.inl ⟨c20, ⟨rfl, rfl⟩⟩)⟩⟩)⟩⟩)⟩⟩)⟩), hI, fk.trans (fk.trans (fk.trans (fk.trans (fk.rf) hf4 rfl rfl) hf9 rfl rfl) hf14 rfl rfl) hf19 rfl rfl, ⟨by decide, by decide⟩⟩ hP hS (dk_at dkX5_readThing_1 12 rfl)
        · have c20 : ¬ z16 = 0 := mt (i_eq0 (rb hw18 (by decide) (by decide))).mpr c20
          refine lv_iconst (v := iI 1) hx hb (dk_at dkX5_readThing_1 9 rfl) (by decide +kernel) ?_
          refine lv_goto (tgt := 47) hx hb (dk_at dkX5_readThing_1 10 rfl) (by decide) ?_
          exact RET 1 _ _ _ _ _ ⟨(u_r_X5_readThing ⟨z1, A2, ghw3, (Or.inr ⟨c5, ⟨z6, A7, ghw8, (Or.inl ⟨c10, ⟨z11, A12, ghw13, (Or.inr ⟨c15, ⟨z16, A17, ghw18, (Or.inr ⟨c20, ⟨rfl, rfl⟩⟩)⟩⟩)⟩⟩)⟩⟩)⟩), hI, fk.trans (fk.trans (fk.trans (fk.trans (fk.rf) hf4 rfl rfl) hf9 rfl rfl) hf14 rfl rfl) hf19 rfl rfl, ⟨by decide, by decide⟩⟩ hP hS (dk_at dkX5_readThing_1 12 rfl)
    · have c10 : z6 = 0 := (i_eq0 (rb hw8 (by decide) (by decide))).mp c10
      refine lv_iconst (v := iI 0) hx hb (dk_at dkX5_readThing_0 11 rfl) (by decide +kernel) ?_
      exact RET 0 _ _ _ _ _ ⟨(u_r_X5_readThing ⟨z1, A2, ghw3, (Or.inr ⟨c5, ⟨z6, A7, ghw8, (Or.inr ⟨c10, ⟨rfl, rfl⟩⟩)⟩⟩)⟩), hI, fk.trans (fk.trans (fk.rf) hf4 rfl rfl) hf9 rfl rfl, ⟨by decide, by decide⟩⟩ hP hS (dk_at dkX5_readThing_0 12 rfl)

abbrev tr_r_X9_addPerson (ta : Nat) (x1 : Int) (x2 : Int) (A : St) (z : Int) (u : St) : Prop := (∃ z1 : Int, ∃ A2 : St, q_X9_add_1_3 ta x1 A z1 A2 ∧ (((¬ z1 = 0) ∧ (∃ z6 : Int, z6 = A2 (ta + 1) (3 : Int).toNat ∧ (∃ A7 : St, A7 = stA A2 ((ta + 22) + 1) (z6 - 1).toNat x2 ∧ (z = 1 ∧ u = A7)))) ∨ ((z1 = 0) ∧ (z = 0 ∧ u = A2))))
def r_X9_addPerson (ta : Nat) (x1 : Int) (x2 : Int) (A : St) (z : Int) (u : St) : Prop := tr_r_X9_addPerson ta x1 x2 A z u
theorem u_r_X9_addPerson {ta : Nat} {x1 : Int} {x2 : Int} {A : St} {z : Int} {u : St} (h : tr_r_X9_addPerson ta x1 x2 A z u) : r_X9_addPerson ta x1 x2 A z u := h
def q_X9_addPerson (ta : Nat) (x1 : Int) (x2 : Int) (A : St) (z : Int) (u : St) : Prop := r_X9_addPerson ta x1 x2 A z u ∧ IK u ∧ fk [33, 42, 52, 54, 55, 56, 57, 58, 74, 83, 85, 86, 87, 88, 89, 105] [] A u ∧ (0 ≤ z ∧ z ≤ 1)
def ws_kc_X9_addPerson : List Cond := .code yX9_addPerson cX9_addPerson 3 (some .boolean) :: WY
set_option maxHeartbeats 4000000 in
set_option maxRecDepth 100000 in
theorem kc_X9_addPerson (l : Launch) (dC : Nat → ClassId) (dI : Nat → Nat → Nat) (cB cI cJ cZ cQ : ClassId) (aL aS : Nat) (q : Nat → Nat) (A : St) (ta : Nat) (x1 x2 : Int) (hI : IK A) (hta : isT ta) (hx1 : (-2147483648 : Int) ≤ x1 ∧ x1 ≤ 2147483647) (hx2 : (-2147483648 : Int) ≤ x2 ∧ x2 ≤ 2147483647) : KMi l yX9_addPerson ws_kc_X9_addPerson ({ frames := 1, cells := 0, slots := 0, locals := 22 } : Room) aL aS (dC, dI) (tyA cB cI cJ cZ cQ) (WK cB cI cJ cZ cQ q) A [.ref (q ta), .int (iI x1), .int (iI x2)] (fun z u => r_X9_addPerson ta x1 x2 A z u ∧ IK u ∧ fk [33, 42, 52, 54, 55, 56, 57, 58, 74, 83, 85, 86, 87, 88, 89, 105] [] A u ∧ (0 ≤ z ∧ z ≤ 1)) := by
  refine k_metz (cc := cX9_addPerson) (maxL := 3) WK_adr (plainFor_of_name (by decide +kernel)) rfl (Nat.le_of_ble_eq_true rfl) (fun z u h => h.2.2.2) (fun p e s m below meth c Q AS ls hx hb hml hown hts hK hDD hA0 hE RET H locs hP hS hl => ?_)
  have hown : s.vm.findClass RX9 = some m.cls := hown
  have hl : lv_has ls 3 [(0, .ref (q ta)), (1, .int (iI x1)), (2, .int (iI x2))] := hl
  have hiX9 : ∀ w ∈ u_ws RX9 TX9 16, w ∈ ws_kc_X9_addPerson := fun w h => List.mem_cons_of_mem _ (wy_layX9 w h)
  have hiX6 : ∀ w ∈ u_ws RX6 TX6 4, w ∈ ws_kc_X9_addPerson := fun w h => List.mem_cons_of_mem _ (wy_layX6 w h)
  refine lv_aload_n hx hb (dk_at dkX9_addPerson_0 0 rfl) rfl (lv_at hl 0 rfl) ?_
  refine lv_iconst (v := iI 3) hx hb (dk_at dkX9_addPerson_0 1 rfl) (by decide +kernel) ?_
  refine lv_iload_n hx hb (dk_at dkX9_addPerson_0 2 rfl) rfl (lv_at hl 1 rfl) ?_
  refine k_calli (As := [.int (iI 3), .int (iI x1)]) (rest := []) ⟨hx, hb, hml, hown, hts⟩ hE (kc_X9_add_1_3 l dC dI cB cI cJ cZ cQ aL aS q _ ta x1 hI hta hx1) (cwV 2 hts (goodVk wkq_6_18 wkq_5_59 wkq_6_0 wkq_0_6 wkq_6_1) rfl rfl rfl (by decide +kernel) ⟨Nat.le_of_ble_eq_true rfl, Nat.le_of_ble_eq_true rfl⟩) hK hDD hA0 hP hS ta 9 (wkT hta) rfl rfl hl.1 (Nat.le_of_ble_eq_true rfl) (dk_at dkX9_addPerson_0 3 rfl) (fun z1 A2 H locs hw3 hP hS => ?_)
  have ghw3 : q_X9_add_1_3 ta x1 A z1 A2 := hw3
  obtain ⟨_, hI, hf4, hw3⟩ := hw3
  have rz1 : 0 ≤ z1 ∧ z1 ≤ 1 := hw3.1
  have hw3 := hw3.2
  refine lv_if_ne (tgt := 11) hx hb (dk_at dkX9_addPerson_0 4 rfl) (by decide) (fun c5 => ?_) (fun c5 => ?_)
  · have c5 : ¬ z1 = 0 := mt (i_eq0 (rb rz1 (by decide) (by decide))).mpr c5
    have hw3b := hw3 (by omega)
    clear hw3
    refine lv_aload_n hx hb (dk_at dkX9_addPerson_0 7 rfl) rfl (lv_at hl 0 rfl) ?_
    refine va_get (D := (dC, dI)) (ci := 9) (v := .ref (q (ta + 22))) (C := RX9) (T := TX9) (N := 16) hx hb hts hiX9 hown hK hP ta (wkT hta) rfl 14 (by decide) (hts _ (List.mem_cons_of_mem _ wkq_0_9)) (fun _ h9 => h9) rfl (dk_at dkX9_addPerson_0 8 rfl) ?_
    refine va_get (D := (dC, dI)) (ci := 6) (v := .ref (q ((ta + 22) + 1))) (C := RX6) (T := TX6) (N := 4) hx hb hts hiX6 hown hK hP (ta + 22) (wkS hta.s) rfl 0 (by decide) (hts _ (List.mem_cons_of_mem _ wkq_6_52)) (fun _ h9 => h9) rfl (dk_at dkX9_addPerson_0 9 rfl) ?_
    refine lv_aload_n hx hb (dk_at dkX9_addPerson_0 10 rfl) rfl (lv_at hl 0 rfl) ?_
    refine va_get (D := (dC, dI)) (ci := 9) (v := .ref (q (ta + 1))) (C := RX9) (T := TX9) (N := 16) hx hb hts hiX9 hown hK hP ta (wkT hta) rfl 0 (by decide) (hts _ (List.mem_cons_of_mem _ wkq_0_8)) (fun _ h9 => h9) rfl (dk_at dkX9_addPerson_0 11 rfl) ?_
    refine lv_iconst (v := iI 3) hx hb (dk_at dkX9_addPerson_0 12 rfl) (by decide +kernel) ?_
    refine x_iald (Wf := WK cB cI cJ cZ cQ q) hx hb hK hP (ta + 1) 1 (wkTc hta) rfl (by decide) (by decide) (dk_at dkX9_addPerson_0 13 rfl) (fun z6 hz6 => ?_)
    have rz6 : (0 : Int) ≤ z6 ∧ z6 ≤ 3 := by rw [hz6]; exact irTc3 hta hI
    have gz6 := Hd.mk hz6
    refine lv_iconst (v := iI 1) hx hb (dk_at dkX9_addPerson_0 14 rfl) (by decide +kernel) ?_
    refine x_subv (v := z6 - 1) hx hb (dk_at dkX9_addPerson_0 15 rfl) (by omega) ?_
    refine lv_iload_n hx hb (dk_at dkX9_addPerson_1 0 rfl) rfl (lv_at hl 2 rfl) ?_
    refine k_iast (Wf := WK cB cI cJ cZ cQ q) hx hb hK hP hDD hS ((ta + 22) + 1) 1 (wkSs hta.s) rfl (by omega) (by decide) (dk_at dkX9_addPerson_1 1 rfl) (wsSs hta.s) (fun H locs A7 hA7 hP hS => ?_)
    have hI := isSs hta.s hA7 hI (show (-2147483648 : Int) ≤ x2 ∧ x2 ≤ 2147483647 from hx2)
    refine lv_iconst (v := iI 1) hx hb (dk_at dkX9_addPerson_1 2 rfl) (by decide +kernel) ?_
    exact RET 1 _ _ _ _ _ ⟨(u_r_X9_addPerson ⟨z1, A2, ghw3, (Or.inl ⟨c5, ⟨z6, gz6.out, ⟨A7, hA7, ⟨rfl, rfl⟩⟩⟩⟩)⟩), hI, fk.da (fk.trans (fk.rf) hf4 rfl rfl) hA7 (isS.b2 (o := fun b => List.contains [33, 42, 52, 54, 55, 56, 57, 58, 74, 83, 85, 86, 87, 88, 89, 105] (b + 1)) hta.s rfl rfl rfl rfl), ⟨by decide, by decide⟩⟩ hP hS (dk_at dkX9_addPerson_1 3 rfl)
  · have c5 : z1 = 0 := (i_eq0 (rb rz1 (by decide) (by decide))).mp c5
    clear hw3
    refine lv_iconst (v := iI 0) hx hb (dk_at dkX9_addPerson_0 5 rfl) (by decide +kernel) ?_
    exact RET 0 _ _ _ _ _ ⟨(u_r_X9_addPerson ⟨z1, A2, ghw3, (Or.inr ⟨c5, ⟨rfl, rfl⟩⟩)⟩), hI, fk.trans (fk.rf) hf4 rfl rfl, ⟨by decide, by decide⟩⟩ hP hS (dk_at dkX9_addPerson_0 6 rfl)

abbrev tr_r_X5_readPerson (ta : Nat) (A : St) (z : Int) (u : St) : Prop := (∃ z1 : Int, ∃ A2 : St, q_X5_newName ta A z1 A2 ∧ (((z1 = (-1)) ∧ (z = 0 ∧ u = A2)) ∨ ((¬ z1 = (-1)) ∧ (∃ z6 : Int, ∃ A7 : St, q_X5_ownWord 12 A2 z6 A7 ∧ (((¬ z6 = 0) ∧ (∃ z11 : Int, ∃ A12 : St, q_X5_asked_2_0 ta A7 z11 A12 ∧ (((z11 = (-1)) ∧ (z = 0 ∧ u = A12)) ∨ ((¬ z11 = (-1)) ∧ (∃ z16 : Int, ∃ A17 : St, q_X9_addPerson ta z1 z11 A12 z16 A17 ∧ (((z16 = 0) ∧ (z = 0 ∧ u = A17)) ∨ ((¬ z16 = 0) ∧ (z = 1 ∧ u = A17)))))))) ∨ ((z6 = 0) ∧ (z = 0 ∧ u = A7)))))))
def r_X5_readPerson (ta : Nat) (A : St) (z : Int) (u : St) : Prop := tr_r_X5_readPerson ta A z u
theorem u_r_X5_readPerson {ta : Nat} {A : St} {z : Int} {u : St} (h : tr_r_X5_readPerson ta A z u) : r_X5_readPerson ta A z u := h
def q_X5_readPerson (ta : Nat) (A : St) (z : Int) (u : St) : Prop := r_X5_readPerson ta A z u ∧ IK u ∧ fk [33, 42, 52, 54, 55, 56, 57, 58, 74, 83, 85, 86, 87, 88, 89, 105] [(3, 2), (3, 3), (5, 1), (5, 2), (5, 3), (5, 4), (5, 5), (5, 6)] A u ∧ (0 ≤ z ∧ z ≤ 1)
def ws_kc_X5_readPerson : List Cond := .code yX5_readPerson cX5_readPerson 4 (some .boolean) :: WY
set_option maxHeartbeats 4000000 in
set_option maxRecDepth 100000 in
theorem kc_X5_readPerson (l : Launch) (dC : Nat → ClassId) (dI : Nat → Nat → Nat) (cB cI cJ cZ cQ : ClassId) (aL aS : Nat) (q : Nat → Nat) (A : St) (ta : Nat) (hI : IK A) (hta : isT ta) : KMi l yX5_readPerson ws_kc_X5_readPerson ({ frames := 4, cells := 0, slots := 0, locals := 89 } : Room) aL aS (dC, dI) (tyA cB cI cJ cZ cQ) (WK cB cI cJ cZ cQ q) A [.ref (q 3), .ref (q ta)] (fun z u => r_X5_readPerson ta A z u ∧ IK u ∧ fk [33, 42, 52, 54, 55, 56, 57, 58, 74, 83, 85, 86, 87, 88, 89, 105] [(3, 2), (3, 3), (5, 1), (5, 2), (5, 3), (5, 4), (5, 5), (5, 6)] A u ∧ (0 ≤ z ∧ z ≤ 1)) := by
  refine k_metz (cc := cX5_readPerson) (maxL := 4) WK_adr (plainFor_of_name (by decide +kernel)) rfl (Nat.le_of_ble_eq_true rfl) (fun z u h => h.2.2.2) (fun p e s m below meth c Q AS ls hx hb hml hown hts hK hDD hA0 hE RET H locs hP hS hl => ?_)
  have hown : s.vm.findClass RX5 = some m.cls := hown
  have hl : lv_has ls 4 [(0, .ref (q 3)), (1, .ref (q ta))] := hl
  refine lv_aload_n hx hb (dk_at dkX5_readPerson_0 0 rfl) rfl (lv_at hl 0 rfl) ?_
  refine lv_aload_n hx hb (dk_at dkX5_readPerson_0 1 rfl) rfl (lv_at hl 1 rfl) ?_
  refine k_calli (As := [.ref (q ta)]) (rest := []) ⟨hx, hb, hml, hown, hts⟩ hE (kc_X5_newName l dC dI cB cI cJ cZ cQ aL aS q _ ta hI hta) (cwV 1 hts (goodVk wkq_5_45 wkq_5_46 wkq_5_47 wkq_5_28 wkq_5_48) rfl rfl rfl (by decide +kernel) ⟨Nat.le_of_ble_eq_true rfl, Nat.le_of_ble_eq_true rfl⟩) hK hDD hA0 hP hS 3 5 (wkRD) rfl rfl hl.1 (Nat.le_of_ble_eq_true rfl) (dk_at dkX5_readPerson_0 2 rfl) (fun z1 A2 H locs hw3 hP hS => ?_)
  have ghw3 : q_X5_newName ta A z1 A2 := hw3
  obtain ⟨_, hI, hf4, hw3⟩ := hw3
  refine lv_istore_n (lv' := [(2, .int (iI z1)), (0, .ref (q 3)), (1, .ref (q ta))]) hx hb (dk_at dkX5_readPerson_0 3 rfl) rfl hl (by decide) rfl (fun ls hl => ?_)
  refine lv_iload_n hx hb (dk_at dkX5_readPerson_0 4 rfl) rfl (lv_at hl 0 rfl) ?_
  refine lv_iconst (v := iI (-1)) hx hb (dk_at dkX5_readPerson_0 5 rfl) (by decide +kernel) ?_
  refine lv_icmp_eq (tgt := 20) hx hb (dk_at dkX5_readPerson_0 6 rfl) (by decide) (fun c5 => ?_) (fun c5 => ?_)
  · have c5 : z1 = (-1) := (i_eq hw3 ⟨by decide, by decide⟩).mp c5
    refine lv_iconst (v := iI 0) hx hb (dk_at dkX5_readPerson_0 11 rfl) (by decide +kernel) ?_
    exact RET 0 _ _ _ _ _ ⟨(u_r_X5_readPerson ⟨z1, A2, ghw3, (Or.inl ⟨c5, ⟨rfl, rfl⟩⟩)⟩), hI, fk.trans (fk.rf) hf4 rfl rfl, ⟨by decide, by decide⟩⟩ hP hS (dk_at dkX5_readPerson_0 12 rfl)
  · have c5 : ¬ z1 = (-1) := mt (i_eq hw3 ⟨by decide, by decide⟩).mpr c5
    refine lv_aload_n hx hb (dk_at dkX5_readPerson_0 7 rfl) rfl (lv_at hl 1 rfl) ?_
    refine lv_bipush (v := iI 12) hx hb (dk_at dkX5_readPerson_0 8 rfl) (by decide +kernel) ?_
    refine k_calli (As := [.int (iI 12)]) (rest := []) ⟨hx, hb, hml, hown, hts⟩ hE (kc_X5_ownWord l dC dI cB cI cJ cZ cQ aL aS q _ 12 hI ⟨by decide, by decide⟩) (cwV 1 hts (goodVk wkq_6_23 wkq_6_24 wkq_6_25 wkq_5_28 wkq_6_26) rfl rfl rfl (by decide +kernel) ⟨Nat.le_of_ble_eq_true rfl, Nat.le_of_ble_eq_true rfl⟩) hK hDD hA0 hP hS 3 5 (wkRD) rfl rfl hl.1 (Nat.le_of_ble_eq_true rfl) (dk_at dkX5_readPerson_0 9 rfl) (fun z6 A7 H locs hw8 hP hS => ?_)
    have ghw8 : q_X5_ownWord 12 A2 z6 A7 := hw8
    obtain ⟨_, hI, hf9, hw8⟩ := hw8
    refine lv_if_ne (tgt := 22) hx hb (dk_at dkX5_readPerson_0 10 rfl) (by decide) (fun c10 => ?_) (fun c10 => ?_)
    · have c10 : ¬ z6 = 0 := mt (i_eq0 (rb hw8 (by decide) (by decide))).mpr c10
      refine lv_aload_n hx hb (dk_at dkX5_readPerson_0 13 rfl) rfl (lv_at hl 1 rfl) ?_
      refine lv_aload_n hx hb (dk_at dkX5_readPerson_0 14 rfl) rfl (lv_at hl 2 rfl) ?_
      refine lv_iconst (v := iI 0) hx hb (dk_at dkX5_readPerson_0 15 rfl) (by decide +kernel) ?_
      refine k_calli (As := [.ref (q ta), .int (iI 0)]) (rest := []) ⟨hx, hb, hml, hown, hts⟩ hE (kc_X5_asked_2_0 l dC dI cB cI cJ cZ cQ aL aS q _ ta hI hta) (cwV 2 hts (goodVk wkq_6_6 wkq_6_7 wkq_6_8 wkq_5_28 wkq_6_9) rfl rfl rfl (by decide +kernel) ⟨Nat.le_of_ble_eq_true rfl, Nat.le_of_ble_eq_true rfl⟩) hK hDD hA0 hP hS 3 5 (wkRD) rfl rfl hl.1 (Nat.le_of_ble_eq_true rfl) (dk_at dkX5_readPerson_1 0 rfl) (fun z11 A12 H locs hw13 hP hS => ?_)
      have ghw13 : q_X5_asked_2_0 ta A7 z11 A12 := hw13
      obtain ⟨_, hI, hf14, hw13⟩ := hw13
      refine lv_istore_n (lv' := [(3, .int (iI z11)), (2, .int (iI z1)), (0, .ref (q 3)), (1, .ref (q ta))]) hx hb (dk_at dkX5_readPerson_1 1 rfl) rfl hl (by decide) rfl (fun ls hl => ?_)
      refine lv_iload_n hx hb (dk_at dkX5_readPerson_1 2 rfl) rfl (lv_at hl 0 rfl) ?_
      refine lv_iconst (v := iI (-1)) hx hb (dk_at dkX5_readPerson_1 3 rfl) (by decide +kernel) ?_
      refine lv_icmp_eq (tgt := 47) hx hb (dk_at dkX5_readPerson_1 4 rfl) (by decide) (fun c15 => ?_) (fun c15 => ?_)
      · have c15 : z11 = (-1) := (i_eq (rb hw13 (by decide) (by decide)) ⟨by decide, by decide⟩).mp c15
        refine lv_iconst (v := iI 0) hx hb (dk_at dkX5_readPerson_1 12 rfl) (by decide +kernel) ?_
        exact RET 0 _ _ _ _ _ ⟨(u_r_X5_readPerson ⟨z1, A2, ghw3, (Or.inr ⟨c5, ⟨z6, A7, ghw8, (Or.inl ⟨c10, ⟨z11, A12, ghw13, (Or.inl ⟨c15, ⟨rfl, rfl⟩⟩)⟩⟩)⟩⟩)⟩), hI, fk.trans (fk.trans (fk.trans (fk.rf) hf4 rfl rfl) hf9 rfl rfl) hf14 rfl rfl, ⟨by decide, by decide⟩⟩ hP hS (dk_at dkX5_readPerson_1 13 rfl)
      · have c15 : ¬ z11 = (-1) := mt (i_eq (rb hw13 (by decide) (by decide)) ⟨by decide, by decide⟩).mpr c15
        refine lv_aload_n hx hb (dk_at dkX5_readPerson_1 5 rfl) rfl (lv_at hl 3 rfl) ?_
        refine lv_iload_n hx hb (dk_at dkX5_readPerson_1 6 rfl) rfl (lv_at hl 1 rfl) ?_
        refine lv_iload_n hx hb (dk_at dkX5_readPerson_1 7 rfl) rfl (lv_at hl 0 rfl) ?_
        refine k_calli (As := [.int (iI z1), .int (iI z11)]) (rest := []) ⟨hx, hb, hml, hown, hts⟩ hE (kc_X9_addPerson l dC dI cB cI cJ cZ cQ aL aS q _ ta z1 z11 hI hta hw3 (rb hw13 (by decide) (by decide))) (cwV 2 hts (goodVk wkq_6_48 wkq_6_49 wkq_6_50 wkq_0_6 wkq_6_51) rfl rfl rfl (by decide +kernel) ⟨Nat.le_of_ble_eq_true rfl, Nat.le_of_ble_eq_true rfl⟩) hK hDD hA0 hP hS ta 9 (wkT hta) rfl rfl hl.1 (Nat.le_of_ble_eq_true rfl) (dk_at dkX5_readPerson_1 8 rfl) (fun z16 A17 H locs hw18 hP hS => ?_)
        have ghw18 : q_X9_addPerson ta z1 z11 A12 z16 A17 := hw18
        obtain ⟨_, hI, hf19, hw18⟩ := hw18
        refine lv_if_eq (tgt := 47) hx hb (dk_at dkX5_readPerson_1 9 rfl) (by decide) (fun c20 => ?_) (fun c20 => ?_)
        · have c20 : z16 = 0 := (i_eq0 (rb hw18 (by decide) (by decide))).mp c20
          refine lv_iconst (v := iI 0) hx hb (dk_at dkX5_readPerson_1 12 rfl) (by decide +kernel) ?_
          exact RET 0 _ _ _ _ _ ⟨(u_r_X5_readPerson ⟨z1, A2, ghw3, (Or.inr ⟨c5, ⟨z6, A7, ghw8, (Or.inl ⟨c10, ⟨z11, A12, ghw13, (Or.inr ⟨c15, ⟨z16, A17, ghw18, (Or.inl ⟨c20, ⟨rfl, rfl⟩⟩)⟩⟩)⟩⟩)⟩⟩)⟩), hI, fk.trans (fk.trans (fk.trans (fk.trans (fk.rf) hf4 rfl rfl) hf9 rfl rfl) hf14 rfl rfl) hf19 rfl rfl, ⟨by decide, by decide⟩⟩ hP hS (dk_at dkX5_readPerson_1 13 rfl)
        · have c20 : ¬ z16 = 0 := mt (i_eq0 (rb hw18 (by decide) (by decide))).mpr c20
          refine lv_iconst (v := iI 1) hx hb (dk_at dkX5_readPerson_1 10 rfl) (by decide +kernel) ?_
          refine lv_goto (tgt := 48) hx hb (dk_at dkX5_readPerson_1 11 rfl) (by decide) ?_
          exact RET 1 _ _ _ _ _ ⟨(u_r_X5_readPerson ⟨z1, A2, ghw3, (Or.inr ⟨c5, ⟨z6, A7, ghw8, (Or.inl ⟨c10, ⟨z11, A12, ghw13, (Or.inr ⟨c15, ⟨z16, A17, ghw18, (Or.inr ⟨c20, ⟨rfl, rfl⟩⟩)⟩⟩)⟩⟩)⟩⟩)⟩), hI, fk.trans (fk.trans (fk.trans (fk.trans (fk.rf) hf4 rfl rfl) hf9 rfl rfl) hf14 rfl rfl) hf19 rfl rfl, ⟨by decide, by decide⟩⟩ hP hS (dk_at dkX5_readPerson_1 13 rfl)
    · have c10 : z6 = 0 := (i_eq0 (rb hw8 (by decide) (by decide))).mp c10
      refine lv_iconst (v := iI 0) hx hb (dk_at dkX5_readPerson_0 11 rfl) (by decide +kernel) ?_
      exact RET 0 _ _ _ _ _ ⟨(u_r_X5_readPerson ⟨z1, A2, ghw3, (Or.inr ⟨c5, ⟨z6, A7, ghw8, (Or.inr ⟨c10, ⟨rfl, rfl⟩⟩)⟩⟩)⟩), hI, fk.trans (fk.trans (fk.rf) hf4 rfl rfl) hf9 rfl rfl, ⟨by decide, by decide⟩⟩ hP hS (dk_at dkX5_readPerson_0 12 rfl)

abbrev tr_r_X9_addKey (ta : Nat) (x1 : Int) (x2 : Int) (A : St) (z : Int) (u : St) : Prop := (∃ z1 : Int, ∃ A2 : St, q_X9_add_1_2 ta x1 A z1 A2 ∧ (((¬ z1 = 0) ∧ (∃ z6 : Int, z6 = A2 (ta + 1) (2 : Int).toNat ∧ (∃ A7 : St, A7 = stA A2 ((ta + 22) + 2) (z6 - 1).toNat x2 ∧ (z = 1 ∧ u = A7)))) ∨ ((z1 = 0) ∧ (z = 0 ∧ u = A2))))
def r_X9_addKey (ta : Nat) (x1 : Int) (x2 : Int) (A : St) (z : Int) (u : St) : Prop := tr_r_X9_addKey ta x1 x2 A z u
theorem u_r_X9_addKey {ta : Nat} {x1 : Int} {x2 : Int} {A : St} {z : Int} {u : St} (h : tr_r_X9_addKey ta x1 x2 A z u) : r_X9_addKey ta x1 x2 A z u := h
def q_X9_addKey (ta : Nat) (x1 : Int) (x2 : Int) (A : St) (z : Int) (u : St) : Prop := r_X9_addKey ta x1 x2 A z u ∧ IK u ∧ fk [34, 43, 52, 54, 55, 56, 57, 58, 75, 83, 85, 86, 87, 88, 89, 106] [] A u ∧ (0 ≤ z ∧ z ≤ 1)
def ws_kc_X9_addKey : List Cond := .code yX9_addKey cX9_addKey 3 (some .boolean) :: WY
set_option maxHeartbeats 4000000 in
set_option maxRecDepth 100000 in
theorem kc_X9_addKey (l : Launch) (dC : Nat → ClassId) (dI : Nat → Nat → Nat) (cB cI cJ cZ cQ : ClassId) (aL aS : Nat) (q : Nat → Nat) (A : St) (ta : Nat) (x1 x2 : Int) (hI : IK A) (hta : isT ta) (hx1 : (-2147483648 : Int) ≤ x1 ∧ x1 ≤ 2147483647) (hx2 : (-2147483648 : Int) ≤ x2 ∧ x2 ≤ 2147483647) : KMi l yX9_addKey ws_kc_X9_addKey ({ frames := 1, cells := 0, slots := 0, locals := 22 } : Room) aL aS (dC, dI) (tyA cB cI cJ cZ cQ) (WK cB cI cJ cZ cQ q) A [.ref (q ta), .int (iI x1), .int (iI x2)] (fun z u => r_X9_addKey ta x1 x2 A z u ∧ IK u ∧ fk [34, 43, 52, 54, 55, 56, 57, 58, 75, 83, 85, 86, 87, 88, 89, 106] [] A u ∧ (0 ≤ z ∧ z ≤ 1)) := by
  refine k_metz (cc := cX9_addKey) (maxL := 3) WK_adr (plainFor_of_name (by decide +kernel)) rfl (Nat.le_of_ble_eq_true rfl) (fun z u h => h.2.2.2) (fun p e s m below meth c Q AS ls hx hb hml hown hts hK hDD hA0 hE RET H locs hP hS hl => ?_)
  have hown : s.vm.findClass RX9 = some m.cls := hown
  have hl : lv_has ls 3 [(0, .ref (q ta)), (1, .int (iI x1)), (2, .int (iI x2))] := hl
  have hiX9 : ∀ w ∈ u_ws RX9 TX9 16, w ∈ ws_kc_X9_addKey := fun w h => List.mem_cons_of_mem _ (wy_layX9 w h)
  have hiX6 : ∀ w ∈ u_ws RX6 TX6 4, w ∈ ws_kc_X9_addKey := fun w h => List.mem_cons_of_mem _ (wy_layX6 w h)
  refine lv_aload_n hx hb (dk_at dkX9_addKey_0 0 rfl) rfl (lv_at hl 0 rfl) ?_
  refine lv_iconst (v := iI 2) hx hb (dk_at dkX9_addKey_0 1 rfl) (by decide +kernel) ?_
  refine lv_iload_n hx hb (dk_at dkX9_addKey_0 2 rfl) rfl (lv_at hl 1 rfl) ?_
  refine k_calli (As := [.int (iI 2), .int (iI x1)]) (rest := []) ⟨hx, hb, hml, hown, hts⟩ hE (kc_X9_add_1_2 l dC dI cB cI cJ cZ cQ aL aS q _ ta x1 hI hta hx1) (cwV 2 hts (goodVk wkq_6_18 wkq_5_59 wkq_6_0 wkq_0_6 wkq_6_1) rfl rfl rfl (by decide +kernel) ⟨Nat.le_of_ble_eq_true rfl, Nat.le_of_ble_eq_true rfl⟩) hK hDD hA0 hP hS ta 9 (wkT hta) rfl rfl hl.1 (Nat.le_of_ble_eq_true rfl) (dk_at dkX9_addKey_0 3 rfl) (fun z1 A2 H locs hw3 hP hS => ?_)
  have ghw3 : q_X9_add_1_2 ta x1 A z1 A2 := hw3
  obtain ⟨_, hI, hf4, hw3⟩ := hw3
  have rz1 : 0 ≤ z1 ∧ z1 ≤ 1 := hw3.1
  have hw3 := hw3.2
  refine lv_if_ne (tgt := 11) hx hb (dk_at dkX9_addKey_0 4 rfl) (by decide) (fun c5 => ?_) (fun c5 => ?_)
  · have c5 : ¬ z1 = 0 := mt (i_eq0 (rb rz1 (by decide) (by decide))).mpr c5
    have hw3b := hw3 (by omega)
    clear hw3
    refine lv_aload_n hx hb (dk_at dkX9_addKey_0 7 rfl) rfl (lv_at hl 0 rfl) ?_
    refine va_get (D := (dC, dI)) (ci := 9) (v := .ref (q (ta + 22))) (C := RX9) (T := TX9) (N := 16) hx hb hts hiX9 hown hK hP ta (wkT hta) rfl 14 (by decide) (hts _ (List.mem_cons_of_mem _ wkq_0_9)) (fun _ h9 => h9) rfl (dk_at dkX9_addKey_0 8 rfl) ?_
    refine va_get (D := (dC, dI)) (ci := 6) (v := .ref (q ((ta + 22) + 2))) (C := RX6) (T := TX6) (N := 4) hx hb hts hiX6 hown hK hP (ta + 22) (wkS hta.s) rfl 1 (by decide) (hts _ (List.mem_cons_of_mem _ wkq_0_10)) (fun _ h9 => h9) rfl (dk_at dkX9_addKey_0 9 rfl) ?_
    refine lv_aload_n hx hb (dk_at dkX9_addKey_0 10 rfl) rfl (lv_at hl 0 rfl) ?_
    refine va_get (D := (dC, dI)) (ci := 9) (v := .ref (q (ta + 1))) (C := RX9) (T := TX9) (N := 16) hx hb hts hiX9 hown hK hP ta (wkT hta) rfl 0 (by decide) (hts _ (List.mem_cons_of_mem _ wkq_0_8)) (fun _ h9 => h9) rfl (dk_at dkX9_addKey_0 11 rfl) ?_
    refine lv_iconst (v := iI 2) hx hb (dk_at dkX9_addKey_0 12 rfl) (by decide +kernel) ?_
    refine x_iald (Wf := WK cB cI cJ cZ cQ q) hx hb hK hP (ta + 1) 1 (wkTc hta) rfl (by decide) (by decide) (dk_at dkX9_addKey_0 13 rfl) (fun z6 hz6 => ?_)
    have rz6 : (0 : Int) ≤ z6 ∧ z6 ≤ 4 := by rw [hz6]; exact irTc2 hta hI
    have gz6 := Hd.mk hz6
    refine lv_iconst (v := iI 1) hx hb (dk_at dkX9_addKey_0 14 rfl) (by decide +kernel) ?_
    refine x_subv (v := z6 - 1) hx hb (dk_at dkX9_addKey_0 15 rfl) (by omega) ?_
    refine lv_iload_n hx hb (dk_at dkX9_addKey_1 0 rfl) rfl (lv_at hl 2 rfl) ?_
    refine k_iast (Wf := WK cB cI cJ cZ cQ q) hx hb hK hP hDD hS ((ta + 22) + 2) 1 (wkSw hta.s) rfl (by omega) (by decide) (dk_at dkX9_addKey_1 1 rfl) (wsSw hta.s) (fun H locs A7 hA7 hP hS => ?_)
    have hI := isSw hta.s hA7 hI (show (-2147483648 : Int) ≤ x2 ∧ x2 ≤ 2147483647 from hx2)
    refine lv_iconst (v := iI 1) hx hb (dk_at dkX9_addKey_1 2 rfl) (by decide +kernel) ?_
    exact RET 1 _ _ _ _ _ ⟨(u_r_X9_addKey ⟨z1, A2, ghw3, (Or.inl ⟨c5, ⟨z6, gz6.out, ⟨A7, hA7, ⟨rfl, rfl⟩⟩⟩⟩)⟩), hI, fk.da (fk.trans (fk.rf) hf4 rfl rfl) hA7 (isS.b2 (o := fun b => List.contains [34, 43, 52, 54, 55, 56, 57, 58, 75, 83, 85, 86, 87, 88, 89, 106] (b + 2)) hta.s rfl rfl rfl rfl), ⟨by decide, by decide⟩⟩ hP hS (dk_at dkX9_addKey_1 3 rfl)
  · have c5 : z1 = 0 := (i_eq0 (rb rz1 (by decide) (by decide))).mp c5
    clear hw3
    refine lv_iconst (v := iI 0) hx hb (dk_at dkX9_addKey_0 5 rfl) (by decide +kernel) ?_
    exact RET 0 _ _ _ _ _ ⟨(u_r_X9_addKey ⟨z1, A2, ghw3, (Or.inr ⟨c5, ⟨rfl, rfl⟩⟩)⟩), hI, fk.trans (fk.rf) hf4 rfl rfl, ⟨by decide, by decide⟩⟩ hP hS (dk_at dkX9_addKey_0 6 rfl)

abbrev tr_r_X5_readKey (ta : Nat) (A : St) (z : Int) (u : St) : Prop := (∃ z1 : Int, ∃ A2 : St, q_X5_newName ta A z1 A2 ∧ (((z1 = (-1)) ∧ (z = 0 ∧ u = A2)) ∨ ((¬ z1 = (-1)) ∧ (∃ z6 : Int, ∃ A7 : St, q_X5_ownWord 13 A2 z6 A7 ∧ (((¬ z6 = 0) ∧ (∃ z11 : Int, ∃ A12 : St, q_X5_askedSpot ta A7 z11 A12 ∧ (((z11 = (-1)) ∧ (z = 0 ∧ u = A12)) ∨ ((¬ z11 = (-1)) ∧ (∃ z16 : Int, ∃ A17 : St, q_X9_addKey ta z1 z11 A12 z16 A17 ∧ (((z16 = 0) ∧ (z = 0 ∧ u = A17)) ∨ ((¬ z16 = 0) ∧ (z = 1 ∧ u = A17)))))))) ∨ ((z6 = 0) ∧ (z = 0 ∧ u = A7)))))))
def r_X5_readKey (ta : Nat) (A : St) (z : Int) (u : St) : Prop := tr_r_X5_readKey ta A z u
theorem u_r_X5_readKey {ta : Nat} {A : St} {z : Int} {u : St} (h : tr_r_X5_readKey ta A z u) : r_X5_readKey ta A z u := h
def q_X5_readKey (ta : Nat) (A : St) (z : Int) (u : St) : Prop := r_X5_readKey ta A z u ∧ IK u ∧ fk [34, 43, 52, 54, 55, 56, 57, 58, 75, 83, 85, 86, 87, 88, 89, 106] [(3, 2), (3, 3), (5, 1), (5, 2), (5, 3), (5, 4), (5, 5), (5, 6)] A u ∧ (0 ≤ z ∧ z ≤ 1)
def ws_kc_X5_readKey : List Cond := .code yX5_readKey cX5_readKey 4 (some .boolean) :: WY
set_option maxHeartbeats 4000000 in
set_option maxRecDepth 100000 in
theorem kc_X5_readKey (l : Launch) (dC : Nat → ClassId) (dI : Nat → Nat → Nat) (cB cI cJ cZ cQ : ClassId) (aL aS : Nat) (q : Nat → Nat) (A : St) (ta : Nat) (hI : IK A) (hta : isT ta) : KMi l yX5_readKey ws_kc_X5_readKey ({ frames := 4, cells := 0, slots := 0, locals := 89 } : Room) aL aS (dC, dI) (tyA cB cI cJ cZ cQ) (WK cB cI cJ cZ cQ q) A [.ref (q 3), .ref (q ta)] (fun z u => r_X5_readKey ta A z u ∧ IK u ∧ fk [34, 43, 52, 54, 55, 56, 57, 58, 75, 83, 85, 86, 87, 88, 89, 106] [(3, 2), (3, 3), (5, 1), (5, 2), (5, 3), (5, 4), (5, 5), (5, 6)] A u ∧ (0 ≤ z ∧ z ≤ 1)) := by
  refine k_metz (cc := cX5_readKey) (maxL := 4) WK_adr (plainFor_of_name (by decide +kernel)) rfl (Nat.le_of_ble_eq_true rfl) (fun z u h => h.2.2.2) (fun p e s m below meth c Q AS ls hx hb hml hown hts hK hDD hA0 hE RET H locs hP hS hl => ?_)
  have hown : s.vm.findClass RX5 = some m.cls := hown
  have hl : lv_has ls 4 [(0, .ref (q 3)), (1, .ref (q ta))] := hl
  refine lv_aload_n hx hb (dk_at dkX5_readKey_0 0 rfl) rfl (lv_at hl 0 rfl) ?_
  refine lv_aload_n hx hb (dk_at dkX5_readKey_0 1 rfl) rfl (lv_at hl 1 rfl) ?_
  refine k_calli (As := [.ref (q ta)]) (rest := []) ⟨hx, hb, hml, hown, hts⟩ hE (kc_X5_newName l dC dI cB cI cJ cZ cQ aL aS q _ ta hI hta) (cwV 1 hts (goodVk wkq_5_45 wkq_5_46 wkq_5_47 wkq_5_28 wkq_5_48) rfl rfl rfl (by decide +kernel) ⟨Nat.le_of_ble_eq_true rfl, Nat.le_of_ble_eq_true rfl⟩) hK hDD hA0 hP hS 3 5 (wkRD) rfl rfl hl.1 (Nat.le_of_ble_eq_true rfl) (dk_at dkX5_readKey_0 2 rfl) (fun z1 A2 H locs hw3 hP hS => ?_)
  have ghw3 : q_X5_newName ta A z1 A2 := hw3
  obtain ⟨_, hI, hf4, hw3⟩ := hw3
  refine lv_istore_n (lv' := [(2, .int (iI z1)), (0, .ref (q 3)), (1, .ref (q ta))]) hx hb (dk_at dkX5_readKey_0 3 rfl) rfl hl (by decide) rfl (fun ls hl => ?_)
  refine lv_iload_n hx hb (dk_at dkX5_readKey_0 4 rfl) rfl (lv_at hl 0 rfl) ?_
  refine lv_iconst (v := iI (-1)) hx hb (dk_at dkX5_readKey_0 5 rfl) (by decide +kernel) ?_
  refine lv_icmp_eq (tgt := 20) hx hb (dk_at dkX5_readKey_0 6 rfl) (by decide) (fun c5 => ?_) (fun c5 => ?_)
  · have c5 : z1 = (-1) := (i_eq hw3 ⟨by decide, by decide⟩).mp c5
    refine lv_iconst (v := iI 0) hx hb (dk_at dkX5_readKey_0 11 rfl) (by decide +kernel) ?_
    exact RET 0 _ _ _ _ _ ⟨(u_r_X5_readKey ⟨z1, A2, ghw3, (Or.inl ⟨c5, ⟨rfl, rfl⟩⟩)⟩), hI, fk.trans (fk.rf) hf4 rfl rfl, ⟨by decide, by decide⟩⟩ hP hS (dk_at dkX5_readKey_0 12 rfl)
  · have c5 : ¬ z1 = (-1) := mt (i_eq hw3 ⟨by decide, by decide⟩).mpr c5
    refine lv_aload_n hx hb (dk_at dkX5_readKey_0 7 rfl) rfl (lv_at hl 1 rfl) ?_
    refine lv_bipush (v := iI 13) hx hb (dk_at dkX5_readKey_0 8 rfl) (by decide +kernel) ?_
    refine k_calli (As := [.int (iI 13)]) (rest := []) ⟨hx, hb, hml, hown, hts⟩ hE (kc_X5_ownWord l dC dI cB cI cJ cZ cQ aL aS q _ 13 hI ⟨by decide, by decide⟩) (cwV 1 hts (goodVk wkq_6_23 wkq_6_24 wkq_6_25 wkq_5_28 wkq_6_26) rfl rfl rfl (by decide +kernel) ⟨Nat.le_of_ble_eq_true rfl, Nat.le_of_ble_eq_true rfl⟩) hK hDD hA0 hP hS 3 5 (wkRD) rfl rfl hl.1 (Nat.le_of_ble_eq_true rfl) (dk_at dkX5_readKey_0 9 rfl) (fun z6 A7 H locs hw8 hP hS => ?_)
    have ghw8 : q_X5_ownWord 13 A2 z6 A7 := hw8
    obtain ⟨_, hI, hf9, hw8⟩ := hw8
    refine lv_if_ne (tgt := 22) hx hb (dk_at dkX5_readKey_0 10 rfl) (by decide) (fun c10 => ?_) (fun c10 => ?_)
    · have c10 : ¬ z6 = 0 := mt (i_eq0 (rb hw8 (by decide) (by decide))).mpr c10
      refine lv_aload_n hx hb (dk_at dkX5_readKey_0 13 rfl) rfl (lv_at hl 1 rfl) ?_
      refine lv_aload_n hx hb (dk_at dkX5_readKey_0 14 rfl) rfl (lv_at hl 2 rfl) ?_
      refine k_calli (As := [.ref (q ta)]) (rest := []) ⟨hx, hb, hml, hown, hts⟩ hE (kc_X5_askedSpot l dC dI cB cI cJ cZ cQ aL aS q _ ta hI hta) (cwV 1 hts (goodVk wkq_6_35 wkq_6_36 wkq_6_37 wkq_5_28 wkq_6_38) rfl rfl rfl (by decide +kernel) ⟨Nat.le_of_ble_eq_true rfl, Nat.le_of_ble_eq_true rfl⟩) hK hDD hA0 hP hS 3 5 (wkRD) rfl rfl hl.1 (Nat.le_of_ble_eq_true rfl) (dk_at dkX5_readKey_0 15 rfl) (fun z11 A12 H locs hw13 hP hS => ?_)
      have ghw13 : q_X5_askedSpot ta A7 z11 A12 := hw13
      obtain ⟨_, hI, hf14, hw13⟩ := hw13
      refine lv_istore_n (lv' := [(3, .int (iI z11)), (2, .int (iI z1)), (0, .ref (q 3)), (1, .ref (q ta))]) hx hb (dk_at dkX5_readKey_1 0 rfl) rfl hl (by decide) rfl (fun ls hl => ?_)
      refine lv_iload_n hx hb (dk_at dkX5_readKey_1 1 rfl) rfl (lv_at hl 0 rfl) ?_
      refine lv_iconst (v := iI (-1)) hx hb (dk_at dkX5_readKey_1 2 rfl) (by decide +kernel) ?_
      refine lv_icmp_eq (tgt := 46) hx hb (dk_at dkX5_readKey_1 3 rfl) (by decide) (fun c15 => ?_) (fun c15 => ?_)
      · have c15 : z11 = (-1) := (i_eq hw13 ⟨by decide, by decide⟩).mp c15
        refine lv_iconst (v := iI 0) hx hb (dk_at dkX5_readKey_1 11 rfl) (by decide +kernel) ?_
        exact RET 0 _ _ _ _ _ ⟨(u_r_X5_readKey ⟨z1, A2, ghw3, (Or.inr ⟨c5, ⟨z6, A7, ghw8, (Or.inl ⟨c10, ⟨z11, A12, ghw13, (Or.inl ⟨c15, ⟨rfl, rfl⟩⟩)⟩⟩)⟩⟩)⟩), hI, fk.trans (fk.trans (fk.trans (fk.rf) hf4 rfl rfl) hf9 rfl rfl) hf14 rfl rfl, ⟨by decide, by decide⟩⟩ hP hS (dk_at dkX5_readKey_1 12 rfl)
      · have c15 : ¬ z11 = (-1) := mt (i_eq hw13 ⟨by decide, by decide⟩).mpr c15
        refine lv_aload_n hx hb (dk_at dkX5_readKey_1 4 rfl) rfl (lv_at hl 3 rfl) ?_
        refine lv_iload_n hx hb (dk_at dkX5_readKey_1 5 rfl) rfl (lv_at hl 1 rfl) ?_
        refine lv_iload_n hx hb (dk_at dkX5_readKey_1 6 rfl) rfl (lv_at hl 0 rfl) ?_
        refine k_calli (As := [.int (iI z1), .int (iI z11)]) (rest := []) ⟨hx, hb, hml, hown, hts⟩ hE (kc_X9_addKey l dC dI cB cI cJ cZ cQ aL aS q _ ta z1 z11 hI hta hw3 hw13) (cwV 2 hts (goodVk wkq_6_40 wkq_6_41 wkq_6_42 wkq_0_6 wkq_6_43) rfl rfl rfl (by decide +kernel) ⟨Nat.le_of_ble_eq_true rfl, Nat.le_of_ble_eq_true rfl⟩) hK hDD hA0 hP hS ta 9 (wkT hta) rfl rfl hl.1 (Nat.le_of_ble_eq_true rfl) (dk_at dkX5_readKey_1 7 rfl) (fun z16 A17 H locs hw18 hP hS => ?_)
        have ghw18 : q_X9_addKey ta z1 z11 A12 z16 A17 := hw18
        obtain ⟨_, hI, hf19, hw18⟩ := hw18
        refine lv_if_eq (tgt := 46) hx hb (dk_at dkX5_readKey_1 8 rfl) (by decide) (fun c20 => ?_) (fun c20 => ?_)
        · have c20 : z16 = 0 := (i_eq0 (rb hw18 (by decide) (by decide))).mp c20
          refine lv_iconst (v := iI 0) hx hb (dk_at dkX5_readKey_1 11 rfl) (by decide +kernel) ?_
          exact RET 0 _ _ _ _ _ ⟨(u_r_X5_readKey ⟨z1, A2, ghw3, (Or.inr ⟨c5, ⟨z6, A7, ghw8, (Or.inl ⟨c10, ⟨z11, A12, ghw13, (Or.inr ⟨c15, ⟨z16, A17, ghw18, (Or.inl ⟨c20, ⟨rfl, rfl⟩⟩)⟩⟩)⟩⟩)⟩⟩)⟩), hI, fk.trans (fk.trans (fk.trans (fk.trans (fk.rf) hf4 rfl rfl) hf9 rfl rfl) hf14 rfl rfl) hf19 rfl rfl, ⟨by decide, by decide⟩⟩ hP hS (dk_at dkX5_readKey_1 12 rfl)
        · have c20 : ¬ z16 = 0 := mt (i_eq0 (rb hw18 (by decide) (by decide))).mpr c20
          refine lv_iconst (v := iI 1) hx hb (dk_at dkX5_readKey_1 9 rfl) (by decide +kernel) ?_
          refine lv_goto (tgt := 47) hx hb (dk_at dkX5_readKey_1 10 rfl) (by decide) ?_
          exact RET 1 _ _ _ _ _ ⟨(u_r_X5_readKey ⟨z1, A2, ghw3, (Or.inr ⟨c5, ⟨z6, A7, ghw8, (Or.inl ⟨c10, ⟨z11, A12, ghw13, (Or.inr ⟨c15, ⟨z16, A17, ghw18, (Or.inr ⟨c20, ⟨rfl, rfl⟩⟩)⟩⟩)⟩⟩)⟩⟩)⟩), hI, fk.trans (fk.trans (fk.trans (fk.trans (fk.rf) hf4 rfl rfl) hf9 rfl rfl) hf14 rfl rfl) hf19 rfl rfl, ⟨by decide, by decide⟩⟩ hP hS (dk_at dkX5_readKey_1 12 rfl)
    · have c10 : z6 = 0 := (i_eq0 (rb hw8 (by decide) (by decide))).mp c10
      refine lv_iconst (v := iI 0) hx hb (dk_at dkX5_readKey_0 11 rfl) (by decide +kernel) ?_
      exact RET 0 _ _ _ _ _ ⟨(u_r_X5_readKey ⟨z1, A2, ghw3, (Or.inr ⟨c5, ⟨z6, A7, ghw8, (Or.inr ⟨c10, ⟨rfl, rfl⟩⟩)⟩⟩)⟩), hI, fk.trans (fk.trans (fk.rf) hf4 rfl rfl) hf9 rfl rfl, ⟨by decide, by decide⟩⟩ hP hS (dk_at dkX5_readKey_0 12 rfl)

abbrev tr_r_X9_addDoor (ta : Nat) (x1 : Int) (x2 : Int) (x3 : Int) (x4 : Int) (A : St) (z : Int) (u : St) : Prop := (∃ z1 : Int, ∃ A2 : St, q_X9_add_1_1 ta x1 A z1 A2 ∧ (((¬ z1 = 0) ∧ (∃ z6 : Int, z6 = A2 (ta + 1) (1 : Int).toNat ∧ (∃ A7 : St, A7 = stA A2 (ta + 8) (z6 - 1).toNat x2 ∧ (∃ A8 : St, A8 = stA A7 (ta + 9) (z6 - 1).toNat x3 ∧ (∃ A9 : St, A9 = stA A8 (ta + 10) (z6 - 1).toNat x4 ∧ (z = 1 ∧ u = A9)))))) ∨ ((z1 = 0) ∧ (z = 0 ∧ u = A2))))
def r_X9_addDoor (ta : Nat) (x1 : Int) (x2 : Int) (x3 : Int) (x4 : Int) (A : St) (z : Int) (u : St) : Prop := tr_r_X9_addDoor ta x1 x2 x3 x4 A z u
theorem u_r_X9_addDoor {ta : Nat} {x1 : Int} {x2 : Int} {x3 : Int} {x4 : Int} {A : St} {z : Int} {u : St} (h : tr_r_X9_addDoor ta x1 x2 x3 x4 A z u) : r_X9_addDoor ta x1 x2 x3 x4 A z u := h
def q_X9_addDoor (ta : Nat) (x1 : Int) (x2 : Int) (x3 : Int) (x4 : Int) (A : St) (z : Int) (u : St) : Prop := r_X9_addDoor ta x1 x2 x3 x4 A z u ∧ IK u ∧ fk [52, 54, 55, 56, 57, 58, 59, 60, 61, 83, 85, 86, 87, 88, 89, 90, 91, 92] [] A u ∧ (0 ≤ z ∧ z ≤ 1)
def ws_kc_X9_addDoor : List Cond := .code yX9_addDoor cX9_addDoor 6 (some .boolean) :: WY
set_option maxHeartbeats 4000000 in
set_option maxRecDepth 100000 in
theorem kc_X9_addDoor (l : Launch) (dC : Nat → ClassId) (dI : Nat → Nat → Nat) (cB cI cJ cZ cQ : ClassId) (aL aS : Nat) (q : Nat → Nat) (A : St) (ta : Nat) (x1 x2 x3 x4 : Int) (hI : IK A) (hta : isT ta) (hx1 : (-2147483648 : Int) ≤ x1 ∧ x1 ≤ 2147483647) (hx2 : (-2147483648 : Int) ≤ x2 ∧ x2 ≤ 2147483647) (hx3 : (-2147483648 : Int) ≤ x3 ∧ x3 ≤ 2147483647) (hx4 : (-2147483648 : Int) ≤ x4 ∧ x4 ≤ 2147483647) : KMi l yX9_addDoor ws_kc_X9_addDoor ({ frames := 1, cells := 0, slots := 0, locals := 22 } : Room) aL aS (dC, dI) (tyA cB cI cJ cZ cQ) (WK cB cI cJ cZ cQ q) A [.ref (q ta), .int (iI x1), .int (iI x2), .int (iI x3), .int (iI x4)] (fun z u => r_X9_addDoor ta x1 x2 x3 x4 A z u ∧ IK u ∧ fk [52, 54, 55, 56, 57, 58, 59, 60, 61, 83, 85, 86, 87, 88, 89, 90, 91, 92] [] A u ∧ (0 ≤ z ∧ z ≤ 1)) := by
  refine k_metz (cc := cX9_addDoor) (maxL := 6) WK_adr (plainFor_of_name (by decide +kernel)) rfl (Nat.le_of_ble_eq_true rfl) (fun z u h => h.2.2.2) (fun p e s m below meth c Q AS ls hx hb hml hown hts hK hDD hA0 hE RET H locs hP hS hl => ?_)
  have hown : s.vm.findClass RX9 = some m.cls := hown
  have hl : lv_has ls 6 [(0, .ref (q ta)), (1, .int (iI x1)), (2, .int (iI x2)), (3, .int (iI x3)), (4, .int (iI x4))] := hl
  have hiX9 : ∀ w ∈ u_ws RX9 TX9 16, w ∈ ws_kc_X9_addDoor := fun w h => List.mem_cons_of_mem _ (wy_layX9 w h)
  refine lv_aload_n hx hb (dk_at dkX9_addDoor_0 0 rfl) rfl (lv_at hl 0 rfl) ?_
  refine lv_iconst (v := iI 1) hx hb (dk_at dkX9_addDoor_0 1 rfl) (by decide +kernel) ?_
  refine lv_iload_n hx hb (dk_at dkX9_addDoor_0 2 rfl) rfl (lv_at hl 1 rfl) ?_
  refine k_calli (As := [.int (iI 1), .int (iI x1)]) (rest := []) ⟨hx, hb, hml, hown, hts⟩ hE (kc_X9_add_1_1 l dC dI cB cI cJ cZ cQ aL aS q _ ta x1 hI hta hx1) (cwV 2 hts (goodVk wkq_6_18 wkq_5_59 wkq_6_0 wkq_0_6 wkq_6_1) rfl rfl rfl (by decide +kernel) ⟨Nat.le_of_ble_eq_true rfl, Nat.le_of_ble_eq_true rfl⟩) hK hDD hA0 hP hS ta 9 (wkT hta) rfl rfl hl.1 (Nat.le_of_ble_eq_true rfl) (dk_at dkX9_addDoor_0 3 rfl) (fun z1 A2 H locs hw3 hP hS => ?_)
  have ghw3 : q_X9_add_1_1 ta x1 A z1 A2 := hw3
  obtain ⟨_, hI, hf4, hw3⟩ := hw3
  have rz1 : 0 ≤ z1 ∧ z1 ≤ 1 := hw3.1
  have hw3 := hw3.2
  refine lv_if_ne (tgt := 11) hx hb (dk_at dkX9_addDoor_0 4 rfl) (by decide) (fun c5 => ?_) (fun c5 => ?_)
  · have c5 : ¬ z1 = 0 := mt (i_eq0 (rb rz1 (by decide) (by decide))).mpr c5
    have hw3b := hw3 (by omega)
    clear hw3
    refine lv_aload_n hx hb (dk_at dkX9_addDoor_0 7 rfl) rfl (lv_at hl 0 rfl) ?_
    refine va_get (D := (dC, dI)) (ci := 9) (v := .ref (q (ta + 1))) (C := RX9) (T := TX9) (N := 16) hx hb hts hiX9 hown hK hP ta (wkT hta) rfl 0 (by decide) (hts _ (List.mem_cons_of_mem _ wkq_0_8)) (fun _ h9 => h9) rfl (dk_at dkX9_addDoor_0 8 rfl) ?_
    refine lv_iconst (v := iI 1) hx hb (dk_at dkX9_addDoor_0 9 rfl) (by decide +kernel) ?_
    refine x_iald (Wf := WK cB cI cJ cZ cQ q) hx hb hK hP (ta + 1) 1 (wkTc hta) rfl (by decide) (by decide) (dk_at dkX9_addDoor_0 10 rfl) (fun z6 hz6 => ?_)
    have rz6 : (0 : Int) ≤ z6 ∧ z6 ≤ 10 := by rw [hz6]; exact irTc1 hta hI
    have gz6 := Hd.mk hz6
    refine lv_iconst (v := iI 1) hx hb (dk_at dkX9_addDoor_0 11 rfl) (by decide +kernel) ?_
    refine x_subv (v := z6 - 1) hx hb (dk_at dkX9_addDoor_0 12 rfl) (by omega) ?_
    refine lv_istore (lv' := [(5, .int (iI (z6 - 1))), (0, .ref (q ta)), (1, .int (iI x1)), (2, .int (iI x2)), (3, .int (iI x3)), (4, .int (iI x4))]) hx hb (dk_at dkX9_addDoor_0 13 rfl) hl (by decide) rfl (fun ls hl => ?_)
    refine lv_aload_n hx hb (dk_at dkX9_addDoor_0 14 rfl) rfl (lv_at hl 1 rfl) ?_
    refine va_get (D := (dC, dI)) (ci := 9) (v := .ref (q (ta + 8))) (C := RX9) (T := TX9) (N := 16) hx hb hts hiX9 hown hK hP ta (wkT hta) rfl 2 (by decide) (hts _ (List.mem_cons_of_mem _ wkq_1_14)) (fun _ h9 => h9) rfl (dk_at dkX9_addDoor_0 15 rfl) ?_
    refine lv_iload hx hb (dk_at dkX9_addDoor_1 0 rfl) (lv_at hl 0 rfl) ?_
    refine lv_iload_n hx hb (dk_at dkX9_addDoor_1 1 rfl) rfl (lv_at hl 3 rfl) ?_
    refine k_iast (Wf := WK cB cI cJ cZ cQ q) hx hb hK hP hDD hS (ta + 8) 1 (wkTf hta) rfl (by omega) (by decide) (dk_at dkX9_addDoor_1 2 rfl) (wsTf hta) (fun H locs A7 hA7 hP hS => ?_)
    have hI := isTf hta hA7 hI (show (-2147483648 : Int) ≤ x2 ∧ x2 ≤ 2147483647 from hx2)
    refine lv_aload_n hx hb (dk_at dkX9_addDoor_1 3 rfl) rfl (lv_at hl 1 rfl) ?_
    refine va_get (D := (dC, dI)) (ci := 9) (v := .ref (q (ta + 9))) (C := RX9) (T := TX9) (N := 16) hx hb hts hiX9 hown hK hP ta (wkT hta) rfl 3 (by decide) (hts _ (List.mem_cons_of_mem _ wkq_1_15)) (fun _ h9 => h9) rfl (dk_at dkX9_addDoor_1 4 rfl) ?_
    refine lv_iload hx hb (dk_at dkX9_addDoor_1 5 rfl) (lv_at hl 0 rfl) ?_
    refine lv_iload_n hx hb (dk_at dkX9_addDoor_1 6 rfl) rfl (lv_at hl 4 rfl) ?_
    refine k_iast (Wf := WK cB cI cJ cZ cQ q) hx hb hK hP hDD hS (ta + 9) 1 (wkTs hta) rfl (by omega) (by decide) (dk_at dkX9_addDoor_1 7 rfl) (wsTs hta) (fun H locs A8 hA8 hP hS => ?_)
    have hI := isTs hta hA8 hI (show (-2147483648 : Int) ≤ x3 ∧ x3 ≤ 2147483647 from hx3)
    refine lv_aload_n hx hb (dk_at dkX9_addDoor_1 8 rfl) rfl (lv_at hl 1 rfl) ?_
    refine va_get (D := (dC, dI)) (ci := 9) (v := .ref (q (ta + 10))) (C := RX9) (T := TX9) (N := 16) hx hb hts hiX9 hown hK hP ta (wkT hta) rfl 4 (by decide) (hts _ (List.mem_cons_of_mem _ wkq_1_9)) (fun _ h9 => h9) rfl (dk_at dkX9_addDoor_1 9 rfl) ?_
    refine lv_iload hx hb (dk_at dkX9_addDoor_1 10 rfl) (lv_at hl 0 rfl) ?_
    refine lv_iload hx hb (dk_at dkX9_addDoor_1 11 rfl) (lv_at hl 5 rfl) ?_
    refine k_iast (Wf := WK cB cI cJ cZ cQ q) hx hb hK hP hDD hS (ta + 10) 1 (wkTm hta) rfl (by omega) (by decide) (dk_at dkX9_addDoor_1 12 rfl) (wsTm hta) (fun H locs A9 hA9 hP hS => ?_)
    have hI := isTm hta hA9 hI (show (-2147483648 : Int) ≤ x4 ∧ x4 ≤ 2147483647 from hx4)
    refine lv_iconst (v := iI 1) hx hb (dk_at dkX9_addDoor_1 13 rfl) (by decide +kernel) ?_
    exact RET 1 _ _ _ _ _ ⟨(u_r_X9_addDoor ⟨z1, A2, ghw3, (Or.inl ⟨c5, ⟨z6, gz6.out, ⟨A7, hA7, ⟨A8, hA8, ⟨A9, hA9, ⟨rfl, rfl⟩⟩⟩⟩⟩⟩)⟩), hI, fk.da (fk.da (fk.da (fk.trans (fk.rf) hf4 rfl rfl) hA7 (isT.b2 (o := fun b => List.contains [52, 54, 55, 56, 57, 58, 59, 60, 61, 83, 85, 86, 87, 88, 89, 90, 91, 92] (b + 8)) hta rfl rfl)) hA8 (isT.b2 (o := fun b => List.contains [52, 54, 55, 56, 57, 58, 59, 60, 61, 83, 85, 86, 87, 88, 89, 90, 91, 92] (b + 9)) hta rfl rfl)) hA9 (isT.b2 (o := fun b => List.contains [52, 54, 55, 56, 57, 58, 59, 60, 61, 83, 85, 86, 87, 88, 89, 90, 91, 92] (b + 10)) hta rfl rfl), ⟨by decide, by decide⟩⟩ hP hS (dk_at dkX9_addDoor_1 14 rfl)
  · have c5 : z1 = 0 := (i_eq0 (rb rz1 (by decide) (by decide))).mp c5
    clear hw3
    refine lv_iconst (v := iI 0) hx hb (dk_at dkX9_addDoor_0 5 rfl) (by decide +kernel) ?_
    exact RET 0 _ _ _ _ _ ⟨(u_r_X9_addDoor ⟨z1, A2, ghw3, (Or.inr ⟨c5, ⟨rfl, rfl⟩⟩)⟩), hI, fk.trans (fk.rf) hf4 rfl rfl, ⟨by decide, by decide⟩⟩ hP hS (dk_at dkX9_addDoor_0 6 rfl)

abbrev tr_r_X5_readBox (ta : Nat) (A : St) (z : Int) (u : St) : Prop := (∃ z1 : Int, ∃ A2 : St, q_X5_newName ta A z1 A2 ∧ (((z1 = (-1)) ∧ (z = 0 ∧ u = A2)) ∨ ((¬ z1 = (-1)) ∧ (∃ z6 : Int, ∃ A7 : St, q_X5_ownWord 12 A2 z6 A7 ∧ (((¬ z6 = 0) ∧ (∃ z11 : Int, ∃ A12 : St, q_X5_asked_2_0 ta A7 z11 A12 ∧ (((z11 = (-1)) ∧ (z = 0 ∧ u = A12)) ∨ ((¬ z11 = (-1)) ∧ (∃ z16 : Int, ∃ A17 : St, q_X9_addDoor ta z1 z11 z11 0 A12 z16 A17 ∧ (((z16 = 0) ∧ (z = 0 ∧ u = A17)) ∨ ((¬ z16 = 0) ∧ (z = 1 ∧ u = A17)))))))) ∨ ((z6 = 0) ∧ (z = 0 ∧ u = A7)))))))
def r_X5_readBox (ta : Nat) (A : St) (z : Int) (u : St) : Prop := tr_r_X5_readBox ta A z u
theorem u_r_X5_readBox {ta : Nat} {A : St} {z : Int} {u : St} (h : tr_r_X5_readBox ta A z u) : r_X5_readBox ta A z u := h
def q_X5_readBox (ta : Nat) (A : St) (z : Int) (u : St) : Prop := r_X5_readBox ta A z u ∧ IK u ∧ fk [52, 54, 55, 56, 57, 58, 59, 60, 61, 83, 85, 86, 87, 88, 89, 90, 91, 92] [(3, 2), (3, 3), (5, 1), (5, 2), (5, 3), (5, 4), (5, 5), (5, 6)] A u ∧ (0 ≤ z ∧ z ≤ 1)
def ws_kc_X5_readBox : List Cond := .code yX5_readBox cX5_readBox 4 (some .boolean) :: WY
set_option maxHeartbeats 4000000 in
set_option maxRecDepth 100000 in
theorem kc_X5_readBox (l : Launch) (dC : Nat → ClassId) (dI : Nat → Nat → Nat) (cB cI cJ cZ cQ : ClassId) (aL aS : Nat) (q : Nat → Nat) (A : St) (ta : Nat) (hI : IK A) (hta : isT ta) : KMi l yX5_readBox ws_kc_X5_readBox ({ frames := 4, cells := 0, slots := 0, locals := 89 } : Room) aL aS (dC, dI) (tyA cB cI cJ cZ cQ) (WK cB cI cJ cZ cQ q) A [.ref (q 3), .ref (q ta)] (fun z u => r_X5_readBox ta A z u ∧ IK u ∧ fk [52, 54, 55, 56, 57, 58, 59, 60, 61, 83, 85, 86, 87, 88, 89, 90, 91, 92] [(3, 2), (3, 3), (5, 1), (5, 2), (5, 3), (5, 4), (5, 5), (5, 6)] A u ∧ (0 ≤ z ∧ z ≤ 1)) := by
  refine k_metz (cc := cX5_readBox) (maxL := 4) WK_adr (plainFor_of_name (by decide +kernel)) rfl (Nat.le_of_ble_eq_true rfl) (fun z u h => h.2.2.2) (fun p e s m below meth c Q AS ls hx hb hml hown hts hK hDD hA0 hE RET H locs hP hS hl => ?_)
  have hown : s.vm.findClass RX5 = some m.cls := hown
  have hl : lv_has ls 4 [(0, .ref (q 3)), (1, .ref (q ta))] := hl
  refine lv_aload_n hx hb (dk_at dkX5_readBox_0 0 rfl) rfl (lv_at hl 0 rfl) ?_
  refine lv_aload_n hx hb (dk_at dkX5_readBox_0 1 rfl) rfl (lv_at hl 1 rfl) ?_
  refine k_calli (As := [.ref (q ta)]) (rest := []) ⟨hx, hb, hml, hown, hts⟩ hE (kc_X5_newName l dC dI cB cI cJ cZ cQ aL aS q _ ta hI hta) (cwV 1 hts (goodVk wkq_5_45 wkq_5_46 wkq_5_47 wkq_5_28 wkq_5_48) rfl rfl rfl (by decide +kernel) ⟨Nat.le_of_ble_eq_true rfl, Nat.le_of_ble_eq_true rfl⟩) hK hDD hA0 hP hS 3 5 (wkRD) rfl rfl hl.1 (Nat.le_of_ble_eq_true rfl) (dk_at dkX5_readBox_0 2 rfl) (fun z1 A2 H locs hw3 hP hS => ?_)
  have ghw3 : q_X5_newName ta A z1 A2 := hw3
  obtain ⟨_, hI, hf4, hw3⟩ := hw3
  refine lv_istore_n (lv' := [(2, .int (iI z1)), (0, .ref (q 3)), (1, .ref (q ta))]) hx hb (dk_at dkX5_readBox_0 3 rfl) rfl hl (by decide) rfl (fun ls hl => ?_)
  refine lv_iload_n hx hb (dk_at dkX5_readBox_0 4 rfl) rfl (lv_at hl 0 rfl) ?_
  refine lv_iconst (v := iI (-1)) hx hb (dk_at dkX5_readBox_0 5 rfl) (by decide +kernel) ?_
  refine lv_icmp_eq (tgt := 20) hx hb (dk_at dkX5_readBox_0 6 rfl) (by decide) (fun c5 => ?_) (fun c5 => ?_)
  · have c5 : z1 = (-1) := (i_eq hw3 ⟨by decide, by decide⟩).mp c5
    refine lv_iconst (v := iI 0) hx hb (dk_at dkX5_readBox_0 11 rfl) (by decide +kernel) ?_
    exact RET 0 _ _ _ _ _ ⟨(u_r_X5_readBox ⟨z1, A2, ghw3, (Or.inl ⟨c5, ⟨rfl, rfl⟩⟩)⟩), hI, fk.trans (fk.rf) hf4 rfl rfl, ⟨by decide, by decide⟩⟩ hP hS (dk_at dkX5_readBox_0 12 rfl)
  · have c5 : ¬ z1 = (-1) := mt (i_eq hw3 ⟨by decide, by decide⟩).mpr c5
    refine lv_aload_n hx hb (dk_at dkX5_readBox_0 7 rfl) rfl (lv_at hl 1 rfl) ?_
    refine lv_bipush (v := iI 12) hx hb (dk_at dkX5_readBox_0 8 rfl) (by decide +kernel) ?_
    refine k_calli (As := [.int (iI 12)]) (rest := []) ⟨hx, hb, hml, hown, hts⟩ hE (kc_X5_ownWord l dC dI cB cI cJ cZ cQ aL aS q _ 12 hI ⟨by decide, by decide⟩) (cwV 1 hts (goodVk wkq_6_23 wkq_6_24 wkq_6_25 wkq_5_28 wkq_6_26) rfl rfl rfl (by decide +kernel) ⟨Nat.le_of_ble_eq_true rfl, Nat.le_of_ble_eq_true rfl⟩) hK hDD hA0 hP hS 3 5 (wkRD) rfl rfl hl.1 (Nat.le_of_ble_eq_true rfl) (dk_at dkX5_readBox_0 9 rfl) (fun z6 A7 H locs hw8 hP hS => ?_)
    have ghw8 : q_X5_ownWord 12 A2 z6 A7 := hw8
    obtain ⟨_, hI, hf9, hw8⟩ := hw8
    refine lv_if_ne (tgt := 22) hx hb (dk_at dkX5_readBox_0 10 rfl) (by decide) (fun c10 => ?_) (fun c10 => ?_)
    · have c10 : ¬ z6 = 0 := mt (i_eq0 (rb hw8 (by decide) (by decide))).mpr c10
      refine lv_aload_n hx hb (dk_at dkX5_readBox_0 13 rfl) rfl (lv_at hl 1 rfl) ?_
      refine lv_aload_n hx hb (dk_at dkX5_readBox_0 14 rfl) rfl (lv_at hl 2 rfl) ?_
      refine lv_iconst (v := iI 0) hx hb (dk_at dkX5_readBox_0 15 rfl) (by decide +kernel) ?_
      refine k_calli (As := [.ref (q ta), .int (iI 0)]) (rest := []) ⟨hx, hb, hml, hown, hts⟩ hE (kc_X5_asked_2_0 l dC dI cB cI cJ cZ cQ aL aS q _ ta hI hta) (cwV 2 hts (goodVk wkq_6_6 wkq_6_7 wkq_6_8 wkq_5_28 wkq_6_9) rfl rfl rfl (by decide +kernel) ⟨Nat.le_of_ble_eq_true rfl, Nat.le_of_ble_eq_true rfl⟩) hK hDD hA0 hP hS 3 5 (wkRD) rfl rfl hl.1 (Nat.le_of_ble_eq_true rfl) (dk_at dkX5_readBox_1 0 rfl) (fun z11 A12 H locs hw13 hP hS => ?_)
      have ghw13 : q_X5_asked_2_0 ta A7 z11 A12 := hw13
      obtain ⟨_, hI, hf14, hw13⟩ := hw13
      refine lv_istore_n (lv' := [(3, .int (iI z11)), (2, .int (iI z1)), (0, .ref (q 3)), (1, .ref (q ta))]) hx hb (dk_at dkX5_readBox_1 1 rfl) rfl hl (by decide) rfl (fun ls hl => ?_)
      refine lv_iload_n hx hb (dk_at dkX5_readBox_1 2 rfl) rfl (lv_at hl 0 rfl) ?_
      refine lv_iconst (v := iI (-1)) hx hb (dk_at dkX5_readBox_1 3 rfl) (by decide +kernel) ?_
      refine lv_icmp_eq (tgt := 49) hx hb (dk_at dkX5_readBox_1 4 rfl) (by decide) (fun c15 => ?_) (fun c15 => ?_)
      · have c15 : z11 = (-1) := (i_eq (rb hw13 (by decide) (by decide)) ⟨by decide, by decide⟩).mp c15
        refine lv_iconst (v := iI 0) hx hb (dk_at dkX5_readBox_1 14 rfl) (by decide +kernel) ?_
        exact RET 0 _ _ _ _ _ ⟨(u_r_X5_readBox ⟨z1, A2, ghw3, (Or.inr ⟨c5, ⟨z6, A7, ghw8, (Or.inl ⟨c10, ⟨z11, A12, ghw13, (Or.inl ⟨c15, ⟨rfl, rfl⟩⟩)⟩⟩)⟩⟩)⟩), hI, fk.trans (fk.trans (fk.trans (fk.rf) hf4 rfl rfl) hf9 rfl rfl) hf14 rfl rfl, ⟨by decide, by decide⟩⟩ hP hS (dk_at dkX5_readBox_1 15 rfl)
      · have c15 : ¬ z11 = (-1) := mt (i_eq (rb hw13 (by decide) (by decide)) ⟨by decide, by decide⟩).mpr c15
        refine lv_aload_n hx hb (dk_at dkX5_readBox_1 5 rfl) rfl (lv_at hl 3 rfl) ?_
        refine lv_iload_n hx hb (dk_at dkX5_readBox_1 6 rfl) rfl (lv_at hl 1 rfl) ?_
        refine lv_iload_n hx hb (dk_at dkX5_readBox_1 7 rfl) rfl (lv_at hl 0 rfl) ?_
        refine lv_iload_n hx hb (dk_at dkX5_readBox_1 8 rfl) rfl (lv_at hl 0 rfl) ?_
        refine lv_iconst (v := iI 0) hx hb (dk_at dkX5_readBox_1 9 rfl) (by decide +kernel) ?_
        refine k_calli (As := [.int (iI z1), .int (iI z11), .int (iI z11), .int (iI 0)]) (rest := []) ⟨hx, hb, hml, hown, hts⟩ hE (kc_X9_addDoor l dC dI cB cI cJ cZ cQ aL aS q _ ta z1 z11 z11 0 hI hta hw3 (rb hw13 (by decide) (by decide)) (rb hw13 (by decide) (by decide)) ⟨by decide, by decide⟩) (cwV 4 hts (goodVk wkq_6_14 wkq_6_15 wkq_6_16 wkq_0_6 wkq_6_17) rfl rfl rfl (by decide +kernel) ⟨Nat.le_of_ble_eq_true rfl, Nat.le_of_ble_eq_true rfl⟩) hK hDD hA0 hP hS ta 9 (wkT hta) rfl rfl hl.1 (Nat.le_of_ble_eq_true rfl) (dk_at dkX5_readBox_1 10 rfl) (fun z16 A17 H locs hw18 hP hS => ?_)
        have ghw18 : q_X9_addDoor ta z1 z11 z11 0 A12 z16 A17 := hw18
        obtain ⟨_, hI, hf19, hw18⟩ := hw18
        refine lv_if_eq (tgt := 49) hx hb (dk_at dkX5_readBox_1 11 rfl) (by decide) (fun c20 => ?_) (fun c20 => ?_)
        · have c20 : z16 = 0 := (i_eq0 (rb hw18 (by decide) (by decide))).mp c20
          refine lv_iconst (v := iI 0) hx hb (dk_at dkX5_readBox_1 14 rfl) (by decide +kernel) ?_
          exact RET 0 _ _ _ _ _ ⟨(u_r_X5_readBox ⟨z1, A2, ghw3, (Or.inr ⟨c5, ⟨z6, A7, ghw8, (Or.inl ⟨c10, ⟨z11, A12, ghw13, (Or.inr ⟨c15, ⟨z16, A17, ghw18, (Or.inl ⟨c20, ⟨rfl, rfl⟩⟩)⟩⟩)⟩⟩)⟩⟩)⟩), hI, fk.trans (fk.trans (fk.trans (fk.trans (fk.rf) hf4 rfl rfl) hf9 rfl rfl) hf14 rfl rfl) hf19 rfl rfl, ⟨by decide, by decide⟩⟩ hP hS (dk_at dkX5_readBox_1 15 rfl)
        · have c20 : ¬ z16 = 0 := mt (i_eq0 (rb hw18 (by decide) (by decide))).mpr c20
          refine lv_iconst (v := iI 1) hx hb (dk_at dkX5_readBox_1 12 rfl) (by decide +kernel) ?_
          refine lv_goto (tgt := 50) hx hb (dk_at dkX5_readBox_1 13 rfl) (by decide) ?_
          exact RET 1 _ _ _ _ _ ⟨(u_r_X5_readBox ⟨z1, A2, ghw3, (Or.inr ⟨c5, ⟨z6, A7, ghw8, (Or.inl ⟨c10, ⟨z11, A12, ghw13, (Or.inr ⟨c15, ⟨z16, A17, ghw18, (Or.inr ⟨c20, ⟨rfl, rfl⟩⟩)⟩⟩)⟩⟩)⟩⟩)⟩), hI, fk.trans (fk.trans (fk.trans (fk.trans (fk.rf) hf4 rfl rfl) hf9 rfl rfl) hf14 rfl rfl) hf19 rfl rfl, ⟨by decide, by decide⟩⟩ hP hS (dk_at dkX5_readBox_1 15 rfl)
    · have c10 : z6 = 0 := (i_eq0 (rb hw8 (by decide) (by decide))).mp c10
      refine lv_iconst (v := iI 0) hx hb (dk_at dkX5_readBox_0 11 rfl) (by decide +kernel) ?_
      exact RET 0 _ _ _ _ _ ⟨(u_r_X5_readBox ⟨z1, A2, ghw3, (Or.inr ⟨c5, ⟨z6, A7, ghw8, (Or.inr ⟨c10, ⟨rfl, rfl⟩⟩)⟩⟩)⟩), hI, fk.trans (fk.trans (fk.rf) hf4 rfl rfl) hf9 rfl rfl, ⟨by decide, by decide⟩⟩ hP hS (dk_at dkX5_readBox_0 12 rfl)

abbrev tr_d_X5_readDoor_2 (ta : Nat) (z1 : Int) (z11 : Int) (z : Int) (u : St) (z22 : Int) (A24 : St) : Prop := ((IK A24) ∧ ((-1 ≤ z22 ∧ z22 ≤ 7) ∧ (((¬ z22 = (-1)) ∧ (((¬ z22 = z11) ∧ (∃ z29 : Int, ∃ A30 : St, q_X5_number 1 99 A24 z29 A30 ∧ (((z29 = (-1)) ∧ (z = 0 ∧ u = A30)) ∨ ((¬ z29 = (-1)) ∧ (∃ z34 : Int, ∃ A35 : St, q_X9_addDoor ta z1 z11 z22 z29 A30 z34 A35 ∧ (((z34 = 0) ∧ (z = 0 ∧ u = A35)) ∨ ((¬ z34 = 0) ∧ (z = 1 ∧ u = A35)))))))) ∨ ((z22 = z11) ∧ (∃ z39 : Int, ∃ A40 : St, q_X5_bad 3 A24 z39 A40 ∧ (z = z39 ∧ u = A40))))) ∨ ((z22 = (-1)) ∧ (z = 0 ∧ u = A24)))))
def d_X5_readDoor_2 (ta : Nat) (z1 : Int) (z11 : Int) (z : Int) (u : St) (z22 : Int) (A24 : St) : Prop := tr_d_X5_readDoor_2 ta z1 z11 z u z22 A24
theorem u_d_X5_readDoor_2 {ta : Nat} {z1 : Int} {z11 : Int} {z : Int} {u : St} {z22 : Int} {A24 : St} (h : tr_d_X5_readDoor_2 ta z1 z11 z u z22 A24) : d_X5_readDoor_2 ta z1 z11 z u z22 A24 := h
abbrev tr_d_X5_readDoor_1 (ta : Nat) (z1 : Int) (z : Int) (u : St) (z11 : Int) (A13 : St) : Prop := ((IK A13) ∧ ((-1 ≤ z11 ∧ z11 ≤ 7) ∧ (((¬ z11 = (-1)) ∧ (∃ z18 : Int, ∃ A19 : St, q_X5_asked_2_0 ta A13 z18 A19 ∧ (d_X5_readDoor_2 ta z1 z11 z u z18 A19))) ∨ ((z11 = (-1)) ∧ (d_X5_readDoor_2 ta z1 z11 z u (-1) A13)))))
def d_X5_readDoor_1 (ta : Nat) (z1 : Int) (z : Int) (u : St) (z11 : Int) (A13 : St) : Prop := tr_d_X5_readDoor_1 ta z1 z u z11 A13
theorem u_d_X5_readDoor_1 {ta : Nat} {z1 : Int} {z : Int} {u : St} {z11 : Int} {A13 : St} (h : tr_d_X5_readDoor_1 ta z1 z u z11 A13) : d_X5_readDoor_1 ta z1 z u z11 A13 := h
abbrev tr_r_X5_readDoor (ta : Nat) (A : St) (z : Int) (u : St) : Prop := (∃ z1 : Int, ∃ A2 : St, q_X5_newName ta A z1 A2 ∧ (((¬ z1 = (-1)) ∧ (∃ z7 : Int, ∃ A8 : St, q_X5_asked_2_0 ta A2 z7 A8 ∧ (d_X5_readDoor_1 ta z1 z u z7 A8))) ∨ ((z1 = (-1)) ∧ (d_X5_readDoor_1 ta z1 z u (-1) A2))))
def r_X5_readDoor (ta : Nat) (A : St) (z : Int) (u : St) : Prop := tr_r_X5_readDoor ta A z u
theorem u_r_X5_readDoor {ta : Nat} {A : St} {z : Int} {u : St} (h : tr_r_X5_readDoor ta A z u) : r_X5_readDoor ta A z u := h
def q_X5_readDoor (ta : Nat) (A : St) (z : Int) (u : St) : Prop := r_X5_readDoor ta A z u ∧ IK u ∧ fk [52, 54, 55, 56, 57, 58, 59, 60, 61, 83, 85, 86, 87, 88, 89, 90, 91, 92] [(3, 2), (3, 3), (5, 1), (5, 2), (5, 3), (5, 4), (5, 5), (5, 6)] A u ∧ (0 ≤ z ∧ z ≤ 1)
def ws_kc_X5_readDoor : List Cond := .code yX5_readDoor cX5_readDoor 6 (some .boolean) :: WY
set_option maxHeartbeats 4000000 in
set_option maxRecDepth 100000 in
theorem kc_X5_readDoor (l : Launch) (dC : Nat → ClassId) (dI : Nat → Nat → Nat) (cB cI cJ cZ cQ : ClassId) (aL aS : Nat) (q : Nat → Nat) (A : St) (ta : Nat) (hI : IK A) (hta : isT ta) : KMi l yX5_readDoor ws_kc_X5_readDoor ({ frames := 4, cells := 0, slots := 0, locals := 89 } : Room) aL aS (dC, dI) (tyA cB cI cJ cZ cQ) (WK cB cI cJ cZ cQ q) A [.ref (q 3), .ref (q ta)] (fun z u => r_X5_readDoor ta A z u ∧ IK u ∧ fk [52, 54, 55, 56, 57, 58, 59, 60, 61, 83, 85, 86, 87, 88, 89, 90, 91, 92] [(3, 2), (3, 3), (5, 1), (5, 2), (5, 3), (5, 4), (5, 5), (5, 6)] A u ∧ (0 ≤ z ∧ z ≤ 1)) := by
  refine k_metz (cc := cX5_readDoor) (maxL := 6) WK_adr (plainFor_of_name (by decide +kernel)) rfl (Nat.le_of_ble_eq_true rfl) (fun z u h => h.2.2.2) (fun p e s m below meth c Q AS ls hx hb hml hown hts hK hDD hA0 hE RET H locs hP hS hl => ?_)
  have hown : s.vm.findClass RX5 = some m.cls := hown
  have hl : lv_has ls 6 [(0, .ref (q 3)), (1, .ref (q ta))] := hl
  refine lv_aload_n hx hb (dk_at dkX5_readDoor_0 0 rfl) rfl (lv_at hl 0 rfl) ?_
  refine lv_aload_n hx hb (dk_at dkX5_readDoor_0 1 rfl) rfl (lv_at hl 1 rfl) ?_
  refine k_calli (As := [.ref (q ta)]) (rest := []) ⟨hx, hb, hml, hown, hts⟩ hE (kc_X5_newName l dC dI cB cI cJ cZ cQ aL aS q _ ta hI hta) (cwV 1 hts (goodVk wkq_5_45 wkq_5_46 wkq_5_47 wkq_5_28 wkq_5_48) rfl rfl rfl (by decide +kernel) ⟨Nat.le_of_ble_eq_true rfl, Nat.le_of_ble_eq_true rfl⟩) hK hDD hA0 hP hS 3 5 (wkRD) rfl rfl hl.1 (Nat.le_of_ble_eq_true rfl) (dk_at dkX5_readDoor_0 2 rfl) (fun z1 A2 H locs hw3 hP hS => ?_)
  have ghw3 : q_X5_newName ta A z1 A2 := hw3
  obtain ⟨_, hI, hf4, hw3⟩ := hw3
  refine lv_istore_n (lv' := [(2, .int (iI z1)), (0, .ref (q 3)), (1, .ref (q ta))]) hx hb (dk_at dkX5_readDoor_0 3 rfl) rfl hl (by decide) rfl (fun ls hl => ?_)
  refine lv_iload_n hx hb (dk_at dkX5_readDoor_0 4 rfl) rfl (lv_at hl 0 rfl) ?_
  refine lv_iconst (v := iI (-1)) hx hb (dk_at dkX5_readDoor_0 5 rfl) (by decide +kernel) ?_
  have J21_6 : ∀ (z11 : Int) (A13 : St) (H : Heap) (locs : List Loc) (ls : Array Slot), (-1 ≤ z11 ∧ z11 ≤ 7) → (∀ (z : Int) (u : St), (d_X5_readDoor_1 ta z1 z u z11 A13) → r_X5_readDoor ta A z u) → IK A13 → fk [] [(3, 2), (3, 3), (5, 1), (5, 2), (5, 3), (5, 4), (5, 5), (5, 6)] A2 A13 → va_P (dC, dI) vwCl (WK cB cI cJ cZ cQ q A13) H → va_S AS s.heap H locs → lv_has ls 6 [(2, .int (iI z1)), (0, .ref (q 3)), (1, .ref (q ta))] → W p l e (headSpec ws_kc_X5_readDoor ({ frames := 4, cells := 0, slots := 0, locals := 89 } : Room)).room s m [.ref (q 3), .ref (q ta)].toArray below meth c H locs 0 0 Q (F0 m 21 ls [.int (iI z11)]) := by
    intro z11 A13 H locs ls f14 hk1 hI hj12 hP hS hl
    have gI15 : Hd (IK A13) := Hd.mk hI
    refine lv_istore_n (lv' := [(3, .int (iI z11)), (2, .int (iI z1)), (0, .ref (q 3)), (1, .ref (q ta))]) hx hb (dk_at dkX5_readDoor_0 13 rfl) rfl hl (by decide) rfl (fun ls hl => ?_)
    refine lv_iload_n hx hb (dk_at dkX5_readDoor_0 14 rfl) rfl (lv_at hl 0 rfl) ?_
    refine lv_iconst (v := iI (-1)) hx hb (dk_at dkX5_readDoor_0 15 rfl) (by decide +kernel) ?_
    have J37_17 : ∀ (z22 : Int) (A24 : St) (H : Heap) (locs : List Loc) (ls : Array Slot), (-1 ≤ z22 ∧ z22 ≤ 7) → (∀ (z : Int) (u : St), (d_X5_readDoor_2 ta z1 z11 z u z22 A24) → r_X5_readDoor ta A z u) → IK A24 → fk [] [(3, 2), (3, 3), (5, 1), (5, 2), (5, 3), (5, 4), (5, 5), (5, 6)] A13 A24 → va_P (dC, dI) vwCl (WK cB cI cJ cZ cQ q A24) H → va_S AS s.heap H locs → lv_has ls 6 [(3, .int (iI z11)), (2, .int (iI z1)), (0, .ref (q 3)), (1, .ref (q ta))] → W p l e (headSpec ws_kc_X5_readDoor ({ frames := 4, cells := 0, slots := 0, locals := 89 } : Room)).room s m [.ref (q 3), .ref (q ta)].toArray below meth c H locs 0 0 Q (F0 m 37 ls [.int (iI z22)]) := by
      intro z22 A24 H locs ls f25 hk2 hI hj23 hP hS hl
      have gI26 : Hd (IK A24) := Hd.mk hI
      refine lv_istore (lv' := [(4, .int (iI z22)), (3, .int (iI z11)), (2, .int (iI z1)), (0, .ref (q 3)), (1, .ref (q ta))]) hx hb (dk_at dkX5_readDoor_1 7 rfl) hl (by decide) rfl (fun ls hl => ?_)
      refine lv_iload hx hb (dk_at dkX5_readDoor_1 8 rfl) (lv_at hl 0 rfl) ?_
      refine lv_iconst (v := iI (-1)) hx hb (dk_at dkX5_readDoor_1 9 rfl) (by decide +kernel) ?_
      refine lv_icmp_ne (tgt := 47) hx hb (dk_at dkX5_readDoor_1 10 rfl) (by decide) (fun c27 => ?_) (fun c27 => ?_)
      · have c27 : ¬ z22 = (-1) := mt (i_eq (rb f25 (by decide) (by decide)) ⟨by decide, by decide⟩).mpr c27
        refine lv_iload hx hb (dk_at dkX5_readDoor_1 13 rfl) (lv_at hl 0 rfl) ?_
        refine lv_iload_n hx hb (dk_at dkX5_readDoor_1 14 rfl) rfl (lv_at hl 1 rfl) ?_
        refine lv_icmp_ne (tgt := 59) hx hb (dk_at dkX5_readDoor_1 15 rfl) (by decide) (fun c28 => ?_) (fun c28 => ?_)
        · have c28 : ¬ z22 = z11 := mt (i_eq (rb f25 (by decide) (by decide)) (rb f14 (by decide) (by decide))).mpr c28
          refine lv_aload_n hx hb (dk_at dkX5_readDoor_2 4 rfl) rfl (lv_at hl 3 rfl) ?_
          refine lv_iconst (v := iI 1) hx hb (dk_at dkX5_readDoor_2 5 rfl) (by decide +kernel) ?_
          refine lv_bipush (v := iI 99) hx hb (dk_at dkX5_readDoor_2 6 rfl) (by decide +kernel) ?_
          refine k_calli (As := [.int (iI 1), .int (iI 99)]) (rest := []) ⟨hx, hb, hml, hown, hts⟩ hE (kc_X5_number l dC dI cB cI cJ cZ cQ aL aS q _ 1 99 hI ⟨by decide, by decide⟩ ⟨by decide, by decide⟩) (cwV 2 hts (goodVk wkq_6_10 wkq_6_11 wkq_6_12 wkq_5_28 wkq_6_13) rfl rfl rfl (by decide +kernel) ⟨Nat.le_of_ble_eq_true rfl, Nat.le_of_ble_eq_true rfl⟩) hK hDD hA0 hP hS 3 5 (wkRD) rfl rfl hl.1 (Nat.le_of_ble_eq_true rfl) (dk_at dkX5_readDoor_2 7 rfl) (fun z29 A30 H locs hw31 hP hS => ?_)
          have ghw31 : q_X5_number 1 99 A24 z29 A30 := hw31
          obtain ⟨_, hI, hf32, hw31⟩ := hw31
          refine lv_istore (lv' := [(5, .int (iI z29)), (4, .int (iI z22)), (3, .int (iI z11)), (2, .int (iI z1)), (0, .ref (q 3)), (1, .ref (q ta))]) hx hb (dk_at dkX5_readDoor_2 8 rfl) hl (by decide) rfl (fun ls hl => ?_)
          refine lv_iload hx hb (dk_at dkX5_readDoor_2 9 rfl) (lv_at hl 0 rfl) ?_
          refine lv_iconst (v := iI (-1)) hx hb (dk_at dkX5_readDoor_2 10 rfl) (by decide +kernel) ?_
          refine lv_icmp_eq (tgt := 91) hx hb (dk_at dkX5_readDoor_2 11 rfl) (by decide) (fun c33 => ?_) (fun c33 => ?_)
          · have c33 : z29 = (-1) := (i_eq hw31 ⟨by decide, by decide⟩).mp c33
            refine lv_iconst (v := iI 0) hx hb (dk_at dkX5_readDoor_3 5 rfl) (by decide +kernel) ?_
            exact RET 0 _ _ _ _ _ ⟨hk2 _ _ (u_d_X5_readDoor_2 ⟨gI26.out, ⟨f25, (Or.inl ⟨c27, (Or.inl ⟨c28, ⟨z29, A30, ghw31, (Or.inl ⟨c33, ⟨rfl, rfl⟩⟩)⟩⟩)⟩)⟩⟩), hI, fk.trans (fk.trans (fk.trans (fk.trans (fk.rf) hf4 rfl rfl) hj12 rfl rfl) hj23 rfl rfl) hf32 rfl rfl, ⟨by decide, by decide⟩⟩ hP hS (dk_at dkX5_readDoor_3 6 rfl)
          · have c33 : ¬ z29 = (-1) := mt (i_eq hw31 ⟨by decide, by decide⟩).mpr c33
            refine lv_aload_n hx hb (dk_at dkX5_readDoor_2 12 rfl) rfl (lv_at hl 5 rfl) ?_
            refine lv_iload_n hx hb (dk_at dkX5_readDoor_2 13 rfl) rfl (lv_at hl 3 rfl) ?_
            refine lv_iload_n hx hb (dk_at dkX5_readDoor_2 14 rfl) rfl (lv_at hl 2 rfl) ?_
            refine lv_iload hx hb (dk_at dkX5_readDoor_2 15 rfl) (lv_at hl 1 rfl) ?_
            refine lv_iload hx hb (dk_at dkX5_readDoor_3 0 rfl) (lv_at hl 0 rfl) ?_
            refine k_calli (As := [.int (iI z1), .int (iI z11), .int (iI z22), .int (iI z29)]) (rest := []) ⟨hx, hb, hml, hown, hts⟩ hE (kc_X9_addDoor l dC dI cB cI cJ cZ cQ aL aS q _ ta z1 z11 z22 z29 hI hta hw3 (rb f14 (by decide) (by decide)) (rb f25 (by decide) (by decide)) hw31) (cwV 4 hts (goodVk wkq_6_14 wkq_6_15 wkq_6_16 wkq_0_6 wkq_6_17) rfl rfl rfl (by decide +kernel) ⟨Nat.le_of_ble_eq_true rfl, Nat.le_of_ble_eq_true rfl⟩) hK hDD hA0 hP hS ta 9 (wkT hta) rfl rfl hl.1 (Nat.le_of_ble_eq_true rfl) (dk_at dkX5_readDoor_3 1 rfl) (fun z34 A35 H locs hw36 hP hS => ?_)
            have ghw36 : q_X9_addDoor ta z1 z11 z22 z29 A30 z34 A35 := hw36
            obtain ⟨_, hI, hf37, hw36⟩ := hw36
            refine lv_if_eq (tgt := 91) hx hb (dk_at dkX5_readDoor_3 2 rfl) (by decide) (fun c38 => ?_) (fun c38 => ?_)
            · have c38 : z34 = 0 := (i_eq0 (rb hw36 (by decide) (by decide))).mp c38
              refine lv_iconst (v := iI 0) hx hb (dk_at dkX5_readDoor_3 5 rfl) (by decide +kernel) ?_
              exact RET 0 _ _ _ _ _ ⟨hk2 _ _ (u_d_X5_readDoor_2 ⟨gI26.out, ⟨f25, (Or.inl ⟨c27, (Or.inl ⟨c28, ⟨z29, A30, ghw31, (Or.inr ⟨c33, ⟨z34, A35, ghw36, (Or.inl ⟨c38, ⟨rfl, rfl⟩⟩)⟩⟩)⟩⟩)⟩)⟩⟩), hI, fk.trans (fk.trans (fk.trans (fk.trans (fk.trans (fk.rf) hf4 rfl rfl) hj12 rfl rfl) hj23 rfl rfl) hf32 rfl rfl) hf37 rfl rfl, ⟨by decide, by decide⟩⟩ hP hS (dk_at dkX5_readDoor_3 6 rfl)
            · have c38 : ¬ z34 = 0 := mt (i_eq0 (rb hw36 (by decide) (by decide))).mpr c38
              refine lv_iconst (v := iI 1) hx hb (dk_at dkX5_readDoor_3 3 rfl) (by decide +kernel) ?_
              refine lv_goto (tgt := 92) hx hb (dk_at dkX5_readDoor_3 4 rfl) (by decide) ?_
              exact RET 1 _ _ _ _ _ ⟨hk2 _ _ (u_d_X5_readDoor_2 ⟨gI26.out, ⟨f25, (Or.inl ⟨c27, (Or.inl ⟨c28, ⟨z29, A30, ghw31, (Or.inr ⟨c33, ⟨z34, A35, ghw36, (Or.inr ⟨c38, ⟨rfl, rfl⟩⟩)⟩⟩)⟩⟩)⟩)⟩⟩), hI, fk.trans (fk.trans (fk.trans (fk.trans (fk.trans (fk.rf) hf4 rfl rfl) hj12 rfl rfl) hj23 rfl rfl) hf32 rfl rfl) hf37 rfl rfl, ⟨by decide, by decide⟩⟩ hP hS (dk_at dkX5_readDoor_3 6 rfl)
        · have c28 : z22 = z11 := (i_eq (rb f25 (by decide) (by decide)) (rb f14 (by decide) (by decide))).mp c28
          refine lv_aload_n hx hb (dk_at dkX5_readDoor_2 0 rfl) rfl (lv_at hl 3 rfl) ?_
          refine lv_iconst (v := iI 3) hx hb (dk_at dkX5_readDoor_2 1 rfl) (by decide +kernel) ?_
          refine k_calli (As := [.int (iI 3)]) (rest := []) ⟨hx, hb, hml, hown, hts⟩ hE (kc_X5_bad l dC dI cB cI cJ cZ cQ aL aS q _ 3 hI ⟨by decide, by decide⟩) (cwV 1 hts (goodVk wkq_5_37 wkq_5_38 wkq_5_39 wkq_5_28 wkq_5_40) rfl rfl rfl (by decide +kernel) ⟨Nat.le_of_ble_eq_true rfl, Nat.le_of_ble_eq_true rfl⟩) hK hDD hA0 hP hS 3 5 (wkRD) rfl rfl hl.1 (Nat.le_of_ble_eq_true rfl) (dk_at dkX5_readDoor_2 2 rfl) (fun z39 A40 H locs hw41 hP hS => ?_)
          have ghw41 : q_X5_bad 3 A24 z39 A40 := hw41
          obtain ⟨_, hI, hf42, hw41⟩ := hw41
          have rz39 : 0 ≤ z39 ∧ z39 ≤ 1 := hw41.1
          have hw41 := hw41.2
          exact RET z39 _ _ _ _ _ ⟨hk2 _ _ (u_d_X5_readDoor_2 ⟨gI26.out, ⟨f25, (Or.inl ⟨c27, (Or.inr ⟨c28, ⟨z39, A40, ghw41, ⟨rfl, rfl⟩⟩⟩)⟩)⟩⟩), hI, fk.trans (fk.trans (fk.trans (fk.trans (fk.rf) hf4 rfl rfl) hj12 rfl rfl) hj23 rfl rfl) hf42 rfl rfl, rz39⟩ hP hS (dk_at dkX5_readDoor_2 3 rfl)
      · have c27 : z22 = (-1) := (i_eq (rb f25 (by decide) (by decide)) ⟨by decide, by decide⟩).mp c27
        refine lv_iconst (v := iI 0) hx hb (dk_at dkX5_readDoor_1 11 rfl) (by decide +kernel) ?_
        exact RET 0 _ _ _ _ _ ⟨hk2 _ _ (u_d_X5_readDoor_2 ⟨gI26.out, ⟨f25, (Or.inr ⟨c27, ⟨rfl, rfl⟩⟩)⟩⟩), hI, fk.trans (fk.trans (fk.trans (fk.rf) hf4 rfl rfl) hj12 rfl rfl) hj23 rfl rfl, ⟨by decide, by decide⟩⟩ hP hS (dk_at dkX5_readDoor_1 12 rfl)
    refine lv_icmp_ne (tgt := 31) hx hb (dk_at dkX5_readDoor_1 0 rfl) (by decide) (fun c16 => ?_) (fun c16 => ?_)
    · have c16 : ¬ z11 = (-1) := mt (i_eq (rb f14 (by decide) (by decide)) ⟨by decide, by decide⟩).mpr c16
      refine lv_aload_n hx hb (dk_at dkX5_readDoor_1 3 rfl) rfl (lv_at hl 2 rfl) ?_
      refine lv_aload_n hx hb (dk_at dkX5_readDoor_1 4 rfl) rfl (lv_at hl 3 rfl) ?_
      refine lv_iconst (v := iI 0) hx hb (dk_at dkX5_readDoor_1 5 rfl) (by decide +kernel) ?_
      refine k_calli (As := [.ref (q ta), .int (iI 0)]) (rest := []) ⟨hx, hb, hml, hown, hts⟩ hE (kc_X5_asked_2_0 l dC dI cB cI cJ cZ cQ aL aS q _ ta hI hta) (cwV 2 hts (goodVk wkq_6_6 wkq_6_7 wkq_6_8 wkq_5_28 wkq_6_9) rfl rfl rfl (by decide +kernel) ⟨Nat.le_of_ble_eq_true rfl, Nat.le_of_ble_eq_true rfl⟩) hK hDD hA0 hP hS 3 5 (wkRD) rfl rfl hl.1 (Nat.le_of_ble_eq_true rfl) (dk_at dkX5_readDoor_1 6 rfl) (fun z18 A19 H locs hw20 hP hS => ?_)
      have ghw20 : q_X5_asked_2_0 ta A13 z18 A19 := hw20
      obtain ⟨_, hI, hf21, hw20⟩ := hw20
      exact J37_17 z18 _ _ _ _ (by omega) (fun zq uq hq => hk1 _ _ (u_d_X5_readDoor_1 ⟨gI15.out, ⟨f14, (Or.inl ⟨c16, ⟨z18, A19, ghw20, hq⟩⟩)⟩⟩)) hI (fk.trans (fk.rf) hf21 rfl rfl) hP hS (lv_sub hl [0, 1, 2, 3] rfl)
    · have c16 : z11 = (-1) := (i_eq (rb f14 (by decide) (by decide)) ⟨by decide, by decide⟩).mp c16
      refine lv_iconst (v := iI (-1)) hx hb (dk_at dkX5_readDoor_1 1 rfl) (by decide +kernel) ?_
      refine lv_goto (tgt := 37) hx hb (dk_at dkX5_readDoor_1 2 rfl) (by decide) ?_
      exact J37_17 (-1) _ _ _ _ (by omega) (fun zq uq hq => hk1 _ _ (u_d_X5_readDoor_1 ⟨gI15.out, ⟨f14, (Or.inr ⟨c16, hq⟩)⟩⟩)) hI (fk.rf) hP hS (lv_sub hl [0, 1, 2, 3] rfl)
  refine lv_icmp_ne (tgt := 15) hx hb (dk_at dkX5_readDoor_0 6 rfl) (by decide) (fun c5 => ?_) (fun c5 => ?_)
  · have c5 : ¬ z1 = (-1) := mt (i_eq hw3 ⟨by decide, by decide⟩).mpr c5
    refine lv_aload_n hx hb (dk_at dkX5_readDoor_0 9 rfl) rfl (lv_at hl 1 rfl) ?_
    refine lv_aload_n hx hb (dk_at dkX5_readDoor_0 10 rfl) rfl (lv_at hl 2 rfl) ?_
    refine lv_iconst (v := iI 0) hx hb (dk_at dkX5_readDoor_0 11 rfl) (by decide +kernel) ?_
    refine k_calli (As := [.ref (q ta), .int (iI 0)]) (rest := []) ⟨hx, hb, hml, hown, hts⟩ hE (kc_X5_asked_2_0 l dC dI cB cI cJ cZ cQ aL aS q _ ta hI hta) (cwV 2 hts (goodVk wkq_6_6 wkq_6_7 wkq_6_8 wkq_5_28 wkq_6_9) rfl rfl rfl (by decide +kernel) ⟨Nat.le_of_ble_eq_true rfl, Nat.le_of_ble_eq_true rfl⟩) hK hDD hA0 hP hS 3 5 (wkRD) rfl rfl hl.1 (Nat.le_of_ble_eq_true rfl) (dk_at dkX5_readDoor_0 12 rfl) (fun z7 A8 H locs hw9 hP hS => ?_)
    have ghw9 : q_X5_asked_2_0 ta A2 z7 A8 := hw9
    obtain ⟨_, hI, hf10, hw9⟩ := hw9
    exact J21_6 z7 _ _ _ _ (by omega) (fun zq uq hq => (u_r_X5_readDoor ⟨z1, A2, ghw3, (Or.inl ⟨c5, ⟨z7, A8, ghw9, hq⟩⟩)⟩)) hI (fk.trans (fk.rf) hf10 rfl rfl) hP hS (lv_sub hl [0, 1, 2] rfl)
  · have c5 : z1 = (-1) := (i_eq hw3 ⟨by decide, by decide⟩).mp c5
    refine lv_iconst (v := iI (-1)) hx hb (dk_at dkX5_readDoor_0 7 rfl) (by decide +kernel) ?_
    refine lv_goto (tgt := 21) hx hb (dk_at dkX5_readDoor_0 8 rfl) (by decide) ?_
    exact J21_6 (-1) _ _ _ _ (by omega) (fun zq uq hq => (u_r_X5_readDoor ⟨z1, A2, ghw3, (Or.inr ⟨c5, hq⟩)⟩)) hI (fk.rf) hP hS (lv_sub hl [0, 1, 2] rfl)

abbrev tr_d_X5_readTown_2 (K1 : Int → St → Prop) (z9 : Int) (z : Int) (u : St) (z84 : Int) (A86 : St) : Prop := ((IK A86) ∧ ((0 ≤ z84 ∧ z84 ≤ 1) ∧ (((z84 = 0) ∧ (z = (-1) ∧ u = A86)) ∨ ((¬ z84 = 0) ∧ (∃ z90 : Int, ∃ A91 : St, q_X5_sign 59 A86 z90 A91 ∧ (((¬ z90 = 0) ∧ (K1 (z9 + 1) A91)) ∨ ((z90 = 0) ∧ (z = (-1) ∧ u = A91))))))))
def d_X5_readTown_2 (K1 : Int → St → Prop) (z9 : Int) (z : Int) (u : St) (z84 : Int) (A86 : St) : Prop := tr_d_X5_readTown_2 K1 z9 z u z84 A86
theorem u_d_X5_readTown_2 {K1 : Int → St → Prop} {z9 : Int} {z : Int} {u : St} {z84 : Int} {A86 : St} (h : tr_d_X5_readTown_2 K1 z9 z u z84 A86) : d_X5_readTown_2 K1 z9 z u z84 A86 := h
abbrev tr_d_X5_readTown_1 (ta : Nat) (z : Int) (u : St) (K1 : Int → St → Prop) (z9 : Int) (A11 : St) : Prop := ((IK A11) ∧ ((0 ≤ z9 ∧ z9 ≤ 2147483647) ∧ (((1600 < z9) ∧ (z = (-1) ∧ u = A11)) ∨ ((¬ 1600 < z9) ∧ (∃ A18 : St, q_X3_look A11 A18 ∧ (((¬ (A18 5 2) = 0) ∧ (∃ z23 : Int, ∃ A24 : St, q_X5_statementWord ta A18 z23 A24 ∧ (((z23 < 0 ∨ 11 < z23) ∧ (d_X5_readTown_2 K1 z9 z u 0 A24)) ∨ (z23 = 0 ∧ (∃ z29 : Int, ∃ A30 : St, q_X5_newName ta A24 z29 A30 ∧ (∃ z33 : Int, ∃ A34 : St, q_X9_add_1_0 ta z29 A30 z33 A34 ∧ (d_X5_readTown_2 K1 z9 z u z33 A34)))) ∨ (z23 = 1 ∧ (∃ z37 : Int, ∃ A38 : St, q_X5_readDoor ta A24 z37 A38 ∧ (d_X5_readTown_2 K1 z9 z u z37 A38))) ∨ (z23 = 2 ∧ (∃ z41 : Int, ∃ A42 : St, q_X5_readBox ta A24 z41 A42 ∧ (d_X5_readTown_2 K1 z9 z u z41 A42))) ∨ (z23 = 3 ∧ (∃ z45 : Int, ∃ A46 : St, q_X5_readKey ta A24 z45 A46 ∧ (d_X5_readTown_2 K1 z9 z u z45 A46))) ∨ (z23 = 4 ∧ (∃ z49 : Int, ∃ A50 : St, q_X5_readPerson ta A24 z49 A50 ∧ (d_X5_readTown_2 K1 z9 z u z49 A50))) ∨ (z23 = 5 ∧ (∃ z53 : Int, ∃ A54 : St, q_X5_readThing ta A24 z53 A54 ∧ (d_X5_readTown_2 K1 z9 z u z53 A54))) ∨ (z23 = 6 ∧ (∃ z57 : Int, ∃ A58 : St, q_X5_readWants ta A24 z57 A58 ∧ (d_X5_readTown_2 K1 z9 z u z57 A58))) ∨ (z23 = 7 ∧ (∃ z61 : Int, ∃ A62 : St, q_X5_readMust ta A24 z61 A62 ∧ (d_X5_readTown_2 K1 z9 z u z61 A62))) ∨ (z23 = 8 ∧ (∃ z68 : Int, ∃ A69 : St, q_X5_readBar ta A24 z68 A69 ∧ (d_X5_readTown_2 K1 z9 z u z68 A69))) ∨ (z23 = 9 ∧ (∃ z72 : Int, ∃ A73 : St, q_X5_readHas ta A24 z72 A73 ∧ (d_X5_readTown_2 K1 z9 z u z72 A73))) ∨ (z23 = 10 ∧ (∃ z76 : Int, ∃ A77 : St, q_X5_readShut ta A24 z76 A77 ∧ (d_X5_readTown_2 K1 z9 z u z76 A77))) ∨ (z23 = 11 ∧ (∃ z80 : Int, ∃ A81 : St, q_X5_readLost ta A24 z80 A81 ∧ (d_X5_readTown_2 K1 z9 z u z80 A81)))))) ∨ (((A18 5 2) = 0) ∧ (z = z9 ∧ u = A18))))))))
def d_X5_readTown_1 (ta : Nat) (z : Int) (u : St) : Nat → Int → St → Prop
  | 0, _, _ => False
  | nn9 + 1, z9, A11 => tr_d_X5_readTown_1 ta z u (fun z9 A11 => d_X5_readTown_1 ta z u nn9 z9 A11) z9 A11
theorem u_d_X5_readTown_1 {ta : Nat} {z : Int} {u : St} {nn9 : Nat} {z9 : Int} {A11 : St} (h : tr_d_X5_readTown_1 ta z u (fun z9 A11 => d_X5_readTown_1 ta z u nn9 z9 A11) z9 A11) : d_X5_readTown_1 ta z u (nn9 + 1) z9 A11 := h
abbrev tr_r_X5_readTown (ta : Nat) (A : St) (z : Int) (u : St) : Prop := (∃ A1 : St, q_X9_clear ta A A1 ∧ (∃ A4 : St, q_X3_begin A1 A4 ∧ (∃ A7 : St, A7 = stA A4 3 2 0 ∧ (∃ A8 : St, A8 = stA A7 3 3 (-1) ∧ (∃ nn9 : Nat, d_X5_readTown_1 ta z u nn9 0 A8)))))
def r_X5_readTown (ta : Nat) (A : St) (z : Int) (u : St) : Prop := tr_r_X5_readTown ta A z u
theorem u_r_X5_readTown {ta : Nat} {A : St} {z : Int} {u : St} (h : tr_r_X5_readTown ta A z u) : r_X5_readTown ta A z u := h
def q_X5_readTown (ta : Nat) (A : St) (z : Int) (u : St) : Prop := r_X5_readTown ta A z u ∧ IK u ∧ fk [33, 34, 35, 37, 38, 39, 40, 42, 43, 44, 46, 47, 48, 49, 52, 54, 55, 56, 57, 58, 59, 60, 61, 62, 63, 64, 65, 66, 67, 68, 69, 71, 74, 75, 76, 78, 79, 80, 81, 83, 85, 86, 87, 88, 89, 90, 91, 92, 93, 94, 95, 96, 97, 98, 99, 100, 102, 105, 106, 107, 109, 110, 111, 112] [(3, 2), (3, 3), (3, 4), (5, 1), (5, 2), (5, 3), (5, 4), (5, 5), (5, 6), (51, 15), (70, 2), (82, 15), (101, 2)] A u ∧ (-2147483648 ≤ z ∧ z ≤ 2147483647)
def ws_kc_X5_readTown : List Cond := .code yX5_readTown cX5_readTown 4 (some .int) :: WY
set_option maxHeartbeats 4000000 in
set_option maxRecDepth 100000 in
theorem kc_X5_readTown (l : Launch) (dC : Nat → ClassId) (dI : Nat → Nat → Nat) (cB cI cJ cZ cQ : ClassId) (aL aS : Nat) (q : Nat → Nat) (A : St) (ta : Nat) (hI : IK A) (hta : isT ta) : KMi l yX5_readTown ws_kc_X5_readTown ({ frames := 104, cells := 0, slots := 0, locals := 3925 } : Room) aL aS (dC, dI) (tyA cB cI cJ cZ cQ) (WK cB cI cJ cZ cQ q) A [.ref (q 3), .ref (q ta)] (fun z u => r_X5_readTown ta A z u ∧ IK u ∧ fk [33, 34, 35, 37, 38, 39, 40, 42, 43, 44, 46, 47, 48, 49, 52, 54, 55, 56, 57, 58, 59, 60, 61, 62, 63, 64, 65, 66, 67, 68, 69, 71, 74, 75, 76, 78, 79, 80, 81, 83, 85, 86, 87, 88, 89, 90, 91, 92, 93, 94, 95, 96, 97, 98, 99, 100, 102, 105, 106, 107, 109, 110, 111, 112] [(3, 2), (3, 3), (3, 4), (5, 1), (5, 2), (5, 3), (5, 4), (5, 5), (5, 6), (51, 15), (70, 2), (82, 15), (101, 2)] A u ∧ (-2147483648 ≤ z ∧ z ≤ 2147483647)) := by
  refine k_meti (cc := cX5_readTown) (maxL := 4) WK_adr (plainFor_of_name (by decide +kernel)) rfl (Nat.le_of_ble_eq_true rfl) (fun p e s m below meth c Q AS ls hx hb hml hown hts hK hDD hA0 hE RET H locs hP hS hl => ?_)
  have hown : s.vm.findClass RX5 = some m.cls := hown
  have hl : lv_has ls 4 [(0, .ref (q 3)), (1, .ref (q ta))] := hl
  have hiX5 : ∀ w ∈ u_ws RX5 TX5 5, w ∈ ws_kc_X5_readTown := fun w h => List.mem_cons_of_mem _ (wy_layX5 w h)
  have hiX3 : ∀ w ∈ u_ws RX3 TX3 7, w ∈ ws_kc_X5_readTown := fun w h => List.mem_cons_of_mem _ (wy_layX3 w h)
  refine lv_aload_n hx hb (dk_at dkX5_readTown_0 0 rfl) rfl (lv_at hl 1 rfl) ?_
  refine k_callv (As := []) (rest := []) ⟨hx, hb, hml, hown, hts⟩ hE (kc_X9_clear l dC dI cB cI cJ cZ cQ aL aS q _ ta hI hta) (cwV 0 hts (goodVk wkq_5_10 wkq_5_11 wkq_5_12 wkq_0_6 wkq_5_13) rfl rfl rfl (by decide +kernel) ⟨Nat.le_of_ble_eq_true rfl, Nat.le_of_ble_eq_true rfl⟩) hK hDD hA0 hP hS ta 9 (wkT hta) rfl rfl hl.1 (Nat.le_of_ble_eq_true rfl) (dk_at dkX5_readTown_0 1 rfl) (fun A1 H locs hw2 hP hS => ?_)
  have ghw2 : q_X9_clear ta A A1 := hw2
  obtain ⟨_, hI, hf3, hw2⟩ := hw2
  clear hw2
  refine lv_aload_n hx hb (dk_at dkX5_readTown_0 2 rfl) rfl (lv_at hl 0 rfl) ?_
  refine va_get (D := (dC, dI)) (ci := 5) (v := .ref (q 5)) (C := RX5) (T := TX5) (N := 5) hx hb hts hiX5 hown hK hP 3 (wkRD) rfl 0 (by decide) (hts _ (List.mem_cons_of_mem _ wkq_5_6)) (fun _ h9 => h9) rfl (dk_at dkX5_readTown_0 3 rfl) ?_
  refine k_callv (As := []) (rest := []) ⟨hx, hb, hml, hown, hts⟩ hE (kc_X3_begin l dC dI cB cI cJ cZ cQ aL aS q _ hI) (cwV 0 hts (goodVk wkq_5_19 wkq_5_20 wkq_5_21 wkq_4_10 wkq_3_54) rfl rfl rfl (by decide +kernel) ⟨Nat.le_of_ble_eq_true rfl, Nat.le_of_ble_eq_true rfl⟩) hK hDD hA0 hP hS 5 3 (wkLX) rfl rfl hl.1 (Nat.le_of_ble_eq_true rfl) (dk_at dkX5_readTown_0 4 rfl) (fun A4 H locs hw5 hP hS => ?_)
  have ghw5 : q_X3_begin A1 A4 := hw5
  obtain ⟨_, hI, hf6, hw5⟩ := hw5
  clear hw5
  refine lv_aload_n hx hb (dk_at dkX5_readTown_0 5 rfl) rfl (lv_at hl 0 rfl) ?_
  refine lv_iconst (v := iI 0) hx hb (dk_at dkX5_readTown_0 6 rfl) (by decide +kernel) ?_
  refine k_put (Wf := WK cB cI cJ cZ cQ q) (D := (dC, dI)) (ci := 5) (v := .int (iI 0)) (ty := .int) (C := RX5) (T := TX5) (N := 5) hx hb hts hiX5 tyX5 tyX5_ok nmX5 hown hK hP hDD hS 3 (wkRD) rfl 2 (by decide) (hts _ (List.mem_cons_of_mem _ wkq_5_7)) (fun _ h9 => h9) rfl (by decide +kernel) rfl rfl (Nat.le_of_ble_eq_true rfl) (dk_at dkX5_readTown_0 7 rfl) (wfRD_2 (v := 0)) (fun H locs A7 hA7 hP hS => ?_)
  have hI := isRD_2 hA7 hI (show (0 : Int) ≤ 0 ∧ 0 ≤ 5 from ⟨by decide, by decide⟩)
  refine lv_aload_n hx hb (dk_at dkX5_readTown_0 8 rfl) rfl (lv_at hl 0 rfl) ?_
  refine lv_iconst (v := iI (-1)) hx hb (dk_at dkX5_readTown_0 9 rfl) (by decide +kernel) ?_
  refine k_put (Wf := WK cB cI cJ cZ cQ q) (D := (dC, dI)) (ci := 5) (v := .int (iI (-1))) (ty := .int) (C := RX5) (T := TX5) (N := 5) hx hb hts hiX5 tyX5 tyX5_ok nmX5 hown hK hP hDD hS 3 (wkRD) rfl 3 (by decide) (hts _ (List.mem_cons_of_mem _ wkq_5_8)) (fun _ h9 => h9) rfl (by decide +kernel) rfl rfl (Nat.le_of_ble_eq_true rfl) (dk_at dkX5_readTown_0 10 rfl) (wfRD_3 (v := (-1))) (fun H locs A8 hA8 hP hS => ?_)
  have hI := isRD_3 hA8 hI (show (-1 : Int) ≤ (-1) ∧ (-1) ≤ 1600 from ⟨by decide, by decide⟩)
  refine lv_iconst (v := iI 0) hx hb (dk_at dkX5_readTown_0 11 rfl) (by decide +kernel) ?_
  refine lv_istore_n (lv' := [(2, .int (iI 0)), (0, .ref (q 3)), (1, .ref (q ta))]) hx hb (dk_at dkX5_readTown_0 12 rfl) rfl hl (by decide) rfl (fun ls hl => ?_)
  have L23_12 : ∀ (n15 : Nat) (z9 : Int) (A11 : St) (H : Heap) (locs : List Loc) (ls : Array Slot), (0 ≤ z9 ∧ z9 ≤ 2147483647) → (∀ (z : Int) (u : St), (∃ mm1 : Nat, (d_X5_readTown_1 ta z u mm1 z9 A11)) → r_X5_readTown ta A z u) → ((1601 - z9).toNat = n15) → IK A11 → fk [33, 34, 35, 37, 38, 39, 40, 42, 43, 44, 46, 47, 48, 49, 52, 54, 55, 56, 57, 58, 59, 60, 61, 62, 63, 64, 65, 66, 67, 68, 69, 71, 74, 75, 76, 78, 79, 80, 81, 83, 85, 86, 87, 88, 89, 90, 91, 92, 93, 94, 95, 96, 97, 98, 99, 100, 102, 105, 106, 107, 109, 110, 111, 112] [(3, 2), (3, 3), (3, 4), (5, 1), (5, 2), (5, 3), (5, 4), (5, 5), (5, 6), (51, 15), (70, 2), (82, 15), (101, 2)] A8 A11 → va_P (dC, dI) vwCl (WK cB cI cJ cZ cQ q A11) H → va_S AS s.heap H locs → lv_has ls 4 [(2, .int (iI z9)), (0, .ref (q 3)), (1, .ref (q ta))] → W p l e (headSpec ws_kc_X5_readTown ({ frames := 104, cells := 0, slots := 0, locals := 3925 } : Room)).room s m [.ref (q 3), .ref (q ta)].toArray below meth c H locs 0 0 Q (F0 m 23 ls []) := by
    intro n15
    induction n15 using Nat.strongRecOn with
    | ind n15 ih13 =>
      intro z9 A11 H locs ls f14 hk1 hn15 hI hj10 hP hS hl
      have gI16 : Hd (IK A11) := Hd.mk hI
      refine lv_iload_n hx hb (dk_at dkX5_readTown_0 13 rfl) rfl (lv_at hl 0 rfl) ?_
      refine lv_sipush (v := iI 1600) hx hb (dk_at dkX5_readTown_0 14 rfl) (by decide +kernel) ?_
      refine lv_icmp_gt (tgt := 252) hx hb (dk_at dkX5_readTown_0 15 rfl) (by decide) (fun c17 => ?_) (fun c17 => ?_)
      · have c17 : 1600 < z9 := (i_lt ⟨by decide, by decide⟩ (rb f14 (by decide) (by decide))).mp c17
        refine lv_iconst (v := iI (-1)) hx hb (dk_at dkX5_readTown_6 8 rfl) (by decide +kernel) ?_
        exact RET (-1) _ _ _ _ _ ⟨hk1 _ _ ⟨0 + 1, (u_d_X5_readTown_1 ⟨gI16.out, ⟨f14, (Or.inl ⟨c17, ⟨rfl, rfl⟩⟩)⟩⟩)⟩, hI, fk.trans (fk.df (fk.df (fk.trans (fk.trans (fk.rf) hf3 rfl rfl) hf6 rfl rfl) hA7 rfl) hA8 rfl) hj10 rfl rfl, ⟨by decide, by decide⟩⟩ hP hS (dk_at dkX5_readTown_6 9 rfl)
      · have c17 : ¬ 1600 < z9 := mt (i_lt ⟨by decide, by decide⟩ (rb f14 (by decide) (by decide))).mpr c17
        refine lv_aload_n hx hb (dk_at dkX5_readTown_1 0 rfl) rfl (lv_at hl 1 rfl) ?_
        refine va_get (D := (dC, dI)) (ci := 5) (v := .ref (q 5)) (C := RX5) (T := TX5) (N := 5) hx hb hts hiX5 hown hK hP 3 (wkRD) rfl 0 (by decide) (hts _ (List.mem_cons_of_mem _ wkq_5_6)) (fun _ h9 => h9) rfl (dk_at dkX5_readTown_1 1 rfl) ?_
        refine k_callv (As := []) (rest := []) ⟨hx, hb, hml, hown, hts⟩ hE (kc_X3_look l dC dI cB cI cJ cZ cQ aL aS q _ hI) (cwV 0 hts (goodVk wkq_5_22 wkq_5_23 wkq_5_24 wkq_4_10 wkq_4_2) rfl rfl rfl (by decide +kernel) ⟨Nat.le_of_ble_eq_true rfl, Nat.le_of_ble_eq_true rfl⟩) hK hDD hA0 hP hS 5 3 (wkLX) rfl rfl hl.1 (Nat.le_of_ble_eq_true rfl) (dk_at dkX5_readTown_1 2 rfl) (fun A18 H locs hw19 hP hS => ?_)
        have ghw19 : q_X3_look A11 A18 := hw19
        obtain ⟨_, hI, hf20, hw19⟩ := hw19
        clear hw19
        refine lv_aload_n hx hb (dk_at dkX5_readTown_1 3 rfl) rfl (lv_at hl 1 rfl) ?_
        refine va_get (D := (dC, dI)) (ci := 5) (v := .ref (q 5)) (C := RX5) (T := TX5) (N := 5) hx hb hts hiX5 hown hK hP 3 (wkRD) rfl 0 (by decide) (hts _ (List.mem_cons_of_mem _ wkq_5_6)) (fun _ h9 => h9) rfl (dk_at dkX5_readTown_1 4 rfl) ?_
        have r21 : (0 : Int) ≤ (A18 5 2) ∧ (A18 5 2) ≤ 4 := irLX_2 hI
        refine va_get (D := (dC, dI)) (ci := 3) (v := .int (iI (A18 5 2))) (C := RX3) (T := TX3) (N := 7) hx hb hts hiX3 hown hK hP 5 (wkLX) rfl 2 (by decide) (hts _ (List.mem_cons_of_mem _ wkq_5_9)) (fun _ h9 => h9) rfl (dk_at dkX5_readTown_1 5 rfl) ?_
        refine lv_if_ne (tgt := 49) hx hb (dk_at dkX5_readTown_1 6 rfl) (by decide) (fun c22 => ?_) (fun c22 => ?_)
        · have c22 : ¬ (A18 5 2) = 0 := mt (i_eq0 (rb r21 (by decide) (by decide))).mpr c22
          refine lv_aload_n hx hb (dk_at dkX5_readTown_1 9 rfl) rfl (lv_at hl 1 rfl) ?_
          refine lv_aload_n hx hb (dk_at dkX5_readTown_1 10 rfl) rfl (lv_at hl 2 rfl) ?_
          refine k_calli (As := [.ref (q ta)]) (rest := []) ⟨hx, hb, hml, hown, hts⟩ hE (kc_X5_statementWord l dC dI cB cI cJ cZ cQ aL aS q _ ta hI hta) (cwV 1 hts (goodVk wkq_5_25 wkq_5_26 wkq_5_27 wkq_5_28 wkq_5_29) rfl rfl rfl (by decide +kernel) ⟨Nat.le_of_ble_eq_true rfl, Nat.le_of_ble_eq_true rfl⟩) hK hDD hA0 hP hS 3 5 (wkRD) rfl rfl hl.1 (Nat.le_of_ble_eq_true rfl) (dk_at dkX5_readTown_1 11 rfl) (fun z23 A24 H locs hw25 hP hS => ?_)
          have ghw25 : q_X5_statementWord ta A18 z23 A24 := hw25
          obtain ⟨_, hI, hf26, hw25⟩ := hw25
          have J231_28 : ∀ (z84 : Int) (A86 : St) (H : Heap) (locs : List Loc) (ls : Array Slot), (0 ≤ z84 ∧ z84 ≤ 1) → (∀ (z : Int) (u : St), (∃ mm1 : Nat, (d_X5_readTown_2 (fun z9' A11' => d_X5_readTown_1 ta z u mm1 z9' A11') z9 z u z84 A86)) → r_X5_readTown ta A z u) → IK A86 → fk [33, 34, 35, 37, 38, 39, 40, 42, 43, 44, 46, 47, 48, 49, 52, 54, 55, 56, 57, 58, 59, 60, 61, 62, 63, 64, 65, 66, 67, 68, 69, 71, 74, 75, 76, 78, 79, 80, 81, 83, 85, 86, 87, 88, 89, 90, 91, 92, 93, 94, 95, 96, 97, 98, 99, 100, 102, 105, 106, 107, 109, 110, 111, 112] [(3, 2), (3, 3), (3, 4), (5, 1), (5, 2), (5, 3), (5, 4), (5, 5), (5, 6), (51, 15), (70, 2), (82, 15), (101, 2)] A24 A86 → va_P (dC, dI) vwCl (WK cB cI cJ cZ cQ q A86) H → va_S AS s.heap H locs → lv_has ls 4 [(3, .int (iI z84)), (2, .int (iI z9)), (0, .ref (q 3)), (1, .ref (q ta))] → W p l e (headSpec ws_kc_X5_readTown ({ frames := 104, cells := 0, slots := 0, locals := 3925 } : Room)).room s m [.ref (q 3), .ref (q ta)].toArray below meth c H locs 0 0 Q (F0 m 231 ls []) := by
            intro z84 A86 H locs ls f87 hk2 hI hj85 hP hS hl
            have gI88 : Hd (IK A86) := Hd.mk hI
            refine lv_iload_n hx hb (dk_at dkX5_readTown_5 14 rfl) rfl (lv_at hl 0 rfl) ?_
            refine lv_if_eq (tgt := 244) hx hb (dk_at dkX5_readTown_5 15 rfl) (by decide) (fun c89 => ?_) (fun c89 => ?_)
            · have c89 : z84 = 0 := (i_eq0 (rb f87 (by decide) (by decide))).mp c89
              refine lv_iconst (v := iI (-1)) hx hb (dk_at dkX5_readTown_6 4 rfl) (by decide +kernel) ?_
              exact RET (-1) _ _ _ _ _ ⟨hk2 _ _ ⟨0, (u_d_X5_readTown_2 ⟨gI88.out, ⟨f87, (Or.inl ⟨c89, ⟨rfl, rfl⟩⟩)⟩⟩)⟩, hI, fk.trans (fk.trans (fk.trans (fk.trans (fk.df (fk.df (fk.trans (fk.trans (fk.rf) hf3 rfl rfl) hf6 rfl rfl) hA7 rfl) hA8 rfl) hj10 rfl rfl) hf20 rfl rfl) hf26 rfl rfl) hj85 rfl rfl, ⟨by decide, by decide⟩⟩ hP hS (dk_at dkX5_readTown_6 5 rfl)
            · have c89 : ¬ z84 = 0 := mt (i_eq0 (rb f87 (by decide) (by decide))).mpr c89
              refine lv_aload_n hx hb (dk_at dkX5_readTown_6 0 rfl) rfl (lv_at hl 2 rfl) ?_
              refine lv_bipush (v := iI 59) hx hb (dk_at dkX5_readTown_6 1 rfl) (by decide +kernel) ?_
              refine k_calli (As := [.int (iI 59)]) (rest := []) ⟨hx, hb, hml, hown, hts⟩ hE (kc_X5_sign l dC dI cB cI cJ cZ cQ aL aS q _ 59 hI ⟨by decide, by decide⟩) (cwV 1 hts (goodVk wkq_7_53 wkq_7_54 wkq_7_55 wkq_5_28 wkq_7_56) rfl rfl rfl (by decide +kernel) ⟨Nat.le_of_ble_eq_true rfl, Nat.le_of_ble_eq_true rfl⟩) hK hDD hA0 hP hS 3 5 (wkRD) rfl rfl hl.1 (Nat.le_of_ble_eq_true rfl) (dk_at dkX5_readTown_6 2 rfl) (fun z90 A91 H locs hw92 hP hS => ?_)
              have ghw92 : q_X5_sign 59 A86 z90 A91 := hw92
              obtain ⟨_, hI, hf93, hw92⟩ := hw92
              refine lv_if_ne (tgt := 246) hx hb (dk_at dkX5_readTown_6 3 rfl) (by decide) (fun c94 => ?_) (fun c94 => ?_)
              · have c94 : ¬ z90 = 0 := mt (i_eq0 (rb hw92 (by decide) (by decide))).mpr c94
                refine lv_iinc (v := iI (z9 + 1)) (lv' := [(2, .int (iI (z9 + 1))), (3, .int (iI z84)), (0, .ref (q 3)), (1, .ref (q ta))]) hx hb (dk_at dkX5_readTown_6 6 rfl) hl (k := 1) rfl (i_inc (by omega)) (by decide) rfl (fun ls hl => ?_)
                refine lv_goto (tgt := 23) hx hb (dk_at dkX5_readTown_6 7 rfl) (by decide) ?_
                exact ih13 _ (by omega) (z9 + 1) _ _ _ _ (by omega) (fun zq uq ⟨mm1, hq⟩ => hk2 _ _ ⟨mm1, (u_d_X5_readTown_2 ⟨gI88.out, ⟨f87, (Or.inr ⟨c89, ⟨z90, A91, ghw92, (Or.inl ⟨c94, hq⟩)⟩⟩)⟩⟩)⟩) rfl hI (fk.trans (fk.trans (fk.trans (fk.trans (fk.trans (fk.rf) hj10 rfl rfl) hf20 rfl rfl) hf26 rfl rfl) hj85 rfl rfl) hf93 rfl rfl) hP hS (lv_sub hl [0, 2, 3] rfl)
              · have c94 : z90 = 0 := (i_eq0 (rb hw92 (by decide) (by decide))).mp c94
                refine lv_iconst (v := iI (-1)) hx hb (dk_at dkX5_readTown_6 4 rfl) (by decide +kernel) ?_
                exact RET (-1) _ _ _ _ _ ⟨hk2 _ _ ⟨0, (u_d_X5_readTown_2 ⟨gI88.out, ⟨f87, (Or.inr ⟨c89, ⟨z90, A91, ghw92, (Or.inr ⟨c94, ⟨rfl, rfl⟩⟩)⟩⟩)⟩⟩)⟩, hI, fk.trans (fk.trans (fk.trans (fk.trans (fk.trans (fk.df (fk.df (fk.trans (fk.trans (fk.rf) hf3 rfl rfl) hf6 rfl rfl) hA7 rfl) hA8 rfl) hj10 rfl rfl) hf20 rfl rfl) hf26 rfl rfl) hj85 rfl rfl) hf93 rfl rfl, ⟨by decide, by decide⟩⟩ hP hS (dk_at dkX5_readTown_6 5 rfl)
          rcases (show (z23 < 0 ∨ 11 < z23) ∨ z23 = 0 ∨ z23 = 1 ∨ z23 = 2 ∨ z23 = 3 ∨ z23 = 4 ∨ z23 = 5 ∨ z23 = 6 ∨ z23 = 7 ∨ z23 = 8 ∨ z23 = 9 ∨ z23 = 10 ∨ z23 = 11 by omega) with c27 | c27 | c27 | c27 | c27 | c27 | c27 | c27 | c27 | c27 | c27 | c27 | c27
          · refine lv_tableOut (tgt := 229) hx hb (dk_at dkX5_readTown_1 12 rfl) (by rw [iI_toInt (by omega)]; exact c27) (by decide) ?_
            refine lv_iconst (v := iI 0) hx hb (dk_at dkX5_readTown_5 12 rfl) (by decide +kernel) ?_
            refine lv_istore_n (lv' := [(3, .int (iI 0)), (2, .int (iI z9)), (0, .ref (q 3)), (1, .ref (q ta))]) hx hb (dk_at dkX5_readTown_5 13 rfl) rfl hl (by decide) rfl (fun ls hl => ?_)
            exact J231_28 0 _ _ _ _ (by omega) (fun zq uq ⟨mm1, hq⟩ => hk1 _ _ ⟨mm1 + 1, (u_d_X5_readTown_1 ⟨gI16.out, ⟨f14, (Or.inr ⟨c17, ⟨A18, ghw19, (Or.inl ⟨c22, ⟨z23, A24, ghw25, (Or.inl ⟨c27, hq⟩)⟩⟩)⟩⟩)⟩⟩)⟩) hI (fk.rf) hP hS (lv_sub hl [0, 1, 2, 3] rfl)
          · refine tp_i (y := iI 0) (congrArg iI c27) ?_
            refine lv_tableIn (off := 62) (tgt := 116) hx hb (dk_at dkX5_readTown_1 12 rfl) (by decide +kernel) (by decide +kernel) (by decide +kernel) (by decide) ?_
            refine lv_aload_n hx hb (dk_at dkX5_readTown_1 13 rfl) rfl (lv_at hl 2 rfl) ?_
            refine lv_iconst (v := iI 0) hx hb (dk_at dkX5_readTown_1 14 rfl) (by decide +kernel) ?_
            refine lv_aload_n hx hb (dk_at dkX5_readTown_1 15 rfl) rfl (lv_at hl 1 rfl) ?_
            refine lv_aload_n hx hb (dk_at dkX5_readTown_2 0 rfl) rfl (lv_at hl 2 rfl) ?_
            refine k_calli (As := [.ref (q ta)]) (rest := [.int (iI 0), .ref (q ta)]) ⟨hx, hb, hml, hown, hts⟩ hE (kc_X5_newName l dC dI cB cI cJ cZ cQ aL aS q _ ta hI hta) (cwV 1 hts (goodVk wkq_5_45 wkq_5_46 wkq_5_47 wkq_5_28 wkq_5_48) rfl rfl rfl (by decide +kernel) ⟨Nat.le_of_ble_eq_true rfl, Nat.le_of_ble_eq_true rfl⟩) hK hDD hA0 hP hS 3 5 (wkRD) rfl rfl hl.1 (Nat.le_of_ble_eq_true rfl) (dk_at dkX5_readTown_2 1 rfl) (fun z29 A30 H locs hw31 hP hS => ?_)
            have ghw31 : q_X5_newName ta A24 z29 A30 := hw31
            obtain ⟨_, hI, hf32, hw31⟩ := hw31
            refine k_calli (As := [.int (iI 0), .int (iI z29)]) (rest := []) ⟨hx, hb, hml, hown, hts⟩ hE (kc_X9_add_1_0 l dC dI cB cI cJ cZ cQ aL aS q _ ta z29 hI hta hw31) (cwV 2 hts (goodVk wkq_5_58 wkq_5_59 wkq_6_0 wkq_0_6 wkq_6_1) rfl rfl rfl (by decide +kernel) ⟨Nat.le_of_ble_eq_true rfl, Nat.le_of_ble_eq_true rfl⟩) hK hDD hA0 hP hS ta 9 (wkT hta) rfl rfl hl.1 (Nat.le_of_ble_eq_true rfl) (dk_at dkX5_readTown_2 2 rfl) (fun z33 A34 H locs hw35 hP hS => ?_)
            have ghw35 : q_X9_add_1_0 ta z29 A30 z33 A34 := hw35
            obtain ⟨_, hI, hf36, hw35⟩ := hw35
            have rz33 : 0 ≤ z33 ∧ z33 ≤ 1 := hw35.1
            have hw35 := hw35.2
            refine lv_istore_n (lv' := [(3, .int (iI z33)), (2, .int (iI z9)), (0, .ref (q 3)), (1, .ref (q ta))]) hx hb (dk_at dkX5_readTown_2 3 rfl) rfl hl (by decide) rfl (fun ls hl => ?_)
            refine lv_goto (tgt := 231) hx hb (dk_at dkX5_readTown_2 4 rfl) (by decide) ?_
            exact J231_28 z33 _ _ _ _ (by omega) (fun zq uq ⟨mm1, hq⟩ => hk1 _ _ ⟨mm1 + 1, (u_d_X5_readTown_1 ⟨gI16.out, ⟨f14, (Or.inr ⟨c17, ⟨A18, ghw19, (Or.inl ⟨c22, ⟨z23, A24, ghw25, (Or.inr (Or.inl ⟨c27, ⟨z29, A30, ghw31, ⟨z33, A34, ghw35, hq⟩⟩⟩))⟩⟩)⟩⟩)⟩⟩)⟩) hI (fk.trans (fk.trans (fk.rf) hf32 rfl rfl) hf36 rfl rfl) hP hS (lv_sub hl [0, 1, 2, 3] rfl)
          · refine tp_i (y := iI 1) (congrArg iI c27) ?_
            refine lv_tableIn (off := 76) (tgt := 130) hx hb (dk_at dkX5_readTown_1 12 rfl) (by decide +kernel) (by decide +kernel) (by decide +kernel) (by decide) ?_
            refine lv_aload_n hx hb (dk_at dkX5_readTown_2 5 rfl) rfl (lv_at hl 1 rfl) ?_
            refine lv_aload_n hx hb (dk_at dkX5_readTown_2 6 rfl) rfl (lv_at hl 2 rfl) ?_
            refine k_calli (As := [.ref (q ta)]) (rest := []) ⟨hx, hb, hml, hown, hts⟩ hE (kc_X5_readDoor l dC dI cB cI cJ cZ cQ aL aS q _ ta hI hta) (cwV 1 hts (goodVk wkq_6_2 wkq_6_3 wkq_6_4 wkq_5_28 wkq_6_5) rfl rfl rfl (by decide +kernel) ⟨Nat.le_of_ble_eq_true rfl, Nat.le_of_ble_eq_true rfl⟩) hK hDD hA0 hP hS 3 5 (wkRD) rfl rfl hl.1 (Nat.le_of_ble_eq_true rfl) (dk_at dkX5_readTown_2 7 rfl) (fun z37 A38 H locs hw39 hP hS => ?_)
            have ghw39 : q_X5_readDoor ta A24 z37 A38 := hw39
            obtain ⟨_, hI, hf40, hw39⟩ := hw39
            refine lv_istore_n (lv' := [(3, .int (iI z37)), (2, .int (iI z9)), (0, .ref (q 3)), (1, .ref (q ta))]) hx hb (dk_at dkX5_readTown_2 8 rfl) rfl hl (by decide) rfl (fun ls hl => ?_)
            refine lv_goto (tgt := 231) hx hb (dk_at dkX5_readTown_2 9 rfl) (by decide) ?_
            exact J231_28 z37 _ _ _ _ (by omega) (fun zq uq ⟨mm1, hq⟩ => hk1 _ _ ⟨mm1 + 1, (u_d_X5_readTown_1 ⟨gI16.out, ⟨f14, (Or.inr ⟨c17, ⟨A18, ghw19, (Or.inl ⟨c22, ⟨z23, A24, ghw25, (Or.inr (Or.inr (Or.inl ⟨c27, ⟨z37, A38, ghw39, hq⟩⟩)))⟩⟩)⟩⟩)⟩⟩)⟩) hI (fk.trans (fk.rf) hf40 rfl rfl) hP hS (lv_sub hl [0, 1, 2, 3] rfl)
          · refine tp_i (y := iI 2) (congrArg iI c27) ?_
            refine lv_tableIn (off := 85) (tgt := 139) hx hb (dk_at dkX5_readTown_1 12 rfl) (by decide +kernel) (by decide +kernel) (by decide +kernel) (by decide) ?_
            refine lv_aload_n hx hb (dk_at dkX5_readTown_2 10 rfl) rfl (lv_at hl 1 rfl) ?_
            refine lv_aload_n hx hb (dk_at dkX5_readTown_2 11 rfl) rfl (lv_at hl 2 rfl) ?_
            refine k_calli (As := [.ref (q ta)]) (rest := []) ⟨hx, hb, hml, hown, hts⟩ hE (kc_X5_readBox l dC dI cB cI cJ cZ cQ aL aS q _ ta hI hta) (cwV 1 hts (goodVk wkq_6_19 wkq_6_20 wkq_6_21 wkq_5_28 wkq_6_22) rfl rfl rfl (by decide +kernel) ⟨Nat.le_of_ble_eq_true rfl, Nat.le_of_ble_eq_true rfl⟩) hK hDD hA0 hP hS 3 5 (wkRD) rfl rfl hl.1 (Nat.le_of_ble_eq_true rfl) (dk_at dkX5_readTown_2 12 rfl) (fun z41 A42 H locs hw43 hP hS => ?_)
            have ghw43 : q_X5_readBox ta A24 z41 A42 := hw43
            obtain ⟨_, hI, hf44, hw43⟩ := hw43
            refine lv_istore_n (lv' := [(3, .int (iI z41)), (2, .int (iI z9)), (0, .ref (q 3)), (1, .ref (q ta))]) hx hb (dk_at dkX5_readTown_2 13 rfl) rfl hl (by decide) rfl (fun ls hl => ?_)
            refine lv_goto (tgt := 231) hx hb (dk_at dkX5_readTown_2 14 rfl) (by decide) ?_
            exact J231_28 z41 _ _ _ _ (by omega) (fun zq uq ⟨mm1, hq⟩ => hk1 _ _ ⟨mm1 + 1, (u_d_X5_readTown_1 ⟨gI16.out, ⟨f14, (Or.inr ⟨c17, ⟨A18, ghw19, (Or.inl ⟨c22, ⟨z23, A24, ghw25, (Or.inr (Or.inr (Or.inr (Or.inl ⟨c27, ⟨z41, A42, ghw43, hq⟩⟩))))⟩⟩)⟩⟩)⟩⟩)⟩) hI (fk.trans (fk.rf) hf44 rfl rfl) hP hS (lv_sub hl [0, 1, 2, 3] rfl)
          · refine tp_i (y := iI 3) (congrArg iI c27) ?_
            refine lv_tableIn (off := 94) (tgt := 148) hx hb (dk_at dkX5_readTown_1 12 rfl) (by decide +kernel) (by decide +kernel) (by decide +kernel) (by decide) ?_
            refine lv_aload_n hx hb (dk_at dkX5_readTown_2 15 rfl) rfl (lv_at hl 1 rfl) ?_
            refine lv_aload_n hx hb (dk_at dkX5_readTown_3 0 rfl) rfl (lv_at hl 2 rfl) ?_
            refine k_calli (As := [.ref (q ta)]) (rest := []) ⟨hx, hb, hml, hown, hts⟩ hE (kc_X5_readKey l dC dI cB cI cJ cZ cQ aL aS q _ ta hI hta) (cwV 1 hts (goodVk wkq_6_31 wkq_6_32 wkq_6_33 wkq_5_28 wkq_6_34) rfl rfl rfl (by decide +kernel) ⟨Nat.le_of_ble_eq_true rfl, Nat.le_of_ble_eq_true rfl⟩) hK hDD hA0 hP hS 3 5 (wkRD) rfl rfl hl.1 (Nat.le_of_ble_eq_true rfl) (dk_at dkX5_readTown_3 1 rfl) (fun z45 A46 H locs hw47 hP hS => ?_)
            have ghw47 : q_X5_readKey ta A24 z45 A46 := hw47
            obtain ⟨_, hI, hf48, hw47⟩ := hw47
            refine lv_istore_n (lv' := [(3, .int (iI z45)), (2, .int (iI z9)), (0, .ref (q 3)), (1, .ref (q ta))]) hx hb (dk_at dkX5_readTown_3 2 rfl) rfl hl (by decide) rfl (fun ls hl => ?_)
            refine lv_goto (tgt := 231) hx hb (dk_at dkX5_readTown_3 3 rfl) (by decide) ?_
            exact J231_28 z45 _ _ _ _ (by omega) (fun zq uq ⟨mm1, hq⟩ => hk1 _ _ ⟨mm1 + 1, (u_d_X5_readTown_1 ⟨gI16.out, ⟨f14, (Or.inr ⟨c17, ⟨A18, ghw19, (Or.inl ⟨c22, ⟨z23, A24, ghw25, (Or.inr (Or.inr (Or.inr (Or.inr (Or.inl ⟨c27, ⟨z45, A46, ghw47, hq⟩⟩)))))⟩⟩)⟩⟩)⟩⟩)⟩) hI (fk.trans (fk.rf) hf48 rfl rfl) hP hS (lv_sub hl [0, 1, 2, 3] rfl)
          · refine tp_i (y := iI 4) (congrArg iI c27) ?_
            refine lv_tableIn (off := 103) (tgt := 157) hx hb (dk_at dkX5_readTown_1 12 rfl) (by decide +kernel) (by decide +kernel) (by decide +kernel) (by decide) ?_
            refine lv_aload_n hx hb (dk_at dkX5_readTown_3 4 rfl) rfl (lv_at hl 1 rfl) ?_
            refine lv_aload_n hx hb (dk_at dkX5_readTown_3 5 rfl) rfl (lv_at hl 2 rfl) ?_
            refine k_calli (As := [.ref (q ta)]) (rest := []) ⟨hx, hb, hml, hown, hts⟩ hE (kc_X5_readPerson l dC dI cB cI cJ cZ cQ aL aS q _ ta hI hta) (cwV 1 hts (goodVk wkq_6_44 wkq_6_45 wkq_6_46 wkq_5_28 wkq_6_47) rfl rfl rfl (by decide +kernel) ⟨Nat.le_of_ble_eq_true rfl, Nat.le_of_ble_eq_true rfl⟩) hK hDD hA0 hP hS 3 5 (wkRD) rfl rfl hl.1 (Nat.le_of_ble_eq_true rfl) (dk_at dkX5_readTown_3 6 rfl) (fun z49 A50 H locs hw51 hP hS => ?_)
            have ghw51 : q_X5_readPerson ta A24 z49 A50 := hw51
            obtain ⟨_, hI, hf52, hw51⟩ := hw51
            refine lv_istore_n (lv' := [(3, .int (iI z49)), (2, .int (iI z9)), (0, .ref (q 3)), (1, .ref (q ta))]) hx hb (dk_at dkX5_readTown_3 7 rfl) rfl hl (by decide) rfl (fun ls hl => ?_)
            refine lv_goto (tgt := 231) hx hb (dk_at dkX5_readTown_3 8 rfl) (by decide) ?_
            exact J231_28 z49 _ _ _ _ (by omega) (fun zq uq ⟨mm1, hq⟩ => hk1 _ _ ⟨mm1 + 1, (u_d_X5_readTown_1 ⟨gI16.out, ⟨f14, (Or.inr ⟨c17, ⟨A18, ghw19, (Or.inl ⟨c22, ⟨z23, A24, ghw25, (Or.inr (Or.inr (Or.inr (Or.inr (Or.inr (Or.inl ⟨c27, ⟨z49, A50, ghw51, hq⟩⟩))))))⟩⟩)⟩⟩)⟩⟩)⟩) hI (fk.trans (fk.rf) hf52 rfl rfl) hP hS (lv_sub hl [0, 1, 2, 3] rfl)
          · refine tp_i (y := iI 5) (congrArg iI c27) ?_
            refine lv_tableIn (off := 112) (tgt := 166) hx hb (dk_at dkX5_readTown_1 12 rfl) (by decide +kernel) (by decide +kernel) (by decide +kernel) (by decide) ?_
            refine lv_aload_n hx hb (dk_at dkX5_readTown_3 9 rfl) rfl (lv_at hl 1 rfl) ?_
            refine lv_aload_n hx hb (dk_at dkX5_readTown_3 10 rfl) rfl (lv_at hl 2 rfl) ?_
            refine k_calli (As := [.ref (q ta)]) (rest := []) ⟨hx, hb, hml, hown, hts⟩ hE (kc_X5_readThing l dC dI cB cI cJ cZ cQ aL aS q _ ta hI hta) (cwV 1 hts (goodVk wkq_6_53 wkq_6_54 wkq_6_55 wkq_5_28 wkq_6_56) rfl rfl rfl (by decide +kernel) ⟨Nat.le_of_ble_eq_true rfl, Nat.le_of_ble_eq_true rfl⟩) hK hDD hA0 hP hS 3 5 (wkRD) rfl rfl hl.1 (Nat.le_of_ble_eq_true rfl) (dk_at dkX5_readTown_3 11 rfl) (fun z53 A54 H locs hw55 hP hS => ?_)
            have ghw55 : q_X5_readThing ta A24 z53 A54 := hw55
            obtain ⟨_, hI, hf56, hw55⟩ := hw55
            refine lv_istore_n (lv' := [(3, .int (iI z53)), (2, .int (iI z9)), (0, .ref (q 3)), (1, .ref (q ta))]) hx hb (dk_at dkX5_readTown_3 12 rfl) rfl hl (by decide) rfl (fun ls hl => ?_)
            refine lv_goto (tgt := 231) hx hb (dk_at dkX5_readTown_3 13 rfl) (by decide) ?_
            exact J231_28 z53 _ _ _ _ (by omega) (fun zq uq ⟨mm1, hq⟩ => hk1 _ _ ⟨mm1 + 1, (u_d_X5_readTown_1 ⟨gI16.out, ⟨f14, (Or.inr ⟨c17, ⟨A18, ghw19, (Or.inl ⟨c22, ⟨z23, A24, ghw25, (Or.inr (Or.inr (Or.inr (Or.inr (Or.inr (Or.inr (Or.inl ⟨c27, ⟨z53, A54, ghw55, hq⟩⟩)))))))⟩⟩)⟩⟩)⟩⟩)⟩) hI (fk.trans (fk.rf) hf56 rfl rfl) hP hS (lv_sub hl [0, 1, 2, 3] rfl)
          · refine tp_i (y := iI 6) (congrArg iI c27) ?_
            refine lv_tableIn (off := 121) (tgt := 175) hx hb (dk_at dkX5_readTown_1 12 rfl) (by decide +kernel) (by decide +kernel) (by decide +kernel) (by decide) ?_
            refine lv_aload_n hx hb (dk_at dkX5_readTown_3 14 rfl) rfl (lv_at hl 1 rfl) ?_
            refine lv_aload_n hx hb (dk_at dkX5_readTown_3 15 rfl) rfl (lv_at hl 2 rfl) ?_
            refine k_calli (As := [.ref (q ta)]) (rest := []) ⟨hx, hb, hml, hown, hts⟩ hE (kc_X5_readWants l dC dI cB cI cJ cZ cQ aL aS q _ ta hI hta (by omega)) (cwV 1 hts (goodVk wkq_7_2 wkq_7_3 wkq_7_4 wkq_5_28 wkq_7_5) rfl rfl rfl (by decide +kernel) ⟨Nat.le_of_ble_eq_true rfl, Nat.le_of_ble_eq_true rfl⟩) hK hDD hA0 hP hS 3 5 (wkRD) rfl rfl hl.1 (Nat.le_of_ble_eq_true rfl) (dk_at dkX5_readTown_4 0 rfl) (fun z57 A58 H locs hw59 hP hS => ?_)
            have ghw59 : q_X5_readWants ta A24 z57 A58 := hw59
            obtain ⟨_, hI, hf60, hw59⟩ := hw59
            refine lv_istore_n (lv' := [(3, .int (iI z57)), (2, .int (iI z9)), (0, .ref (q 3)), (1, .ref (q ta))]) hx hb (dk_at dkX5_readTown_4 1 rfl) rfl hl (by decide) rfl (fun ls hl => ?_)
            refine lv_goto (tgt := 231) hx hb (dk_at dkX5_readTown_4 2 rfl) (by decide) ?_
            exact J231_28 z57 _ _ _ _ (by omega) (fun zq uq ⟨mm1, hq⟩ => hk1 _ _ ⟨mm1 + 1, (u_d_X5_readTown_1 ⟨gI16.out, ⟨f14, (Or.inr ⟨c17, ⟨A18, ghw19, (Or.inl ⟨c22, ⟨z23, A24, ghw25, (Or.inr (Or.inr (Or.inr (Or.inr (Or.inr (Or.inr (Or.inr (Or.inl ⟨c27, ⟨z57, A58, ghw59, hq⟩⟩))))))))⟩⟩)⟩⟩)⟩⟩)⟩) hI (fk.trans (fk.rf) hf60 rfl rfl) hP hS (lv_sub hl [0, 1, 2, 3] rfl)
          · refine tp_i (y := iI 7) (congrArg iI c27) ?_
            refine lv_tableIn (off := 130) (tgt := 184) hx hb (dk_at dkX5_readTown_1 12 rfl) (by decide +kernel) (by decide +kernel) (by decide +kernel) (by decide) ?_
            refine lv_aload_n hx hb (dk_at dkX5_readTown_4 3 rfl) rfl (lv_at hl 1 rfl) ?_
            refine lv_aload_n hx hb (dk_at dkX5_readTown_4 4 rfl) rfl (lv_at hl 2 rfl) ?_
            refine k_calli (As := [.ref (q ta)]) (rest := []) ⟨hx, hb, hml, hown, hts⟩ hE (kc_X5_readMust l dC dI cB cI cJ cZ cQ aL aS q _ ta hI hta) (cwV 1 hts (goodVk wkq_7_8 wkq_7_9 wkq_7_10 wkq_5_28 wkq_7_11) rfl rfl rfl (by decide +kernel) ⟨Nat.le_of_ble_eq_true rfl, Nat.le_of_ble_eq_true rfl⟩) hK hDD hA0 hP hS 3 5 (wkRD) rfl rfl hl.1 (Nat.le_of_ble_eq_true rfl) (dk_at dkX5_readTown_4 5 rfl) (fun z61 A62 H locs hw63 hP hS => ?_)
            have ghw63 : q_X5_readMust ta A24 z61 A62 := hw63
            obtain ⟨_, hI, hf64, hw63⟩ := hw63
            refine lv_istore_n (lv' := [(3, .int (iI z61)), (2, .int (iI z9)), (0, .ref (q 3)), (1, .ref (q ta))]) hx hb (dk_at dkX5_readTown_4 6 rfl) rfl hl (by decide) rfl (fun ls hl => ?_)
            refine lv_goto (tgt := 231) hx hb (dk_at dkX5_readTown_4 7 rfl) (by decide) ?_
            exact J231_28 z61 _ _ _ _ (by omega) (fun zq uq ⟨mm1, hq⟩ => hk1 _ _ ⟨mm1 + 1, (u_d_X5_readTown_1 ⟨gI16.out, ⟨f14, (Or.inr ⟨c17, ⟨A18, ghw19, (Or.inl ⟨c22, ⟨z23, A24, ghw25, (Or.inr (Or.inr (Or.inr (Or.inr (Or.inr (Or.inr (Or.inr (Or.inr (Or.inl ⟨c27, ⟨z61, A62, ghw63, hq⟩⟩)))))))))⟩⟩)⟩⟩)⟩⟩)⟩) hI (fk.trans (fk.rf) hf64 rfl rfl) hP hS (lv_sub hl [0, 1, 2, 3] rfl)
          · refine tp_i (y := iI 8) (congrArg iI c27) ?_
            refine lv_tableIn (off := 139) (tgt := 193) hx hb (dk_at dkX5_readTown_1 12 rfl) (by decide +kernel) (by decide +kernel) (by decide +kernel) (by decide) ?_
            refine lv_aload_n hx hb (dk_at dkX5_readTown_4 8 rfl) rfl (lv_at hl 1 rfl) ?_
            refine lv_aload_n hx hb (dk_at dkX5_readTown_4 9 rfl) rfl (lv_at hl 2 rfl) ?_
            have e66 : A18 3 4 = (A11 3 4) := (hf20 3 4 rfl rfl)
            have e65 : A24 3 4 = (A11 3 4) := (hf26 3 4 rfl rfl).trans e66
            have r67 : (0 : Int) ≤ (A11 3 4) ∧ (A11 3 4) ≤ 8 := by rw [← e65]; exact irRD_4 hI
            refine k_calli (As := [.ref (q ta)]) (rest := []) ⟨hx, hb, hml, hown, hts⟩ hE (kc_X5_readBar l dC dI cB cI cJ cZ cQ aL aS q _ ta hI hta) (cwV 1 hts (goodVk wkq_7_19 wkq_7_20 wkq_7_21 wkq_5_28 wkq_7_22) rfl rfl rfl (by decide +kernel) ⟨Nat.le_of_ble_eq_true rfl, Nat.le_of_ble_eq_true rfl⟩) hK hDD hA0 hP hS 3 5 (wkRD) rfl rfl hl.1 (Nat.le_of_ble_eq_true rfl) (dk_at dkX5_readTown_4 10 rfl) (fun z68 A69 H locs hw70 hP hS => ?_)
            have ghw70 : q_X5_readBar ta A24 z68 A69 := hw70
            obtain ⟨_, hI, hf71, hw70⟩ := hw70
            refine lv_istore_n (lv' := [(3, .int (iI z68)), (2, .int (iI z9)), (0, .ref (q 3)), (1, .ref (q ta))]) hx hb (dk_at dkX5_readTown_4 11 rfl) rfl hl (by decide) rfl (fun ls hl => ?_)
            refine lv_goto (tgt := 231) hx hb (dk_at dkX5_readTown_4 12 rfl) (by decide) ?_
            exact J231_28 z68 _ _ _ _ (by omega) (fun zq uq ⟨mm1, hq⟩ => hk1 _ _ ⟨mm1 + 1, (u_d_X5_readTown_1 ⟨gI16.out, ⟨f14, (Or.inr ⟨c17, ⟨A18, ghw19, (Or.inl ⟨c22, ⟨z23, A24, ghw25, (Or.inr (Or.inr (Or.inr (Or.inr (Or.inr (Or.inr (Or.inr (Or.inr (Or.inr (Or.inl ⟨c27, ⟨z68, A69, ghw70, hq⟩⟩))))))))))⟩⟩)⟩⟩)⟩⟩)⟩) hI (fk.trans (fk.rf) hf71 rfl rfl) hP hS (lv_sub hl [0, 1, 2, 3] rfl)
          · refine tp_i (y := iI 9) (congrArg iI c27) ?_
            refine lv_tableIn (off := 148) (tgt := 202) hx hb (dk_at dkX5_readTown_1 12 rfl) (by decide +kernel) (by decide +kernel) (by decide +kernel) (by decide) ?_
            refine lv_aload_n hx hb (dk_at dkX5_readTown_4 13 rfl) rfl (lv_at hl 1 rfl) ?_
            refine lv_aload_n hx hb (dk_at dkX5_readTown_4 14 rfl) rfl (lv_at hl 2 rfl) ?_
            refine k_calli (As := [.ref (q ta)]) (rest := []) ⟨hx, hb, hml, hown, hts⟩ hE (kc_X5_readHas l dC dI cB cI cJ cZ cQ aL aS q _ ta hI hta) (cwV 1 hts (goodVk wkq_8_28 wkq_8_29 wkq_8_30 wkq_5_28 wkq_8_31) rfl rfl rfl (by decide +kernel) ⟨Nat.le_of_ble_eq_true rfl, Nat.le_of_ble_eq_true rfl⟩) hK hDD hA0 hP hS 3 5 (wkRD) rfl rfl hl.1 (Nat.le_of_ble_eq_true rfl) (dk_at dkX5_readTown_4 15 rfl) (fun z72 A73 H locs hw74 hP hS => ?_)
            have ghw74 : q_X5_readHas ta A24 z72 A73 := hw74
            obtain ⟨_, hI, hf75, hw74⟩ := hw74
            refine lv_istore_n (lv' := [(3, .int (iI z72)), (2, .int (iI z9)), (0, .ref (q 3)), (1, .ref (q ta))]) hx hb (dk_at dkX5_readTown_5 0 rfl) rfl hl (by decide) rfl (fun ls hl => ?_)
            refine lv_goto (tgt := 231) hx hb (dk_at dkX5_readTown_5 1 rfl) (by decide) ?_
            exact J231_28 z72 _ _ _ _ (by omega) (fun zq uq ⟨mm1, hq⟩ => hk1 _ _ ⟨mm1 + 1, (u_d_X5_readTown_1 ⟨gI16.out, ⟨f14, (Or.inr ⟨c17, ⟨A18, ghw19, (Or.inl ⟨c22, ⟨z23, A24, ghw25, (Or.inr (Or.inr (Or.inr (Or.inr (Or.inr (Or.inr (Or.inr (Or.inr (Or.inr (Or.inr (Or.inl ⟨c27, ⟨z72, A73, ghw74, hq⟩⟩)))))))))))⟩⟩)⟩⟩)⟩⟩)⟩) hI (fk.trans (fk.rf) hf75 rfl rfl) hP hS (lv_sub hl [0, 1, 2, 3] rfl)
          · refine tp_i (y := iI 10) (congrArg iI c27) ?_
            refine lv_tableIn (off := 157) (tgt := 211) hx hb (dk_at dkX5_readTown_1 12 rfl) (by decide +kernel) (by decide +kernel) (by decide +kernel) (by decide) ?_
            refine lv_aload_n hx hb (dk_at dkX5_readTown_5 2 rfl) rfl (lv_at hl 1 rfl) ?_
            refine lv_aload_n hx hb (dk_at dkX5_readTown_5 3 rfl) rfl (lv_at hl 2 rfl) ?_
            refine k_calli (As := [.ref (q ta)]) (rest := []) ⟨hx, hb, hml, hown, hts⟩ hE (kc_X5_readShut l dC dI cB cI cJ cZ cQ aL aS q _ ta hI hta) (cwV 1 hts (goodVk wkq_8_34 wkq_8_35 wkq_8_36 wkq_5_28 wkq_8_37) rfl rfl rfl (by decide +kernel) ⟨Nat.le_of_ble_eq_true rfl, Nat.le_of_ble_eq_true rfl⟩) hK hDD hA0 hP hS 3 5 (wkRD) rfl rfl hl.1 (Nat.le_of_ble_eq_true rfl) (dk_at dkX5_readTown_5 4 rfl) (fun z76 A77 H locs hw78 hP hS => ?_)
            have ghw78 : q_X5_readShut ta A24 z76 A77 := hw78
            obtain ⟨_, hI, hf79, hw78⟩ := hw78
            refine lv_istore_n (lv' := [(3, .int (iI z76)), (2, .int (iI z9)), (0, .ref (q 3)), (1, .ref (q ta))]) hx hb (dk_at dkX5_readTown_5 5 rfl) rfl hl (by decide) rfl (fun ls hl => ?_)
            refine lv_goto (tgt := 231) hx hb (dk_at dkX5_readTown_5 6 rfl) (by decide) ?_
            exact J231_28 z76 _ _ _ _ (by omega) (fun zq uq ⟨mm1, hq⟩ => hk1 _ _ ⟨mm1 + 1, (u_d_X5_readTown_1 ⟨gI16.out, ⟨f14, (Or.inr ⟨c17, ⟨A18, ghw19, (Or.inl ⟨c22, ⟨z23, A24, ghw25, (Or.inr (Or.inr (Or.inr (Or.inr (Or.inr (Or.inr (Or.inr (Or.inr (Or.inr (Or.inr (Or.inr (Or.inl ⟨c27, ⟨z76, A77, ghw78, hq⟩⟩))))))))))))⟩⟩)⟩⟩)⟩⟩)⟩) hI (fk.trans (fk.rf) hf79 rfl rfl) hP hS (lv_sub hl [0, 1, 2, 3] rfl)
          · refine tp_i (y := iI 11) (congrArg iI c27) ?_
            refine lv_tableIn (off := 166) (tgt := 220) hx hb (dk_at dkX5_readTown_1 12 rfl) (by decide +kernel) (by decide +kernel) (by decide +kernel) (by decide) ?_
            refine lv_aload_n hx hb (dk_at dkX5_readTown_5 7 rfl) rfl (lv_at hl 1 rfl) ?_
            refine lv_aload_n hx hb (dk_at dkX5_readTown_5 8 rfl) rfl (lv_at hl 2 rfl) ?_
            refine k_calli (As := [.ref (q ta)]) (rest := []) ⟨hx, hb, hml, hown, hts⟩ hE (kc_X5_readLost l dC dI cB cI cJ cZ cQ aL aS q _ ta hI hta) (cwV 1 hts (goodVk wkq_8_39 wkq_8_40 wkq_8_41 wkq_5_28 wkq_8_42) rfl rfl rfl (by decide +kernel) ⟨Nat.le_of_ble_eq_true rfl, Nat.le_of_ble_eq_true rfl⟩) hK hDD hA0 hP hS 3 5 (wkRD) rfl rfl hl.1 (Nat.le_of_ble_eq_true rfl) (dk_at dkX5_readTown_5 9 rfl) (fun z80 A81 H locs hw82 hP hS => ?_)
            have ghw82 : q_X5_readLost ta A24 z80 A81 := hw82
            obtain ⟨_, hI, hf83, hw82⟩ := hw82
            refine lv_istore_n (lv' := [(3, .int (iI z80)), (2, .int (iI z9)), (0, .ref (q 3)), (1, .ref (q ta))]) hx hb (dk_at dkX5_readTown_5 10 rfl) rfl hl (by decide) rfl (fun ls hl => ?_)
            refine lv_goto (tgt := 231) hx hb (dk_at dkX5_readTown_5 11 rfl) (by decide) ?_
            exact J231_28 z80 _ _ _ _ (by omega) (fun zq uq ⟨mm1, hq⟩ => hk1 _ _ ⟨mm1 + 1, (u_d_X5_readTown_1 ⟨gI16.out, ⟨f14, (Or.inr ⟨c17, ⟨A18, ghw19, (Or.inl ⟨c22, ⟨z23, A24, ghw25, (Or.inr (Or.inr (Or.inr (Or.inr (Or.inr (Or.inr (Or.inr (Or.inr (Or.inr (Or.inr (Or.inr (Or.inr ⟨c27, ⟨z80, A81, ghw82, hq⟩⟩))))))))))))⟩⟩)⟩⟩)⟩⟩)⟩) hI (fk.trans (fk.rf) hf83 rfl rfl) hP hS (lv_sub hl [0, 1, 2, 3] rfl)
        · have c22 : (A18 5 2) = 0 := (i_eq0 (rb r21 (by decide) (by decide))).mp c22
          refine lv_iload_n hx hb (dk_at dkX5_readTown_1 7 rfl) rfl (lv_at hl 0 rfl) ?_
          exact RET z9 _ _ _ _ _ ⟨hk1 _ _ ⟨0 + 1, (u_d_X5_readTown_1 ⟨gI16.out, ⟨f14, (Or.inr ⟨c17, ⟨A18, ghw19, (Or.inr ⟨c22, ⟨rfl, rfl⟩⟩)⟩⟩)⟩⟩)⟩, hI, fk.trans (fk.trans (fk.df (fk.df (fk.trans (fk.trans (fk.rf) hf3 rfl rfl) hf6 rfl rfl) hA7 rfl) hA8 rfl) hj10 rfl rfl) hf20 rfl rfl, (rb f14 (by decide) (by decide))⟩ hP hS (dk_at dkX5_readTown_1 8 rfl)
  exact L23_12 _ 0 _ _ _ _ (by omega) (fun zq uq ⟨mm1, hq⟩ => (u_r_X5_readTown ⟨A1, ghw2, ⟨A4, ghw5, ⟨A7, hA7, ⟨A8, hA8, ⟨mm1, hq⟩⟩⟩⟩⟩)) rfl hI (fk.rf) hP hS (lv_sub hl [0, 1, 2] rfl)

abbrev tr_r_X6_topOf (ta : Nat) (x1 : Int) (A : St) (z : Int) : Prop := (((x1 < 0) ∧ (z = (-1))) ∨ ((¬ x1 < 0) ∧ (((4 ≤ x1) ∧ (z = (-1))) ∨ ((¬ 4 ≤ x1) ∧ (∃ z3 : Int, z3 = A (ta + 3) (x1).toNat ∧ (∃ z4 : Int, q_X6_inRow ta x1 (z3 - 1) A z4 ∧ (z = z4)))))))
def r_X6_topOf (ta : Nat) (x1 : Int) (A : St) (z : Int) : Prop := tr_r_X6_topOf ta x1 A z
theorem u_r_X6_topOf {ta : Nat} {x1 : Int} {A : St} {z : Int} (h : tr_r_X6_topOf ta x1 A z) : r_X6_topOf ta x1 A z := h
def q_X6_topOf (ta : Nat) (x1 : Int) (A : St) (z : Int) : Prop := r_X6_topOf ta x1 A z ∧ ((-2147483648 ≤ z ∧ z ≤ 2147483647) ∧ (z = -1 ∨ 0 ≤ x1 ∧ x1 ≤ 3 ∧ 1 ≤ A (ta + 3) x1.toNat))
def ws_kc_X6_topOf : List Cond := .code yX6_topOf cX6_topOf 2 (some .int) :: WY
set_option maxHeartbeats 4000000 in
set_option maxRecDepth 100000 in
theorem kc_X6_topOf (l : Launch) (dC : Nat → ClassId) (dI : Nat → Nat → Nat) (cB cI cJ cZ cQ : ClassId) (aL aS : Nat) (q : Nat → Nat) (A : St) (ta : Nat) (x1 : Int) (hI : IK A) (hta : isS ta) (hx1 : (-2147483648 : Int) ≤ x1 ∧ x1 ≤ 2147483647) : KMi l yX6_topOf ws_kc_X6_topOf ({ frames := 1, cells := 0, slots := 0, locals := 22 } : Room) aL aS (dC, dI) (tyA cB cI cJ cZ cQ) (WK cB cI cJ cZ cQ q) A [.ref (q ta), .int (iI x1)] (fun z u => A = u ∧ r_X6_topOf ta x1 A z ∧ ((-2147483648 ≤ z ∧ z ≤ 2147483647) ∧ (z = -1 ∨ 0 ≤ x1 ∧ x1 ≤ 3 ∧ 1 ≤ A (ta + 3) x1.toNat))) := by
  refine k_meti (cc := cX6_topOf) (maxL := 2) WK_adr (plainFor_of_name (by decide +kernel)) rfl (Nat.le_of_ble_eq_true rfl) (fun p e s m below meth c Q AS ls hx hb hml hown hts hK hDD hA0 hE RET H locs hP hS hl => ?_)
  have hown : s.vm.findClass RX6 = some m.cls := hown
  have hl : lv_has ls 2 [(0, .ref (q ta)), (1, .int (iI x1))] := hl
  have hiX6 : ∀ w ∈ u_ws RX6 TX6 4, w ∈ ws_kc_X6_topOf := fun w h => List.mem_cons_of_mem _ (wy_layX6 w h)
  refine lv_iload_n hx hb (dk_at dkX6_topOf_0 0 rfl) rfl (lv_at hl 1 rfl) ?_
  refine lv_if_lt (tgt := 25) hx hb (dk_at dkX6_topOf_0 1 rfl) (by decide) (fun c1 => ?_) (fun c1 => ?_)
  · have c1 : x1 < 0 := (i_lt0 hx1).mp c1
    refine lv_iconst (v := iI (-1)) hx hb (dk_at dkX6_topOf_0 15 rfl) (by decide +kernel) ?_
    exact RET (-1) _ _ _ _ _ ⟨rfl, (u_r_X6_topOf (Or.inl ⟨c1, rfl⟩)), by omega⟩ hP hS (dk_at dkX6_topOf_1 0 rfl)
  · have c1 : ¬ x1 < 0 := mt (i_lt0 hx1).mpr c1
    refine lv_iload_n hx hb (dk_at dkX6_topOf_0 2 rfl) rfl (lv_at hl 1 rfl) ?_
    refine lv_iconst (v := iI 4) hx hb (dk_at dkX6_topOf_0 3 rfl) (by decide +kernel) ?_
    refine lv_icmp_ge (tgt := 25) hx hb (dk_at dkX6_topOf_0 4 rfl) (by decide) (fun c2 => ?_) (fun c2 => ?_)
    · have c2 : 4 ≤ x1 := (i_le ⟨by decide, by decide⟩ hx1).mp c2
      refine lv_iconst (v := iI (-1)) hx hb (dk_at dkX6_topOf_0 15 rfl) (by decide +kernel) ?_
      exact RET (-1) _ _ _ _ _ ⟨rfl, (u_r_X6_topOf (Or.inr ⟨c1, (Or.inl ⟨c2, rfl⟩)⟩)), by omega⟩ hP hS (dk_at dkX6_topOf_1 0 rfl)
    · have c2 : ¬ 4 ≤ x1 := mt (i_le ⟨by decide, by decide⟩ hx1).mpr c2
      refine lv_aload_n hx hb (dk_at dkX6_topOf_0 5 rfl) rfl (lv_at hl 0 rfl) ?_
      refine lv_iload_n hx hb (dk_at dkX6_topOf_0 6 rfl) rfl (lv_at hl 1 rfl) ?_
      refine lv_aload_n hx hb (dk_at dkX6_topOf_0 7 rfl) rfl (lv_at hl 0 rfl) ?_
      refine va_get (D := (dC, dI)) (ci := 6) (v := .ref (q (ta + 3))) (C := RX6) (T := TX6) (N := 4) hx hb hts hiX6 hown hK hP ta (wkS hta) rfl 2 (by decide) (hts _ (List.mem_cons_of_mem _ wkq_0_58)) (fun _ h9 => h9) rfl (dk_at dkX6_topOf_0 8 rfl) ?_
      refine lv_iload_n hx hb (dk_at dkX6_topOf_0 9 rfl) rfl (lv_at hl 1 rfl) ?_
      refine x_iald (Wf := WK cB cI cJ cZ cQ q) hx hb hK hP (ta + 3) 1 (wkSz hta) rfl (by omega) (by decide) (dk_at dkX6_topOf_0 10 rfl) (fun z3 hz3 => ?_)
      have rz3 : (0 : Int) ≤ z3 ∧ z3 ≤ 6 := by rw [hz3]; exact irSz hta hI
      have gz3 := Hd.mk hz3
      refine lv_iconst (v := iI 1) hx hb (dk_at dkX6_topOf_0 11 rfl) (by decide +kernel) ?_
      refine x_subv (v := z3 - 1) hx hb (dk_at dkX6_topOf_0 12 rfl) (by omega) ?_
      refine k_calli (As := [.int (iI x1), .int (iI (z3 - 1))]) (rest := []) ⟨hx, hb, hml, hown, hts⟩ hE (kc_X6_inRow l dC dI cB cI cJ cZ cQ aL aS q _ ta x1 (z3 - 1) hI hta hx1 (by omega)) (cwV 2 hts (goodVk wkq_0_54 wkq_0_55 wkq_0_56 wkq_0_52 wkq_0_57) rfl rfl rfl (by decide +kernel) ⟨Nat.le_of_ble_eq_true rfl, Nat.le_of_ble_eq_true rfl⟩) hK hDD hA0 hP hS ta 6 (wkS hta) rfl rfl hl.1 (Nat.le_of_ble_eq_true rfl) (dk_at dkX6_topOf_0 13 rfl) (fun z4 A5 H locs hw6 hP hS => ?_)
      obtain ⟨rfl, hw6⟩ := hw6
      have ghw6 : q_X6_inRow ta x1 (z3 - 1) A z4 := hw6
      have hw6 := hw6.2
      refine lv_goto (tgt := 26) hx hb (dk_at dkX6_topOf_0 14 rfl) (by decide) ?_
      exact RET z4 _ _ _ _ _ ⟨rfl, (u_r_X6_topOf (Or.inr ⟨c1, (Or.inr ⟨c2, ⟨z3, gz3.out, ⟨z4, ghw6, rfl⟩⟩⟩)⟩)), by omega⟩ hP hS (dk_at dkX6_topOf_1 0 rfl)

abbrev tr_r_X7_hasRoom (A : St) (z : Int) : Prop := (((1600 < (A 1 1) + 20) ∧ (z = 0)) ∨ ((¬ 1600 < (A 1 1) + 20) ∧ (z = 1)))
def r_X7_hasRoom (A : St) (z : Int) : Prop := tr_r_X7_hasRoom A z
theorem u_r_X7_hasRoom {A : St} {z : Int} (h : tr_r_X7_hasRoom A z) : r_X7_hasRoom A z := h
def q_X7_hasRoom (A : St) (z : Int) : Prop := r_X7_hasRoom A z ∧ ((0 ≤ z ∧ z ≤ 1) ∧ ((z = 1 → A 1 1 + 20 ≤ 1600) ∧ (z = 0 → 1600 < A 1 1 + 20)))
def ws_kc_X7_hasRoom : List Cond := .code yX7_hasRoom cX7_hasRoom 1 (some .boolean) :: WY
set_option maxHeartbeats 4000000 in
set_option maxRecDepth 100000 in
theorem kc_X7_hasRoom (l : Launch) (dC : Nat → ClassId) (dI : Nat → Nat → Nat) (cB cI cJ cZ cQ : ClassId) (aL aS : Nat) (q : Nat → Nat) (A : St) (hI : IK A) : KMi l yX7_hasRoom ws_kc_X7_hasRoom ({ frames := 0, cells := 0, slots := 0, locals := 0 } : Room) aL aS (dC, dI) (tyA cB cI cJ cZ cQ) (WK cB cI cJ cZ cQ q) A [.ref (q 1)] (fun z u => A = u ∧ r_X7_hasRoom A z ∧ ((0 ≤ z ∧ z ≤ 1) ∧ ((z = 1 → A 1 1 + 20 ≤ 1600) ∧ (z = 0 → 1600 < A 1 1 + 20)))) := by
  refine k_metz (cc := cX7_hasRoom) (maxL := 1) WK_adr (plainFor_of_name (by decide +kernel)) rfl (Nat.le_of_ble_eq_true rfl) (fun z u h => h.2.2.1) (fun p e s m below meth c Q AS ls hx hb hml hown hts hK hDD hA0 hE RET H locs hP hS hl => ?_)
  have hown : s.vm.findClass RX7 = some m.cls := hown
  have hl : lv_has ls 1 [(0, .ref (q 1))] := hl
  have hiX7 : ∀ w ∈ u_ws RX7 TX7 2, w ∈ ws_kc_X7_hasRoom := fun w h => List.mem_cons_of_mem _ (wy_layX7 w h)
  refine lv_aload_n hx hb (dk_at dkX7_hasRoom_0 0 rfl) rfl (lv_at hl 0 rfl) ?_
  have r1 : (0 : Int) ≤ (A 1 1) ∧ (A 1 1) ≤ 1600 := irTP_1 hI
  refine va_get (D := (dC, dI)) (ci := 7) (v := .int (iI (A 1 1))) (C := RX7) (T := TX7) (N := 2) hx hb hts hiX7 hown hK hP 1 (wkTP) rfl 1 (by decide) (hts _ (List.mem_cons_of_mem _ wkq_4_43)) (fun _ h9 => h9) rfl (dk_at dkX7_hasRoom_0 1 rfl) ?_
  refine lv_bipush (v := iI 20) hx hb (dk_at dkX7_hasRoom_0 2 rfl) (by decide +kernel) ?_
  refine x_addv (v := (A 1 1) + 20) hx hb (dk_at dkX7_hasRoom_0 3 rfl) (by omega) ?_
  refine lv_sipush (v := iI 1600) hx hb (dk_at dkX7_hasRoom_0 4 rfl) (by decide +kernel) ?_
  refine lv_icmp_gt (tgt := 17) hx hb (dk_at dkX7_hasRoom_0 5 rfl) (by decide) (fun c2 => ?_) (fun c2 => ?_)
  · have c2 : 1600 < (A 1 1) + 20 := (i_lt ⟨by decide, by decide⟩ (by omega)).mp c2
    refine lv_iconst (v := iI 0) hx hb (dk_at dkX7_hasRoom_0 8 rfl) (by decide +kernel) ?_
    exact RET 0 _ _ _ _ _ ⟨rfl, (u_r_X7_hasRoom (Or.inl ⟨c2, rfl⟩)), by omega⟩ hP hS (dk_at dkX7_hasRoom_0 9 rfl)
  · have c2 : ¬ 1600 < (A 1 1) + 20 := mt (i_lt ⟨by decide, by decide⟩ (by omega)).mpr c2
    refine lv_iconst (v := iI 1) hx hb (dk_at dkX7_hasRoom_0 6 rfl) (by decide +kernel) ?_
    refine lv_goto (tgt := 18) hx hb (dk_at dkX7_hasRoom_0 7 rfl) (by decide) ?_
    exact RET 1 _ _ _ _ _ ⟨rfl, (u_r_X7_hasRoom (Or.inr ⟨c2, rfl⟩)), by omega⟩ hP hS (dk_at dkX7_hasRoom_0 9 rfl)

abbrev tr_d_X7_put_1 (x1 : Int) (u : St) (K1 : Int → St → Prop) (z1 : Int) (A3 : St) : Prop := ((IK A3) ∧ ((-2147483648 ≤ z1 ∧ z1 ≤ 24) ∧ (((z1 < 0) ∧ (u = A3)) ∨ ((¬ z1 < 0) ∧ (((1600 ≤ (A3 1 1)) ∧ (K1 (z1 - 8) A3)) ∨ ((¬ 1600 ≤ (A3 1 1)) ∧ (∃ z15 : Int, z15 = oShr x1 z1 ∧ (∃ z16 : Int, z16 = oI2b z15 ∧ (∃ A17 : St, A17 = stA A3 2 ((A3 1 1)).toNat z16 ∧ (∃ A19 : St, A19 = stA A17 1 1 ((A3 1 1) + 1) ∧ (K1 (z1 - 8) A19)))))))))))
def d_X7_put_1 (x1 : Int) (u : St) : Nat → Int → St → Prop
  | 0, _, _ => False
  | nn9 + 1, z1, A3 => tr_d_X7_put_1 x1 u (fun z1 A3 => d_X7_put_1 x1 u nn9 z1 A3) z1 A3
theorem u_d_X7_put_1 {x1 : Int} {u : St} {nn9 : Nat} {z1 : Int} {A3 : St} (h : tr_d_X7_put_1 x1 u (fun z1 A3 => d_X7_put_1 x1 u nn9 z1 A3) z1 A3) : d_X7_put_1 x1 u (nn9 + 1) z1 A3 := h
abbrev tr_r_X7_put (x1 : Int) (A : St) (u : St) : Prop := (∃ nn9 : Nat, d_X7_put_1 x1 u nn9 24 A)
def r_X7_put (x1 : Int) (A : St) (u : St) : Prop := tr_r_X7_put x1 A u
theorem u_r_X7_put {x1 : Int} {A : St} {u : St} (h : tr_r_X7_put x1 A u) : r_X7_put x1 A u := h
def q_X7_put (x1 : Int) (A : St) (u : St) : Prop := r_X7_put x1 A u ∧ IK u ∧ fk [2] [(1, 1)] A u ∧ (u 1 1 = A 1 1 + 4)
def ws_kc_X7_put : List Cond := .code yX7_put cX7_put 3 none :: WY
set_option maxHeartbeats 4000000 in
set_option maxRecDepth 100000 in
theorem kc_X7_put (l : Launch) (dC : Nat → ClassId) (dI : Nat → Nat → Nat) (cB cI cJ cZ cQ : ClassId) (aL aS : Nat) (q : Nat → Nat) (A : St) (x1 : Int) (hI : IK A) (hx1 : (-2147483648 : Int) ≤ x1 ∧ x1 ≤ 2147483647) (hp0 : A 1 1 + 4 ≤ 1600) : KMv l yX7_put ws_kc_X7_put ({ frames := 0, cells := 0, slots := 0, locals := 0 } : Room) aL aS (dC, dI) (tyA cB cI cJ cZ cQ) (WK cB cI cJ cZ cQ q) A [.ref (q 1), .int (iI x1)] (fun u => r_X7_put x1 A u ∧ IK u ∧ fk [2] [(1, 1)] A u ∧ (u 1 1 = A 1 1 + 4)) := by
  refine k_metv (cc := cX7_put) (maxL := 3) WK_adr (plainFor_of_name (by decide +kernel)) rfl (Nat.le_of_ble_eq_true rfl) (fun p e s m below meth c Q AS ls hx hb hml hown hts hK hDD hA0 hE RET H locs hP hS hl => ?_)
  have hown : s.vm.findClass RX7 = some m.cls := hown
  have hl : lv_has ls 3 [(0, .ref (q 1)), (1, .int (iI x1))] := hl
  have hiX7 : ∀ w ∈ u_ws RX7 TX7 2, w ∈ ws_kc_X7_put := fun w h => List.mem_cons_of_mem _ (wy_layX7 w h)
  refine lv_bipush (v := iI 24) hx hb (dk_at dkX7_put_0 0 rfl) (by decide +kernel) ?_
  refine lv_istore_n (lv' := [(2, .int (iI 24)), (0, .ref (q 1)), (1, .int (iI x1))]) hx hb (dk_at dkX7_put_0 1 rfl) rfl hl (by decide) rfl (fun ls hl => ?_)
  have L3_4 : ∀ (n9 : Nat) (z1 : Int) (A3 : St) (H : Heap) (locs : List Loc) (ls : Array Slot), (-2147483648 ≤ z1 ∧ z1 ≤ 24) → (8 * (A3 1 1 - A 1 1) = 24 - z1) → (-8 ≤ z1) → (∀ (u : St), (∃ mm1 : Nat, (d_X7_put_1 x1 u mm1 z1 A3)) → r_X7_put x1 A u) → ((z1 - (-1)).toNat = n9) → IK A3 → fk [2] [(1, 1)] A A3 → va_P (dC, dI) vwCl (WK cB cI cJ cZ cQ q A3) H → va_S AS s.heap H locs → lv_has ls 3 [(2, .int (iI z1)), (0, .ref (q 1)), (1, .int (iI x1))] → W p l e (headSpec ws_kc_X7_put ({ frames := 0, cells := 0, slots := 0, locals := 0 } : Room)).room s m [.ref (q 1), .int (iI x1)].toArray below meth c H locs 0 0 Q (F0 m 3 ls []) := by
    intro n9
    induction n9 using Nat.strongRecOn with
    | ind n9 ih5 =>
      intro z1 A3 H locs ls f6 f7 f8 hk1 hn9 hI hj2 hP hS hl
      have gI10 : Hd (IK A3) := Hd.mk hI
      have r11 : (0 : Int) ≤ (A3 1 1) ∧ (A3 1 1) ≤ 1600 := irTP_1 hI
      refine lv_iload_n hx hb (dk_at dkX7_put_0 2 rfl) rfl (lv_at hl 0 rfl) ?_
      refine lv_if_lt (tgt := 53) hx hb (dk_at dkX7_put_0 3 rfl) (by decide) (fun c12 => ?_) (fun c12 => ?_)
      · have c12 : z1 < 0 := (i_lt0 (rb f6 (by decide) (by decide))).mp c12
        exact RET _ _ _ _ _ ⟨hk1 _ ⟨0 + 1, (u_d_X7_put_1 ⟨gI10.out, ⟨f6, (Or.inl ⟨c12, rfl⟩)⟩⟩)⟩, hI, fk.trans (fk.rf) hj2 rfl rfl, by omega⟩ hP hS (dk_at dkX7_put_1 12 rfl)
      · have c12 : ¬ z1 < 0 := mt (i_lt0 (rb f6 (by decide) (by decide))).mpr c12
        refine lv_aload_n hx hb (dk_at dkX7_put_0 4 rfl) rfl (lv_at hl 1 rfl) ?_
        refine va_get (D := (dC, dI)) (ci := 7) (v := .int (iI (A3 1 1))) (C := RX7) (T := TX7) (N := 2) hx hb hts hiX7 hown hK hP 1 (wkTP) rfl 1 (by decide) (hts _ (List.mem_cons_of_mem _ wkq_4_43)) (fun _ h9 => h9) rfl (dk_at dkX7_put_0 5 rfl) ?_
        refine lv_if_lt (tgt := 47) hx hb (dk_at dkX7_put_0 6 rfl) (by decide) (fun c13 => False.elim (by have c13 : (A3 1 1) < 0 := (i_lt0 (rb r11 (by decide) (by decide))).mp c13; omega)) (fun _ => ?_)
        refine lv_aload_n hx hb (dk_at dkX7_put_0 7 rfl) rfl (lv_at hl 1 rfl) ?_
        refine va_get (D := (dC, dI)) (ci := 7) (v := .int (iI (A3 1 1))) (C := RX7) (T := TX7) (N := 2) hx hb hts hiX7 hown hK hP 1 (wkTP) rfl 1 (by decide) (hts _ (List.mem_cons_of_mem _ wkq_4_43)) (fun _ h9 => h9) rfl (dk_at dkX7_put_0 8 rfl) ?_
        refine lv_sipush (v := iI 1600) hx hb (dk_at dkX7_put_0 9 rfl) (by decide +kernel) ?_
        refine lv_icmp_ge (tgt := 47) hx hb (dk_at dkX7_put_0 10 rfl) (by decide) (fun c14 => ?_) (fun c14 => ?_)
        · have c14 : 1600 ≤ (A3 1 1) := (i_le ⟨by decide, by decide⟩ (rb r11 (by decide) (by decide))).mp c14
          refine lv_iinc (v := iI (z1 - 8)) (lv' := [(2, .int (iI (z1 - 8))), (0, .ref (q 1)), (1, .int (iI x1))]) hx hb (dk_at dkX7_put_1 10 rfl) hl (k := 0) rfl (i_inc (by omega)) (by decide) rfl (fun ls hl => ?_)
          refine lv_goto (tgt := 3) hx hb (dk_at dkX7_put_1 11 rfl) (by decide) ?_
          exact ih5 _ (by omega) (z1 - 8) _ _ _ _ (by omega) (by omega) (by omega) (fun uq ⟨mm1, hq⟩ => hk1 _ ⟨mm1 + 1, (u_d_X7_put_1 ⟨gI10.out, ⟨f6, (Or.inr ⟨c12, (Or.inl ⟨c14, hq⟩)⟩)⟩⟩)⟩) rfl hI (fk.trans (fk.rf) hj2 rfl rfl) hP hS (lv_sub hl [0, 1, 2] rfl)
        · have c14 : ¬ 1600 ≤ (A3 1 1) := mt (i_le ⟨by decide, by decide⟩ (rb r11 (by decide) (by decide))).mpr c14
          refine lv_aload_n hx hb (dk_at dkX7_put_0 11 rfl) rfl (lv_at hl 1 rfl) ?_
          refine va_get (D := (dC, dI)) (ci := 7) (v := .ref (q 2)) (C := RX7) (T := TX7) (N := 2) hx hb hts hiX7 hown hK hP 1 (wkTP) rfl 0 (by decide) (hts _ (List.mem_cons_of_mem _ wkq_4_44)) (fun _ h9 => h9) rfl (dk_at dkX7_put_0 12 rfl) ?_
          refine lv_aload_n hx hb (dk_at dkX7_put_0 13 rfl) rfl (lv_at hl 1 rfl) ?_
          refine va_get (D := (dC, dI)) (ci := 7) (v := .int (iI (A3 1 1))) (C := RX7) (T := TX7) (N := 2) hx hb hts hiX7 hown hK hP 1 (wkTP) rfl 1 (by decide) (hts _ (List.mem_cons_of_mem _ wkq_4_43)) (fun _ h9 => h9) rfl (dk_at dkX7_put_0 14 rfl) ?_
          refine lv_iload_n hx hb (dk_at dkX7_put_0 15 rfl) rfl (lv_at hl 2 rfl) ?_
          refine lv_iload_n hx hb (dk_at dkX7_put_1 0 rfl) rfl (lv_at hl 0 rfl) ?_
          refine lv_ishr hx hb (dk_at dkX7_put_1 1 rfl) ?_
          refine x_absE (fun z15 gz15 hz15 => ?_)
          refine k_i2bE hx hb (dk_at dkX7_put_1 2 rfl) (fun z16 gz16 hz16 => ?_)
          refine k_bast (Wf := WK cB cI cJ cZ cQ q) hx hb hK hP hDD hS 2 0 (wkTPb) rfl (by omega) (by decide) (dk_at dkX7_put_1 3 rfl) (by omega) (wsTPb) (fun H locs A17 hA17 hP hS => ?_)
          have hI := isTPb hA17 hI (show (-128 : Int) ≤ z16 ∧ z16 ≤ 127 from (by omega))
          refine lv_aload_n hx hb (dk_at dkX7_put_1 4 rfl) rfl (lv_at hl 1 rfl) ?_
          refine lv_dup hx hb (dk_at dkX7_put_1 5 rfl) rfl ?_
          have e18 : A17 1 1 = (A3 1 1) := (rd_ne hA17 (by decide) 1)
          refine va_get (D := (dC, dI)) (ci := 7) (v := .int (iI (A17 1 1))) (C := RX7) (T := TX7) (N := 2) hx hb hts hiX7 hown hK hP 1 (wkTP) rfl 1 (by decide) (hts _ (List.mem_cons_of_mem _ wkq_4_43)) (fun _ h9 => h9) rfl (dk_at dkX7_put_1 6 rfl) ?_
          refine tp_i (y := iI (A3 1 1)) (congrArg iI e18) ?_
          refine lv_iconst (v := iI 1) hx hb (dk_at dkX7_put_1 7 rfl) (by decide +kernel) ?_
          refine x_addv (v := (A3 1 1) + 1) hx hb (dk_at dkX7_put_1 8 rfl) (by omega) ?_
          refine k_put (Wf := WK cB cI cJ cZ cQ q) (D := (dC, dI)) (ci := 7) (v := .int (iI ((A3 1 1) + 1))) (ty := .int) (C := RX7) (T := TX7) (N := 2) hx hb hts hiX7 tyX7 tyX7_ok nmX7 hown hK hP hDD hS 1 (wkTP) rfl 1 (by decide) (hts _ (List.mem_cons_of_mem _ wkq_4_43)) (fun _ h9 => h9) rfl (by decide +kernel) rfl rfl (Nat.le_of_ble_eq_true rfl) (dk_at dkX7_put_1 9 rfl) (wfTP_1 (v := (A3 1 1) + 1)) (fun H locs A19 hA19 hP hS => ?_)
          have hI := isTP_1 hA19 hI (show (0 : Int) ≤ (A3 1 1) + 1 ∧ (A3 1 1) + 1 ≤ 1600 from (by omega))
          refine lv_iinc (v := iI (z1 - 8)) (lv' := [(2, .int (iI (z1 - 8))), (0, .ref (q 1)), (1, .int (iI x1))]) hx hb (dk_at dkX7_put_1 10 rfl) hl (k := 0) rfl (i_inc (by omega)) (by decide) rfl (fun ls hl => ?_)
          refine lv_goto (tgt := 3) hx hb (dk_at dkX7_put_1 11 rfl) (by decide) ?_
          have e20 : A19 1 1 = (A3 1 1) + 1 := rd_is hA19
          exact ih5 _ (by omega) (z1 - 8) _ _ _ _ (by omega) (by omega) (by omega) (fun uq ⟨mm1, hq⟩ => hk1 _ ⟨mm1 + 1, (u_d_X7_put_1 ⟨gI10.out, ⟨f6, (Or.inr ⟨c12, (Or.inr ⟨c14, ⟨z15, gz15.out, ⟨z16, gz16.out, ⟨A17, hA17, ⟨A19, hA19, hq⟩⟩⟩⟩⟩)⟩)⟩⟩)⟩) rfl hI (fk.df (fk.da (fk.trans (fk.rf) hj2 rfl rfl) hA17 rfl) hA19 rfl) hP hS (lv_sub hl [0, 1, 2] rfl)
  have r21 : (0 : Int) ≤ (A 1 1) ∧ (A 1 1) ≤ 1600 := irTP_1 hI
  exact L3_4 _ 24 _ _ _ _ (by omega) (by omega) (by omega) (fun uq ⟨mm1, hq⟩ => (u_r_X7_put ⟨mm1, hq⟩)) rfl hI (fk.rf) hP hS (lv_sub hl [0, 1, 2] rfl)
theorem dkX9_hasDoorAt_0 : dkq cX9_hasDoorAt [(0, .iconst 0, 1), (1, .istore_n 2, 1), (2, .iload_n 2, 1), (3, .aload_n 0, 1), (4, .getfield 9, 3), (7, .iconst 1, 1), (8, .iaload, 1), (9, .if_icmp .ge 28, 3), (12, .aload_n 0, 1), (13, .iload_n 2, 1), (14, .invokevirtual 93, 3), (17, .ifCond .ne 14, 3), (20, .aload_n 0, 1), (21, .iload_n 2, 1), (22, .iload_n 1, 1), (23, .invokevirtual 97, 3)] = true := by decide +kernel
theorem dkX9_hasDoorAt_1 : dkq cX9_hasDoorAt [(26, .ifCond .eq 5, 3), (29, .iconst 1, 1), (30, .ireturn, 1), (31, .iinc 2 1, 3), (34, .goto (-32), 3), (37, .iconst 0, 1), (38, .ireturn, 1)] = true := by decide +kernel
theorem dkX9_shutMask_0 : dkq cX9_shutMask [(0, .aload_n 0, 1), (1, .getfield 67, 3), (4, .istore_n 1, 1), (5, .iconst 0, 1), (6, .istore_n 2, 1), (7, .iload_n 2, 1), (8, .aload_n 0, 1), (9, .getfield 9, 3), (12, .iconst 2, 1), (13, .iaload, 1), (14, .if_icmp .ge 20, 3), (17, .iload_n 1, 1), (18, .aload_n 0, 1), (19, .getfield 63, 3), (22, .iload_n 2, 1), (23, .invokevirtual 100, 3)] = true := by decide +kernel
theorem dkX9_shutMask_1 : dkq cX9_shutMask [(26, .ior, 1), (27, .istore_n 1, 1), (28, .iinc 2 1, 3), (31, .goto (-24), 3), (34, .iload_n 1, 1), (35, .ireturn, 1)] = true := by decide +kernel
theorem dkX9_deadMask_0 : dkq cX9_deadMask [(0, .aload_n 0, 1), (1, .getfield 67, 3), (4, .istore_n 1, 1), (5, .iconst 0, 1), (6, .istore_n 2, 1), (7, .iload_n 2, 1), (8, .aload_n 0, 1), (9, .getfield 9, 3), (12, .iconst 2, 1), (13, .iaload, 1), (14, .if_icmp .ge 34, 3), (17, .aload_n 0, 1), (18, .getfield 63, 3), (21, .getfield 84, 3), (24, .iload_n 2, 1), (25, .iaload, 1)] = true := by decide +kernel
theorem dkX9_deadMask_1 : dkq cX9_deadMask [(26, .bipush 40, 2), (28, .if_icmp .ne 14, 3), (31, .iload_n 1, 1), (32, .aload_n 0, 1), (33, .getfield 63, 3), (36, .iload_n 2, 1), (37, .invokevirtual 100, 3), (40, .ior, 1), (41, .istore_n 1, 1), (42, .iinc 2 1, 3), (45, .goto (-38), 3), (48, .iload_n 1, 1), (49, .ireturn, 1)] = true := by decide +kernel
theorem dkX9_isShut_0 : dkq cX9_isShut [(0, .aload_n 0, 1), (1, .invokevirtual 104, 3), (4, .iload_n 1, 1), (5, .ishr, 1), (6, .iconst 1, 1), (7, .iand, 1), (8, .ifCond .eq 7, 3), (11, .iconst 1, 1), (12, .goto 4, 3), (15, .iconst 0, 1), (16, .ireturn, 1)] = true := by decide +kernel
theorem dkX9_rowsWith_0 : dkq cX9_rowsWith [(0, .iconst 0, 1), (1, .istore_n 2, 1), (2, .iconst 0, 1), (3, .istore_n 3, 1), (4, .iload_n 3, 1), (5, .aload_n 0, 1), (6, .getfield 9, 3), (9, .iconst 2, 1), (10, .iaload, 1), (11, .if_icmp .ge 25, 3), (14, .aload_n 0, 1), (15, .getfield 63, 3), (18, .iload_n 3, 1), (19, .iload_n 1, 1), (20, .invokevirtual 108, 3), (23, .iconst (-1), 1)] = true := by decide +kernel
theorem dkX9_rowsWith_1 : dkq cX9_rowsWith [(24, .if_icmp .eq 6, 3), (27, .iinc 2 1, 3), (30, .iinc 3 1, 3), (33, .goto (-29), 3), (36, .iload_n 2, 1), (37, .ireturn, 1)] = true := by decide +kernel
theorem dkX9_holdsKey_0 : dkq cX9_holdsKey [(0, .aload_n 0, 1), (1, .iconst 3, 1), (2, .iload_n 1, 1), (3, .invokevirtual 90, 3), (6, .ifCond .eq 29, 3), (9, .aload_n 0, 1), (10, .iconst 2, 1), (11, .iload_n 2, 1), (12, .invokevirtual 90, 3), (15, .ifCond .eq 20, 3), (18, .aload_n 0, 1), (19, .getfield 63, 3), (22, .getfield 84, 3), (25, .iload_n 2, 1), (26, .iaload, 1), (27, .iload_n 1, 1)] = true := by decide +kernel
theorem dkX9_holdsKey_1 : dkq cX9_holdsKey [(28, .if_icmp .ne 7, 3), (31, .iconst 1, 1), (32, .goto 4, 3), (35, .iconst 0, 1), (36, .ireturn, 1)] = true := by decide +kernel
theorem dkX9_isBarred_0 : dkq cX9_isBarred [(0, .iconst 0, 1), (1, .istore 6, 2), (3, .iload 6, 2), (5, .aload_n 0, 1), (6, .getfield 9, 3), (9, .bipush 7, 2), (11, .iaload, 1), (12, .if_icmp .ge 52, 3), (15, .aload_n 0, 1), (16, .getfield 44, 3), (19, .iload 6, 2), (21, .iaload, 1), (22, .iload_n 1, 1), (23, .if_icmp .ne 35, 3), (26, .aload_n 0, 1), (27, .getfield 56, 3)] = true := by decide +kernel
theorem dkX9_isBarred_1 : dkq cX9_isBarred [(30, .aload_n 0, 1), (31, .getfield 47, 3), (34, .iload 6, 2), (36, .iaload, 1), (37, .aload_n 0, 1), (38, .getfield 50, 3), (41, .iload 6, 2), (43, .iaload, 1), (44, .iload_n 2, 1), (45, .iload_n 3, 1), (46, .iload 4, 2), (48, .iload 5, 2), (50, .invokevirtual 112, 3), (53, .ifCond .eq 5, 3), (56, .iconst 1, 1), (57, .ireturn, 1)] = true := by decide +kernel
theorem dkX9_isBarred_2 : dkq cX9_isBarred [(58, .iinc 6 1, 3), (61, .goto (-58), 3), (64, .iconst 0, 1), (65, .ireturn, 1)] = true := by decide +kernel
theorem dkX9_goThrough_0 : dkq cX9_goThrough [(0, .aload_n 0, 1), (1, .iconst 3, 1), (2, .iload_n 1, 1), (3, .invokevirtual 90, 3), (6, .ifCond .eq 20, 3), (9, .aload_n 0, 1), (10, .iconst 1, 1), (11, .iload_n 2, 1), (12, .invokevirtual 90, 3), (15, .ifCond .eq 11, 3), (18, .aload_n 0, 1), (19, .iload_n 2, 1), (20, .invokevirtual 93, 3), (23, .ifCond .eq 5, 3), (26, .iconst (-1), 1), (27, .ireturn, 1)] = true := by decide +kernel
theorem dkX9_goThrough_1 : dkq cX9_goThrough [(28, .aload_n 0, 1), (29, .getfield 63, 3), (32, .getfield 87, 3), (35, .iload_n 1, 1), (36, .iaload, 1), (37, .istore_n 3, 1), (38, .aload_n 0, 1), (39, .invokevirtual 104, 3), (42, .istore 4, 2), (44, .aload_n 0, 1), (45, .iload_n 2, 1), (46, .iload_n 3, 1), (47, .invokevirtual 97, 3), (50, .ifCond .eq 12, 3), (53, .iload 4, 2), (55, .iload_n 2, 1)] = true := by decide +kernel
theorem dkX9_goThrough_2 : dkq cX9_goThrough [(56, .ishr, 1), (57, .iconst 1, 1), (58, .iand, 1), (59, .ifCond .eq 5, 3), (62, .iconst (-1), 1), (63, .ireturn, 1), (64, .aload_n 0, 1), (65, .iload_n 2, 1), (66, .iload_n 1, 1), (67, .iload_n 3, 1), (68, .aload_n 0, 1), (69, .iload_n 1, 1), (70, .invokevirtual 116, 3), (73, .invokestatic 119, 3), (76, .iload 4, 2), (78, .invokestatic 119, 3)] = true := by decide +kernel
theorem dkX9_goThrough_3 : dkq cX9_goThrough [(81, .invokevirtual 124, 3), (84, .ifCond .eq 5, 3), (87, .iconst (-1), 1), (88, .ireturn, 1), (89, .aload_n 0, 1), (90, .getfield 63, 3), (93, .getfield 87, 3), (96, .iload_n 1, 1), (97, .aload_n 0, 1), (98, .iload_n 2, 1), (99, .iload_n 3, 1), (100, .invokevirtual 128, 3), (103, .iastore, 1), (104, .aload_n 0, 1), (105, .getfield 63, 3), (108, .getfield 87, 3)] = true := by decide +kernel
theorem dkX9_goThrough_4 : dkq cX9_goThrough [(111, .iload_n 1, 1), (112, .iaload, 1), (113, .ireturn, 1)] = true := by decide +kernel
theorem dkX9_openWith_0 : dkq cX9_openWith [(0, .aload_n 0, 1), (1, .iload_n 1, 1), (2, .iload_n 2, 1), (3, .invokevirtual 131, 3), (6, .ifCond .ne 5, 3), (9, .iconst (-1), 1), (10, .ireturn, 1), (11, .aload_n 0, 1), (12, .getfield 63, 3), (15, .iload_n 2, 1), (16, .invokevirtual 134, 3), (19, .istore_n 3, 1), (20, .iload_n 3, 1), (21, .iconst (-1), 1), (22, .if_icmp .eq 20, 3), (25, .aload_n 0, 1)] = true := by decide +kernel
theorem dkX9_openWith_1 : dkq cX9_openWith [(26, .iload_n 3, 1), (27, .aload_n 0, 1), (28, .getfield 63, 3), (31, .getfield 87, 3), (34, .iload_n 1, 1), (35, .iaload, 1), (36, .invokevirtual 97, 3), (39, .ifCond .ne 5, 3), (42, .iconst (-1), 1), (43, .ireturn, 1), (44, .aload_n 0, 1), (45, .getfield 63, 3), (48, .getfield 71, 3), (51, .iload_n 2, 1), (52, .dup2, 1), (53, .iaload, 1)] = true := by decide +kernel
theorem dkX9_openWith_2 : dkq cX9_openWith [(54, .iconst 1, 1), (55, .isub, 1), (56, .iastore, 1), (57, .iload_n 3, 1), (58, .ireturn, 1)] = true := by decide +kernel
theorem dkX9_shutWith_0 : dkq cX9_shutWith [(0, .aload_n 0, 1), (1, .iload_n 1, 1), (2, .iload_n 2, 1), (3, .invokevirtual 131, 3), (6, .ifCond .eq 32, 3), (9, .aload_n 0, 1), (10, .iload_n 3, 1), (11, .aload_n 0, 1), (12, .getfield 63, 3), (15, .getfield 87, 3), (18, .iload_n 1, 1), (19, .iaload, 1), (20, .invokevirtual 97, 3), (23, .ifCond .eq 15, 3), (26, .aload_n 0, 1), (27, .getfield 63, 3)] = true := by decide +kernel
theorem dkX9_shutWith_1 : dkq cX9_shutWith [(30, .iload_n 2, 1), (31, .iload_n 3, 1), (32, .invokevirtual 137, 3), (35, .ifCond .ne 5, 3), (38, .iconst (-1), 1), (39, .ireturn, 1), (40, .aload_n 0, 1), (41, .getfield 63, 3), (44, .getfield 71, 3), (47, .iload_n 2, 1), (48, .iaload, 1), (49, .ireturn, 1)] = true := by decide +kernel
theorem dkX9_lendTo_0 : dkq cX9_lendTo [(0, .aload_n 0, 1), (1, .iload_n 1, 1), (2, .iload_n 2, 1), (3, .invokevirtual 131, 3), (6, .ifCond .eq 17, 3), (9, .aload_n 0, 1), (10, .iconst 3, 1), (11, .iload_n 3, 1), (12, .invokevirtual 90, 3), (15, .ifCond .eq 8, 3), (18, .iload_n 3, 1), (19, .iload_n 1, 1), (20, .if_icmp .ne 5, 3), (23, .iconst 0, 1), (24, .ireturn, 1), (25, .aload_n 0, 1)] = true := by decide +kernel
theorem dkX9_lendTo_1 : dkq cX9_lendTo [(26, .getfield 63, 3), (29, .getfield 87, 3), (32, .iload_n 1, 1), (33, .iaload, 1), (34, .aload_n 0, 1), (35, .getfield 63, 3), (38, .getfield 87, 3), (41, .iload_n 3, 1), (42, .iaload, 1), (43, .if_icmp .eq 5, 3), (46, .iconst 0, 1), (47, .ireturn, 1), (48, .aload_n 0, 1), (49, .getfield 63, 3), (52, .getfield 84, 3), (55, .iload_n 2, 1)] = true := by decide +kernel
theorem dkX9_lendTo_2 : dkq cX9_lendTo [(56, .iload_n 3, 1), (57, .iastore, 1), (58, .iconst 1, 1), (59, .ireturn, 1)] = true := by decide +kernel
theorem dkX9_takeUp_0 : dkq cX9_takeUp [(0, .aload_n 0, 1), (1, .iconst 3, 1), (2, .iload_n 1, 1), (3, .invokevirtual 90, 3), (6, .ifCond .eq 12, 3), (9, .aload_n 0, 1), (10, .iconst 2, 1), (11, .iload_n 2, 1), (12, .invokevirtual 90, 3), (15, .ifCond .ne 5, 3), (18, .iconst 0, 1), (19, .ireturn, 1), (20, .aload_n 0, 1), (21, .getfield 63, 3), (24, .getfield 84, 3), (27, .iload_n 2, 1)] = true := by decide +kernel
theorem dkX9_takeUp_1 : dkq cX9_takeUp [(28, .iaload, 1), (29, .istore_n 3, 1), (30, .aload_n 0, 1), (31, .getfield 63, 3), (34, .getfield 87, 3), (37, .iload_n 1, 1), (38, .iaload, 1), (39, .istore 4, 2), (41, .iload_n 3, 1), (42, .bipush 10, 2), (44, .iload 4, 2), (46, .iadd, 1), (47, .if_icmp .eq 18, 3), (50, .aload_n 0, 1), (51, .iload_n 3, 1), (52, .bipush 20, 2)] = true := by decide +kernel
theorem dkX9_takeUp_2 : dkq cX9_takeUp [(54, .isub, 1), (55, .iload 4, 2), (57, .invokevirtual 140, 3), (60, .ifCond .ne 5, 3), (63, .iconst 0, 1), (64, .ireturn, 1), (65, .aload_n 0, 1), (66, .getfield 63, 3), (69, .getfield 84, 3), (72, .iload_n 2, 1), (73, .iload_n 1, 1), (74, .iastore, 1), (75, .iconst 1, 1), (76, .ireturn, 1)] = true := by decide +kernel
theorem dkX9_isOpenBoxAt_0 : dkq cX9_isOpenBoxAt [(0, .aload_n 0, 1), (1, .iload_n 1, 1), (2, .invokevirtual 93, 3), (5, .ifCond .eq 24, 3), (8, .aload_n 0, 1), (9, .iload_n 1, 1), (10, .iload_n 2, 1), (11, .invokevirtual 97, 3), (14, .ifCond .eq 15, 3), (17, .aload_n 0, 1), (18, .iload_n 1, 1), (19, .invokevirtual 143, 3), (22, .ifCond .ne 7, 3), (25, .iconst 1, 1), (26, .goto 4, 3), (29, .iconst 0, 1)] = true := by decide +kernel
theorem dkX9_isOpenBoxAt_1 : dkq cX9_isOpenBoxAt [(30, .ireturn, 1)] = true := by decide +kernel
