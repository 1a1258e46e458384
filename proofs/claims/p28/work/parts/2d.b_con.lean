abbrev tr_d_X0_search_1 (ta : Nat) (A11 : St) (z : Int) (u : St) (K1 : Int → St → Prop) (z38 : Int) (A40 : St) : Prop := ((IK A40) ∧ ((0 ≤ z38 ∧ z38 ≤ 2147483647) ∧ ((((A11 6 11) < z38) ∧ (z = (-1) ∧ u = A40)) ∨ ((¬ (A11 6 11) < z38) ∧ (∃ z59 : Int, ∃ A60 : St, q_X0_advance A40 z59 A60 ∧ (((¬ z59 = 0) ∧ (∃ z64 : Int, ∃ A65 : St, q_X0_searchLevel ta A60 z64 A65 ∧ (((z64 = 0) ∧ (K1 (z38 + 1) A65)) ∨ ((¬ z64 = 0) ∧ (z = z38 ∧ u = A65))))) ∨ ((z59 = 0) ∧ (z = (-1) ∧ u = A60))))))))
def d_X0_search_1 (ta : Nat) (A11 : St) (z : Int) (u : St) : Nat → Int → St → Prop
  | 0, _, _ => False
  | nn9 + 1, z38, A40 => tr_d_X0_search_1 ta A11 z u (fun z38 A40 => d_X0_search_1 ta A11 z u nn9 z38 A40) z38 A40
theorem u_d_X0_search_1 {ta : Nat} {A11 : St} {z : Int} {u : St} {nn9 : Nat} {z38 : Int} {A40 : St} (h : tr_d_X0_search_1 ta A11 z u (fun z38 A40 => d_X0_search_1 ta A11 z u nn9 z38 A40) z38 A40) : d_X0_search_1 ta A11 z u (nn9 + 1) z38 A40 := h
abbrev tr_r_X0_search (ta : Nat) (x2 : Int) (x3 : Int) (x4 : Int) (x5 : Int) (A : St) (z : Int) (u : St) : Prop := (∃ z1 : Int, q_X9_isThere_1_3 ta x2 A z1 ∧ (((¬ z1 = 0) ∧ (∃ A5 : St, A5 = stA A 6 13 x4 ∧ (∃ A6 : St, A6 = stA A5 6 14 x5 ∧ (∃ A7 : St, A7 = stA A6 6 15 0 ∧ (∃ A8 : St, q_X0_prepareWants ta x2 A7 A8 ∧ (∃ A11 : St, q_X0_prepareKeys ta x3 A8 A11 ∧ (∃ A14 : St, q_X0_prepareDoors ta A11 A14 ∧ (∃ z17 : Int, q_J6_bitCount_0f7a4 x3 A14 z17 ∧ (∃ A20 : St, q_X0_prepareBars ta x2 z17 A14 A20 ∧ (∃ A23 : St, q_X0_clearSets A20 A23 ∧ (∃ z34 : Int, z34 = A23 ((ta + 22) + 1) (x2).toNat ∧ (∃ A35 : St, q_X0_markStart ta z34 x3 A23 A35 ∧ (∃ nn9 : Nat, d_X0_search_1 ta A11 z u nn9 0 A35))))))))))))) ∨ ((z1 = 0) ∧ (z = (-1) ∧ u = A))))
def r_X0_search (ta : Nat) (x2 : Int) (x3 : Int) (x4 : Int) (x5 : Int) (A : St) (z : Int) (u : St) : Prop := tr_r_X0_search ta x2 x3 x4 x5 A z u
theorem u_r_X0_search {ta : Nat} {x2 : Int} {x3 : Int} {x4 : Int} {x5 : Int} {A : St} {z : Int} {u : St} (h : tr_r_X0_search ta x2 x3 x4 x5 A z u) : r_X0_search ta x2 x3 x4 x5 A z u := h
def q_X0_search (ta : Nat) (x2 : Int) (x3 : Int) (x4 : Int) (x5 : Int) (A : St) (z : Int) (u : St) : Prop := r_X0_search ta x2 x3 x4 x5 A z u ∧ IK u ∧ fk [7, 9, 10, 11, 12, 13, 14, 15, 16, 17, 18, 19, 72, 103] [(6, 7), (6, 8), (6, 9), (6, 10), (6, 11), (6, 12), (6, 13), (6, 14), (6, 15)] A u ∧ (-2147483648 ≤ z ∧ z ≤ 2147483647)
def ws_kc_X0_search : List Cond := .code yX0_search cX0_search 7 (some .int) :: WY
set_option maxHeartbeats 4000000 in
set_option maxRecDepth 100000 in
theorem kc_X0_search (l : Launch) (dC : Nat → ClassId) (dI : Nat → Nat → Nat) (cB cI cJ cZ cQ : ClassId) (aL aS : Nat) (q : Nat → Nat) (A : St) (ta : Nat) (x2 x3 x4 x5 : Int) (hI : IK A) (hta : isT ta) (hx2 : (-2147483648 : Int) ≤ x2 ∧ x2 ≤ 2147483647) (hx3 : (-2147483648 : Int) ≤ x3 ∧ x3 ≤ 2147483647) (hx4 : (-2147483648 : Int) ≤ x4 ∧ x4 ≤ 2147483647) (hx5 : (-2147483648 : Int) ≤ x5 ∧ x5 ≤ 2147483647) : KMi l yX0_search ws_kc_X0_search ({ frames := 5, cells := 0, slots := 0, locals := 129 } : Room) aL aS (dC, dI) (tyA cB cI cJ cZ cQ) (WK cB cI cJ cZ cQ q) A [.ref (q 6), .ref (q ta), .int (iI x2), .int (iI x3), .int (iI x4), .int (iI x5)] (fun z u => r_X0_search ta x2 x3 x4 x5 A z u ∧ IK u ∧ fk [7, 9, 10, 11, 12, 13, 14, 15, 16, 17, 18, 19, 72, 103] [(6, 7), (6, 8), (6, 9), (6, 10), (6, 11), (6, 12), (6, 13), (6, 14), (6, 15)] A u ∧ (-2147483648 ≤ z ∧ z ≤ 2147483647)) := by
  refine k_meti (cc := cX0_search) (maxL := 7) WK_adr (plainFor_of_name (by decide +kernel)) rfl (Nat.le_of_ble_eq_true rfl) (fun p e s m below meth c Q AS ls hx hb hml hown hts hK hDD hA0 hE RET H locs hP hS hl => ?_)
  have hown : s.vm.findClass RX0 = some m.cls := hown
  have hl : lv_has ls 7 [(0, .ref (q 6)), (1, .ref (q ta)), (2, .int (iI x2)), (3, .int (iI x3)), (4, .int (iI x4)), (5, .int (iI x5))] := hl
  have hiX0 : ∀ w ∈ u_ws RX0 TX0 17, w ∈ ws_kc_X0_search := fun w h => List.mem_cons_of_mem _ (wy_layX0 w h)
  have hiX9 : ∀ w ∈ u_ws RX9 TX9 16, w ∈ ws_kc_X0_search := fun w h => List.mem_cons_of_mem _ (wy_layX9 w h)
  have hiX6 : ∀ w ∈ u_ws RX6 TX6 4, w ∈ ws_kc_X0_search := fun w h => List.mem_cons_of_mem _ (wy_layX6 w h)
  refine lv_aload_n hx hb (dk_at dkX0_search_0 0 rfl) rfl (lv_at hl 1 rfl) ?_
  refine lv_iconst (v := iI 3) hx hb (dk_at dkX0_search_0 1 rfl) (by decide +kernel) ?_
  refine lv_iload_n hx hb (dk_at dkX0_search_0 2 rfl) rfl (lv_at hl 2 rfl) ?_
  refine k_calli (As := [.int (iI 3), .int (iI x2)]) (rest := []) ⟨hx, hb, hml, hown, hts⟩ hE (kc_X9_isThere_1_3 l dC dI cB cI cJ cZ cQ aL aS q _ ta x2 hI hta hx2) (cwV 2 hts (goodVk wkq_0_21 wkq_0_22 wkq_0_23 wkq_0_6 wkq_0_24) rfl rfl rfl (by decide +kernel) ⟨Nat.le_of_ble_eq_true rfl, Nat.le_of_ble_eq_true rfl⟩) hK hDD hA0 hP hS ta 9 (wkT hta) rfl rfl hl.1 (Nat.le_of_ble_eq_true rfl) (dk_at dkX0_search_0 3 rfl) (fun z1 A2 H locs hw3 hP hS => ?_)
  obtain ⟨rfl, hw3⟩ := hw3
  have ghw3 : q_X9_isThere_1_3 ta x2 A z1 := hw3
  have hw3 := hw3.2
  have rz1 : 0 ≤ z1 ∧ z1 ≤ 1 := hw3.1
  have hw3 := hw3.2
  refine lv_if_ne (tgt := 11) hx hb (dk_at dkX0_search_0 4 rfl) (by decide) (fun c4 => ?_) (fun c4 => ?_)
  · have c4 : ¬ z1 = 0 := mt (i_eq0 (rb rz1 (by decide) (by decide))).mpr c4
    have hw3b := hw3 (by omega)
    clear hw3
    refine lv_aload_n hx hb (dk_at dkX0_search_0 7 rfl) rfl (lv_at hl 0 rfl) ?_
    refine lv_iload hx hb (dk_at dkX0_search_0 8 rfl) (lv_at hl 4 rfl) ?_
    refine k_put (Wf := WK cB cI cJ cZ cQ q) (D := (dC, dI)) (ci := 0) (v := .int (iI x4)) (ty := .int) (C := RX0) (T := TX0) (N := 17) hx hb hts hiX0 tyX0 tyX0_ok nmX0 hown hK hP hDD hS 6 (wkAL) rfl 13 (by decide) (hts _ (List.mem_cons_of_mem _ wkq_0_16)) (fun _ h9 => h9) rfl (by decide +kernel) rfl rfl (Nat.le_of_ble_eq_true rfl) (dk_at dkX0_search_0 9 rfl) (wfAL_13 (v := x4)) (fun H locs A5 hA5 hP hS => ?_)
    have hI := isAL_13 hA5 hI (show (-2147483648 : Int) ≤ x4 ∧ x4 ≤ 2147483647 from hx4)
    refine lv_aload_n hx hb (dk_at dkX0_search_0 10 rfl) rfl (lv_at hl 0 rfl) ?_
    refine lv_iload hx hb (dk_at dkX0_search_0 11 rfl) (lv_at hl 5 rfl) ?_
    refine k_put (Wf := WK cB cI cJ cZ cQ q) (D := (dC, dI)) (ci := 0) (v := .int (iI x5)) (ty := .int) (C := RX0) (T := TX0) (N := 17) hx hb hts hiX0 tyX0 tyX0_ok nmX0 hown hK hP hDD hS 6 (wkAL) rfl 14 (by decide) (hts _ (List.mem_cons_of_mem _ wkq_0_17)) (fun _ h9 => h9) rfl (by decide +kernel) rfl rfl (Nat.le_of_ble_eq_true rfl) (dk_at dkX0_search_0 12 rfl) (wfAL_14 (v := x5)) (fun H locs A6 hA6 hP hS => ?_)
    have hI := isAL_14 hA6 hI (show (-2147483648 : Int) ≤ x5 ∧ x5 ≤ 2147483647 from hx5)
    refine lv_aload_n hx hb (dk_at dkX0_search_0 13 rfl) rfl (lv_at hl 0 rfl) ?_
    refine lv_iconst (v := iI 0) hx hb (dk_at dkX0_search_0 14 rfl) (by decide +kernel) ?_
    refine k_put (Wf := WK cB cI cJ cZ cQ q) (D := (dC, dI)) (ci := 0) (v := .int (iI 0)) (ty := .int) (C := RX0) (T := TX0) (N := 17) hx hb hts hiX0 tyX0 tyX0_ok nmX0 hown hK hP hDD hS 6 (wkAL) rfl 15 (by decide) (hts _ (List.mem_cons_of_mem _ wkq_0_2)) (fun _ h9 => h9) rfl (by decide +kernel) rfl rfl (Nat.le_of_ble_eq_true rfl) (dk_at dkX0_search_0 15 rfl) (wfAL_15 (v := 0)) (fun H locs A7 hA7 hP hS => ?_)
    have hI := isAL_15 hA7 hI (show (-2147483648 : Int) ≤ 0 ∧ 0 ≤ 2147483647 from ⟨by decide, by decide⟩)
    refine lv_aload_n hx hb (dk_at dkX0_search_1 0 rfl) rfl (lv_at hl 0 rfl) ?_
    refine lv_aload_n hx hb (dk_at dkX0_search_1 1 rfl) rfl (lv_at hl 1 rfl) ?_
    refine lv_iload_n hx hb (dk_at dkX0_search_1 2 rfl) rfl (lv_at hl 2 rfl) ?_
    refine k_callv (As := [.ref (q ta), .int (iI x2)]) (rest := []) ⟨hx, hb, hml, hown, hts⟩ hE (kc_X0_prepareWants l dC dI cB cI cJ cZ cQ aL aS q _ ta x2 hI hta (by omega)) (cwV 2 hts (goodVk wkq_0_25 wkq_0_26 wkq_0_27 wkq_0_14 wkq_0_28) rfl rfl rfl (by decide +kernel) ⟨Nat.le_of_ble_eq_true rfl, Nat.le_of_ble_eq_true rfl⟩) hK hDD hA0 hP hS 6 0 (wkAL) rfl rfl hl.1 (Nat.le_of_ble_eq_true rfl) (dk_at dkX0_search_1 3 rfl) (fun A8 H locs hw9 hP hS => ?_)
    have ghw9 : q_X0_prepareWants ta x2 A7 A8 := hw9
    obtain ⟨_, hI, hf10, hw9⟩ := hw9
    clear hw9
    refine lv_aload_n hx hb (dk_at dkX0_search_1 4 rfl) rfl (lv_at hl 0 rfl) ?_
    refine lv_aload_n hx hb (dk_at dkX0_search_1 5 rfl) rfl (lv_at hl 1 rfl) ?_
    refine lv_iload_n hx hb (dk_at dkX0_search_1 6 rfl) rfl (lv_at hl 3 rfl) ?_
    refine k_callv (As := [.ref (q ta), .int (iI x3)]) (rest := []) ⟨hx, hb, hml, hown, hts⟩ hE (kc_X0_prepareKeys l dC dI cB cI cJ cZ cQ aL aS q _ ta x3 hI hta hx3) (cwV 2 hts (goodVk wkq_0_33 wkq_0_34 wkq_0_35 wkq_0_14 wkq_0_36) rfl rfl rfl (by decide +kernel) ⟨Nat.le_of_ble_eq_true rfl, Nat.le_of_ble_eq_true rfl⟩) hK hDD hA0 hP hS 6 0 (wkAL) rfl rfl hl.1 (Nat.le_of_ble_eq_true rfl) (dk_at dkX0_search_1 7 rfl) (fun A11 H locs hw12 hP hS => ?_)
    have ghw12 : q_X0_prepareKeys ta x3 A8 A11 := hw12
    obtain ⟨_, hI, hf13, hw12⟩ := hw12
    clear hw12
    refine lv_aload_n hx hb (dk_at dkX0_search_1 8 rfl) rfl (lv_at hl 0 rfl) ?_
    refine lv_aload_n hx hb (dk_at dkX0_search_1 9 rfl) rfl (lv_at hl 1 rfl) ?_
    refine k_callv (As := [.ref (q ta)]) (rest := []) ⟨hx, hb, hml, hown, hts⟩ hE (kc_X0_prepareDoors l dC dI cB cI cJ cZ cQ aL aS q _ ta hI hta) (cwV 1 hts (goodVk wkq_1_0 wkq_1_1 wkq_1_2 wkq_0_14 wkq_1_3) rfl rfl rfl (by decide +kernel) ⟨Nat.le_of_ble_eq_true rfl, Nat.le_of_ble_eq_true rfl⟩) hK hDD hA0 hP hS 6 0 (wkAL) rfl rfl hl.1 (Nat.le_of_ble_eq_true rfl) (dk_at dkX0_search_1 10 rfl) (fun A14 H locs hw15 hP hS => ?_)
    have ghw15 : q_X0_prepareDoors ta A11 A14 := hw15
    obtain ⟨_, hI, hf16, hw15⟩ := hw15
    clear hw15
    refine lv_aload_n hx hb (dk_at dkX0_search_1 11 rfl) rfl (lv_at hl 0 rfl) ?_
    refine lv_aload_n hx hb (dk_at dkX0_search_1 12 rfl) rfl (lv_at hl 1 rfl) ?_
    refine lv_iload_n hx hb (dk_at dkX0_search_1 13 rfl) rfl (lv_at hl 2 rfl) ?_
    refine lv_iload_n hx hb (dk_at dkX0_search_1 14 rfl) rfl (lv_at hl 3 rfl) ?_
    refine k_callSi (As := [.int (iI x3)]) (rest := [.int (iI x2), .ref (q ta), .ref (q 6)]) ⟨hx, hb, hml, hown, hts⟩ hE (kc_J6_bitCount_0f7a4 l dC dI cB cI cJ cZ cQ aL aS q _ x3 hI hx3) (va_cwS 1 hts (goodSk wkq_1_16 wkq_1_17 wkq_1_18 wkq_1_19) rfl rfl rfl (by decide +kernel) ⟨Nat.le_of_ble_eq_true rfl, Nat.le_of_ble_eq_true rfl⟩) hK hDD hA0 hP hS rfl hl.1 (Nat.le_of_ble_eq_true rfl) (dk_at dkX0_search_1 15 rfl) (fun z17 A18 H locs hw19 hP hS => ?_)
    obtain ⟨rfl, hw19⟩ := hw19
    have ghw19 : q_J6_bitCount_0f7a4 x3 A14 z17 := hw19
    have hw19 := hw19.2
    refine k_callv (As := [.ref (q ta), .int (iI x2), .int (iI z17)]) (rest := []) ⟨hx, hb, hml, hown, hts⟩ hE (kc_X0_prepareBars l dC dI cB cI cJ cZ cQ aL aS q _ ta x2 z17 hI hta hx2 (rb hw19 (by decide) (by decide))) (cwV 3 hts (goodVk wkq_1_23 wkq_1_24 wkq_1_25 wkq_0_14 wkq_1_26) rfl rfl rfl (by decide +kernel) ⟨Nat.le_of_ble_eq_true rfl, Nat.le_of_ble_eq_true rfl⟩) hK hDD hA0 hP hS 6 0 (wkAL) rfl rfl hl.1 (Nat.le_of_ble_eq_true rfl) (dk_at dkX0_search_2 0 rfl) (fun A20 H locs hw21 hP hS => ?_)
    have ghw21 : q_X0_prepareBars ta x2 z17 A14 A20 := hw21
    obtain ⟨_, hI, hf22, hw21⟩ := hw21
    clear hw21
    refine lv_aload_n hx hb (dk_at dkX0_search_2 1 rfl) rfl (lv_at hl 0 rfl) ?_
    refine k_callv (As := []) (rest := []) ⟨hx, hb, hml, hown, hts⟩ hE (kc_X0_clearSets l dC dI cB cI cJ cZ cQ aL aS q _ hI) (cwV 0 hts (goodVk wkq_2_4 wkq_2_5 wkq_2_6 wkq_0_14 wkq_2_7) rfl rfl rfl (by decide +kernel) ⟨Nat.le_of_ble_eq_true rfl, Nat.le_of_ble_eq_true rfl⟩) hK hDD hA0 hP hS 6 0 (wkAL) rfl rfl hl.1 (Nat.le_of_ble_eq_true rfl) (dk_at dkX0_search_2 2 rfl) (fun A23 H locs hw24 hP hS => ?_)
    have ghw24 : q_X0_clearSets A20 A23 := hw24
    obtain ⟨_, hI, hf25, hw24⟩ := hw24
    clear hw24
    refine lv_aload_n hx hb (dk_at dkX0_search_2 3 rfl) rfl (lv_at hl 0 rfl) ?_
    refine lv_aload_n hx hb (dk_at dkX0_search_2 4 rfl) rfl (lv_at hl 1 rfl) ?_
    refine lv_aload_n hx hb (dk_at dkX0_search_2 5 rfl) rfl (lv_at hl 1 rfl) ?_
    refine va_get (D := (dC, dI)) (ci := 9) (v := .ref (q (ta + 22))) (C := RX9) (T := TX9) (N := 16) hx hb hts hiX9 hown hK hP ta (wkT hta) rfl 14 (by decide) (hts _ (List.mem_cons_of_mem _ wkq_0_18)) (fun _ h9 => h9) rfl (dk_at dkX0_search_2 6 rfl) ?_
    refine va_get (D := (dC, dI)) (ci := 6) (v := .ref (q ((ta + 22) + 1))) (C := RX6) (T := TX6) (N := 4) hx hb hts hiX6 hown hK hP (ta + 22) (wkS hta.s) rfl 0 (by decide) (hts _ (List.mem_cons_of_mem _ wkq_0_19)) (fun _ h9 => h9) rfl (dk_at dkX0_search_2 7 rfl) ?_
    refine lv_iload_n hx hb (dk_at dkX0_search_2 8 rfl) rfl (lv_at hl 2 rfl) ?_
    have a33 : ∀ k, A5 ((ta + 22) + 1) k = A ((ta + 22) + 1) k := fun k => rd_ne hA5 (by rcases hta.s with h | h | h | h <;> omega) k
    have a32 : ∀ k, A6 ((ta + 22) + 1) k = A ((ta + 22) + 1) k := fun k => (rd_ne hA6 (by rcases hta.s with h | h | h | h <;> omega) k).trans (a33 k)
    have a31 : ∀ k, A7 ((ta + 22) + 1) k = A ((ta + 22) + 1) k := fun k => (rd_ne hA7 (by rcases hta.s with h | h | h | h <;> omega) k).trans (a32 k)
    have a30 : ∀ k, A8 ((ta + 22) + 1) k = A ((ta + 22) + 1) k := fun k => (hf10 ((ta + 22) + 1) k (isS.b2 (o := fun b => List.contains [17] (b + 1)) hta.s rfl rfl rfl rfl) (isS.b2 (o := fun b => fin2 [(6, 9)] (b + 1) k) hta.s rfl rfl rfl rfl)).trans (a31 k)
    have a29 : ∀ k, A11 ((ta + 22) + 1) k = A ((ta + 22) + 1) k := fun k => (hf13 ((ta + 22) + 1) k (isS.b2 (o := fun b => List.contains [9, 10, 11, 12, 13] (b + 1)) hta.s rfl rfl rfl rfl) (isS.b2 (o := fun b => fin2 [(6, 10), (6, 11), (6, 12)] (b + 1) k) hta.s rfl rfl rfl rfl)).trans (a30 k)
    have a28 : ∀ k, A14 ((ta + 22) + 1) k = A ((ta + 22) + 1) k := fun k => (hf16 ((ta + 22) + 1) k (isS.b2 (o := fun b => List.contains [15] (b + 1)) hta.s rfl rfl rfl rfl) (isS.b2 (o := fun b => fin2 [] (b + 1) k) hta.s rfl rfl rfl rfl)).trans (a29 k)
    have a27 : ∀ k, A20 ((ta + 22) + 1) k = A ((ta + 22) + 1) k := fun k => (hf22 ((ta + 22) + 1) k (isS.b2 (o := fun b => List.contains [16, 72, 103] (b + 1)) hta.s rfl rfl rfl rfl) (isS.b2 (o := fun b => fin2 [] (b + 1) k) hta.s rfl rfl rfl rfl)).trans (a28 k)
    have a26 : ∀ k, A23 ((ta + 22) + 1) k = A ((ta + 22) + 1) k := fun k => (hf25 ((ta + 22) + 1) k (isS.b2 (o := fun b => List.contains [7, 18, 19] (b + 1)) hta.s rfl rfl rfl rfl) (isS.b2 (o := fun b => fin2 [] (b + 1) k) hta.s rfl rfl rfl rfl)).trans (a27 k)
    refine x_iald (Wf := WK cB cI cJ cZ cQ q) hx hb hK hP ((ta + 22) + 1) 1 (wkSs hta.s) rfl (by omega) (by decide) (dk_at dkX0_search_2 9 rfl) (fun z34 hz34 => ?_)
    have rz34 : (-2147483648 : Int) ≤ z34 ∧ z34 ≤ 2147483647 := by rw [hz34]; exact irSs hta.s hI
    have gz34 := Hd.mk hz34
    have hz34 : z34 = A ((ta + 22) + 1) (x2).toNat := hz34.trans (a26 _)
    refine lv_iload_n hx hb (dk_at dkX0_search_2 10 rfl) rfl (lv_at hl 3 rfl) ?_
    refine k_callv (As := [.ref (q ta), .int (iI z34), .int (iI x3)]) (rest := []) ⟨hx, hb, hml, hown, hts⟩ hE (kc_X0_markStart l dC dI cB cI cJ cZ cQ aL aS q _ ta z34 x3 hI hta rz34 hx3) (cwV 3 hts (goodVk wkq_2_10 wkq_2_11 wkq_2_12 wkq_0_14 wkq_2_13) rfl rfl rfl (by decide +kernel) ⟨Nat.le_of_ble_eq_true rfl, Nat.le_of_ble_eq_true rfl⟩) hK hDD hA0 hP hS 6 0 (wkAL) rfl rfl hl.1 (Nat.le_of_ble_eq_true rfl) (dk_at dkX0_search_2 11 rfl) (fun A35 H locs hw36 hP hS => ?_)
    have ghw36 : q_X0_markStart ta z34 x3 A23 A35 := hw36
    obtain ⟨_, hI, hf37, hw36⟩ := hw36
    clear hw36
    refine lv_iconst (v := iI 0) hx hb (dk_at dkX0_search_2 12 rfl) (by decide +kernel) ?_
    refine lv_istore (lv' := [(6, .int (iI 0)), (0, .ref (q 6)), (1, .ref (q ta)), (2, .int (iI x2)), (3, .int (iI x3)), (4, .int (iI x4)), (5, .int (iI x5))]) hx hb (dk_at dkX0_search_2 13 rfl) hl (by decide) rfl (fun ls hl => ?_)
    have L77_41 : ∀ (n50 : Nat) (z38 : Int) (A40 : St) (H : Heap) (locs : List Loc) (ls : Array Slot), (0 ≤ z38 ∧ z38 ≤ 2147483647) → (∀ (z : Int) (u : St), (∃ mm1 : Nat, (d_X0_search_1 ta A11 z u mm1 z38 A40)) → r_X0_search ta x2 x3 x4 x5 A z u) → ((76833 - z38).toNat = n50) → IK A40 → fk [7, 14, 18, 19] [(6, 7), (6, 8), (6, 15)] A35 A40 → va_P (dC, dI) vwCl (WK cB cI cJ cZ cQ q A40) H → va_S AS s.heap H locs → lv_has ls 7 [(6, .int (iI z38)), (0, .ref (q 6)), (1, .ref (q ta)), (2, .int (iI x2)), (3, .int (iI x3)), (4, .int (iI x4)), (5, .int (iI x5))] → W p l e (headSpec ws_kc_X0_search ({ frames := 5, cells := 0, slots := 0, locals := 129 } : Room)).room s m [.ref (q 6), .ref (q ta), .int (iI x2), .int (iI x3), .int (iI x4), .int (iI x5)].toArray below meth c H locs 0 0 Q (F0 m 77 ls []) := by
      intro n50
      induction n50 using Nat.strongRecOn with
      | ind n50 ih42 =>
        intro z38 A40 H locs ls f43 hk1 hn50 hI hj39 hP hS hl
        have gI51 : Hd (IK A40) := Hd.mk hI
        refine lv_iload hx hb (dk_at dkX0_search_2 14 rfl) (lv_at hl 0 rfl) ?_
        refine lv_aload_n hx hb (dk_at dkX0_search_2 15 rfl) rfl (lv_at hl 1 rfl) ?_
        have e56 : A14 6 11 = (A11 6 11) := (hf16 6 11 rfl rfl)
        have e55 : A20 6 11 = (A11 6 11) := (hf22 6 11 rfl rfl).trans e56
        have e54 : A23 6 11 = (A11 6 11) := (hf25 6 11 rfl rfl).trans e55
        have e53 : A35 6 11 = (A11 6 11) := (hf37 6 11 rfl rfl).trans e54
        have e52 : A40 6 11 = (A11 6 11) := (hj39 6 11 rfl rfl).trans e53
        have r57 : (-2147483648 : Int) ≤ (A11 6 11) ∧ (A11 6 11) ≤ 76832 := by rw [← e52]; exact irAL_11 hI
        refine va_get (D := (dC, dI)) (ci := 0) (v := .int (iI (A40 6 11))) (C := RX0) (T := TX0) (N := 17) hx hb hts hiX0 hown hK hP 6 (wkAL) rfl 11 (by decide) (hts _ (List.mem_cons_of_mem _ wkq_0_20)) (fun _ h9 => h9) rfl (dk_at dkX0_search_3 0 rfl) ?_
        refine tp_i (y := iI (A11 6 11)) (congrArg iI e52) ?_
        refine lv_icmp_gt (tgt := 112) hx hb (dk_at dkX0_search_3 1 rfl) (by decide) (fun c58 => ?_) (fun c58 => ?_)
        · have c58 : (A11 6 11) < z38 := (i_lt (rb r57 (by decide) (by decide)) (rb f43 (by decide) (by decide))).mp c58
          refine lv_iconst (v := iI (-1)) hx hb (dk_at dkX0_search_3 15 rfl) (by decide +kernel) ?_
          exact RET (-1) _ _ _ _ _ ⟨hk1 _ _ ⟨0 + 1, (u_d_X0_search_1 ⟨gI51.out, ⟨f43, (Or.inl ⟨c58, ⟨rfl, rfl⟩⟩)⟩⟩)⟩, hI, fk.trans (fk.trans (fk.trans (fk.trans (fk.trans (fk.trans (fk.trans (fk.df (fk.df (fk.df (fk.rf) hA5 rfl) hA6 rfl) hA7 rfl) hf10 rfl rfl) hf13 rfl rfl) hf16 rfl rfl) hf22 rfl rfl) hf25 rfl rfl) hf37 rfl rfl) hj39 rfl rfl, ⟨by decide, by decide⟩⟩ hP hS (dk_at dkX0_search_4 0 rfl)
        · have c58 : ¬ (A11 6 11) < z38 := mt (i_lt (rb r57 (by decide) (by decide)) (rb f43 (by decide) (by decide))).mpr c58
          refine lv_aload_n hx hb (dk_at dkX0_search_3 2 rfl) rfl (lv_at hl 1 rfl) ?_
          refine k_calli (As := []) (rest := []) ⟨hx, hb, hml, hown, hts⟩ hE (kc_X0_advance l dC dI cB cI cJ cZ cQ aL aS q _ hI) (cwV 0 hts (goodVk wkq_2_27 wkq_2_28 wkq_2_29 wkq_0_14 wkq_2_30) rfl rfl rfl (by decide +kernel) ⟨Nat.le_of_ble_eq_true rfl, Nat.le_of_ble_eq_true rfl⟩) hK hDD hA0 hP hS 6 0 (wkAL) rfl rfl hl.1 (Nat.le_of_ble_eq_true rfl) (dk_at dkX0_search_3 3 rfl) (fun z59 A60 H locs hw61 hP hS => ?_)
          have ghw61 : q_X0_advance A40 z59 A60 := hw61
          obtain ⟨_, hI, hf62, hw61⟩ := hw61
          refine lv_if_ne (tgt := 95) hx hb (dk_at dkX0_search_3 4 rfl) (by decide) (fun c63 => ?_) (fun c63 => ?_)
          · have c63 : ¬ z59 = 0 := mt (i_eq0 (rb hw61 (by decide) (by decide))).mpr c63
            refine lv_aload_n hx hb (dk_at dkX0_search_3 7 rfl) rfl (lv_at hl 1 rfl) ?_
            refine lv_aload_n hx hb (dk_at dkX0_search_3 8 rfl) rfl (lv_at hl 2 rfl) ?_
            refine k_calli (As := [.ref (q ta)]) (rest := []) ⟨hx, hb, hml, hown, hts⟩ hE (kc_X0_searchLevel l dC dI cB cI cJ cZ cQ aL aS q _ ta hI hta) (cwV 1 hts (goodVk wkq_2_32 wkq_2_33 wkq_2_34 wkq_0_14 wkq_2_35) rfl rfl rfl (by decide +kernel) ⟨Nat.le_of_ble_eq_true rfl, Nat.le_of_ble_eq_true rfl⟩) hK hDD hA0 hP hS 6 0 (wkAL) rfl rfl hl.1 (Nat.le_of_ble_eq_true rfl) (dk_at dkX0_search_3 9 rfl) (fun z64 A65 H locs hw66 hP hS => ?_)
            have ghw66 : q_X0_searchLevel ta A60 z64 A65 := hw66
            obtain ⟨_, hI, hf67, hw66⟩ := hw66
            refine lv_if_eq (tgt := 106) hx hb (dk_at dkX0_search_3 10 rfl) (by decide) (fun c68 => ?_) (fun c68 => ?_)
            · have c68 : z64 = 0 := (i_eq0 (rb hw66 (by decide) (by decide))).mp c68
              refine lv_iinc (v := iI (z38 + 1)) (lv' := [(6, .int (iI (z38 + 1))), (0, .ref (q 6)), (1, .ref (q ta)), (2, .int (iI x2)), (3, .int (iI x3)), (4, .int (iI x4)), (5, .int (iI x5))]) hx hb (dk_at dkX0_search_3 13 rfl) hl (k := 0) rfl (i_inc (by omega)) (by decide) rfl (fun ls hl => ?_)
              refine lv_goto (tgt := 77) hx hb (dk_at dkX0_search_3 14 rfl) (by decide) ?_
              exact ih42 _ (by omega) (z38 + 1) _ _ _ _ (by omega) (fun zq uq ⟨mm1, hq⟩ => hk1 _ _ ⟨mm1 + 1, (u_d_X0_search_1 ⟨gI51.out, ⟨f43, (Or.inr ⟨c58, ⟨z59, A60, ghw61, (Or.inl ⟨c63, ⟨z64, A65, ghw66, (Or.inl ⟨c68, hq⟩)⟩⟩)⟩⟩)⟩⟩)⟩) rfl hI (fk.trans (fk.trans (fk.trans (fk.rf) hj39 rfl rfl) hf62 rfl rfl) hf67 rfl rfl) hP hS (lv_sub hl [0, 1, 2, 3, 4, 5, 6] rfl)
            · have c68 : ¬ z64 = 0 := mt (i_eq0 (rb hw66 (by decide) (by decide))).mpr c68
              refine lv_iload hx hb (dk_at dkX0_search_3 11 rfl) (lv_at hl 0 rfl) ?_
              exact RET z38 _ _ _ _ _ ⟨hk1 _ _ ⟨0 + 1, (u_d_X0_search_1 ⟨gI51.out, ⟨f43, (Or.inr ⟨c58, ⟨z59, A60, ghw61, (Or.inl ⟨c63, ⟨z64, A65, ghw66, (Or.inr ⟨c68, ⟨rfl, rfl⟩⟩)⟩⟩)⟩⟩)⟩⟩)⟩, hI, fk.trans (fk.trans (fk.trans (fk.trans (fk.trans (fk.trans (fk.trans (fk.trans (fk.trans (fk.df (fk.df (fk.df (fk.rf) hA5 rfl) hA6 rfl) hA7 rfl) hf10 rfl rfl) hf13 rfl rfl) hf16 rfl rfl) hf22 rfl rfl) hf25 rfl rfl) hf37 rfl rfl) hj39 rfl rfl) hf62 rfl rfl) hf67 rfl rfl, (rb f43 (by decide) (by decide))⟩ hP hS (dk_at dkX0_search_3 12 rfl)
          · have c63 : z59 = 0 := (i_eq0 (rb hw61 (by decide) (by decide))).mp c63
            refine lv_iconst (v := iI (-1)) hx hb (dk_at dkX0_search_3 5 rfl) (by decide +kernel) ?_
            exact RET (-1) _ _ _ _ _ ⟨hk1 _ _ ⟨0 + 1, (u_d_X0_search_1 ⟨gI51.out, ⟨f43, (Or.inr ⟨c58, ⟨z59, A60, ghw61, (Or.inr ⟨c63, ⟨rfl, rfl⟩⟩)⟩⟩)⟩⟩)⟩, hI, fk.trans (fk.trans (fk.trans (fk.trans (fk.trans (fk.trans (fk.trans (fk.trans (fk.df (fk.df (fk.df (fk.rf) hA5 rfl) hA6 rfl) hA7 rfl) hf10 rfl rfl) hf13 rfl rfl) hf16 rfl rfl) hf22 rfl rfl) hf25 rfl rfl) hf37 rfl rfl) hj39 rfl rfl) hf62 rfl rfl, ⟨by decide, by decide⟩⟩ hP hS (dk_at dkX0_search_3 6 rfl)
    exact L77_41 _ 0 _ _ _ _ (by omega) (fun zq uq ⟨mm1, hq⟩ => (u_r_X0_search ⟨z1, ghw3, (Or.inl ⟨c4, ⟨A5, hA5, ⟨A6, hA6, ⟨A7, hA7, ⟨A8, ghw9, ⟨A11, ghw12, ⟨A14, ghw15, ⟨z17, ghw19, ⟨A20, ghw21, ⟨A23, ghw24, ⟨z34, gz34.out, ⟨A35, ghw36, ⟨mm1, hq⟩⟩⟩⟩⟩⟩⟩⟩⟩⟩⟩⟩⟩)⟩)) rfl hI (fk.rf) hP hS (lv_sub hl [0, 1, 2, 3, 4, 5, 6] rfl)
  · have c4 : z1 = 0 := (i_eq0 (rb rz1 (by decide) (by decide))).mp c4
    clear hw3
    refine lv_iconst (v := iI (-1)) hx hb (dk_at dkX0_search_0 5 rfl) (by decide +kernel) ?_
    exact RET (-1) _ _ _ _ _ ⟨(u_r_X0_search ⟨z1, ghw3, (Or.inr ⟨c4, ⟨rfl, rfl⟩⟩)⟩), hI, fk.rf, ⟨by decide, by decide⟩⟩ hP hS (dk_at dkX0_search_0 6 rfl)

abbrev tr_r_X0_placesOf (ta : Nat) (x2 : Int) (A : St) (z : Int) (u : St) : Prop := (∃ z1 : Int, q_X9_keysOf ta x2 A z1 ∧ (∃ z4 : Int, z4 = A (ta + 1) (0 : Int).toNat ∧ (∃ z5 : Int, z5 = oShl 1 z4 ∧ (∃ z6 : Int, z6 = oWrap (z5 - 1) ∧ (∃ z7 : Int, ∃ A8 : St, q_X0_search ta x2 z1 3 z6 A z7 A8 ∧ (z = (A8 6 15) ∧ u = A8))))))
def r_X0_placesOf (ta : Nat) (x2 : Int) (A : St) (z : Int) (u : St) : Prop := tr_r_X0_placesOf ta x2 A z u
theorem u_r_X0_placesOf {ta : Nat} {x2 : Int} {A : St} {z : Int} {u : St} (h : tr_r_X0_placesOf ta x2 A z u) : r_X0_placesOf ta x2 A z u := h
def q_X0_placesOf (ta : Nat) (x2 : Int) (A : St) (z : Int) (u : St) : Prop := r_X0_placesOf ta x2 A z u ∧ IK u ∧ fk [7, 9, 10, 11, 12, 13, 14, 15, 16, 17, 18, 19, 72, 103] [(6, 7), (6, 8), (6, 9), (6, 10), (6, 11), (6, 12), (6, 13), (6, 14), (6, 15)] A u ∧ (-2147483648 ≤ z ∧ z ≤ 2147483647)
def ws_kc_X0_placesOf : List Cond := .code yX0_placesOf cX0_placesOf 3 (some .int) :: WY
set_option maxHeartbeats 4000000 in
set_option maxRecDepth 100000 in
theorem kc_X0_placesOf (l : Launch) (dC : Nat → ClassId) (dI : Nat → Nat → Nat) (cB cI cJ cZ cQ : ClassId) (aL aS : Nat) (q : Nat → Nat) (A : St) (ta : Nat) (x2 : Int) (hI : IK A) (hta : isT ta) (hx2 : (-2147483648 : Int) ≤ x2 ∧ x2 ≤ 2147483647) : KMi l yX0_placesOf ws_kc_X0_placesOf ({ frames := 6, cells := 0, slots := 0, locals := 155 } : Room) aL aS (dC, dI) (tyA cB cI cJ cZ cQ) (WK cB cI cJ cZ cQ q) A [.ref (q 6), .ref (q ta), .int (iI x2)] (fun z u => r_X0_placesOf ta x2 A z u ∧ IK u ∧ fk [7, 9, 10, 11, 12, 13, 14, 15, 16, 17, 18, 19, 72, 103] [(6, 7), (6, 8), (6, 9), (6, 10), (6, 11), (6, 12), (6, 13), (6, 14), (6, 15)] A u ∧ (-2147483648 ≤ z ∧ z ≤ 2147483647)) := by
  refine k_meti (cc := cX0_placesOf) (maxL := 3) WK_adr (plainFor_of_name (by decide +kernel)) rfl (Nat.le_of_ble_eq_true rfl) (fun p e s m below meth c Q AS ls hx hb hml hown hts hK hDD hA0 hE RET H locs hP hS hl => ?_)
  have hown : s.vm.findClass RX0 = some m.cls := hown
  have hl : lv_has ls 3 [(0, .ref (q 6)), (1, .ref (q ta)), (2, .int (iI x2))] := hl
  have hiX9 : ∀ w ∈ u_ws RX9 TX9 16, w ∈ ws_kc_X0_placesOf := fun w h => List.mem_cons_of_mem _ (wy_layX9 w h)
  have hiX0 : ∀ w ∈ u_ws RX0 TX0 17, w ∈ ws_kc_X0_placesOf := fun w h => List.mem_cons_of_mem _ (wy_layX0 w h)
  refine lv_aload_n hx hb (dk_at dkX0_placesOf_0 0 rfl) rfl (lv_at hl 0 rfl) ?_
  refine lv_aload_n hx hb (dk_at dkX0_placesOf_0 1 rfl) rfl (lv_at hl 1 rfl) ?_
  refine lv_iload_n hx hb (dk_at dkX0_placesOf_0 2 rfl) rfl (lv_at hl 2 rfl) ?_
  refine lv_aload_n hx hb (dk_at dkX0_placesOf_0 3 rfl) rfl (lv_at hl 1 rfl) ?_
  refine lv_iload_n hx hb (dk_at dkX0_placesOf_0 4 rfl) rfl (lv_at hl 2 rfl) ?_
  refine k_calli (As := [.int (iI x2)]) (rest := [.int (iI x2), .ref (q ta), .ref (q 6)]) ⟨hx, hb, hml, hown, hts⟩ hE (kc_X9_keysOf l dC dI cB cI cJ cZ cQ aL aS q _ ta x2 hI hta hx2) (cwV 1 hts (goodVk wkq_0_3 wkq_0_4 wkq_0_5 wkq_0_6 wkq_0_7) rfl rfl rfl (by decide +kernel) ⟨Nat.le_of_ble_eq_true rfl, Nat.le_of_ble_eq_true rfl⟩) hK hDD hA0 hP hS ta 9 (wkT hta) rfl rfl hl.1 (Nat.le_of_ble_eq_true rfl) (dk_at dkX0_placesOf_0 5 rfl) (fun z1 A2 H locs hw3 hP hS => ?_)
  obtain ⟨rfl, hw3⟩ := hw3
  have ghw3 : q_X9_keysOf ta x2 A z1 := hw3
  have hw3 := hw3.2
  refine lv_iconst (v := iI 3) hx hb (dk_at dkX0_placesOf_0 6 rfl) (by decide +kernel) ?_
  refine lv_iconst (v := iI 1) hx hb (dk_at dkX0_placesOf_0 7 rfl) (by decide +kernel) ?_
  refine lv_aload_n hx hb (dk_at dkX0_placesOf_0 8 rfl) rfl (lv_at hl 1 rfl) ?_
  refine va_get (D := (dC, dI)) (ci := 9) (v := .ref (q (ta + 1))) (C := RX9) (T := TX9) (N := 16) hx hb hts hiX9 hown hK hP ta (wkT hta) rfl 0 (by decide) (hts _ (List.mem_cons_of_mem _ wkq_0_1)) (fun _ h9 => h9) rfl (dk_at dkX0_placesOf_0 9 rfl) ?_
  refine lv_iconst (v := iI 0) hx hb (dk_at dkX0_placesOf_0 10 rfl) (by decide +kernel) ?_
  refine x_iald (Wf := WK cB cI cJ cZ cQ q) hx hb hK hP (ta + 1) 1 (wkTc hta) rfl (by decide) (by decide) (dk_at dkX0_placesOf_0 11 rfl) (fun z4 hz4 => ?_)
  have rz4 : (0 : Int) ≤ z4 ∧ z4 ≤ 8 := by rw [hz4]; exact irTc0 hta hI
  have gz4 := Hd.mk hz4
  refine lv_ishl hx hb (dk_at dkX0_placesOf_0 12 rfl) ?_
  refine x_absE (fun z5 gz5 hz5 => ?_)
  refine lv_iconst (v := iI 1) hx hb (dk_at dkX0_placesOf_0 13 rfl) (by decide +kernel) ?_
  refine x_subv (v := z5 - 1) hx hb (dk_at dkX0_placesOf_0 14 rfl) (by omega) ?_
  refine x_absE (fun z6 gz6 hz6 => ?_)
  refine k_calli (As := [.ref (q ta), .int (iI x2), .int (iI z1), .int (iI 3), .int (iI z6)]) (rest := []) ⟨hx, hb, hml, hown, hts⟩ hE (kc_X0_search l dC dI cB cI cJ cZ cQ aL aS q _ ta x2 z1 3 z6 hI hta hx2 hw3 ⟨by decide, by decide⟩ hz6) (cwV 5 hts (goodVk wkq_0_11 wkq_0_12 wkq_0_13 wkq_0_14 wkq_0_15) rfl rfl rfl (by decide +kernel) ⟨Nat.le_of_ble_eq_true rfl, Nat.le_of_ble_eq_true rfl⟩) hK hDD hA0 hP hS 6 0 (wkAL) rfl rfl hl.1 (Nat.le_of_ble_eq_true rfl) (dk_at dkX0_placesOf_0 15 rfl) (fun z7 A8 H locs hw9 hP hS => ?_)
  have ghw9 : q_X0_search ta x2 z1 3 z6 A z7 A8 := hw9
  obtain ⟨_, hI, hf10, hw9⟩ := hw9
  refine lv_pop hx hb (dk_at dkX0_placesOf_1 0 rfl) rfl ?_
  refine lv_aload_n hx hb (dk_at dkX0_placesOf_1 1 rfl) rfl (lv_at hl 0 rfl) ?_
  have r11 : (-2147483648 : Int) ≤ (A8 6 15) ∧ (A8 6 15) ≤ 2147483647 := irAL_15 hI
  refine va_get (D := (dC, dI)) (ci := 0) (v := .int (iI (A8 6 15))) (C := RX0) (T := TX0) (N := 17) hx hb hts hiX0 hown hK hP 6 (wkAL) rfl 15 (by decide) (hts _ (List.mem_cons_of_mem _ wkq_0_2)) (fun _ h9 => h9) rfl (dk_at dkX0_placesOf_1 2 rfl) ?_
  exact RET (A8 6 15) _ _ _ _ _ ⟨(u_r_X0_placesOf ⟨z1, ghw3, ⟨z4, gz4.out, ⟨z5, gz5.out, ⟨z6, gz6.out, ⟨z7, A8, ghw9, ⟨rfl, rfl⟩⟩⟩⟩⟩⟩), hI, fk.trans (fk.rf) hf10 rfl rfl, r11⟩ hP hS (dk_at dkX0_placesOf_1 3 rfl)

abbrev tr_d_X0_bestLent_3 (K1 : Int → Int → St → Prop) (z5 : Int) (z : Int) (u : St) (z44 : Int) (A46 : St) : Prop := ((IK A46) ∧ ((-2147483648 ≤ z44 ∧ z44 ≤ 2147483647) ∧ (K1 (z5 + 1) z44 A46)))
def d_X0_bestLent_3 (K1 : Int → Int → St → Prop) (z5 : Int) (z : Int) (u : St) (z44 : Int) (A46 : St) : Prop := tr_d_X0_bestLent_3 K1 z5 z u z44 A46
theorem u_d_X0_bestLent_3 {K1 : Int → Int → St → Prop} {z5 : Int} {z : Int} {u : St} {z44 : Int} {A46 : St} (h : tr_d_X0_bestLent_3 K1 z5 z u z44 A46) : d_X0_bestLent_3 K1 z5 z u z44 A46 := h
abbrev tr_d_X0_bestLent_2 (K1 : Int → Int → St → Prop) (z5 : Int) (z32 : Int) (A33 : St) (z : Int) (u : St) : Prop := (∃ A43 : St, A43 = stA A33 6 16 z32 ∧ (d_X0_bestLent_3 K1 z5 z u z5 A43))
def d_X0_bestLent_2 (K1 : Int → Int → St → Prop) (z5 : Int) (z32 : Int) (A33 : St) (z : Int) (u : St) : Prop := tr_d_X0_bestLent_2 K1 z5 z32 A33 z u
theorem u_d_X0_bestLent_2 {K1 : Int → Int → St → Prop} {z5 : Int} {z32 : Int} {A33 : St} {z : Int} {u : St} (h : tr_d_X0_bestLent_2 K1 z5 z32 A33 z u) : d_X0_bestLent_2 K1 z5 z32 A33 z u := h
abbrev tr_d_X0_bestLent_1 (ta : Nat) (x2 : Int) (x3 : Int) (z1 : Int) (z : Int) (u : St) (K1 : Int → Int → St → Prop) (z5 : Int) (z6 : Int) (A8 : St) : Prop := ((IK A8) ∧ ((0 ≤ z5 ∧ z5 ≤ 2147483647) ∧ ((-2147483648 ≤ z6 ∧ z6 ≤ 2147483647) ∧ (∃ z20 : Int, z20 = A8 (ta + 1) (2 : Int).toNat ∧ (((z20 ≤ z5) ∧ (z = z6 ∧ u = A8)) ∨ ((¬ z20 ≤ z5) ∧ (∃ z22 : Int, z22 = oShr z1 z5 ∧ (∃ z23 : Int, z23 = oAnd z22 1 ∧ (((¬ z23 = 0) ∧ (d_X0_bestLent_3 K1 z5 z u z6 A8)) ∨ ((z23 = 0) ∧ (∃ z28 : Int, z28 = A8 ((ta + 22) + 2) (z5).toNat ∧ (((z28 = 40) ∧ (d_X0_bestLent_3 K1 z5 z u z6 A8)) ∨ ((¬ z28 = 40) ∧ (∃ z30 : Int, z30 = oShl 1 z5 ∧ (∃ z31 : Int, z31 = oOr z1 z30 ∧ (∃ z32 : Int, ∃ A33 : St, q_X0_search ta x2 z31 0 x3 A8 z32 A33 ∧ (((z32 = (-1)) ∧ (d_X0_bestLent_3 K1 z5 z u z6 A33)) ∨ ((¬ z32 = (-1)) ∧ (((z6 = (-1)) ∧ (d_X0_bestLent_2 K1 z5 z32 A33 z u)) ∨ ((¬ z6 = (-1)) ∧ ((((A8 6 16) ≤ z32) ∧ (d_X0_bestLent_3 K1 z5 z u z6 A33)) ∨ ((¬ (A8 6 16) ≤ z32) ∧ (d_X0_bestLent_2 K1 z5 z32 A33 z u)))))))))))))))))))))))
def d_X0_bestLent_1 (ta : Nat) (x2 : Int) (x3 : Int) (z1 : Int) (z : Int) (u : St) : Nat → Int → Int → St → Prop
  | 0, _, _, _ => False
  | nn9 + 1, z5, z6, A8 => tr_d_X0_bestLent_1 ta x2 x3 z1 z u (fun z5 z6 A8 => d_X0_bestLent_1 ta x2 x3 z1 z u nn9 z5 z6 A8) z5 z6 A8
theorem u_d_X0_bestLent_1 {ta : Nat} {x2 : Int} {x3 : Int} {z1 : Int} {z : Int} {u : St} {nn9 : Nat} {z5 : Int} {z6 : Int} {A8 : St} (h : tr_d_X0_bestLent_1 ta x2 x3 z1 z u (fun z5 z6 A8 => d_X0_bestLent_1 ta x2 x3 z1 z u nn9 z5 z6 A8) z5 z6 A8) : d_X0_bestLent_1 ta x2 x3 z1 z u (nn9 + 1) z5 z6 A8 := h
abbrev tr_r_X0_bestLent (ta : Nat) (x2 : Int) (x3 : Int) (A : St) (z : Int) (u : St) : Prop := (∃ z1 : Int, q_X9_keysOf ta x2 A z1 ∧ (∃ A4 : St, A4 = stA A 6 16 (-1) ∧ (∃ nn9 : Nat, d_X0_bestLent_1 ta x2 x3 z1 z u nn9 0 (-1) A4)))
def r_X0_bestLent (ta : Nat) (x2 : Int) (x3 : Int) (A : St) (z : Int) (u : St) : Prop := tr_r_X0_bestLent ta x2 x3 A z u
theorem u_r_X0_bestLent {ta : Nat} {x2 : Int} {x3 : Int} {A : St} {z : Int} {u : St} (h : tr_r_X0_bestLent ta x2 x3 A z u) : r_X0_bestLent ta x2 x3 A z u := h
def q_X0_bestLent (ta : Nat) (x2 : Int) (x3 : Int) (A : St) (z : Int) (u : St) : Prop := r_X0_bestLent ta x2 x3 A z u ∧ IK u ∧ fk [7, 9, 10, 11, 12, 13, 14, 15, 16, 17, 18, 19, 72, 103] [(6, 7), (6, 8), (6, 9), (6, 10), (6, 11), (6, 12), (6, 13), (6, 14), (6, 15), (6, 16)] A u ∧ (-2147483648 ≤ z ∧ z ≤ 2147483647)
def ws_kc_X0_bestLent : List Cond := .code yX0_bestLent cX0_bestLent 8 (some .int) :: WY
set_option maxHeartbeats 4000000 in
set_option maxRecDepth 100000 in
theorem kc_X0_bestLent (l : Launch) (dC : Nat → ClassId) (dI : Nat → Nat → Nat) (cB cI cJ cZ cQ : ClassId) (aL aS : Nat) (q : Nat → Nat) (A : St) (ta : Nat) (x2 x3 : Int) (hI : IK A) (hta : isT ta) (hx2 : (-2147483648 : Int) ≤ x2 ∧ x2 ≤ 2147483647) (hx3 : (-2147483648 : Int) ≤ x3 ∧ x3 ≤ 2147483647) : KMi l yX0_bestLent ws_kc_X0_bestLent ({ frames := 6, cells := 0, slots := 0, locals := 155 } : Room) aL aS (dC, dI) (tyA cB cI cJ cZ cQ) (WK cB cI cJ cZ cQ q) A [.ref (q 6), .ref (q ta), .int (iI x2), .int (iI x3)] (fun z u => r_X0_bestLent ta x2 x3 A z u ∧ IK u ∧ fk [7, 9, 10, 11, 12, 13, 14, 15, 16, 17, 18, 19, 72, 103] [(6, 7), (6, 8), (6, 9), (6, 10), (6, 11), (6, 12), (6, 13), (6, 14), (6, 15), (6, 16)] A u ∧ (-2147483648 ≤ z ∧ z ≤ 2147483647)) := by
  refine k_meti (cc := cX0_bestLent) (maxL := 8) WK_adr (plainFor_of_name (by decide +kernel)) rfl (Nat.le_of_ble_eq_true rfl) (fun p e s m below meth c Q AS ls hx hb hml hown hts hK hDD hA0 hE RET H locs hP hS hl => ?_)
  have hown : s.vm.findClass RX0 = some m.cls := hown
  have hl : lv_has ls 8 [(0, .ref (q 6)), (1, .ref (q ta)), (2, .int (iI x2)), (3, .int (iI x3))] := hl
  have hiX0 : ∀ w ∈ u_ws RX0 TX0 17, w ∈ ws_kc_X0_bestLent := fun w h => List.mem_cons_of_mem _ (wy_layX0 w h)
  have hiX9 : ∀ w ∈ u_ws RX9 TX9 16, w ∈ ws_kc_X0_bestLent := fun w h => List.mem_cons_of_mem _ (wy_layX9 w h)
  have hiX6 : ∀ w ∈ u_ws RX6 TX6 4, w ∈ ws_kc_X0_bestLent := fun w h => List.mem_cons_of_mem _ (wy_layX6 w h)
  refine lv_aload_n hx hb (dk_at dkX0_bestLent_0 0 rfl) rfl (lv_at hl 1 rfl) ?_
  refine lv_iload_n hx hb (dk_at dkX0_bestLent_0 1 rfl) rfl (lv_at hl 2 rfl) ?_
  refine k_calli (As := [.int (iI x2)]) (rest := []) ⟨hx, hb, hml, hown, hts⟩ hE (kc_X9_keysOf l dC dI cB cI cJ cZ cQ aL aS q _ ta x2 hI hta hx2) (cwV 1 hts (goodVk wkq_0_3 wkq_0_4 wkq_0_5 wkq_0_6 wkq_0_7) rfl rfl rfl (by decide +kernel) ⟨Nat.le_of_ble_eq_true rfl, Nat.le_of_ble_eq_true rfl⟩) hK hDD hA0 hP hS ta 9 (wkT hta) rfl rfl hl.1 (Nat.le_of_ble_eq_true rfl) (dk_at dkX0_bestLent_0 2 rfl) (fun z1 A2 H locs hw3 hP hS => ?_)
  obtain ⟨rfl, hw3⟩ := hw3
  have ghw3 : q_X9_keysOf ta x2 A z1 := hw3
  have hw3 := hw3.2
  refine lv_istore (lv' := [(4, .int (iI z1)), (0, .ref (q 6)), (1, .ref (q ta)), (2, .int (iI x2)), (3, .int (iI x3))]) hx hb (dk_at dkX0_bestLent_0 3 rfl) hl (by decide) rfl (fun ls hl => ?_)
  refine lv_iconst (v := iI (-1)) hx hb (dk_at dkX0_bestLent_0 4 rfl) (by decide +kernel) ?_
  refine lv_istore (lv' := [(5, .int (iI (-1))), (4, .int (iI z1)), (0, .ref (q 6)), (1, .ref (q ta)), (2, .int (iI x2)), (3, .int (iI x3))]) hx hb (dk_at dkX0_bestLent_0 5 rfl) hl (by decide) rfl (fun ls hl => ?_)
  refine lv_aload_n hx hb (dk_at dkX0_bestLent_0 6 rfl) rfl (lv_at hl 2 rfl) ?_
  refine lv_iconst (v := iI (-1)) hx hb (dk_at dkX0_bestLent_0 7 rfl) (by decide +kernel) ?_
  refine k_put (Wf := WK cB cI cJ cZ cQ q) (D := (dC, dI)) (ci := 0) (v := .int (iI (-1))) (ty := .int) (C := RX0) (T := TX0) (N := 17) hx hb hts hiX0 tyX0 tyX0_ok nmX0 hown hK hP hDD hS 6 (wkAL) rfl 16 (by decide) (hts _ (List.mem_cons_of_mem _ wkq_2_59)) (fun _ h9 => h9) rfl (by decide +kernel) rfl rfl (Nat.le_of_ble_eq_true rfl) (dk_at dkX0_bestLent_0 8 rfl) (wfAL_16 (v := (-1))) (fun H locs A4 hA4 hP hS => ?_)
  have hI := isAL_16 hA4 hI (show (-2147483648 : Int) ≤ (-1) ∧ (-1) ≤ 2147483647 from ⟨by decide, by decide⟩)
  refine lv_iconst (v := iI 0) hx hb (dk_at dkX0_bestLent_0 9 rfl) (by decide +kernel) ?_
  refine lv_istore (lv' := [(6, .int (iI 0)), (5, .int (iI (-1))), (4, .int (iI z1)), (0, .ref (q 6)), (1, .ref (q ta)), (2, .int (iI x2)), (3, .int (iI x3))]) hx hb (dk_at dkX0_bestLent_0 10 rfl) hl (by decide) rfl (fun ls hl => ?_)
  have L18_9 : ∀ (n16 : Nat) (z5 z6 : Int) (A8 : St) (H : Heap) (locs : List Loc) (ls : Array Slot), (0 ≤ z5 ∧ z5 ≤ 2147483647) → (-2147483648 ≤ z6 ∧ z6 ≤ 2147483647) → (∀ (z : Int) (u : St), (∃ mm1 : Nat, (d_X0_bestLent_1 ta x2 x3 z1 z u mm1 z5 z6 A8)) → r_X0_bestLent ta x2 x3 A z u) → ((5 - z5).toNat = n16) → IK A8 → fk [7, 9, 10, 11, 12, 13, 14, 15, 16, 17, 18, 19, 72, 103] [(6, 7), (6, 8), (6, 9), (6, 10), (6, 11), (6, 12), (6, 13), (6, 14), (6, 15), (6, 16)] A4 A8 → va_P (dC, dI) vwCl (WK cB cI cJ cZ cQ q A8) H → va_S AS s.heap H locs → lv_has ls 8 [(6, .int (iI z5)), (5, .int (iI z6)), (4, .int (iI z1)), (0, .ref (q 6)), (1, .ref (q ta)), (2, .int (iI x2)), (3, .int (iI x3))] → W p l e (headSpec ws_kc_X0_bestLent ({ frames := 6, cells := 0, slots := 0, locals := 155 } : Room)).room s m [.ref (q 6), .ref (q ta), .int (iI x2), .int (iI x3)].toArray below meth c H locs 0 0 Q (F0 m 18 ls []) := by
    intro n16
    induction n16 using Nat.strongRecOn with
    | ind n16 ih10 =>
      intro z5 z6 A8 H locs ls f11 f12 hk1 hn16 hI hj7 hP hS hl
      have gI17 : Hd (IK A8) := Hd.mk hI
      refine lv_iload hx hb (dk_at dkX0_bestLent_0 11 rfl) (lv_at hl 0 rfl) ?_
      refine lv_aload_n hx hb (dk_at dkX0_bestLent_0 12 rfl) rfl (lv_at hl 4 rfl) ?_
      refine va_get (D := (dC, dI)) (ci := 9) (v := .ref (q (ta + 1))) (C := RX9) (T := TX9) (N := 16) hx hb hts hiX9 hown hK hP ta (wkT hta) rfl 0 (by decide) (hts _ (List.mem_cons_of_mem _ wkq_0_1)) (fun _ h9 => h9) rfl (dk_at dkX0_bestLent_0 13 rfl) ?_
      refine lv_iconst (v := iI 2) hx hb (dk_at dkX0_bestLent_0 14 rfl) (by decide +kernel) ?_
      have a19 : ∀ k, A4 (ta + 1) k = A (ta + 1) k := fun k => rd_ne hA4 (by rcases hta with h | h <;> omega) k
      have a18 : ∀ k, A8 (ta + 1) k = A (ta + 1) k := fun k => (hj7 (ta + 1) k (isT.b2 (o := fun b => List.contains [7, 9, 10, 11, 12, 13, 14, 15, 16, 17, 18, 19, 72, 103] (b + 1)) hta rfl rfl) (isT.b2 (o := fun b => fin2 [(6, 7), (6, 8), (6, 9), (6, 10), (6, 11), (6, 12), (6, 13), (6, 14), (6, 15), (6, 16)] (b + 1) k) hta rfl rfl)).trans (a19 k)
      refine x_iald (Wf := WK cB cI cJ cZ cQ q) hx hb hK hP (ta + 1) 1 (wkTc hta) rfl (by decide) (by decide) (dk_at dkX0_bestLent_0 15 rfl) (fun z20 hz20 => ?_)
      have rz20 : (0 : Int) ≤ z20 ∧ z20 ≤ 4 := by rw [hz20]; exact irTc2 hta hI
      have gz20 := Hd.mk hz20
      have hz20 : z20 = A (ta + 1) (2 : Int).toNat := hz20.trans (a18 _)
      refine lv_icmp_ge (tgt := 108) hx hb (dk_at dkX0_bestLent_1 0 rfl) (by decide) (fun c21 => ?_) (fun c21 => ?_)
      · have c21 : z20 ≤ z5 := (i_le (rb rz20 (by decide) (by decide)) (rb f11 (by decide) (by decide))).mp c21
        refine lv_iload hx hb (dk_at dkX0_bestLent_3 11 rfl) (lv_at hl 1 rfl) ?_
        exact RET z6 _ _ _ _ _ ⟨hk1 _ _ ⟨0 + 1, (u_d_X0_bestLent_1 ⟨gI17.out, ⟨f11, ⟨f12, ⟨z20, gz20.out, (Or.inl ⟨c21, ⟨rfl, rfl⟩⟩)⟩⟩⟩⟩)⟩, hI, fk.trans (fk.df (fk.rf) hA4 rfl) hj7 rfl rfl, f12⟩ hP hS (dk_at dkX0_bestLent_3 12 rfl)
      · have c21 : ¬ z20 ≤ z5 := mt (i_le (rb rz20 (by decide) (by decide)) (rb f11 (by decide) (by decide))).mpr c21
        refine lv_iload hx hb (dk_at dkX0_bestLent_1 1 rfl) (lv_at hl 2 rfl) ?_
        refine lv_iload hx hb (dk_at dkX0_bestLent_1 2 rfl) (lv_at hl 0 rfl) ?_
        refine lv_ishr hx hb (dk_at dkX0_bestLent_1 3 rfl) ?_
        refine x_absE (fun z22 gz22 hz22 => ?_)
        refine lv_iconst (v := iI 1) hx hb (dk_at dkX0_bestLent_1 4 rfl) (by decide +kernel) ?_
        refine lv_iand hx hb (dk_at dkX0_bestLent_1 5 rfl) ?_
        refine x_andE (b := 1) (by omega) (fun z23 gz23 hz23 => ?_)
        have J102_25 : ∀ (z44 : Int) (A46 : St) (H : Heap) (locs : List Loc) (ls : Array Slot), (-2147483648 ≤ z44 ∧ z44 ≤ 2147483647) → (∀ (z : Int) (u : St), (∃ mm1 : Nat, (d_X0_bestLent_3 (fun z5' z6' A8' => d_X0_bestLent_1 ta x2 x3 z1 z u mm1 z5' z6' A8') z5 z u z44 A46)) → r_X0_bestLent ta x2 x3 A z u) → IK A46 → fk [7, 9, 10, 11, 12, 13, 14, 15, 16, 17, 18, 19, 72, 103] [(6, 7), (6, 8), (6, 9), (6, 10), (6, 11), (6, 12), (6, 13), (6, 14), (6, 15), (6, 16)] A8 A46 → va_P (dC, dI) vwCl (WK cB cI cJ cZ cQ q A46) H → va_S AS s.heap H locs → lv_has ls 8 [(6, .int (iI z5)), (5, .int (iI z44)), (4, .int (iI z1)), (0, .ref (q 6)), (1, .ref (q ta)), (2, .int (iI x2)), (3, .int (iI x3))] → W p l e (headSpec ws_kc_X0_bestLent ({ frames := 6, cells := 0, slots := 0, locals := 155 } : Room)).room s m [.ref (q 6), .ref (q ta), .int (iI x2), .int (iI x3)].toArray below meth c H locs 0 0 Q (F0 m 102 ls []) := by
          intro z44 A46 H locs ls f47 hk3 hI hj45 hP hS hl
          have gI48 : Hd (IK A46) := Hd.mk hI
          refine lv_iinc (v := iI (z5 + 1)) (lv' := [(6, .int (iI (z5 + 1))), (5, .int (iI z44)), (4, .int (iI z1)), (0, .ref (q 6)), (1, .ref (q ta)), (2, .int (iI x2)), (3, .int (iI x3))]) hx hb (dk_at dkX0_bestLent_3 9 rfl) hl (k := 0) rfl (i_inc (by omega)) (by decide) rfl (fun ls hl => ?_)
          refine lv_goto (tgt := 18) hx hb (dk_at dkX0_bestLent_3 10 rfl) (by decide) ?_
          exact ih10 _ (by omega) (z5 + 1) z44 _ _ _ _ (by omega) (by omega) (fun zq uq ⟨mm1, hq⟩ => hk3 _ _ ⟨mm1, (u_d_X0_bestLent_3 ⟨gI48.out, ⟨f47, hq⟩⟩)⟩) rfl hI (fk.trans (fk.trans (fk.rf) hj7 rfl rfl) hj45 rfl rfl) hP hS (lv_sub hl [0, 1, 2, 3, 4, 5, 6] rfl)
        refine lv_if_ne (tgt := 102) hx hb (dk_at dkX0_bestLent_1 6 rfl) (by decide) (fun c24 => ?_) (fun c24 => ?_)
        · have c24 : ¬ z23 = 0 := mt (i_eq0 (by omega)).mpr c24
          exact J102_25 z6 _ _ _ _ (by omega) (fun zq uq ⟨mm1, hq⟩ => hk1 _ _ ⟨mm1 + 1, (u_d_X0_bestLent_1 ⟨gI17.out, ⟨f11, ⟨f12, ⟨z20, gz20.out, (Or.inr ⟨c21, ⟨z22, gz22.out, ⟨z23, gz23.out, (Or.inl ⟨c24, hq⟩)⟩⟩⟩)⟩⟩⟩⟩)⟩) hI (fk.rf) hP hS (lv_sub hl [0, 1, 2, 3, 4, 5, 6] rfl)
        · have c24 : z23 = 0 := (i_eq0 (by omega)).mp c24
          refine lv_aload_n hx hb (dk_at dkX0_bestLent_1 7 rfl) rfl (lv_at hl 4 rfl) ?_
          refine va_get (D := (dC, dI)) (ci := 9) (v := .ref (q (ta + 22))) (C := RX9) (T := TX9) (N := 16) hx hb hts hiX9 hown hK hP ta (wkT hta) rfl 14 (by decide) (hts _ (List.mem_cons_of_mem _ wkq_0_18)) (fun _ h9 => h9) rfl (dk_at dkX0_bestLent_1 8 rfl) ?_
          refine va_get (D := (dC, dI)) (ci := 6) (v := .ref (q ((ta + 22) + 2))) (C := RX6) (T := TX6) (N := 4) hx hb hts hiX6 hown hK hP (ta + 22) (wkS hta.s) rfl 1 (by decide) (hts _ (List.mem_cons_of_mem _ wkq_3_0)) (fun _ h9 => h9) rfl (dk_at dkX0_bestLent_1 9 rfl) ?_
          refine lv_iload hx hb (dk_at dkX0_bestLent_1 10 rfl) (lv_at hl 0 rfl) ?_
          have a27 : ∀ k, A4 ((ta + 22) + 2) k = A ((ta + 22) + 2) k := fun k => rd_ne hA4 (by rcases hta.s with h | h | h | h <;> omega) k
          have a26 : ∀ k, A8 ((ta + 22) + 2) k = A ((ta + 22) + 2) k := fun k => (hj7 ((ta + 22) + 2) k (isS.b2 (o := fun b => List.contains [7, 9, 10, 11, 12, 13, 14, 15, 16, 17, 18, 19, 72, 103] (b + 2)) hta.s rfl rfl rfl rfl) (isS.b2 (o := fun b => fin2 [(6, 7), (6, 8), (6, 9), (6, 10), (6, 11), (6, 12), (6, 13), (6, 14), (6, 15), (6, 16)] (b + 2) k) hta.s rfl rfl rfl rfl)).trans (a27 k)
          refine x_iald (Wf := WK cB cI cJ cZ cQ q) hx hb hK hP ((ta + 22) + 2) 1 (wkSw hta.s) rfl (by omega) (by decide) (dk_at dkX0_bestLent_1 11 rfl) (fun z28 hz28 => ?_)
          have rz28 : (-2147483648 : Int) ≤ z28 ∧ z28 ≤ 2147483647 := by rw [hz28]; exact irSw hta.s hI
          have gz28 := Hd.mk hz28
          have hz28 : z28 = A ((ta + 22) + 2) (z5).toNat := hz28.trans (a26 _)
          refine lv_bipush (v := iI 40) hx hb (dk_at dkX0_bestLent_1 12 rfl) (by decide +kernel) ?_
          refine lv_icmp_eq (tgt := 102) hx hb (dk_at dkX0_bestLent_1 13 rfl) (by decide) (fun c29 => ?_) (fun c29 => ?_)
          · have c29 : z28 = 40 := (i_eq rz28 ⟨by decide, by decide⟩).mp c29
            exact J102_25 z6 _ _ _ _ (by omega) (fun zq uq ⟨mm1, hq⟩ => hk1 _ _ ⟨mm1 + 1, (u_d_X0_bestLent_1 ⟨gI17.out, ⟨f11, ⟨f12, ⟨z20, gz20.out, (Or.inr ⟨c21, ⟨z22, gz22.out, ⟨z23, gz23.out, (Or.inr ⟨c24, ⟨z28, gz28.out, (Or.inl ⟨c29, hq⟩)⟩⟩)⟩⟩⟩)⟩⟩⟩⟩)⟩) hI (fk.rf) hP hS (lv_sub hl [0, 1, 2, 3, 4, 5, 6] rfl)
          · have c29 : ¬ z28 = 40 := mt (i_eq rz28 ⟨by decide, by decide⟩).mpr c29
            refine lv_aload_n hx hb (dk_at dkX0_bestLent_1 14 rfl) rfl (lv_at hl 3 rfl) ?_
            refine lv_aload_n hx hb (dk_at dkX0_bestLent_1 15 rfl) rfl (lv_at hl 4 rfl) ?_
            refine lv_iload_n hx hb (dk_at dkX0_bestLent_2 0 rfl) rfl (lv_at hl 5 rfl) ?_
            refine lv_iload hx hb (dk_at dkX0_bestLent_2 1 rfl) (lv_at hl 2 rfl) ?_
            refine lv_iconst (v := iI 1) hx hb (dk_at dkX0_bestLent_2 2 rfl) (by decide +kernel) ?_
            refine lv_iload hx hb (dk_at dkX0_bestLent_2 3 rfl) (lv_at hl 0 rfl) ?_
            refine lv_ishl hx hb (dk_at dkX0_bestLent_2 4 rfl) ?_
            refine x_absE (fun z30 gz30 hz30 => ?_)
            refine lv_ior hx hb (dk_at dkX0_bestLent_2 5 rfl) ?_
            refine x_absE (fun z31 gz31 hz31 => ?_)
            refine lv_iconst (v := iI 0) hx hb (dk_at dkX0_bestLent_2 6 rfl) (by decide +kernel) ?_
            refine lv_iload_n hx hb (dk_at dkX0_bestLent_2 7 rfl) rfl (lv_at hl 6 rfl) ?_
            refine k_calli (As := [.ref (q ta), .int (iI x2), .int (iI z31), .int (iI 0), .int (iI x3)]) (rest := []) ⟨hx, hb, hml, hown, hts⟩ hE (kc_X0_search l dC dI cB cI cJ cZ cQ aL aS q _ ta x2 z31 0 x3 hI hta hx2 hz31 ⟨by decide, by decide⟩ hx3) (cwV 5 hts (goodVk wkq_0_11 wkq_0_12 wkq_0_13 wkq_0_14 wkq_0_15) rfl rfl rfl (by decide +kernel) ⟨Nat.le_of_ble_eq_true rfl, Nat.le_of_ble_eq_true rfl⟩) hK hDD hA0 hP hS 6 0 (wkAL) rfl rfl hl.1 (Nat.le_of_ble_eq_true rfl) (dk_at dkX0_bestLent_2 8 rfl) (fun z32 A33 H locs hw34 hP hS => ?_)
            have ghw34 : q_X0_search ta x2 z31 0 x3 A8 z32 A33 := hw34
            obtain ⟨_, hI, hf35, hw34⟩ := hw34
            refine lv_istore (lv' := [(7, .int (iI z32)), (6, .int (iI z5)), (5, .int (iI z6)), (4, .int (iI z1)), (0, .ref (q 6)), (1, .ref (q ta)), (2, .int (iI x2)), (3, .int (iI x3))]) hx hb (dk_at dkX0_bestLent_2 9 rfl) hl (by decide) rfl (fun ls hl => ?_)
            refine lv_iload hx hb (dk_at dkX0_bestLent_2 10 rfl) (lv_at hl 0 rfl) ?_
            refine lv_iconst (v := iI (-1)) hx hb (dk_at dkX0_bestLent_2 11 rfl) (by decide +kernel) ?_
            refine lv_icmp_eq (tgt := 102) hx hb (dk_at dkX0_bestLent_2 12 rfl) (by decide) (fun c36 => ?_) (fun c36 => ?_)
            · have c36 : z32 = (-1) := (i_eq hw34 ⟨by decide, by decide⟩).mp c36
              exact J102_25 z6 _ _ _ _ (by omega) (fun zq uq ⟨mm1, hq⟩ => hk1 _ _ ⟨mm1 + 1, (u_d_X0_bestLent_1 ⟨gI17.out, ⟨f11, ⟨f12, ⟨z20, gz20.out, (Or.inr ⟨c21, ⟨z22, gz22.out, ⟨z23, gz23.out, (Or.inr ⟨c24, ⟨z28, gz28.out, (Or.inr ⟨c29, ⟨z30, gz30.out, ⟨z31, gz31.out, ⟨z32, A33, ghw34, (Or.inl ⟨c36, hq⟩)⟩⟩⟩⟩)⟩⟩)⟩⟩⟩)⟩⟩⟩⟩)⟩) hI (fk.trans (fk.rf) hf35 rfl rfl) hP hS (lv_sub hl [1, 2, 3, 4, 5, 6, 7] rfl)
            · have c36 : ¬ z32 = (-1) := mt (i_eq hw34 ⟨by decide, by decide⟩).mpr c36
              refine lv_iload hx hb (dk_at dkX0_bestLent_2 13 rfl) (lv_at hl 2 rfl) ?_
              refine lv_iconst (v := iI (-1)) hx hb (dk_at dkX0_bestLent_2 14 rfl) (by decide +kernel) ?_
              have J92_38 : ∀ (H : Heap) (locs : List Loc) (ls : Array Slot), (∀ (z : Int) (u : St), (∃ mm1 : Nat, (d_X0_bestLent_2 (fun z5' z6' A8' => d_X0_bestLent_1 ta x2 x3 z1 z u mm1 z5' z6' A8') z5 z32 A33 z u)) → r_X0_bestLent ta x2 x3 A z u) → va_P (dC, dI) vwCl (WK cB cI cJ cZ cQ q A33) H → va_S AS s.heap H locs → lv_has ls 8 [(7, .int (iI z32)), (6, .int (iI z5)), (5, .int (iI z6)), (4, .int (iI z1)), (0, .ref (q 6)), (1, .ref (q ta)), (2, .int (iI x2)), (3, .int (iI x3))] → W p l e (headSpec ws_kc_X0_bestLent ({ frames := 6, cells := 0, slots := 0, locals := 155 } : Room)).room s m [.ref (q 6), .ref (q ta), .int (iI x2), .int (iI x3)].toArray below meth c H locs 0 0 Q (F0 m 92 ls []) := by
                intro H locs ls hk2 hP hS hl
                refine lv_iload hx hb (dk_at dkX0_bestLent_3 4 rfl) (lv_at hl 1 rfl) ?_
                refine lv_istore (lv' := [(5, .int (iI z5)), (7, .int (iI z32)), (6, .int (iI z5)), (4, .int (iI z1)), (0, .ref (q 6)), (1, .ref (q ta)), (2, .int (iI x2)), (3, .int (iI x3))]) hx hb (dk_at dkX0_bestLent_3 5 rfl) hl (by decide) rfl (fun ls hl => ?_)
                refine lv_aload_n hx hb (dk_at dkX0_bestLent_3 6 rfl) rfl (lv_at hl 4 rfl) ?_
                refine lv_iload hx hb (dk_at dkX0_bestLent_3 7 rfl) (lv_at hl 1 rfl) ?_
                refine k_put (Wf := WK cB cI cJ cZ cQ q) (D := (dC, dI)) (ci := 0) (v := .int (iI z32)) (ty := .int) (C := RX0) (T := TX0) (N := 17) hx hb hts hiX0 tyX0 tyX0_ok nmX0 hown hK hP hDD hS 6 (wkAL) rfl 16 (by decide) (hts _ (List.mem_cons_of_mem _ wkq_2_59)) (fun _ h9 => h9) rfl (by decide +kernel) rfl rfl (Nat.le_of_ble_eq_true rfl) (dk_at dkX0_bestLent_3 8 rfl) (wfAL_16 (v := z32)) (fun H locs A43 hA43 hP hS => ?_)
                have hI := isAL_16 hA43 hI (show (-2147483648 : Int) ≤ z32 ∧ z32 ≤ 2147483647 from hw34)
                exact J102_25 z5 _ _ _ _ (by omega) (fun zq uq ⟨mm1, hq⟩ => hk2 _ _ ⟨mm1, (u_d_X0_bestLent_2 ⟨A43, hA43, hq⟩)⟩) hI (fk.df (fk.trans (fk.rf) hf35 rfl rfl) hA43 rfl) hP hS (lv_sub hl [2, 0, 3, 4, 5, 6, 7] rfl)
              refine lv_icmp_eq (tgt := 92) hx hb (dk_at dkX0_bestLent_2 15 rfl) (by decide) (fun c37 => ?_) (fun c37 => ?_)
              · have c37 : z6 = (-1) := (i_eq f12 ⟨by decide, by decide⟩).mp c37
                exact J92_38 _ _ _ (fun zq uq ⟨mm1, hq⟩ => hk1 _ _ ⟨mm1 + 1, (u_d_X0_bestLent_1 ⟨gI17.out, ⟨f11, ⟨f12, ⟨z20, gz20.out, (Or.inr ⟨c21, ⟨z22, gz22.out, ⟨z23, gz23.out, (Or.inr ⟨c24, ⟨z28, gz28.out, (Or.inr ⟨c29, ⟨z30, gz30.out, ⟨z31, gz31.out, ⟨z32, A33, ghw34, (Or.inr ⟨c36, (Or.inl ⟨c37, hq⟩)⟩)⟩⟩⟩⟩)⟩⟩)⟩⟩⟩)⟩⟩⟩⟩)⟩) hP hS (lv_sub hl [0, 1, 2, 3, 4, 5, 6, 7] rfl)
              · have c37 : ¬ z6 = (-1) := mt (i_eq f12 ⟨by decide, by decide⟩).mpr c37
                refine lv_iload hx hb (dk_at dkX0_bestLent_3 0 rfl) (lv_at hl 0 rfl) ?_
                refine lv_aload_n hx hb (dk_at dkX0_bestLent_3 1 rfl) rfl (lv_at hl 4 rfl) ?_
                have e39 : A33 6 16 = (A8 6 16) := (hf35 6 16 rfl rfl)
                have r40 : (-2147483648 : Int) ≤ (A8 6 16) ∧ (A8 6 16) ≤ 2147483647 := by rw [← e39]; exact irAL_16 hI
                refine va_get (D := (dC, dI)) (ci := 0) (v := .int (iI (A33 6 16))) (C := RX0) (T := TX0) (N := 17) hx hb hts hiX0 hown hK hP 6 (wkAL) rfl 16 (by decide) (hts _ (List.mem_cons_of_mem _ wkq_2_59)) (fun _ h9 => h9) rfl (dk_at dkX0_bestLent_3 2 rfl) ?_
                refine tp_i (y := iI (A8 6 16)) (congrArg iI e39) ?_
                refine lv_icmp_ge (tgt := 102) hx hb (dk_at dkX0_bestLent_3 3 rfl) (by decide) (fun c41 => ?_) (fun c41 => ?_)
                · have c41 : (A8 6 16) ≤ z32 := (i_le r40 hw34).mp c41
                  exact J102_25 z6 _ _ _ _ (by omega) (fun zq uq ⟨mm1, hq⟩ => hk1 _ _ ⟨mm1 + 1, (u_d_X0_bestLent_1 ⟨gI17.out, ⟨f11, ⟨f12, ⟨z20, gz20.out, (Or.inr ⟨c21, ⟨z22, gz22.out, ⟨z23, gz23.out, (Or.inr ⟨c24, ⟨z28, gz28.out, (Or.inr ⟨c29, ⟨z30, gz30.out, ⟨z31, gz31.out, ⟨z32, A33, ghw34, (Or.inr ⟨c36, (Or.inr ⟨c37, (Or.inl ⟨c41, hq⟩)⟩)⟩)⟩⟩⟩⟩)⟩⟩)⟩⟩⟩)⟩⟩⟩⟩)⟩) hI (fk.trans (fk.rf) hf35 rfl rfl) hP hS (lv_sub hl [1, 2, 3, 4, 5, 6, 7] rfl)
                · have c41 : ¬ (A8 6 16) ≤ z32 := mt (i_le r40 hw34).mpr c41
                  exact J92_38 _ _ _ (fun zq uq ⟨mm1, hq⟩ => hk1 _ _ ⟨mm1 + 1, (u_d_X0_bestLent_1 ⟨gI17.out, ⟨f11, ⟨f12, ⟨z20, gz20.out, (Or.inr ⟨c21, ⟨z22, gz22.out, ⟨z23, gz23.out, (Or.inr ⟨c24, ⟨z28, gz28.out, (Or.inr ⟨c29, ⟨z30, gz30.out, ⟨z31, gz31.out, ⟨z32, A33, ghw34, (Or.inr ⟨c36, (Or.inr ⟨c37, (Or.inr ⟨c41, hq⟩)⟩)⟩)⟩⟩⟩⟩)⟩⟩)⟩⟩⟩)⟩⟩⟩⟩)⟩) hP hS (lv_sub hl [0, 1, 2, 3, 4, 5, 6, 7] rfl)
  exact L18_9 _ 0 (-1) _ _ _ _ (by omega) (by omega) (fun zq uq ⟨mm1, hq⟩ => (u_r_X0_bestLent ⟨z1, ghw3, ⟨A4, hA4, ⟨mm1, hq⟩⟩⟩)) rfl hI (fk.rf) hP hS (lv_sub hl [0, 1, 2, 3, 4, 5, 6] rfl)

abbrev tr_r_X1_add (x1 : Int) (x2 : Int) (A : St) (z : Int) (u : St) : Prop := ((((A 22 4) < 20) ∧ (∃ A4 : St, A4 = stA A 23 ((A 22 4)).toNat x1 ∧ (∃ A6 : St, A6 = stA A4 24 ((A 22 4)).toNat x2 ∧ (∃ A8 : St, A8 = stA A6 22 4 ((A 22 4) + 1) ∧ (z = 1 ∧ u = A8))))) ∨ ((¬ (A 22 4) < 20) ∧ (z = 0 ∧ u = A)))
def r_X1_add (x1 : Int) (x2 : Int) (A : St) (z : Int) (u : St) : Prop := tr_r_X1_add x1 x2 A z u
theorem u_r_X1_add {x1 : Int} {x2 : Int} {A : St} {z : Int} {u : St} (h : tr_r_X1_add x1 x2 A z u) : r_X1_add x1 x2 A z u := h
def q_X1_add (x1 : Int) (x2 : Int) (A : St) (z : Int) (u : St) : Prop := r_X1_add x1 x2 A z u ∧ IK u ∧ fk [23, 24] [(22, 4)] A u ∧ (0 ≤ z ∧ z ≤ 1)
def ws_kc_X1_add : List Cond := .code yX1_add cX1_add 3 (some .boolean) :: WY
set_option maxHeartbeats 4000000 in
set_option maxRecDepth 100000 in
theorem kc_X1_add (l : Launch) (dC : Nat → ClassId) (dI : Nat → Nat → Nat) (cB cI cJ cZ cQ : ClassId) (aL aS : Nat) (q : Nat → Nat) (A : St) (x1 x2 : Int) (hI : IK A) (hx1 : (-2147483648 : Int) ≤ x1 ∧ x1 ≤ 2147483647) (hx2 : (0 : Int) ≤ x2 ∧ x2 ≤ 1) : KMi l yX1_add ws_kc_X1_add ({ frames := 0, cells := 0, slots := 0, locals := 0 } : Room) aL aS (dC, dI) (tyA cB cI cJ cZ cQ) (WK cB cI cJ cZ cQ q) A [.ref (q 22), .int (iI x1), .int (iI x2)] (fun z u => r_X1_add x1 x2 A z u ∧ IK u ∧ fk [23, 24] [(22, 4)] A u ∧ (0 ≤ z ∧ z ≤ 1)) := by
  refine k_metz (cc := cX1_add) (maxL := 3) WK_adr (plainFor_of_name (by decide +kernel)) rfl (Nat.le_of_ble_eq_true rfl) (fun z u h => h.2.2.2) (fun p e s m below meth c Q AS ls hx hb hml hown hts hK hDD hA0 hE RET H locs hP hS hl => ?_)
  have hown : s.vm.findClass RX1 = some m.cls := hown
  have hl : lv_has ls 3 [(0, .ref (q 22)), (1, .int (iI x1)), (2, .int (iI x2))] := hl
  have hiX1 : ∀ w ∈ u_ws RX1 TX1 8, w ∈ ws_kc_X1_add := fun w h => List.mem_cons_of_mem _ (wy_layX1 w h)
  refine lv_aload_n hx hb (dk_at dkX1_add_0 0 rfl) rfl (lv_at hl 0 rfl) ?_
  have r1 : (0 : Int) ≤ (A 22 4) ∧ (A 22 4) ≤ 20 := irFD_4 hI
  refine va_get (D := (dC, dI)) (ci := 1) (v := .int (iI (A 22 4))) (C := RX1) (T := TX1) (N := 8) hx hb hts hiX1 hown hK hP 22 (wkFD) rfl 4 (by decide) (hts _ (List.mem_cons_of_mem _ wkq_3_2)) (fun _ h9 => h9) rfl (dk_at dkX1_add_0 1 rfl) ?_
  refine lv_if_lt (tgt := 16) hx hb (dk_at dkX1_add_0 2 rfl) (by decide) (fun c2 => False.elim (by have c2 : (A 22 4) < 0 := (i_lt0 (rb r1 (by decide) (by decide))).mp c2; omega)) (fun _ => ?_)
  refine lv_aload_n hx hb (dk_at dkX1_add_0 3 rfl) rfl (lv_at hl 0 rfl) ?_
  refine va_get (D := (dC, dI)) (ci := 1) (v := .int (iI (A 22 4))) (C := RX1) (T := TX1) (N := 8) hx hb hts hiX1 hown hK hP 22 (wkFD) rfl 4 (by decide) (hts _ (List.mem_cons_of_mem _ wkq_3_2)) (fun _ h9 => h9) rfl (dk_at dkX1_add_0 4 rfl) ?_
  refine lv_bipush (v := iI 20) hx hb (dk_at dkX1_add_0 5 rfl) (by decide +kernel) ?_
  refine lv_icmp_lt (tgt := 18) hx hb (dk_at dkX1_add_0 6 rfl) (by decide) (fun c3 => ?_) (fun c3 => ?_)
  · have c3 : (A 22 4) < 20 := (i_lt (rb r1 (by decide) (by decide)) ⟨by decide, by decide⟩).mp c3
    refine lv_aload_n hx hb (dk_at dkX1_add_0 9 rfl) rfl (lv_at hl 0 rfl) ?_
    refine va_get (D := (dC, dI)) (ci := 1) (v := .ref (q 23)) (C := RX1) (T := TX1) (N := 8) hx hb hts hiX1 hown hK hP 22 (wkFD) rfl 0 (by decide) (hts _ (List.mem_cons_of_mem _ wkq_3_3)) (fun _ h9 => h9) rfl (dk_at dkX1_add_0 10 rfl) ?_
    refine lv_aload_n hx hb (dk_at dkX1_add_0 11 rfl) rfl (lv_at hl 0 rfl) ?_
    refine va_get (D := (dC, dI)) (ci := 1) (v := .int (iI (A 22 4))) (C := RX1) (T := TX1) (N := 8) hx hb hts hiX1 hown hK hP 22 (wkFD) rfl 4 (by decide) (hts _ (List.mem_cons_of_mem _ wkq_3_2)) (fun _ h9 => h9) rfl (dk_at dkX1_add_0 12 rfl) ?_
    refine lv_iload_n hx hb (dk_at dkX1_add_0 13 rfl) rfl (lv_at hl 1 rfl) ?_
    refine k_iast (Wf := WK cB cI cJ cZ cQ q) hx hb hK hP hDD hS 23 1 (wkFDd) rfl (by omega) (by decide) (dk_at dkX1_add_0 14 rfl) (wsFDd) (fun H locs A4 hA4 hP hS => ?_)
    have hI := isFDd hA4 hI (show (-2147483648 : Int) ≤ x1 ∧ x1 ≤ 2147483647 from hx1)
    refine lv_aload_n hx hb (dk_at dkX1_add_0 15 rfl) rfl (lv_at hl 0 rfl) ?_
    refine va_get (D := (dC, dI)) (ci := 1) (v := .ref (q 24)) (C := RX1) (T := TX1) (N := 8) hx hb hts hiX1 hown hK hP 22 (wkFD) rfl 1 (by decide) (hts _ (List.mem_cons_of_mem _ wkq_3_4)) (fun _ h9 => h9) rfl (dk_at dkX1_add_1 0 rfl) ?_
    refine lv_aload_n hx hb (dk_at dkX1_add_1 1 rfl) rfl (lv_at hl 0 rfl) ?_
    have e5 : A4 22 4 = (A 22 4) := (rd_ne hA4 (by decide) 4)
    refine va_get (D := (dC, dI)) (ci := 1) (v := .int (iI (A4 22 4))) (C := RX1) (T := TX1) (N := 8) hx hb hts hiX1 hown hK hP 22 (wkFD) rfl 4 (by decide) (hts _ (List.mem_cons_of_mem _ wkq_3_2)) (fun _ h9 => h9) rfl (dk_at dkX1_add_1 2 rfl) ?_
    refine tp_i (y := iI (A 22 4)) (congrArg iI e5) ?_
    refine lv_iload_n hx hb (dk_at dkX1_add_1 3 rfl) rfl (lv_at hl 2 rfl) ?_
    refine k_zast (Wf := WK cB cI cJ cZ cQ q) hx hb hK hP hDD hS 24 3 (wkFDo) rfl (by omega) (by decide) (dk_at dkX1_add_1 4 rfl) hx2 (wsFDo) (fun H locs A6 hA6 hP hS => ?_)
    have hI := isFDo hA6 hI (show (0 : Int) ≤ x2 ∧ x2 ≤ 1 from hx2)
    refine lv_aload_n hx hb (dk_at dkX1_add_1 5 rfl) rfl (lv_at hl 0 rfl) ?_
    refine lv_dup hx hb (dk_at dkX1_add_1 6 rfl) rfl ?_
    have e7 : A6 22 4 = (A 22 4) := (rd_ne hA6 (by decide) 4).trans e5
    refine va_get (D := (dC, dI)) (ci := 1) (v := .int (iI (A6 22 4))) (C := RX1) (T := TX1) (N := 8) hx hb hts hiX1 hown hK hP 22 (wkFD) rfl 4 (by decide) (hts _ (List.mem_cons_of_mem _ wkq_3_2)) (fun _ h9 => h9) rfl (dk_at dkX1_add_1 7 rfl) ?_
    refine tp_i (y := iI (A 22 4)) (congrArg iI e7) ?_
    refine lv_iconst (v := iI 1) hx hb (dk_at dkX1_add_1 8 rfl) (by decide +kernel) ?_
    refine x_addv (v := (A 22 4) + 1) hx hb (dk_at dkX1_add_1 9 rfl) (by omega) ?_
    refine k_put (Wf := WK cB cI cJ cZ cQ q) (D := (dC, dI)) (ci := 1) (v := .int (iI ((A 22 4) + 1))) (ty := .int) (C := RX1) (T := TX1) (N := 8) hx hb hts hiX1 tyX1 tyX1_ok nmX1 hown hK hP hDD hS 22 (wkFD) rfl 4 (by decide) (hts _ (List.mem_cons_of_mem _ wkq_3_2)) (fun _ h9 => h9) rfl (by decide +kernel) rfl rfl (Nat.le_of_ble_eq_true rfl) (dk_at dkX1_add_1 10 rfl) (wfFD_4 (v := (A 22 4) + 1)) (fun H locs A8 hA8 hP hS => ?_)
    have hI := isFD_4 hA8 hI (show (0 : Int) ≤ (A 22 4) + 1 ∧ (A 22 4) + 1 ≤ 20 from (by omega))
    refine lv_iconst (v := iI 1) hx hb (dk_at dkX1_add_1 11 rfl) (by decide +kernel) ?_
    exact RET 1 _ _ _ _ _ ⟨(u_r_X1_add (Or.inl ⟨c3, ⟨A4, hA4, ⟨A6, hA6, ⟨A8, hA8, ⟨rfl, rfl⟩⟩⟩⟩⟩)), hI, fk.df (fk.da (fk.da (fk.rf) hA4 rfl) hA6 rfl) hA8 rfl, ⟨by decide, by decide⟩⟩ hP hS (dk_at dkX1_add_1 12 rfl)
  · have c3 : ¬ (A 22 4) < 20 := mt (i_lt (rb r1 (by decide) (by decide)) ⟨by decide, by decide⟩).mpr c3
    refine lv_iconst (v := iI 0) hx hb (dk_at dkX1_add_0 7 rfl) (by decide +kernel) ?_
    exact RET 0 _ _ _ _ _ ⟨(u_r_X1_add (Or.inr ⟨c3, ⟨rfl, rfl⟩⟩)), hI, fk.rf, ⟨by decide, by decide⟩⟩ hP hS (dk_at dkX1_add_0 8 rfl)

abbrev tr_d_X1_isRow_1 (ta : Nat) (z1 : Int) (A : St) (z : Int) (u : St) (K1 : Int → Int → Int → St → Prop) (z3 : Int) (z4 : Int) (z5 : Int) (A7 : St) : Prop := ((IK A7) ∧ ((-2147483648 ≤ z3 ∧ z3 ≤ 2147483647) ∧ ((-2147483648 ≤ z4 ∧ z4 ≤ 2147483647) ∧ ((-2147483648 ≤ z5 ∧ z5 ≤ 2147483647) ∧ (((z3 < 0) ∧ (z = 1 ∧ u = A7)) ∨ ((¬ z3 < 0) ∧ (((3 ≤ z3) ∧ (z = 1 ∧ u = A7)) ∨ ((¬ 3 ≤ z3) ∧ (((z1 ≤ 0) ∧ (z = 1 ∧ u = A7)) ∨ ((¬ z1 ≤ 0) ∧ (∃ z18 : Int, z18 = oRem z5 z1 ∧ (∃ z21 : Int, z21 = oShr (A ta 15) z18 ∧ (∃ z22 : Int, z22 = oAnd z21 1 ∧ (((z22 = 0) ∧ (z = 0 ∧ u = A7)) ∨ ((¬ z22 = 0) ∧ (∃ z24 : Int, z24 = oShr z4 z18 ∧ (∃ z25 : Int, z25 = oAnd z24 1 ∧ (((z25 = 0) ∧ (∃ z27 : Int, z27 = oShl 1 z18 ∧ (∃ z28 : Int, z28 = oOr z4 z27 ∧ (∃ A29 : St, A29 = stA A7 26 (z3).toNat z18 ∧ (∃ z30 : Int, z30 = oDiv z5 z1 ∧ (K1 (z3 - 1) z28 z30 A29)))))) ∨ ((¬ z25 = 0) ∧ (z = 0 ∧ u = A7))))))))))))))))))))
def d_X1_isRow_1 (ta : Nat) (z1 : Int) (A : St) (z : Int) (u : St) : Nat → Int → Int → Int → St → Prop
  | 0, _, _, _, _ => False
  | nn9 + 1, z3, z4, z5, A7 => tr_d_X1_isRow_1 ta z1 A z u (fun z3 z4 z5 A7 => d_X1_isRow_1 ta z1 A z u nn9 z3 z4 z5 A7) z3 z4 z5 A7
theorem u_d_X1_isRow_1 {ta : Nat} {z1 : Int} {A : St} {z : Int} {u : St} {nn9 : Nat} {z3 : Int} {z4 : Int} {z5 : Int} {A7 : St} (h : tr_d_X1_isRow_1 ta z1 A z u (fun z3 z4 z5 A7 => d_X1_isRow_1 ta z1 A z u nn9 z3 z4 z5 A7) z3 z4 z5 A7) : d_X1_isRow_1 ta z1 A z u (nn9 + 1) z3 z4 z5 A7 := h
abbrev tr_r_X1_isRow (ta : Nat) (x2 : Int) (x3 : Int) (A : St) (z : Int) (u : St) : Prop := (∃ z1 : Int, z1 = A (ta + 1) (1 : Int).toNat ∧ (∃ z2 : Int, z2 = oWrap (x3 - 1) ∧ (∃ nn9 : Nat, d_X1_isRow_1 ta z1 A z u nn9 z2 0 x2 A)))
def r_X1_isRow (ta : Nat) (x2 : Int) (x3 : Int) (A : St) (z : Int) (u : St) : Prop := tr_r_X1_isRow ta x2 x3 A z u
theorem u_r_X1_isRow {ta : Nat} {x2 : Int} {x3 : Int} {A : St} {z : Int} {u : St} (h : tr_r_X1_isRow ta x2 x3 A z u) : r_X1_isRow ta x2 x3 A z u := h
def q_X1_isRow (ta : Nat) (x2 : Int) (x3 : Int) (A : St) (z : Int) (u : St) : Prop := r_X1_isRow ta x2 x3 A z u ∧ IK u ∧ fk [26] [] A u ∧ (0 ≤ z ∧ z ≤ 1)
def ws_kc_X1_isRow : List Cond := .code yX1_isRow cX1_isRow 9 (some .boolean) :: WY
set_option maxHeartbeats 4000000 in
set_option maxRecDepth 100000 in
theorem kc_X1_isRow (l : Launch) (dC : Nat → ClassId) (dI : Nat → Nat → Nat) (cB cI cJ cZ cQ : ClassId) (aL aS : Nat) (q : Nat → Nat) (A : St) (ta : Nat) (x2 x3 : Int) (hI : IK A) (hta : isT ta) (hx2 : (0 : Int) ≤ x2 ∧ x2 ≤ 2147483647) (hx3 : (-2147483648 : Int) ≤ x3 ∧ x3 ≤ 2147483647) : KMi l yX1_isRow ws_kc_X1_isRow ({ frames := 0, cells := 0, slots := 0, locals := 0 } : Room) aL aS (dC, dI) (tyA cB cI cJ cZ cQ) (WK cB cI cJ cZ cQ q) A [.ref (q 22), .ref (q ta), .int (iI x2), .int (iI x3)] (fun z u => r_X1_isRow ta x2 x3 A z u ∧ IK u ∧ fk [26] [] A u ∧ (0 ≤ z ∧ z ≤ 1)) := by
  refine k_metz (cc := cX1_isRow) (maxL := 9) WK_adr (plainFor_of_name (by decide +kernel)) rfl (Nat.le_of_ble_eq_true rfl) (fun z u h => h.2.2.2) (fun p e s m below meth c Q AS ls hx hb hml hown hts hK hDD hA0 hE RET H locs hP hS hl => ?_)
  have hown : s.vm.findClass RX1 = some m.cls := hown
  have hl : lv_has ls 9 [(0, .ref (q 22)), (1, .ref (q ta)), (2, .int (iI x2)), (3, .int (iI x3))] := hl
  have hiX9 : ∀ w ∈ u_ws RX9 TX9 16, w ∈ ws_kc_X1_isRow := fun w h => List.mem_cons_of_mem _ (wy_layX9 w h)
  have hiX1 : ∀ w ∈ u_ws RX1 TX1 8, w ∈ ws_kc_X1_isRow := fun w h => List.mem_cons_of_mem _ (wy_layX1 w h)
  refine lv_aload_n hx hb (dk_at dkX1_isRow_0 0 rfl) rfl (lv_at hl 1 rfl) ?_
  refine va_get (D := (dC, dI)) (ci := 9) (v := .ref (q (ta + 1))) (C := RX9) (T := TX9) (N := 16) hx hb hts hiX9 hown hK hP ta (wkT hta) rfl 0 (by decide) (hts _ (List.mem_cons_of_mem _ wkq_3_9)) (fun _ h9 => h9) rfl (dk_at dkX1_isRow_0 1 rfl) ?_
  refine lv_iconst (v := iI 1) hx hb (dk_at dkX1_isRow_0 2 rfl) (by decide +kernel) ?_
  refine x_iald (Wf := WK cB cI cJ cZ cQ q) hx hb hK hP (ta + 1) 1 (wkTc hta) rfl (by decide) (by decide) (dk_at dkX1_isRow_0 3 rfl) (fun z1 hz1 => ?_)
  have rz1 : (0 : Int) ≤ z1 ∧ z1 ≤ 10 := by rw [hz1]; exact irTc1 hta hI
  have gz1 := Hd.mk hz1
  refine lv_istore (lv' := [(4, .int (iI z1)), (0, .ref (q 22)), (1, .ref (q ta)), (2, .int (iI x2)), (3, .int (iI x3))]) hx hb (dk_at dkX1_isRow_0 4 rfl) hl (by decide) rfl (fun ls hl => ?_)
  refine lv_iload_n hx hb (dk_at dkX1_isRow_0 5 rfl) rfl (lv_at hl 3 rfl) ?_
  refine lv_istore (lv' := [(5, .int (iI x2)), (4, .int (iI z1)), (0, .ref (q 22)), (1, .ref (q ta)), (2, .int (iI x2)), (3, .int (iI x3))]) hx hb (dk_at dkX1_isRow_0 6 rfl) hl (by decide) rfl (fun ls hl => ?_)
  refine lv_iconst (v := iI 0) hx hb (dk_at dkX1_isRow_0 7 rfl) (by decide +kernel) ?_
  refine lv_istore (lv' := [(6, .int (iI 0)), (5, .int (iI x2)), (4, .int (iI z1)), (0, .ref (q 22)), (1, .ref (q ta)), (2, .int (iI x2)), (3, .int (iI x3))]) hx hb (dk_at dkX1_isRow_0 8 rfl) hl (by decide) rfl (fun ls hl => ?_)
  refine lv_iload_n hx hb (dk_at dkX1_isRow_0 9 rfl) rfl (lv_at hl 6 rfl) ?_
  refine lv_iconst (v := iI 1) hx hb (dk_at dkX1_isRow_0 10 rfl) (by decide +kernel) ?_
  refine x_subv (v := x3 - 1) hx hb (dk_at dkX1_isRow_0 11 rfl) (by omega) ?_
  refine x_absE (fun z2 gz2 hz2 => ?_)
  refine lv_istore (lv' := [(7, .int (iI z2)), (6, .int (iI 0)), (5, .int (iI x2)), (4, .int (iI z1)), (0, .ref (q 22)), (1, .ref (q ta)), (2, .int (iI x2)), (3, .int (iI x3))]) hx hb (dk_at dkX1_isRow_0 12 rfl) hl (by decide) rfl (fun ls hl => ?_)
  have L19_8 : ∀ (n13 : Nat) (z3 z4 z5 : Int) (A7 : St) (H : Heap) (locs : List Loc) (ls : Array Slot), (-2147483648 ≤ z3 ∧ z3 ≤ 2147483647) → (-2147483648 ≤ z4 ∧ z4 ≤ 2147483647) → (-2147483648 ≤ z5 ∧ z5 ≤ 2147483647) → (∀ (z : Int) (u : St), (∃ mm1 : Nat, (d_X1_isRow_1 ta z1 A z u mm1 z3 z4 z5 A7)) → r_X1_isRow ta x2 x3 A z u) → ((z3 - (-1)).toNat = n13) → IK A7 → fk [26] [] A A7 → va_P (dC, dI) vwCl (WK cB cI cJ cZ cQ q A7) H → va_S AS s.heap H locs → lv_has ls 9 [(7, .int (iI z3)), (6, .int (iI z4)), (5, .int (iI z5)), (4, .int (iI z1)), (0, .ref (q 22)), (1, .ref (q ta)), (2, .int (iI x2)), (3, .int (iI x3))] → W p l e (headSpec ws_kc_X1_isRow ({ frames := 0, cells := 0, slots := 0, locals := 0 } : Room)).room s m [.ref (q 22), .ref (q ta), .int (iI x2), .int (iI x3)].toArray below meth c H locs 0 0 Q (F0 m 19 ls []) := by
    intro n13
    induction n13 using Nat.strongRecOn with
    | ind n13 ih9 =>
      intro z3 z4 z5 A7 H locs ls f10 f11 f12 hk1 hn13 hI hj6 hP hS hl
      have gI14 : Hd (IK A7) := Hd.mk hI
      refine lv_iload hx hb (dk_at dkX1_isRow_0 13 rfl) (lv_at hl 0 rfl) ?_
      refine lv_if_lt (tgt := 97) hx hb (dk_at dkX1_isRow_0 14 rfl) (by decide) (fun c15 => ?_) (fun c15 => ?_)
      · have c15 : z3 < 0 := (i_lt0 f10).mp c15
        refine lv_iconst (v := iI 1) hx hb (dk_at dkX1_isRow_3 8 rfl) (by decide +kernel) ?_
        exact RET 1 _ _ _ _ _ ⟨hk1 _ _ ⟨0 + 1, (u_d_X1_isRow_1 ⟨gI14.out, ⟨f10, ⟨f11, ⟨f12, (Or.inl ⟨c15, ⟨rfl, rfl⟩⟩)⟩⟩⟩⟩)⟩, hI, fk.trans (fk.rf) hj6 rfl rfl, ⟨by decide, by decide⟩⟩ hP hS (dk_at dkX1_isRow_3 9 rfl)
      · have c15 : ¬ z3 < 0 := mt (i_lt0 f10).mpr c15
        refine lv_iload hx hb (dk_at dkX1_isRow_0 15 rfl) (lv_at hl 0 rfl) ?_
        refine lv_iconst (v := iI 3) hx hb (dk_at dkX1_isRow_1 0 rfl) (by decide +kernel) ?_
        refine lv_icmp_ge (tgt := 97) hx hb (dk_at dkX1_isRow_1 1 rfl) (by decide) (fun c16 => ?_) (fun c16 => ?_)
        · have c16 : 3 ≤ z3 := (i_le ⟨by decide, by decide⟩ f10).mp c16
          refine lv_iconst (v := iI 1) hx hb (dk_at dkX1_isRow_3 8 rfl) (by decide +kernel) ?_
          exact RET 1 _ _ _ _ _ ⟨hk1 _ _ ⟨0 + 1, (u_d_X1_isRow_1 ⟨gI14.out, ⟨f10, ⟨f11, ⟨f12, (Or.inr ⟨c15, (Or.inl ⟨c16, ⟨rfl, rfl⟩⟩)⟩)⟩⟩⟩⟩)⟩, hI, fk.trans (fk.rf) hj6 rfl rfl, ⟨by decide, by decide⟩⟩ hP hS (dk_at dkX1_isRow_3 9 rfl)
        · have c16 : ¬ 3 ≤ z3 := mt (i_le ⟨by decide, by decide⟩ f10).mpr c16
          refine lv_iload hx hb (dk_at dkX1_isRow_1 2 rfl) (lv_at hl 3 rfl) ?_
          refine lv_if_le (tgt := 97) hx hb (dk_at dkX1_isRow_1 3 rfl) (by decide) (fun c17 => ?_) (fun c17 => ?_)
          · have c17 : z1 ≤ 0 := (i_le0 (rb rz1 (by decide) (by decide))).mp c17
            refine lv_iconst (v := iI 1) hx hb (dk_at dkX1_isRow_3 8 rfl) (by decide +kernel) ?_
            exact RET 1 _ _ _ _ _ ⟨hk1 _ _ ⟨0 + 1, (u_d_X1_isRow_1 ⟨gI14.out, ⟨f10, ⟨f11, ⟨f12, (Or.inr ⟨c15, (Or.inr ⟨c16, (Or.inl ⟨c17, ⟨rfl, rfl⟩⟩)⟩)⟩)⟩⟩⟩⟩)⟩, hI, fk.trans (fk.rf) hj6 rfl rfl, ⟨by decide, by decide⟩⟩ hP hS (dk_at dkX1_isRow_3 9 rfl)
          · have c17 : ¬ z1 ≤ 0 := mt (i_le0 (rb rz1 (by decide) (by decide))).mpr c17
            refine lv_iload hx hb (dk_at dkX1_isRow_1 4 rfl) (lv_at hl 2 rfl) ?_
            refine lv_iload hx hb (dk_at dkX1_isRow_1 5 rfl) (lv_at hl 3 rfl) ?_
            refine lv_irem hx hb (dk_at dkX1_isRow_1 6 rfl) (by exact i_ne0 (by omega) (by omega)) ?_
            refine x_absE (fun z18 gz18 hz18 => ?_)
            refine lv_istore (lv' := [(8, .int (iI z18)), (7, .int (iI z3)), (6, .int (iI z4)), (5, .int (iI z5)), (4, .int (iI z1)), (0, .ref (q 22)), (1, .ref (q ta)), (2, .int (iI x2)), (3, .int (iI x3))]) hx hb (dk_at dkX1_isRow_1 7 rfl) hl (by decide) rfl (fun ls hl => ?_)
            refine lv_aload_n hx hb (dk_at dkX1_isRow_1 8 rfl) rfl (lv_at hl 6 rfl) ?_
            have e19 : A7 ta 15 = (A ta 15) := (hj6 ta 15 (isT.b2 (o := fun b => List.contains [26] b) hta rfl rfl) (isT.b2 (o := fun b => fin2 [] b 15) hta rfl rfl))
            have r20 : (-2147483648 : Int) ≤ (A ta 15) ∧ (A ta 15) ≤ 2147483647 := by rw [← e19]; exact irT_15 hta hI
            refine va_get (D := (dC, dI)) (ci := 9) (v := .int (iI (A7 ta 15))) (C := RX9) (T := TX9) (N := 16) hx hb hts hiX9 hown hK hP ta (wkT hta) rfl 15 (by decide) (hts _ (List.mem_cons_of_mem _ wkq_3_15)) (fun _ h9 => h9) rfl (dk_at dkX1_isRow_1 9 rfl) ?_
            refine tp_i (y := iI (A ta 15)) (congrArg iI e19) ?_
            refine lv_iload hx hb (dk_at dkX1_isRow_1 10 rfl) (lv_at hl 0 rfl) ?_
            refine lv_ishr hx hb (dk_at dkX1_isRow_1 11 rfl) ?_
            refine x_absE (fun z21 gz21 hz21 => ?_)
            refine lv_iconst (v := iI 1) hx hb (dk_at dkX1_isRow_1 12 rfl) (by decide +kernel) ?_
            refine lv_iand hx hb (dk_at dkX1_isRow_1 13 rfl) ?_
            refine x_andE (b := 1) (by omega) (fun z22 gz22 hz22 => ?_)
            refine lv_if_eq (tgt := 64) hx hb (dk_at dkX1_isRow_1 14 rfl) (by decide) (fun c23 => ?_) (fun c23 => ?_)
            · have c23 : z22 = 0 := (i_eq0 (by omega)).mp c23
              refine lv_iconst (v := iI 0) hx hb (dk_at dkX1_isRow_2 5 rfl) (by decide +kernel) ?_
              exact RET 0 _ _ _ _ _ ⟨hk1 _ _ ⟨0 + 1, (u_d_X1_isRow_1 ⟨gI14.out, ⟨f10, ⟨f11, ⟨f12, (Or.inr ⟨c15, (Or.inr ⟨c16, (Or.inr ⟨c17, ⟨z18, gz18.out, ⟨z21, gz21.out, ⟨z22, gz22.out, (Or.inl ⟨c23, ⟨rfl, rfl⟩⟩)⟩⟩⟩⟩)⟩)⟩)⟩⟩⟩⟩)⟩, hI, fk.trans (fk.rf) hj6 rfl rfl, ⟨by decide, by decide⟩⟩ hP hS (dk_at dkX1_isRow_2 6 rfl)
            · have c23 : ¬ z22 = 0 := mt (i_eq0 (by omega)).mpr c23
              refine lv_iload hx hb (dk_at dkX1_isRow_1 15 rfl) (lv_at hl 2 rfl) ?_
              refine lv_iload hx hb (dk_at dkX1_isRow_2 0 rfl) (lv_at hl 0 rfl) ?_
              refine lv_ishr hx hb (dk_at dkX1_isRow_2 1 rfl) ?_
              refine x_absE (fun z24 gz24 hz24 => ?_)
              refine lv_iconst (v := iI 1) hx hb (dk_at dkX1_isRow_2 2 rfl) (by decide +kernel) ?_
              refine lv_iand hx hb (dk_at dkX1_isRow_2 3 rfl) ?_
              refine x_andE (b := 1) (by omega) (fun z25 gz25 hz25 => ?_)
              refine lv_if_eq (tgt := 66) hx hb (dk_at dkX1_isRow_2 4 rfl) (by decide) (fun c26 => ?_) (fun c26 => ?_)
              · have c26 : z25 = 0 := (i_eq0 (by omega)).mp c26
                refine lv_iload hx hb (dk_at dkX1_isRow_2 7 rfl) (lv_at hl 2 rfl) ?_
                refine lv_iconst (v := iI 1) hx hb (dk_at dkX1_isRow_2 8 rfl) (by decide +kernel) ?_
                refine lv_iload hx hb (dk_at dkX1_isRow_2 9 rfl) (lv_at hl 0 rfl) ?_
                refine lv_ishl hx hb (dk_at dkX1_isRow_2 10 rfl) ?_
                refine x_absE (fun z27 gz27 hz27 => ?_)
                refine lv_ior hx hb (dk_at dkX1_isRow_2 11 rfl) ?_
                refine x_absE (fun z28 gz28 hz28 => ?_)
                refine lv_istore (lv' := [(6, .int (iI z28)), (8, .int (iI z18)), (7, .int (iI z3)), (5, .int (iI z5)), (4, .int (iI z1)), (0, .ref (q 22)), (1, .ref (q ta)), (2, .int (iI x2)), (3, .int (iI x3))]) hx hb (dk_at dkX1_isRow_2 12 rfl) hl (by decide) rfl (fun ls hl => ?_)
                refine lv_aload_n hx hb (dk_at dkX1_isRow_2 13 rfl) rfl (lv_at hl 5 rfl) ?_
                refine va_get (D := (dC, dI)) (ci := 1) (v := .ref (q 26)) (C := RX1) (T := TX1) (N := 8) hx hb hts hiX1 hown hK hP 22 (wkFD) rfl 3 (by decide) (hts _ (List.mem_cons_of_mem _ wkq_3_16)) (fun _ h9 => h9) rfl (dk_at dkX1_isRow_2 14 rfl) ?_
                refine lv_iload hx hb (dk_at dkX1_isRow_2 15 rfl) (lv_at hl 2 rfl) ?_
                refine lv_iload hx hb (dk_at dkX1_isRow_3 0 rfl) (lv_at hl 1 rfl) ?_
                refine k_iast (Wf := WK cB cI cJ cZ cQ q) hx hb hK hP hDD hS 26 1 (wkFDr) rfl (by omega) (by decide) (dk_at dkX1_isRow_3 1 rfl) (wsFDr) (fun H locs A29 hA29 hP hS => ?_)
                have hI := isFDr hA29 hI (show (-2147483648 : Int) ≤ z18 ∧ z18 ≤ 2147483647 from hz18)
                refine lv_iload hx hb (dk_at dkX1_isRow_3 2 rfl) (lv_at hl 3 rfl) ?_
                refine lv_iload hx hb (dk_at dkX1_isRow_3 3 rfl) (lv_at hl 4 rfl) ?_
                refine lv_idiv hx hb (dk_at dkX1_isRow_3 4 rfl) (by exact i_ne0 (by omega) (by omega)) ?_
                refine x_absE (fun z30 gz30 hz30 => ?_)
                refine lv_istore (lv' := [(5, .int (iI z30)), (6, .int (iI z28)), (8, .int (iI z18)), (7, .int (iI z3)), (4, .int (iI z1)), (0, .ref (q 22)), (1, .ref (q ta)), (2, .int (iI x2)), (3, .int (iI x3))]) hx hb (dk_at dkX1_isRow_3 5 rfl) hl (by decide) rfl (fun ls hl => ?_)
                refine lv_iinc (v := iI (z3 - 1)) (lv' := [(7, .int (iI (z3 - 1))), (5, .int (iI z30)), (6, .int (iI z28)), (8, .int (iI z18)), (4, .int (iI z1)), (0, .ref (q 22)), (1, .ref (q ta)), (2, .int (iI x2)), (3, .int (iI x3))]) hx hb (dk_at dkX1_isRow_3 6 rfl) hl (k := 3) rfl (i_inc (by omega)) (by decide) rfl (fun ls hl => ?_)
                refine lv_goto (tgt := 19) hx hb (dk_at dkX1_isRow_3 7 rfl) (by decide) ?_
                exact ih9 _ (by omega) (z3 - 1) z28 z30 _ _ _ _ (by omega) (by omega) (by omega) (fun zq uq ⟨mm1, hq⟩ => hk1 _ _ ⟨mm1 + 1, (u_d_X1_isRow_1 ⟨gI14.out, ⟨f10, ⟨f11, ⟨f12, (Or.inr ⟨c15, (Or.inr ⟨c16, (Or.inr ⟨c17, ⟨z18, gz18.out, ⟨z21, gz21.out, ⟨z22, gz22.out, (Or.inr ⟨c23, ⟨z24, gz24.out, ⟨z25, gz25.out, (Or.inl ⟨c26, ⟨z27, gz27.out, ⟨z28, gz28.out, ⟨A29, hA29, ⟨z30, gz30.out, hq⟩⟩⟩⟩⟩)⟩⟩⟩)⟩⟩⟩⟩)⟩)⟩)⟩⟩⟩⟩)⟩) rfl hI (fk.da (fk.trans (fk.rf) hj6 rfl rfl) hA29 rfl) hP hS (lv_sub hl [0, 2, 1, 4, 5, 6, 7, 8] rfl)
              · have c26 : ¬ z25 = 0 := mt (i_eq0 (by omega)).mpr c26
                refine lv_iconst (v := iI 0) hx hb (dk_at dkX1_isRow_2 5 rfl) (by decide +kernel) ?_
                exact RET 0 _ _ _ _ _ ⟨hk1 _ _ ⟨0 + 1, (u_d_X1_isRow_1 ⟨gI14.out, ⟨f10, ⟨f11, ⟨f12, (Or.inr ⟨c15, (Or.inr ⟨c16, (Or.inr ⟨c17, ⟨z18, gz18.out, ⟨z21, gz21.out, ⟨z22, gz22.out, (Or.inr ⟨c23, ⟨z24, gz24.out, ⟨z25, gz25.out, (Or.inr ⟨c26, ⟨rfl, rfl⟩⟩)⟩⟩⟩)⟩⟩⟩⟩)⟩)⟩)⟩⟩⟩⟩)⟩, hI, fk.trans (fk.rf) hj6 rfl rfl, ⟨by decide, by decide⟩⟩ hP hS (dk_at dkX1_isRow_2 6 rfl)
  exact L19_8 _ z2 0 x2 _ _ _ _ (by omega) (by omega) (by omega) (fun zq uq ⟨mm1, hq⟩ => (u_r_X1_isRow ⟨z1, gz1.out, ⟨z2, gz2.out, ⟨mm1, hq⟩⟩⟩)) rfl hI (fk.rf) hP hS (lv_sub hl [0, 1, 2, 3, 4, 5, 6, 7] rfl)

abbrev tr_r_X1_topOf (x1 : Int) (A : St) (z : Int) : Prop := (((x1 ≤ 0) ∧ (z = (-1))) ∨ ((¬ x1 ≤ 0) ∧ (((3 < x1) ∧ (z = (-1))) ∨ ((¬ 3 < x1) ∧ (∃ z3 : Int, z3 = A 26 (x1 - 1).toNat ∧ (z = z3))))))
def r_X1_topOf (x1 : Int) (A : St) (z : Int) : Prop := tr_r_X1_topOf x1 A z
theorem u_r_X1_topOf {x1 : Int} {A : St} {z : Int} (h : tr_r_X1_topOf x1 A z) : r_X1_topOf x1 A z := h
def q_X1_topOf (x1 : Int) (A : St) (z : Int) : Prop := r_X1_topOf x1 A z ∧ (-2147483648 ≤ z ∧ z ≤ 2147483647)
def ws_kc_X1_topOf : List Cond := .code yX1_topOf cX1_topOf 2 (some .int) :: WY
set_option maxHeartbeats 4000000 in
set_option maxRecDepth 100000 in
theorem kc_X1_topOf (l : Launch) (dC : Nat → ClassId) (dI : Nat → Nat → Nat) (cB cI cJ cZ cQ : ClassId) (aL aS : Nat) (q : Nat → Nat) (A : St) (x1 : Int) (hI : IK A) (hx1 : (-2147483648 : Int) ≤ x1 ∧ x1 ≤ 2147483647) : KMi l yX1_topOf ws_kc_X1_topOf ({ frames := 0, cells := 0, slots := 0, locals := 0 } : Room) aL aS (dC, dI) (tyA cB cI cJ cZ cQ) (WK cB cI cJ cZ cQ q) A [.ref (q 22), .int (iI x1)] (fun z u => A = u ∧ r_X1_topOf x1 A z ∧ (-2147483648 ≤ z ∧ z ≤ 2147483647)) := by
  refine k_meti (cc := cX1_topOf) (maxL := 2) WK_adr (plainFor_of_name (by decide +kernel)) rfl (Nat.le_of_ble_eq_true rfl) (fun p e s m below meth c Q AS ls hx hb hml hown hts hK hDD hA0 hE RET H locs hP hS hl => ?_)
  have hown : s.vm.findClass RX1 = some m.cls := hown
  have hl : lv_has ls 2 [(0, .ref (q 22)), (1, .int (iI x1))] := hl
  have hiX1 : ∀ w ∈ u_ws RX1 TX1 8, w ∈ ws_kc_X1_topOf := fun w h => List.mem_cons_of_mem _ (wy_layX1 w h)
  refine lv_iload_n hx hb (dk_at dkX1_topOf_0 0 rfl) rfl (lv_at hl 1 rfl) ?_
  refine lv_if_le (tgt := 20) hx hb (dk_at dkX1_topOf_0 1 rfl) (by decide) (fun c1 => ?_) (fun c1 => ?_)
  · have c1 : x1 ≤ 0 := (i_le0 hx1).mp c1
    refine lv_iconst (v := iI (-1)) hx hb (dk_at dkX1_topOf_0 12 rfl) (by decide +kernel) ?_
    exact RET (-1) _ _ _ _ _ ⟨rfl, (u_r_X1_topOf (Or.inl ⟨c1, rfl⟩)), ⟨by decide, by decide⟩⟩ hP hS (dk_at dkX1_topOf_0 13 rfl)
  · have c1 : ¬ x1 ≤ 0 := mt (i_le0 hx1).mpr c1
    refine lv_iload_n hx hb (dk_at dkX1_topOf_0 2 rfl) rfl (lv_at hl 1 rfl) ?_
    refine lv_iconst (v := iI 3) hx hb (dk_at dkX1_topOf_0 3 rfl) (by decide +kernel) ?_
    refine lv_icmp_gt (tgt := 20) hx hb (dk_at dkX1_topOf_0 4 rfl) (by decide) (fun c2 => ?_) (fun c2 => ?_)
    · have c2 : 3 < x1 := (i_lt ⟨by decide, by decide⟩ hx1).mp c2
      refine lv_iconst (v := iI (-1)) hx hb (dk_at dkX1_topOf_0 12 rfl) (by decide +kernel) ?_
      exact RET (-1) _ _ _ _ _ ⟨rfl, (u_r_X1_topOf (Or.inr ⟨c1, (Or.inl ⟨c2, rfl⟩)⟩)), ⟨by decide, by decide⟩⟩ hP hS (dk_at dkX1_topOf_0 13 rfl)
    · have c2 : ¬ 3 < x1 := mt (i_lt ⟨by decide, by decide⟩ hx1).mpr c2
      refine lv_aload_n hx hb (dk_at dkX1_topOf_0 5 rfl) rfl (lv_at hl 0 rfl) ?_
      refine va_get (D := (dC, dI)) (ci := 1) (v := .ref (q 26)) (C := RX1) (T := TX1) (N := 8) hx hb hts hiX1 hown hK hP 22 (wkFD) rfl 3 (by decide) (hts _ (List.mem_cons_of_mem _ wkq_3_16)) (fun _ h9 => h9) rfl (dk_at dkX1_topOf_0 6 rfl) ?_
      refine lv_iload_n hx hb (dk_at dkX1_topOf_0 7 rfl) rfl (lv_at hl 1 rfl) ?_
      refine lv_iconst (v := iI 1) hx hb (dk_at dkX1_topOf_0 8 rfl) (by decide +kernel) ?_
      refine x_subv (v := x1 - 1) hx hb (dk_at dkX1_topOf_0 9 rfl) (by omega) ?_
      refine x_iald (Wf := WK cB cI cJ cZ cQ q) hx hb hK hP 26 1 (wkFDr) rfl (by omega) (by decide) (dk_at dkX1_topOf_0 10 rfl) (fun z3 hz3 => ?_)
      have rz3 : (-2147483648 : Int) ≤ z3 ∧ z3 ≤ 2147483647 := by rw [hz3]; exact irFDr hI
      have gz3 := Hd.mk hz3
      refine lv_goto (tgt := 21) hx hb (dk_at dkX1_topOf_0 11 rfl) (by decide) ?_
      exact RET z3 _ _ _ _ _ ⟨rfl, (u_r_X1_topOf (Or.inr ⟨c1, (Or.inr ⟨c2, ⟨z3, gz3.out, rfl⟩⟩)⟩)), rz3⟩ hP hS (dk_at dkX1_topOf_0 13 rfl)

abbrev tr_d_X1_leftOf_3 (K1 : Int → Int → Prop) (z1 : Int) (z : Int) (z28 : Int) : Prop := ((-2147483648 ≤ z28 ∧ z28 ≤ 2147483647) ∧ (K1 (z1 + 1) z28))
def d_X1_leftOf_3 (K1 : Int → Int → Prop) (z1 : Int) (z : Int) (z28 : Int) : Prop := tr_d_X1_leftOf_3 K1 z1 z z28
theorem u_d_X1_leftOf_3 {K1 : Int → Int → Prop} {z1 : Int} {z : Int} {z28 : Int} (h : tr_d_X1_leftOf_3 K1 z1 z z28) : d_X1_leftOf_3 K1 z1 z z28 := h
abbrev tr_d_X1_leftOf_2 (K1 : Int → Int → Prop) (z1 : Int) (z2 : Int) (A : St) (z : Int) (z19 : Int) : Prop := ((0 ≤ z19 ∧ z19 ≤ 1) ∧ (∃ z22 : Int, z22 = A 24 (z1).toNat ∧ (((z19 = z22) ∧ (((z22 = 0) ∧ (d_X1_leftOf_3 K1 z1 z z2)) ∨ ((¬ z22 = 0) ∧ (∃ z27 : Int, z27 = oWrap (z2 - 1) ∧ (d_X1_leftOf_3 K1 z1 z z27))))) ∨ ((¬ z19 = z22) ∧ (z = (-1))))))
def d_X1_leftOf_2 (K1 : Int → Int → Prop) (z1 : Int) (z2 : Int) (A : St) (z : Int) (z19 : Int) : Prop := tr_d_X1_leftOf_2 K1 z1 z2 A z z19
theorem u_d_X1_leftOf_2 {K1 : Int → Int → Prop} {z1 : Int} {z2 : Int} {A : St} {z : Int} {z19 : Int} (h : tr_d_X1_leftOf_2 K1 z1 z2 A z z19) : d_X1_leftOf_2 K1 z1 z2 A z z19 := h
abbrev tr_d_X1_leftOf_1 (A : St) (z : Int) (K1 : Int → Int → Prop) (z1 : Int) (z2 : Int) : Prop := ((0 ≤ z1 ∧ z1 ≤ 2147483647) ∧ ((-2147483648 ≤ z2 ∧ z2 ≤ 2147483647) ∧ ((((A 22 4) ≤ z1) ∧ (z = z2)) ∨ ((¬ (A 22 4) ≤ z1) ∧ (∃ z13 : Int, q_X1_topOf z2 A z13 ∧ (∃ z16 : Int, z16 = A 23 (z1).toNat ∧ (((¬ z13 = z16) ∧ (d_X1_leftOf_2 K1 z1 z2 A z 0)) ∨ ((z13 = z16) ∧ (d_X1_leftOf_2 K1 z1 z2 A z 1)))))))))
def d_X1_leftOf_1 (A : St) (z : Int) : Nat → Int → Int → Prop
  | 0, _, _ => False
  | nn9 + 1, z1, z2 => tr_d_X1_leftOf_1 A z (fun z1 z2 => d_X1_leftOf_1 A z nn9 z1 z2) z1 z2
theorem u_d_X1_leftOf_1 {A : St} {z : Int} {nn9 : Nat} {z1 : Int} {z2 : Int} (h : tr_d_X1_leftOf_1 A z (fun z1 z2 => d_X1_leftOf_1 A z nn9 z1 z2) z1 z2) : d_X1_leftOf_1 A z (nn9 + 1) z1 z2 := h
abbrev tr_r_X1_leftOf (x1 : Int) (A : St) (z : Int) : Prop := (∃ nn9 : Nat, d_X1_leftOf_1 A z nn9 0 x1)
def r_X1_leftOf (x1 : Int) (A : St) (z : Int) : Prop := tr_r_X1_leftOf x1 A z
theorem u_r_X1_leftOf {x1 : Int} {A : St} {z : Int} (h : tr_r_X1_leftOf x1 A z) : r_X1_leftOf x1 A z := h
def q_X1_leftOf (x1 : Int) (A : St) (z : Int) : Prop := r_X1_leftOf x1 A z ∧ (-2147483648 ≤ z ∧ z ≤ 2147483647)
def ws_kc_X1_leftOf : List Cond := .code yX1_leftOf cX1_leftOf 4 (some .int) :: WY
set_option maxHeartbeats 4000000 in
set_option maxRecDepth 100000 in
theorem kc_X1_leftOf (l : Launch) (dC : Nat → ClassId) (dI : Nat → Nat → Nat) (cB cI cJ cZ cQ : ClassId) (aL aS : Nat) (q : Nat → Nat) (A : St) (x1 : Int) (hI : IK A) (hx1 : (-2147483648 : Int) ≤ x1 ∧ x1 ≤ 2147483647) : KMi l yX1_leftOf ws_kc_X1_leftOf ({ frames := 1, cells := 0, slots := 0, locals := 21 } : Room) aL aS (dC, dI) (tyA cB cI cJ cZ cQ) (WK cB cI cJ cZ cQ q) A [.ref (q 22), .int (iI x1)] (fun z u => A = u ∧ r_X1_leftOf x1 A z ∧ (-2147483648 ≤ z ∧ z ≤ 2147483647)) := by
  refine k_meti (cc := cX1_leftOf) (maxL := 4) WK_adr (plainFor_of_name (by decide +kernel)) rfl (Nat.le_of_ble_eq_true rfl) (fun p e s m below meth c Q AS ls hx hb hml hown hts hK hDD hA0 hE RET H locs hP hS hl => ?_)
  have hown : s.vm.findClass RX1 = some m.cls := hown
  have hl : lv_has ls 4 [(0, .ref (q 22)), (1, .int (iI x1))] := hl
  have hiX1 : ∀ w ∈ u_ws RX1 TX1 8, w ∈ ws_kc_X1_leftOf := fun w h => List.mem_cons_of_mem _ (wy_layX1 w h)
  refine lv_iload_n hx hb (dk_at dkX1_leftOf_0 0 rfl) rfl (lv_at hl 1 rfl) ?_
  refine lv_istore_n (lv' := [(2, .int (iI x1)), (0, .ref (q 22)), (1, .int (iI x1))]) hx hb (dk_at dkX1_leftOf_0 1 rfl) rfl hl (by decide) rfl (fun ls hl => ?_)
  refine lv_iconst (v := iI 0) hx hb (dk_at dkX1_leftOf_0 2 rfl) (by decide +kernel) ?_
  refine lv_istore_n (lv' := [(3, .int (iI 0)), (2, .int (iI x1)), (0, .ref (q 22)), (1, .int (iI x1))]) hx hb (dk_at dkX1_leftOf_0 3 rfl) rfl hl (by decide) rfl (fun ls hl => ?_)
  have L4_4 : ∀ (n9 : Nat) (z1 z2 : Int) (H : Heap) (locs : List Loc) (ls : Array Slot), (0 ≤ z1 ∧ z1 ≤ 2147483647) → (-2147483648 ≤ z2 ∧ z2 ≤ 2147483647) → (∀ (z : Int), (∃ mm1 : Nat, (d_X1_leftOf_1 A z mm1 z1 z2)) → r_X1_leftOf x1 A z) → ((21 - z1).toNat = n9) → va_P (dC, dI) vwCl (WK cB cI cJ cZ cQ q A) H → va_S AS s.heap H locs → lv_has ls 4 [(3, .int (iI z1)), (2, .int (iI z2)), (0, .ref (q 22)), (1, .int (iI x1))] → W p l e (headSpec ws_kc_X1_leftOf ({ frames := 1, cells := 0, slots := 0, locals := 21 } : Room)).room s m [.ref (q 22), .int (iI x1)].toArray below meth c H locs 0 0 Q (F0 m 4 ls []) := by
    intro n9
    induction n9 using Nat.strongRecOn with
    | ind n9 ih5 =>
      intro z1 z2 H locs ls f6 f7 hk1 hn9 hP hS hl
      refine lv_iload_n hx hb (dk_at dkX1_leftOf_0 4 rfl) rfl (lv_at hl 0 rfl) ?_
      refine lv_aload_n hx hb (dk_at dkX1_leftOf_0 5 rfl) rfl (lv_at hl 2 rfl) ?_
      have r10 : (0 : Int) ≤ (A 22 4) ∧ (A 22 4) ≤ 20 := irFD_4 hI
      refine va_get (D := (dC, dI)) (ci := 1) (v := .int (iI (A 22 4))) (C := RX1) (T := TX1) (N := 8) hx hb hts hiX1 hown hK hP 22 (wkFD) rfl 4 (by decide) (hts _ (List.mem_cons_of_mem _ wkq_3_2)) (fun _ h9 => h9) rfl (dk_at dkX1_leftOf_0 6 rfl) ?_
      refine lv_icmp_ge (tgt := 66) hx hb (dk_at dkX1_leftOf_0 7 rfl) (by decide) (fun c11 => ?_) (fun c11 => ?_)
      · have c11 : (A 22 4) ≤ z1 := (i_le (rb r10 (by decide) (by decide)) (rb f6 (by decide) (by decide))).mp c11
        refine lv_iload_n hx hb (dk_at dkX1_leftOf_2 5 rfl) rfl (lv_at hl 1 rfl) ?_
        exact RET z2 _ _ _ _ _ ⟨rfl, hk1 _ ⟨0 + 1, (u_d_X1_leftOf_1 ⟨f6, ⟨f7, (Or.inl ⟨c11, rfl⟩)⟩⟩)⟩, f7⟩ hP hS (dk_at dkX1_leftOf_2 6 rfl)
      · have c11 : ¬ (A 22 4) ≤ z1 := mt (i_le (rb r10 (by decide) (by decide)) (rb f6 (by decide) (by decide))).mpr c11
        refine lv_iload_n hx hb (dk_at dkX1_leftOf_0 8 rfl) rfl (lv_at hl 0 rfl) ?_
        refine lv_bipush (v := iI 20) hx hb (dk_at dkX1_leftOf_0 9 rfl) (by decide +kernel) ?_
        refine lv_icmp_ge (tgt := 66) hx hb (dk_at dkX1_leftOf_0 10 rfl) (by decide) (fun c12 => False.elim (by have c12 : 20 ≤ z1 := (i_le ⟨by decide, by decide⟩ (rb f6 (by decide) (by decide))).mp c12; omega)) (fun _ => ?_)
        refine lv_aload_n hx hb (dk_at dkX1_leftOf_0 11 rfl) rfl (lv_at hl 2 rfl) ?_
        refine lv_iload_n hx hb (dk_at dkX1_leftOf_0 12 rfl) rfl (lv_at hl 1 rfl) ?_
        refine k_calli (As := [.int (iI z2)]) (rest := []) ⟨hx, hb, hml, hown, hts⟩ hE (kc_X1_topOf l dC dI cB cI cJ cZ cQ aL aS q _ z2 hI f7) (cwV 1 hts (goodVk wkq_3_26 wkq_3_27 wkq_3_28 wkq_3_13 wkq_3_29) rfl rfl rfl (by decide +kernel) ⟨Nat.le_of_ble_eq_true rfl, Nat.le_of_ble_eq_true rfl⟩) hK hDD hA0 hP hS 22 1 (wkFD) rfl rfl hl.1 (Nat.le_of_ble_eq_true rfl) (dk_at dkX1_leftOf_0 13 rfl) (fun z13 A14 H locs hw15 hP hS => ?_)
        obtain ⟨rfl, hw15⟩ := hw15
        have ghw15 : q_X1_topOf z2 A z13 := hw15
        have hw15 := hw15.2
        refine lv_aload_n hx hb (dk_at dkX1_leftOf_0 14 rfl) rfl (lv_at hl 2 rfl) ?_
        refine va_get (D := (dC, dI)) (ci := 1) (v := .ref (q 23)) (C := RX1) (T := TX1) (N := 8) hx hb hts hiX1 hown hK hP 22 (wkFD) rfl 0 (by decide) (hts _ (List.mem_cons_of_mem _ wkq_3_3)) (fun _ h9 => h9) rfl (dk_at dkX1_leftOf_0 15 rfl) ?_
        refine lv_iload_n hx hb (dk_at dkX1_leftOf_1 0 rfl) rfl (lv_at hl 0 rfl) ?_
        refine x_iald (Wf := WK cB cI cJ cZ cQ q) hx hb hK hP 23 1 (wkFDd) rfl (by omega) (by decide) (dk_at dkX1_leftOf_1 1 rfl) (fun z16 hz16 => ?_)
        have rz16 : (-2147483648 : Int) ≤ z16 ∧ z16 ≤ 2147483647 := by rw [hz16]; exact irFDd hI
        have gz16 := Hd.mk hz16
        have J37_18 : ∀ (z19 : Int) (H : Heap) (locs : List Loc) (ls : Array Slot), (0 ≤ z19 ∧ z19 ≤ 1) → (∀ (z : Int), (∃ mm1 : Nat, (d_X1_leftOf_2 (fun z1' z2' => d_X1_leftOf_1 A z mm1 z1' z2') z1 z2 A z z19)) → r_X1_leftOf x1 A z) → va_P (dC, dI) vwCl (WK cB cI cJ cZ cQ q A) H → va_S AS s.heap H locs → lv_has ls 4 [(3, .int (iI z1)), (2, .int (iI z2)), (0, .ref (q 22)), (1, .int (iI x1))] → W p l e (headSpec ws_kc_X1_leftOf ({ frames := 1, cells := 0, slots := 0, locals := 21 } : Room)).room s m [.ref (q 22), .int (iI x1)].toArray below meth c H locs 0 0 Q (F0 m 37 ls [.int (iI z19)]) := by
          intro z19 H locs ls f21 hk2 hP hS hl
          refine lv_aload_n hx hb (dk_at dkX1_leftOf_1 6 rfl) rfl (lv_at hl 2 rfl) ?_
          refine va_get (D := (dC, dI)) (ci := 1) (v := .ref (q 24)) (C := RX1) (T := TX1) (N := 8) hx hb hts hiX1 hown hK hP 22 (wkFD) rfl 1 (by decide) (hts _ (List.mem_cons_of_mem _ wkq_3_4)) (fun _ h9 => h9) rfl (dk_at dkX1_leftOf_1 7 rfl) ?_
          refine lv_iload_n hx hb (dk_at dkX1_leftOf_1 8 rfl) rfl (lv_at hl 0 rfl) ?_
          refine x_zald (Wf := WK cB cI cJ cZ cQ q) hx hb hK hP 24 3 (wkFDo) rfl (by omega) (by decide) (dk_at dkX1_leftOf_1 9 rfl) (fun z22 hz22 => ?_)
          have rz22 : (0 : Int) ≤ z22 ∧ z22 ≤ 1 := by rw [hz22]; exact irFDo hI
          have gz22 := Hd.mk hz22
          refine lv_icmp_eq (tgt := 48) hx hb (dk_at dkX1_leftOf_1 10 rfl) (by decide) (fun c23 => ?_) (fun c23 => ?_)
          · have c23 : z19 = z22 := (i_eq (rb f21 (by decide) (by decide)) (rb rz22 (by decide) (by decide))).mp c23
            refine lv_aload_n hx hb (dk_at dkX1_leftOf_1 13 rfl) rfl (lv_at hl 2 rfl) ?_
            refine va_get (D := (dC, dI)) (ci := 1) (v := .ref (q 24)) (C := RX1) (T := TX1) (N := 8) hx hb hts hiX1 hown hK hP 22 (wkFD) rfl 1 (by decide) (hts _ (List.mem_cons_of_mem _ wkq_3_4)) (fun _ h9 => h9) rfl (dk_at dkX1_leftOf_1 14 rfl) ?_
            refine lv_iload_n hx hb (dk_at dkX1_leftOf_1 15 rfl) rfl (lv_at hl 0 rfl) ?_
            refine x_zald (Wf := WK cB cI cJ cZ cQ q) hx hb hK hP 24 3 (wkFDo) rfl (by omega) (by decide) (dk_at dkX1_leftOf_2 0 rfl) (fun z24 hz24 => ?_)
            have rz24 : (0 : Int) ≤ z24 ∧ z24 ≤ 1 := by rw [hz24]; exact irFDo hI
            have gz24 := Hd.mk hz24
            have ez24 : z24 = z22 := hz24.trans hz22.symm
            refine tp_i (y := iI z22) (congrArg iI ez24) ?_
            have J60_26 : ∀ (z28 : Int) (H : Heap) (locs : List Loc) (ls : Array Slot), (-2147483648 ≤ z28 ∧ z28 ≤ 2147483647) → (∀ (z : Int), (∃ mm1 : Nat, (d_X1_leftOf_3 (fun z1' z2' => d_X1_leftOf_1 A z mm1 z1' z2') z1 z z28)) → r_X1_leftOf x1 A z) → va_P (dC, dI) vwCl (WK cB cI cJ cZ cQ q A) H → va_S AS s.heap H locs → lv_has ls 4 [(3, .int (iI z1)), (2, .int (iI z28)), (0, .ref (q 22)), (1, .int (iI x1))] → W p l e (headSpec ws_kc_X1_leftOf ({ frames := 1, cells := 0, slots := 0, locals := 21 } : Room)).room s m [.ref (q 22), .int (iI x1)].toArray below meth c H locs 0 0 Q (F0 m 60 ls []) := by
              intro z28 H locs ls f30 hk3 hP hS hl
              refine lv_iinc (v := iI (z1 + 1)) (lv' := [(3, .int (iI (z1 + 1))), (2, .int (iI z28)), (0, .ref (q 22)), (1, .int (iI x1))]) hx hb (dk_at dkX1_leftOf_2 3 rfl) hl (k := 0) rfl (i_inc (by omega)) (by decide) rfl (fun ls hl => ?_)
              refine lv_goto (tgt := 4) hx hb (dk_at dkX1_leftOf_2 4 rfl) (by decide) ?_
              exact ih5 _ (by omega) (z1 + 1) z28 _ _ _ (by omega) (by omega) (fun zq ⟨mm1, hq⟩ => hk3 _ ⟨mm1, (u_d_X1_leftOf_3 ⟨f30, hq⟩)⟩) rfl hP hS (lv_sub hl [0, 1, 2, 3] rfl)
            refine lv_if_eq (tgt := 60) hx hb (dk_at dkX1_leftOf_2 1 rfl) (by decide) (fun c25 => ?_) (fun c25 => ?_)
            · have c25 : z22 = 0 := (i_eq0 (rb rz22 (by decide) (by decide))).mp c25
              exact J60_26 z2 _ _ _ (by omega) (fun zq ⟨mm1, hq⟩ => hk2 _ ⟨mm1, (u_d_X1_leftOf_2 ⟨f21, ⟨z22, gz22.out, (Or.inl ⟨c23, (Or.inl ⟨c25, hq⟩)⟩)⟩⟩)⟩) hP hS (lv_sub hl [0, 1, 2, 3] rfl)
            · have c25 : ¬ z22 = 0 := mt (i_eq0 (rb rz22 (by decide) (by decide))).mpr c25
              obtain ⟨z27, gz27, hz27, ez27⟩ := i_wrapE (z2 - 1)
              refine lv_iinc (v := iI z27) (lv' := [(2, .int (iI z27)), (3, .int (iI z1)), (0, .ref (q 22)), (1, .int (iI x1))]) hx hb (dk_at dkX1_leftOf_2 2 rfl) hl (k := 1) rfl ((i_inc (by omega)).trans ez27) (by decide) rfl (fun ls hl => ?_)
              exact J60_26 z27 _ _ _ (by omega) (fun zq ⟨mm1, hq⟩ => hk2 _ ⟨mm1, (u_d_X1_leftOf_2 ⟨f21, ⟨z22, gz22.out, (Or.inl ⟨c23, (Or.inr ⟨c25, ⟨z27, gz27.out, hq⟩⟩)⟩)⟩⟩)⟩) hP hS (lv_sub hl [1, 0, 2, 3] rfl)
          · have c23 : ¬ z19 = z22 := mt (i_eq (rb f21 (by decide) (by decide)) (rb rz22 (by decide) (by decide))).mpr c23
            refine lv_iconst (v := iI (-1)) hx hb (dk_at dkX1_leftOf_1 11 rfl) (by decide +kernel) ?_
            exact RET (-1) _ _ _ _ _ ⟨rfl, hk2 _ ⟨0, (u_d_X1_leftOf_2 ⟨f21, ⟨z22, gz22.out, (Or.inr ⟨c23, rfl⟩)⟩⟩)⟩, ⟨by decide, by decide⟩⟩ hP hS (dk_at dkX1_leftOf_1 12 rfl)
        refine lv_icmp_ne (tgt := 36) hx hb (dk_at dkX1_leftOf_1 2 rfl) (by decide) (fun c17 => ?_) (fun c17 => ?_)
        · have c17 : ¬ z13 = z16 := mt (i_eq hw15 rz16).mpr c17
          refine lv_iconst (v := iI 0) hx hb (dk_at dkX1_leftOf_1 5 rfl) (by decide +kernel) ?_
          exact J37_18 0 _ _ _ (by omega) (fun zq ⟨mm1, hq⟩ => hk1 _ ⟨mm1 + 1, (u_d_X1_leftOf_1 ⟨f6, ⟨f7, (Or.inr ⟨c11, ⟨z13, ghw15, ⟨z16, gz16.out, (Or.inl ⟨c17, hq⟩)⟩⟩⟩)⟩⟩)⟩) hP hS (lv_sub hl [0, 1, 2, 3] rfl)
        · have c17 : z13 = z16 := (i_eq hw15 rz16).mp c17
          refine lv_iconst (v := iI 1) hx hb (dk_at dkX1_leftOf_1 3 rfl) (by decide +kernel) ?_
          refine lv_goto (tgt := 37) hx hb (dk_at dkX1_leftOf_1 4 rfl) (by decide) ?_
          exact J37_18 1 _ _ _ (by omega) (fun zq ⟨mm1, hq⟩ => hk1 _ ⟨mm1 + 1, (u_d_X1_leftOf_1 ⟨f6, ⟨f7, (Or.inr ⟨c11, ⟨z13, ghw15, ⟨z16, gz16.out, (Or.inr ⟨c17, hq⟩)⟩⟩⟩)⟩⟩)⟩) hP hS (lv_sub hl [0, 1, 2, 3] rfl)
  exact L4_4 _ 0 x1 _ _ _ (by omega) (by omega) (fun zq ⟨mm1, hq⟩ => (u_r_X1_leftOf ⟨mm1, hq⟩)) rfl hP hS (lv_sub hl [0, 1, 2, 3] rfl)

abbrev tr_d_X1_weigh_2 (x2 : Int) (z1 : Int) (A : St) (u : St) (A23 : St) : Prop := ((IK A23) ∧ (∃ z26 : Int, z26 = oWrap ((A 22 5) + 1) ∧ (∃ A27 : St, A27 = stA A23 22 5 z26 ∧ (∃ z28 : Int, q_X1_topOf z1 A27 z28 ∧ (((¬ z28 = x2) ∧ (u = A27)) ∨ ((z28 = x2) ∧ (∃ z35 : Int, z35 = oWrap ((A 22 7) + 1) ∧ (∃ A36 : St, A36 = stA A27 22 7 z35 ∧ (u = A36)))))))))
def d_X1_weigh_2 (x2 : Int) (z1 : Int) (A : St) (u : St) (A23 : St) : Prop := tr_d_X1_weigh_2 x2 z1 A u A23
theorem u_d_X1_weigh_2 {x2 : Int} {z1 : Int} {A : St} {u : St} {A23 : St} (h : tr_d_X1_weigh_2 x2 z1 A u A23) : d_X1_weigh_2 x2 z1 A u A23 := h
abbrev tr_d_X1_weigh_1 (x2 : Int) (z1 : Int) (A : St) (u : St) (K1 : Int → St → Prop) (z9 : Int) (A11 : St) : Prop := ((IK A11) ∧ ((0 ≤ z9 ∧ z9 ≤ 2147483647) ∧ (((3 ≤ z9) ∧ (d_X1_weigh_2 x2 z1 A u A11)) ∨ ((¬ 3 ≤ z9) ∧ (∃ z20 : Int, z20 = A11 26 (z9).toNat ∧ (∃ A21 : St, A21 = stA A11 25 (z9).toNat z20 ∧ (K1 (z9 + 1) A21)))))))
def d_X1_weigh_1 (x2 : Int) (z1 : Int) (A : St) (u : St) : Nat → Int → St → Prop
  | 0, _, _ => False
  | nn9 + 1, z9, A11 => tr_d_X1_weigh_1 x2 z1 A u (fun z9 A11 => d_X1_weigh_1 x2 z1 A u nn9 z9 A11) z9 A11
theorem u_d_X1_weigh_1 {x2 : Int} {z1 : Int} {A : St} {u : St} {nn9 : Nat} {z9 : Int} {A11 : St} (h : tr_d_X1_weigh_1 x2 z1 A u (fun z9 A11 => d_X1_weigh_1 x2 z1 A u nn9 z9 A11) z9 A11) : d_X1_weigh_1 x2 z1 A u (nn9 + 1) z9 A11 := h
abbrev tr_r_X1_weigh (x1 : Int) (x2 : Int) (A : St) (u : St) : Prop := (∃ z1 : Int, q_X1_leftOf x1 A z1 ∧ (((¬ z1 = (-1)) ∧ (((¬ (A 22 5) = 0) ∧ (d_X1_weigh_2 x2 z1 A u A)) ∨ (((A 22 5) = 0) ∧ (∃ A8 : St, A8 = stA A 22 6 x1 ∧ (∃ nn9 : Nat, d_X1_weigh_1 x2 z1 A u nn9 0 A8))))) ∨ ((z1 = (-1)) ∧ (u = A))))
def r_X1_weigh (x1 : Int) (x2 : Int) (A : St) (u : St) : Prop := tr_r_X1_weigh x1 x2 A u
theorem u_r_X1_weigh {x1 : Int} {x2 : Int} {A : St} {u : St} (h : tr_r_X1_weigh x1 x2 A u) : r_X1_weigh x1 x2 A u := h
def q_X1_weigh (x1 : Int) (x2 : Int) (A : St) (u : St) : Prop := r_X1_weigh x1 x2 A u ∧ IK u ∧ fk [25] [(22, 5), (22, 6), (22, 7)] A u ∧ (True)
def ws_kc_X1_weigh : List Cond := .code yX1_weigh cX1_weigh 5 none :: WY
set_option maxHeartbeats 4000000 in
set_option maxRecDepth 100000 in
theorem kc_X1_weigh (l : Launch) (dC : Nat → ClassId) (dI : Nat → Nat → Nat) (cB cI cJ cZ cQ : ClassId) (aL aS : Nat) (q : Nat → Nat) (A : St) (x1 x2 : Int) (hI : IK A) (hx1 : (-2147483648 : Int) ≤ x1 ∧ x1 ≤ 2147483647) (hx2 : (-2147483648 : Int) ≤ x2 ∧ x2 ≤ 2147483647) : KMv l yX1_weigh ws_kc_X1_weigh ({ frames := 2, cells := 0, slots := 0, locals := 44 } : Room) aL aS (dC, dI) (tyA cB cI cJ cZ cQ) (WK cB cI cJ cZ cQ q) A [.ref (q 22), .int (iI x1), .int (iI x2)] (fun u => r_X1_weigh x1 x2 A u ∧ IK u ∧ fk [25] [(22, 5), (22, 6), (22, 7)] A u ∧ (True)) := by
  refine k_metv (cc := cX1_weigh) (maxL := 5) WK_adr (plainFor_of_name (by decide +kernel)) rfl (Nat.le_of_ble_eq_true rfl) (fun p e s m below meth c Q AS ls hx hb hml hown hts hK hDD hA0 hE RET H locs hP hS hl => ?_)
  have hown : s.vm.findClass RX1 = some m.cls := hown
  have hl : lv_has ls 5 [(0, .ref (q 22)), (1, .int (iI x1)), (2, .int (iI x2))] := hl
  have hiX1 : ∀ w ∈ u_ws RX1 TX1 8, w ∈ ws_kc_X1_weigh := fun w h => List.mem_cons_of_mem _ (wy_layX1 w h)
  refine lv_aload_n hx hb (dk_at dkX1_weigh_0 0 rfl) rfl (lv_at hl 0 rfl) ?_
  refine lv_iload_n hx hb (dk_at dkX1_weigh_0 1 rfl) rfl (lv_at hl 1 rfl) ?_
  refine k_calli (As := [.int (iI x1)]) (rest := []) ⟨hx, hb, hml, hown, hts⟩ hE (kc_X1_leftOf l dC dI cB cI cJ cZ cQ aL aS q _ x1 hI hx1) (cwV 1 hts (goodVk wkq_3_22 wkq_3_23 wkq_3_24 wkq_3_13 wkq_3_25) rfl rfl rfl (by decide +kernel) ⟨Nat.le_of_ble_eq_true rfl, Nat.le_of_ble_eq_true rfl⟩) hK hDD hA0 hP hS 22 1 (wkFD) rfl rfl hl.1 (Nat.le_of_ble_eq_true rfl) (dk_at dkX1_weigh_0 2 rfl) (fun z1 A2 H locs hw3 hP hS => ?_)
  obtain ⟨rfl, hw3⟩ := hw3
  have ghw3 : q_X1_leftOf x1 A z1 := hw3
  have hw3 := hw3.2
  refine lv_istore_n (lv' := [(3, .int (iI z1)), (0, .ref (q 22)), (1, .int (iI x1)), (2, .int (iI x2))]) hx hb (dk_at dkX1_weigh_0 3 rfl) rfl hl (by decide) rfl (fun ls hl => ?_)
  refine lv_iload_n hx hb (dk_at dkX1_weigh_0 4 rfl) rfl (lv_at hl 0 rfl) ?_
  refine lv_iconst (v := iI (-1)) hx hb (dk_at dkX1_weigh_0 5 rfl) (by decide +kernel) ?_
  refine lv_icmp_ne (tgt := 12) hx hb (dk_at dkX1_weigh_0 6 rfl) (by decide) (fun c4 => ?_) (fun c4 => ?_)
  · have c4 : ¬ z1 = (-1) := mt (i_eq hw3 ⟨by decide, by decide⟩).mpr c4
    refine lv_aload_n hx hb (dk_at dkX1_weigh_0 8 rfl) rfl (lv_at hl 1 rfl) ?_
    have r5 : (-2147483648 : Int) ≤ (A 22 5) ∧ (A 22 5) ≤ 2147483647 := irFD_5 hI
    refine va_get (D := (dC, dI)) (ci := 1) (v := .int (iI (A 22 5))) (C := RX1) (T := TX1) (N := 8) hx hb hts hiX1 hown hK hP 22 (wkFD) rfl 5 (by decide) (hts _ (List.mem_cons_of_mem _ wkq_3_6)) (fun _ h9 => h9) rfl (dk_at dkX1_weigh_0 9 rfl) ?_
    have J53_7 : ∀ (A23 : St) (H : Heap) (locs : List Loc) (ls : Array Slot), (∀ (u : St), (d_X1_weigh_2 x2 z1 A u A23) → r_X1_weigh x1 x2 A u) → IK A23 → fk [25] [(22, 6)] A A23 → va_P (dC, dI) vwCl (WK cB cI cJ cZ cQ q A23) H → va_S AS s.heap H locs → lv_has ls 5 [(3, .int (iI z1)), (0, .ref (q 22)), (1, .int (iI x1)), (2, .int (iI x2))] → W p l e (headSpec ws_kc_X1_weigh ({ frames := 2, cells := 0, slots := 0, locals := 44 } : Room)).room s m [.ref (q 22), .int (iI x1), .int (iI x2)].toArray below meth c H locs 0 0 Q (F0 m 53 ls []) := by
      intro A23 H locs ls hk2 hI hj22 hP hS hl
      have gI24 : Hd (IK A23) := Hd.mk hI
      refine lv_aload_n hx hb (dk_at dkX1_weigh_1 13 rfl) rfl (lv_at hl 1 rfl) ?_
      refine lv_dup hx hb (dk_at dkX1_weigh_1 14 rfl) rfl ?_
      have e25 : A23 22 5 = (A 22 5) := (hj22 22 5 rfl rfl)
      refine va_get (D := (dC, dI)) (ci := 1) (v := .int (iI (A23 22 5))) (C := RX1) (T := TX1) (N := 8) hx hb hts hiX1 hown hK hP 22 (wkFD) rfl 5 (by decide) (hts _ (List.mem_cons_of_mem _ wkq_3_6)) (fun _ h9 => h9) rfl (dk_at dkX1_weigh_1 15 rfl) ?_
      refine tp_i (y := iI (A 22 5)) (congrArg iI e25) ?_
      refine lv_iconst (v := iI 1) hx hb (dk_at dkX1_weigh_2 0 rfl) (by decide +kernel) ?_
      refine x_addv (v := (A 22 5) + 1) hx hb (dk_at dkX1_weigh_2 1 rfl) (by omega) ?_
      refine x_absE (fun z26 gz26 hz26 => ?_)
      refine k_put (Wf := WK cB cI cJ cZ cQ q) (D := (dC, dI)) (ci := 1) (v := .int (iI z26)) (ty := .int) (C := RX1) (T := TX1) (N := 8) hx hb hts hiX1 tyX1 tyX1_ok nmX1 hown hK hP hDD hS 22 (wkFD) rfl 5 (by decide) (hts _ (List.mem_cons_of_mem _ wkq_3_6)) (fun _ h9 => h9) rfl (by decide +kernel) rfl rfl (Nat.le_of_ble_eq_true rfl) (dk_at dkX1_weigh_2 2 rfl) (wfFD_5 (v := z26)) (fun H locs A27 hA27 hP hS => ?_)
      have hI := isFD_5 hA27 hI (show (-2147483648 : Int) ≤ z26 ∧ z26 ≤ 2147483647 from hz26)
      refine lv_aload_n hx hb (dk_at dkX1_weigh_2 3 rfl) rfl (lv_at hl 1 rfl) ?_
      refine lv_iload_n hx hb (dk_at dkX1_weigh_2 4 rfl) rfl (lv_at hl 0 rfl) ?_
      refine k_calli (As := [.int (iI z1)]) (rest := []) ⟨hx, hb, hml, hown, hts⟩ hE (kc_X1_topOf l dC dI cB cI cJ cZ cQ aL aS q _ z1 hI hw3) (cwV 1 hts (goodVk wkq_3_26 wkq_3_27 wkq_3_28 wkq_3_13 wkq_3_29) rfl rfl rfl (by decide +kernel) ⟨Nat.le_of_ble_eq_true rfl, Nat.le_of_ble_eq_true rfl⟩) hK hDD hA0 hP hS 22 1 (wkFD) rfl rfl hl.1 (Nat.le_of_ble_eq_true rfl) (dk_at dkX1_weigh_2 5 rfl) (fun z28 A29 H locs hw30 hP hS => ?_)
      obtain ⟨rfl, hw30⟩ := hw30
      have ghw30 : q_X1_topOf z1 A27 z28 := hw30
      have hw30 := hw30.2
      refine lv_iload_n hx hb (dk_at dkX1_weigh_2 6 rfl) rfl (lv_at hl 3 rfl) ?_
      refine lv_icmp_ne (tgt := 82) hx hb (dk_at dkX1_weigh_2 7 rfl) (by decide) (fun c31 => ?_) (fun c31 => ?_)
      · have c31 : ¬ z28 = x2 := mt (i_eq hw30 hx2).mpr c31
        exact RET _ _ _ _ _ ⟨hk2 _ (u_d_X1_weigh_2 ⟨gI24.out, ⟨z26, gz26.out, ⟨A27, hA27, ⟨z28, ghw30, (Or.inl ⟨c31, rfl⟩)⟩⟩⟩⟩), hI, fk.df (fk.trans (fk.rf) hj22 rfl rfl) hA27 rfl, trivial⟩ hP hS (dk_at dkX1_weigh_2 14 rfl)
      · have c31 : z28 = x2 := (i_eq hw30 hx2).mp c31
        refine lv_aload_n hx hb (dk_at dkX1_weigh_2 8 rfl) rfl (lv_at hl 1 rfl) ?_
        refine lv_dup hx hb (dk_at dkX1_weigh_2 9 rfl) rfl ?_
        have e33 : A23 22 7 = (A 22 7) := (hj22 22 7 rfl rfl)
        have e32 : A27 22 7 = (A 22 7) := (rd_at hA27 (by decide)).trans e33
        have r34 : (-2147483648 : Int) ≤ (A 22 7) ∧ (A 22 7) ≤ 2147483647 := by rw [← e32]; exact irFD_7 hI
        refine va_get (D := (dC, dI)) (ci := 1) (v := .int (iI (A27 22 7))) (C := RX1) (T := TX1) (N := 8) hx hb hts hiX1 hown hK hP 22 (wkFD) rfl 7 (by decide) (hts _ (List.mem_cons_of_mem _ wkq_3_8)) (fun _ h9 => h9) rfl (dk_at dkX1_weigh_2 10 rfl) ?_
        refine tp_i (y := iI (A 22 7)) (congrArg iI e32) ?_
        refine lv_iconst (v := iI 1) hx hb (dk_at dkX1_weigh_2 11 rfl) (by decide +kernel) ?_
        refine x_addv (v := (A 22 7) + 1) hx hb (dk_at dkX1_weigh_2 12 rfl) (by omega) ?_
        refine x_absE (fun z35 gz35 hz35 => ?_)
        refine k_put (Wf := WK cB cI cJ cZ cQ q) (D := (dC, dI)) (ci := 1) (v := .int (iI z35)) (ty := .int) (C := RX1) (T := TX1) (N := 8) hx hb hts hiX1 tyX1 tyX1_ok nmX1 hown hK hP hDD hS 22 (wkFD) rfl 7 (by decide) (hts _ (List.mem_cons_of_mem _ wkq_3_8)) (fun _ h9 => h9) rfl (by decide +kernel) rfl rfl (Nat.le_of_ble_eq_true rfl) (dk_at dkX1_weigh_2 13 rfl) (wfFD_7 (v := z35)) (fun H locs A36 hA36 hP hS => ?_)
        have hI := isFD_7 hA36 hI (show (-2147483648 : Int) ≤ z35 ∧ z35 ≤ 2147483647 from hz35)
        exact RET _ _ _ _ _ ⟨hk2 _ (u_d_X1_weigh_2 ⟨gI24.out, ⟨z26, gz26.out, ⟨A27, hA27, ⟨z28, ghw30, (Or.inr ⟨c31, ⟨z35, gz35.out, ⟨A36, hA36, rfl⟩⟩⟩)⟩⟩⟩⟩), hI, fk.df (fk.df (fk.trans (fk.rf) hj22 rfl rfl) hA27 rfl) hA36 rfl, trivial⟩ hP hS (dk_at dkX1_weigh_2 14 rfl)
    refine lv_if_ne (tgt := 53) hx hb (dk_at dkX1_weigh_0 10 rfl) (by decide) (fun c6 => ?_) (fun c6 => ?_)
    · have c6 : ¬ (A 22 5) = 0 := mt (i_eq0 r5).mpr c6
      exact J53_7 _ _ _ _ (fun uq hq => (u_r_X1_weigh ⟨z1, ghw3, (Or.inl ⟨c4, (Or.inl ⟨c6, hq⟩)⟩)⟩)) hI (fk.rf) hP hS (lv_sub hl [0, 1, 2, 3] rfl)
    · have c6 : (A 22 5) = 0 := (i_eq0 r5).mp c6
      refine lv_aload_n hx hb (dk_at dkX1_weigh_0 11 rfl) rfl (lv_at hl 1 rfl) ?_
      refine lv_iload_n hx hb (dk_at dkX1_weigh_0 12 rfl) rfl (lv_at hl 2 rfl) ?_
      refine k_put (Wf := WK cB cI cJ cZ cQ q) (D := (dC, dI)) (ci := 1) (v := .int (iI x1)) (ty := .int) (C := RX1) (T := TX1) (N := 8) hx hb hts hiX1 tyX1 tyX1_ok nmX1 hown hK hP hDD hS 22 (wkFD) rfl 6 (by decide) (hts _ (List.mem_cons_of_mem _ wkq_3_7)) (fun _ h9 => h9) rfl (by decide +kernel) rfl rfl (Nat.le_of_ble_eq_true rfl) (dk_at dkX1_weigh_0 13 rfl) (wfFD_6 (v := x1)) (fun H locs A8 hA8 hP hS => ?_)
      have hI := isFD_6 hA8 hI (show (-2147483648 : Int) ≤ x1 ∧ x1 ≤ 2147483647 from hx1)
      refine lv_iconst (v := iI 0) hx hb (dk_at dkX1_weigh_0 14 rfl) (by decide +kernel) ?_
      refine lv_istore (lv' := [(4, .int (iI 0)), (3, .int (iI z1)), (0, .ref (q 22)), (1, .int (iI x1)), (2, .int (iI x2))]) hx hb (dk_at dkX1_weigh_0 15 rfl) hl (by decide) rfl (fun ls hl => ?_)
      have L27_12 : ∀ (n15 : Nat) (z9 : Int) (A11 : St) (H : Heap) (locs : List Loc) (ls : Array Slot), (0 ≤ z9 ∧ z9 ≤ 2147483647) → (∀ (u : St), (∃ mm1 : Nat, (d_X1_weigh_1 x2 z1 A u mm1 z9 A11)) → r_X1_weigh x1 x2 A u) → ((4 - z9).toNat = n15) → IK A11 → fk [25] [] A8 A11 → va_P (dC, dI) vwCl (WK cB cI cJ cZ cQ q A11) H → va_S AS s.heap H locs → lv_has ls 5 [(4, .int (iI z9)), (3, .int (iI z1)), (0, .ref (q 22)), (1, .int (iI x1)), (2, .int (iI x2))] → W p l e (headSpec ws_kc_X1_weigh ({ frames := 2, cells := 0, slots := 0, locals := 44 } : Room)).room s m [.ref (q 22), .int (iI x1), .int (iI x2)].toArray below meth c H locs 0 0 Q (F0 m 27 ls []) := by
        intro n15
        induction n15 using Nat.strongRecOn with
        | ind n15 ih13 =>
          intro z9 A11 H locs ls f14 hk1 hn15 hI hj10 hP hS hl
          have gI16 : Hd (IK A11) := Hd.mk hI
          refine lv_iload hx hb (dk_at dkX1_weigh_1 0 rfl) (lv_at hl 0 rfl) ?_
          refine lv_iconst (v := iI 3) hx hb (dk_at dkX1_weigh_1 1 rfl) (by decide +kernel) ?_
          refine lv_icmp_ge (tgt := 53) hx hb (dk_at dkX1_weigh_1 2 rfl) (by decide) (fun c17 => ?_) (fun c17 => ?_)
          · have c17 : 3 ≤ z9 := (i_le ⟨by decide, by decide⟩ (rb f14 (by decide) (by decide))).mp c17
            exact J53_7 _ _ _ _ (fun uq hq => hk1 _ ⟨0 + 1, (u_d_X1_weigh_1 ⟨gI16.out, ⟨f14, (Or.inl ⟨c17, hq⟩)⟩⟩)⟩) hI (fk.trans (fk.df (fk.rf) hA8 rfl) hj10 rfl rfl) hP hS (lv_sub hl [1, 2, 3, 4] rfl)
          · have c17 : ¬ 3 ≤ z9 := mt (i_le ⟨by decide, by decide⟩ (rb f14 (by decide) (by decide))).mpr c17
            refine lv_aload_n hx hb (dk_at dkX1_weigh_1 3 rfl) rfl (lv_at hl 2 rfl) ?_
            refine va_get (D := (dC, dI)) (ci := 1) (v := .ref (q 25)) (C := RX1) (T := TX1) (N := 8) hx hb hts hiX1 hown hK hP 22 (wkFD) rfl 2 (by decide) (hts _ (List.mem_cons_of_mem _ wkq_3_21)) (fun _ h9 => h9) rfl (dk_at dkX1_weigh_1 4 rfl) ?_
            refine lv_iload hx hb (dk_at dkX1_weigh_1 5 rfl) (lv_at hl 0 rfl) ?_
            refine lv_aload_n hx hb (dk_at dkX1_weigh_1 6 rfl) rfl (lv_at hl 2 rfl) ?_
            refine va_get (D := (dC, dI)) (ci := 1) (v := .ref (q 26)) (C := RX1) (T := TX1) (N := 8) hx hb hts hiX1 hown hK hP 22 (wkFD) rfl 3 (by decide) (hts _ (List.mem_cons_of_mem _ wkq_3_16)) (fun _ h9 => h9) rfl (dk_at dkX1_weigh_1 7 rfl) ?_
            refine lv_iload hx hb (dk_at dkX1_weigh_1 8 rfl) (lv_at hl 0 rfl) ?_
            have a19 : ∀ k, A8 26 k = A 26 k := fun k => rd_ne hA8 (by decide) k
            have a18 : ∀ k, A11 26 k = A 26 k := fun k => (hj10 26 k rfl rfl).trans (a19 k)
            refine x_iald (Wf := WK cB cI cJ cZ cQ q) hx hb hK hP 26 1 (wkFDr) rfl (by omega) (by decide) (dk_at dkX1_weigh_1 9 rfl) (fun z20 hz20 => ?_)
            have rz20 : (-2147483648 : Int) ≤ z20 ∧ z20 ≤ 2147483647 := by rw [hz20]; exact irFDr hI
            have gz20 := Hd.mk hz20
            have hz20 : z20 = A 26 (z9).toNat := hz20.trans (a18 _)
            refine k_iast (Wf := WK cB cI cJ cZ cQ q) hx hb hK hP hDD hS 25 1 (wkFDf) rfl (by omega) (by decide) (dk_at dkX1_weigh_1 10 rfl) (wsFDf) (fun H locs A21 hA21 hP hS => ?_)
            have hI := isFDf hA21 hI (show (-2147483648 : Int) ≤ z20 ∧ z20 ≤ 2147483647 from rz20)
            refine lv_iinc (v := iI (z9 + 1)) (lv' := [(4, .int (iI (z9 + 1))), (3, .int (iI z1)), (0, .ref (q 22)), (1, .int (iI x1)), (2, .int (iI x2))]) hx hb (dk_at dkX1_weigh_1 11 rfl) hl (k := 0) rfl (i_inc (by omega)) (by decide) rfl (fun ls hl => ?_)
            refine lv_goto (tgt := 27) hx hb (dk_at dkX1_weigh_1 12 rfl) (by decide) ?_
            exact ih13 _ (by omega) (z9 + 1) _ _ _ _ (by omega) (fun uq ⟨mm1, hq⟩ => hk1 _ ⟨mm1 + 1, (u_d_X1_weigh_1 ⟨gI16.out, ⟨f14, (Or.inr ⟨c17, ⟨z20, gz20.out, ⟨A21, hA21, hq⟩⟩⟩)⟩⟩)⟩) rfl hI (fk.da (fk.trans (fk.rf) hj10 rfl rfl) hA21 rfl) hP hS (lv_sub hl [0, 1, 2, 3, 4] rfl)
      exact L27_12 _ 0 _ _ _ _ (by omega) (fun uq ⟨mm1, hq⟩ => (u_r_X1_weigh ⟨z1, ghw3, (Or.inl ⟨c4, (Or.inr ⟨c6, ⟨A8, hA8, ⟨mm1, hq⟩⟩⟩)⟩)⟩)) rfl hI (fk.rf) hP hS (lv_sub hl [0, 1, 2, 3, 4] rfl)
  · have c4 : z1 = (-1) := (i_eq hw3 ⟨by decide, by decide⟩).mp c4
    exact RET _ _ _ _ _ ⟨(u_r_X1_weigh ⟨z1, ghw3, (Or.inr ⟨c4, rfl⟩)⟩), hI, fk.rf, trivial⟩ hP hS (dk_at dkX1_weigh_0 7 rfl)

abbrev tr_d_X1_survey_3 (K2 : Int → St → Prop) (z15 : Int) (u : St) (A41 : St) : Prop := ((IK A41) ∧ (K2 (z15 + 1) A41))
def d_X1_survey_3 (K2 : Int → St → Prop) (z15 : Int) (u : St) (A41 : St) : Prop := tr_d_X1_survey_3 K2 z15 u A41
theorem u_d_X1_survey_3 {K2 : Int → St → Prop} {z15 : Int} {u : St} {A41 : St} (h : tr_d_X1_survey_3 K2 z15 u A41) : d_X1_survey_3 K2 z15 u A41 := h
abbrev tr_d_X1_survey_2 (K1 : Int → Int → St → Prop) (ta : Nat) (x2 : Int) (z4 : Int) (z5 : Int) (u : St) (K2 : Int → St → Prop) (z15 : Int) (A17 : St) : Prop := ((IK A17) ∧ ((0 ≤ z15 ∧ z15 ≤ 2147483647) ∧ (((z5 ≤ z15) ∧ (∃ z29 : Int, z29 = A17 (ta + 1) (1 : Int).toNat ∧ (∃ z30 : Int, z30 = oMul z5 z29 ∧ (K1 (z4 + 1) z30 A17)))) ∨ ((¬ z5 ≤ z15) ∧ (∃ z31 : Int, ∃ A32 : St, q_X1_isRow ta z15 z4 A17 z31 A32 ∧ (((z31 = 0) ∧ (d_X1_survey_3 K2 z15 u A32)) ∨ ((¬ z31 = 0) ∧ (∃ A37 : St, q_X1_weigh z4 x2 A32 A37 ∧ (d_X1_survey_3 K2 z15 u A37)))))))))
def d_X1_survey_2 (K1 : Int → Int → St → Prop) (ta : Nat) (x2 : Int) (z4 : Int) (z5 : Int) (u : St) : Nat → Int → St → Prop
  | 0, _, _ => False
  | nn9 + 1, z15, A17 => tr_d_X1_survey_2 K1 ta x2 z4 z5 u (fun z15 A17 => d_X1_survey_2 K1 ta x2 z4 z5 u nn9 z15 A17) z15 A17
theorem u_d_X1_survey_2 {K1 : Int → Int → St → Prop} {ta : Nat} {x2 : Int} {z4 : Int} {z5 : Int} {u : St} {nn9 : Nat} {z15 : Int} {A17 : St} (h : tr_d_X1_survey_2 K1 ta x2 z4 z5 u (fun z15 A17 => d_X1_survey_2 K1 ta x2 z4 z5 u nn9 z15 A17) z15 A17) : d_X1_survey_2 K1 ta x2 z4 z5 u (nn9 + 1) z15 A17 := h
abbrev tr_d_X1_survey_1 (ta : Nat) (x2 : Int) (u : St) (K1 : Int → Int → St → Prop) (z4 : Int) (z5 : Int) (A7 : St) : Prop := ((IK A7) ∧ ((0 ≤ z4 ∧ z4 ≤ 2147483647) ∧ ((-2147483648 ≤ z5 ∧ z5 ≤ 2147483647) ∧ (((3 < z4) ∧ (u = A7)) ∨ ((¬ 3 < z4) ∧ (∃ nn9 : Nat, d_X1_survey_2 K1 ta x2 z4 z5 u nn9 0 A7))))))
def d_X1_survey_1 (ta : Nat) (x2 : Int) (u : St) : Nat → Int → Int → St → Prop
  | 0, _, _, _ => False
  | nn9 + 1, z4, z5, A7 => tr_d_X1_survey_1 ta x2 u (fun z4 z5 A7 => d_X1_survey_1 ta x2 u nn9 z4 z5 A7) z4 z5 A7
theorem u_d_X1_survey_1 {ta : Nat} {x2 : Int} {u : St} {nn9 : Nat} {z4 : Int} {z5 : Int} {A7 : St} (h : tr_d_X1_survey_1 ta x2 u (fun z4 z5 A7 => d_X1_survey_1 ta x2 u nn9 z4 z5 A7) z4 z5 A7) : d_X1_survey_1 ta x2 u (nn9 + 1) z4 z5 A7 := h
abbrev tr_r_X1_survey (ta : Nat) (x2 : Int) (A : St) (u : St) : Prop := (∃ A1 : St, A1 = stA A 22 5 0 ∧ (∃ A2 : St, A2 = stA A1 22 6 0 ∧ (∃ A3 : St, A3 = stA A2 22 7 0 ∧ (∃ nn9 : Nat, d_X1_survey_1 ta x2 u nn9 0 1 A3))))
def r_X1_survey (ta : Nat) (x2 : Int) (A : St) (u : St) : Prop := tr_r_X1_survey ta x2 A u
theorem u_r_X1_survey {ta : Nat} {x2 : Int} {A : St} {u : St} (h : tr_r_X1_survey ta x2 A u) : r_X1_survey ta x2 A u := h
def q_X1_survey (ta : Nat) (x2 : Int) (A : St) (u : St) : Prop := r_X1_survey ta x2 A u ∧ IK u ∧ fk [25, 26] [(22, 5), (22, 6), (22, 7)] A u ∧ (True)
def ws_kc_X1_survey : List Cond := .code yX1_survey cX1_survey 6 none :: WY
set_option maxHeartbeats 4000000 in
set_option maxRecDepth 100000 in
theorem kc_X1_survey (l : Launch) (dC : Nat → ClassId) (dI : Nat → Nat → Nat) (cB cI cJ cZ cQ : ClassId) (aL aS : Nat) (q : Nat → Nat) (A : St) (ta : Nat) (x2 : Int) (hI : IK A) (hta : isT ta) (hx2 : (-2147483648 : Int) ≤ x2 ∧ x2 ≤ 2147483647) : KMv l yX1_survey ws_kc_X1_survey ({ frames := 3, cells := 0, slots := 0, locals := 68 } : Room) aL aS (dC, dI) (tyA cB cI cJ cZ cQ) (WK cB cI cJ cZ cQ q) A [.ref (q 22), .ref (q ta), .int (iI x2)] (fun u => r_X1_survey ta x2 A u ∧ IK u ∧ fk [25, 26] [(22, 5), (22, 6), (22, 7)] A u ∧ (True)) := by
  refine k_metv (cc := cX1_survey) (maxL := 6) WK_adr (plainFor_of_name (by decide +kernel)) rfl (Nat.le_of_ble_eq_true rfl) (fun p e s m below meth c Q AS ls hx hb hml hown hts hK hDD hA0 hE RET H locs hP hS hl => ?_)
  have hown : s.vm.findClass RX1 = some m.cls := hown
  have hl : lv_has ls 6 [(0, .ref (q 22)), (1, .ref (q ta)), (2, .int (iI x2))] := hl
  have hiX1 : ∀ w ∈ u_ws RX1 TX1 8, w ∈ ws_kc_X1_survey := fun w h => List.mem_cons_of_mem _ (wy_layX1 w h)
  have hiX9 : ∀ w ∈ u_ws RX9 TX9 16, w ∈ ws_kc_X1_survey := fun w h => List.mem_cons_of_mem _ (wy_layX9 w h)
  refine lv_aload_n hx hb (dk_at dkX1_survey_0 0 rfl) rfl (lv_at hl 0 rfl) ?_
  refine lv_iconst (v := iI 0) hx hb (dk_at dkX1_survey_0 1 rfl) (by decide +kernel) ?_
  refine k_put (Wf := WK cB cI cJ cZ cQ q) (D := (dC, dI)) (ci := 1) (v := .int (iI 0)) (ty := .int) (C := RX1) (T := TX1) (N := 8) hx hb hts hiX1 tyX1 tyX1_ok nmX1 hown hK hP hDD hS 22 (wkFD) rfl 5 (by decide) (hts _ (List.mem_cons_of_mem _ wkq_3_6)) (fun _ h9 => h9) rfl (by decide +kernel) rfl rfl (Nat.le_of_ble_eq_true rfl) (dk_at dkX1_survey_0 2 rfl) (wfFD_5 (v := 0)) (fun H locs A1 hA1 hP hS => ?_)
  have hI := isFD_5 hA1 hI (show (-2147483648 : Int) ≤ 0 ∧ 0 ≤ 2147483647 from ⟨by decide, by decide⟩)
  refine lv_aload_n hx hb (dk_at dkX1_survey_0 3 rfl) rfl (lv_at hl 0 rfl) ?_
  refine lv_iconst (v := iI 0) hx hb (dk_at dkX1_survey_0 4 rfl) (by decide +kernel) ?_
  refine k_put (Wf := WK cB cI cJ cZ cQ q) (D := (dC, dI)) (ci := 1) (v := .int (iI 0)) (ty := .int) (C := RX1) (T := TX1) (N := 8) hx hb hts hiX1 tyX1 tyX1_ok nmX1 hown hK hP hDD hS 22 (wkFD) rfl 6 (by decide) (hts _ (List.mem_cons_of_mem _ wkq_3_7)) (fun _ h9 => h9) rfl (by decide +kernel) rfl rfl (Nat.le_of_ble_eq_true rfl) (dk_at dkX1_survey_0 5 rfl) (wfFD_6 (v := 0)) (fun H locs A2 hA2 hP hS => ?_)
  have hI := isFD_6 hA2 hI (show (-2147483648 : Int) ≤ 0 ∧ 0 ≤ 2147483647 from ⟨by decide, by decide⟩)
  refine lv_aload_n hx hb (dk_at dkX1_survey_0 6 rfl) rfl (lv_at hl 0 rfl) ?_
  refine lv_iconst (v := iI 0) hx hb (dk_at dkX1_survey_0 7 rfl) (by decide +kernel) ?_
  refine k_put (Wf := WK cB cI cJ cZ cQ q) (D := (dC, dI)) (ci := 1) (v := .int (iI 0)) (ty := .int) (C := RX1) (T := TX1) (N := 8) hx hb hts hiX1 tyX1 tyX1_ok nmX1 hown hK hP hDD hS 22 (wkFD) rfl 7 (by decide) (hts _ (List.mem_cons_of_mem _ wkq_3_8)) (fun _ h9 => h9) rfl (by decide +kernel) rfl rfl (Nat.le_of_ble_eq_true rfl) (dk_at dkX1_survey_0 8 rfl) (wfFD_7 (v := 0)) (fun H locs A3 hA3 hP hS => ?_)
  have hI := isFD_7 hA3 hI (show (-2147483648 : Int) ≤ 0 ∧ 0 ≤ 2147483647 from ⟨by decide, by decide⟩)
  refine lv_iconst (v := iI 1) hx hb (dk_at dkX1_survey_0 9 rfl) (by decide +kernel) ?_
  refine lv_istore_n (lv' := [(3, .int (iI 1)), (0, .ref (q 22)), (1, .ref (q ta)), (2, .int (iI x2))]) hx hb (dk_at dkX1_survey_0 10 rfl) rfl hl (by decide) rfl (fun ls hl => ?_)
  refine lv_iconst (v := iI 0) hx hb (dk_at dkX1_survey_0 11 rfl) (by decide +kernel) ?_
  refine lv_istore (lv' := [(4, .int (iI 0)), (3, .int (iI 1)), (0, .ref (q 22)), (1, .ref (q ta)), (2, .int (iI x2))]) hx hb (dk_at dkX1_survey_0 12 rfl) hl (by decide) rfl (fun ls hl => ?_)
  have L20_8 : ∀ (n12 : Nat) (z4 z5 : Int) (A7 : St) (H : Heap) (locs : List Loc) (ls : Array Slot), (0 ≤ z4 ∧ z4 ≤ 2147483647) → (-2147483648 ≤ z5 ∧ z5 ≤ 2147483647) → (∀ (u : St), (∃ mm1 : Nat, (d_X1_survey_1 ta x2 u mm1 z4 z5 A7)) → r_X1_survey ta x2 A u) → ((4 - z4).toNat = n12) → IK A7 → fk [25, 26] [(22, 5), (22, 6), (22, 7)] A3 A7 → va_P (dC, dI) vwCl (WK cB cI cJ cZ cQ q A7) H → va_S AS s.heap H locs → lv_has ls 6 [(4, .int (iI z4)), (3, .int (iI z5)), (0, .ref (q 22)), (1, .ref (q ta)), (2, .int (iI x2))] → W p l e (headSpec ws_kc_X1_survey ({ frames := 3, cells := 0, slots := 0, locals := 68 } : Room)).room s m [.ref (q 22), .ref (q ta), .int (iI x2)].toArray below meth c H locs 0 0 Q (F0 m 20 ls []) := by
    intro n12
    induction n12 using Nat.strongRecOn with
    | ind n12 ih9 =>
      intro z4 z5 A7 H locs ls f10 f11 hk1 hn12 hI hj6 hP hS hl
      have gI13 : Hd (IK A7) := Hd.mk hI
      refine lv_iload hx hb (dk_at dkX1_survey_0 13 rfl) (lv_at hl 0 rfl) ?_
      refine lv_iconst (v := iI 3) hx hb (dk_at dkX1_survey_0 14 rfl) (by decide +kernel) ?_
      refine lv_icmp_gt (tgt := 75) hx hb (dk_at dkX1_survey_0 15 rfl) (by decide) (fun c14 => ?_) (fun c14 => ?_)
      · have c14 : 3 < z4 := (i_lt ⟨by decide, by decide⟩ (rb f10 (by decide) (by decide))).mp c14
        exact RET _ _ _ _ _ ⟨hk1 _ ⟨0 + 1, (u_d_X1_survey_1 ⟨gI13.out, ⟨f10, ⟨f11, (Or.inl ⟨c14, rfl⟩)⟩⟩⟩)⟩, hI, fk.trans (fk.df (fk.df (fk.df (fk.rf) hA1 rfl) hA2 rfl) hA3 rfl) hj6 rfl rfl, trivial⟩ hP hS (dk_at dkX1_survey_2 10 rfl)
      · have c14 : ¬ 3 < z4 := mt (i_lt ⟨by decide, by decide⟩ (rb f10 (by decide) (by decide))).mpr c14
        refine lv_iconst (v := iI 0) hx hb (dk_at dkX1_survey_1 0 rfl) (by decide +kernel) ?_
        refine lv_istore (lv' := [(5, .int (iI 0)), (4, .int (iI z4)), (3, .int (iI z5)), (0, .ref (q 22)), (1, .ref (q ta)), (2, .int (iI x2))]) hx hb (dk_at dkX1_survey_1 1 rfl) hl (by decide) rfl (fun ls hl => ?_)
        have L29_18 : ∀ (n21 : Nat) (z15 : Int) (A17 : St) (H : Heap) (locs : List Loc) (ls : Array Slot), (0 ≤ z15 ∧ z15 ≤ 2147483647) → (∀ (u : St), (∃ mm1 mm2 : Nat, (d_X1_survey_2 (fun z4' z5' A7' => d_X1_survey_1 ta x2 u mm1 z4' z5' A7') ta x2 z4 z5 u mm2 z15 A17)) → r_X1_survey ta x2 A u) → ((2147483648 - z15).toNat = n21) → IK A17 → fk [25, 26] [(22, 5), (22, 6), (22, 7)] A7 A17 → va_P (dC, dI) vwCl (WK cB cI cJ cZ cQ q A17) H → va_S AS s.heap H locs → lv_has ls 6 [(5, .int (iI z15)), (4, .int (iI z4)), (3, .int (iI z5)), (0, .ref (q 22)), (1, .ref (q ta)), (2, .int (iI x2))] → W p l e (headSpec ws_kc_X1_survey ({ frames := 3, cells := 0, slots := 0, locals := 68 } : Room)).room s m [.ref (q 22), .ref (q ta), .int (iI x2)].toArray below meth c H locs 0 0 Q (F0 m 29 ls []) := by
          intro n21
          induction n21 using Nat.strongRecOn with
          | ind n21 ih19 =>
            intro z15 A17 H locs ls f20 hk2 hn21 hI hj16 hP hS hl
            have gI22 : Hd (IK A17) := Hd.mk hI
            refine lv_iload hx hb (dk_at dkX1_survey_1 2 rfl) (lv_at hl 0 rfl) ?_
            refine lv_iload_n hx hb (dk_at dkX1_survey_1 3 rfl) rfl (lv_at hl 2 rfl) ?_
            refine lv_icmp_ge (tgt := 60) hx hb (dk_at dkX1_survey_1 4 rfl) (by decide) (fun c23 => ?_) (fun c23 => ?_)
            · have c23 : z5 ≤ z15 := (i_le f11 (rb f20 (by decide) (by decide))).mp c23
              refine lv_iload_n hx hb (dk_at dkX1_survey_2 1 rfl) rfl (lv_at hl 2 rfl) ?_
              refine lv_aload_n hx hb (dk_at dkX1_survey_2 2 rfl) rfl (lv_at hl 4 rfl) ?_
              refine va_get (D := (dC, dI)) (ci := 9) (v := .ref (q (ta + 1))) (C := RX9) (T := TX9) (N := 16) hx hb hts hiX9 hown hK hP ta (wkT hta) rfl 0 (by decide) (hts _ (List.mem_cons_of_mem _ wkq_3_9)) (fun _ h9 => h9) rfl (dk_at dkX1_survey_2 3 rfl) ?_
              refine lv_iconst (v := iI 1) hx hb (dk_at dkX1_survey_2 4 rfl) (by decide +kernel) ?_
              have a28 : ∀ k, A1 (ta + 1) k = A (ta + 1) k := fun k => rd_ne hA1 (by rcases hta with h | h <;> omega) k
              have a27 : ∀ k, A2 (ta + 1) k = A (ta + 1) k := fun k => (rd_ne hA2 (by rcases hta with h | h <;> omega) k).trans (a28 k)
              have a26 : ∀ k, A3 (ta + 1) k = A (ta + 1) k := fun k => (rd_ne hA3 (by rcases hta with h | h <;> omega) k).trans (a27 k)
              have a25 : ∀ k, A7 (ta + 1) k = A (ta + 1) k := fun k => (hj6 (ta + 1) k (isT.b2 (o := fun b => List.contains [25, 26] (b + 1)) hta rfl rfl) (isT.b2 (o := fun b => fin2 [(22, 5), (22, 6), (22, 7)] (b + 1) k) hta rfl rfl)).trans (a26 k)
              have a24 : ∀ k, A17 (ta + 1) k = A (ta + 1) k := fun k => (hj16 (ta + 1) k (isT.b2 (o := fun b => List.contains [25, 26] (b + 1)) hta rfl rfl) (isT.b2 (o := fun b => fin2 [(22, 5), (22, 6), (22, 7)] (b + 1) k) hta rfl rfl)).trans (a25 k)
              refine x_iald (Wf := WK cB cI cJ cZ cQ q) hx hb hK hP (ta + 1) 1 (wkTc hta) rfl (by decide) (by decide) (dk_at dkX1_survey_2 5 rfl) (fun z29 hz29 => ?_)
              have rz29 : (0 : Int) ≤ z29 ∧ z29 ≤ 10 := by rw [hz29]; exact irTc1 hta hI
              have gz29 := Hd.mk hz29
              have hz29 : z29 = A (ta + 1) (1 : Int).toNat := hz29.trans (a24 _)
              refine lv_imul hx hb (dk_at dkX1_survey_2 6 rfl) ?_
              refine x_absE (fun z30 gz30 hz30 => ?_)
              refine lv_istore_n (lv' := [(3, .int (iI z30)), (5, .int (iI z15)), (4, .int (iI z4)), (0, .ref (q 22)), (1, .ref (q ta)), (2, .int (iI x2))]) hx hb (dk_at dkX1_survey_2 7 rfl) rfl hl (by decide) rfl (fun ls hl => ?_)
              refine lv_iinc (v := iI (z4 + 1)) (lv' := [(4, .int (iI (z4 + 1))), (3, .int (iI z30)), (5, .int (iI z15)), (0, .ref (q 22)), (1, .ref (q ta)), (2, .int (iI x2))]) hx hb (dk_at dkX1_survey_2 8 rfl) hl (k := 2) rfl (i_inc (by omega)) (by decide) rfl (fun ls hl => ?_)
              refine lv_goto (tgt := 20) hx hb (dk_at dkX1_survey_2 9 rfl) (by decide) ?_
              exact ih9 _ (by omega) (z4 + 1) z30 _ _ _ _ (by omega) (by omega) (fun uq ⟨mm1, hq⟩ => hk2 _ ⟨mm1, 0 + 1, (u_d_X1_survey_2 ⟨gI22.out, ⟨f20, (Or.inl ⟨c23, ⟨z29, gz29.out, ⟨z30, gz30.out, hq⟩⟩⟩)⟩⟩)⟩) rfl hI (fk.trans (fk.trans (fk.rf) hj6 rfl rfl) hj16 rfl rfl) hP hS (lv_sub hl [0, 1, 3, 4, 5] rfl)
            · have c23 : ¬ z5 ≤ z15 := mt (i_le f11 (rb f20 (by decide) (by decide))).mpr c23
              refine lv_aload_n hx hb (dk_at dkX1_survey_1 5 rfl) rfl (lv_at hl 3 rfl) ?_
              refine lv_aload_n hx hb (dk_at dkX1_survey_1 6 rfl) rfl (lv_at hl 4 rfl) ?_
              refine lv_iload hx hb (dk_at dkX1_survey_1 7 rfl) (lv_at hl 0 rfl) ?_
              refine lv_iload hx hb (dk_at dkX1_survey_1 8 rfl) (lv_at hl 1 rfl) ?_
              refine k_calli (As := [.ref (q ta), .int (iI z15), .int (iI z4)]) (rest := []) ⟨hx, hb, hml, hown, hts⟩ hE (kc_X1_isRow l dC dI cB cI cJ cZ cQ aL aS q _ ta z15 z4 hI hta f20 (rb f10 (by decide) (by decide))) (cwV 3 hts (goodVk wkq_3_10 wkq_3_11 wkq_3_12 wkq_3_13 wkq_3_14) rfl rfl rfl (by decide +kernel) ⟨Nat.le_of_ble_eq_true rfl, Nat.le_of_ble_eq_true rfl⟩) hK hDD hA0 hP hS 22 1 (wkFD) rfl rfl hl.1 (Nat.le_of_ble_eq_true rfl) (dk_at dkX1_survey_1 9 rfl) (fun z31 A32 H locs hw33 hP hS => ?_)
              have ghw33 : q_X1_isRow ta z15 z4 A17 z31 A32 := hw33
              obtain ⟨_, hI, hf34, hw33⟩ := hw33
              have J54_36 : ∀ (A41 : St) (H : Heap) (locs : List Loc) (ls : Array Slot), (∀ (u : St), (∃ mm1 mm2 : Nat, (d_X1_survey_3 (fun z15' A17' => d_X1_survey_2 (fun z4' z5' A7' => d_X1_survey_1 ta x2 u mm1 z4' z5' A7') ta x2 z4 z5 u mm2 z15' A17') z15 u A41)) → r_X1_survey ta x2 A u) → IK A41 → fk [25] [(22, 5), (22, 6), (22, 7)] A32 A41 → va_P (dC, dI) vwCl (WK cB cI cJ cZ cQ q A41) H → va_S AS s.heap H locs → lv_has ls 6 [(5, .int (iI z15)), (4, .int (iI z4)), (3, .int (iI z5)), (0, .ref (q 22)), (1, .ref (q ta)), (2, .int (iI x2))] → W p l e (headSpec ws_kc_X1_survey ({ frames := 3, cells := 0, slots := 0, locals := 68 } : Room)).room s m [.ref (q 22), .ref (q ta), .int (iI x2)].toArray below meth c H locs 0 0 Q (F0 m 54 ls []) := by
                intro A41 H locs ls hk3 hI hj40 hP hS hl
                have gI42 : Hd (IK A41) := Hd.mk hI
                refine lv_iinc (v := iI (z15 + 1)) (lv' := [(5, .int (iI (z15 + 1))), (4, .int (iI z4)), (3, .int (iI z5)), (0, .ref (q 22)), (1, .ref (q ta)), (2, .int (iI x2))]) hx hb (dk_at dkX1_survey_1 15 rfl) hl (k := 0) rfl (i_inc (by omega)) (by decide) rfl (fun ls hl => ?_)
                refine lv_goto (tgt := 29) hx hb (dk_at dkX1_survey_2 0 rfl) (by decide) ?_
                exact ih19 _ (by omega) (z15 + 1) _ _ _ _ (by omega) (fun uq ⟨mm1, mm2, hq⟩ => hk3 _ ⟨mm1, mm2, (u_d_X1_survey_3 ⟨gI42.out, hq⟩)⟩) rfl hI (fk.trans (fk.trans (fk.trans (fk.rf) hj16 rfl rfl) hf34 rfl rfl) hj40 rfl rfl) hP hS (lv_sub hl [0, 1, 2, 3, 4, 5] rfl)
              refine lv_if_eq (tgt := 54) hx hb (dk_at dkX1_survey_1 10 rfl) (by decide) (fun c35 => ?_) (fun c35 => ?_)
              · have c35 : z31 = 0 := (i_eq0 (rb hw33 (by decide) (by decide))).mp c35
                exact J54_36 _ _ _ _ (fun uq ⟨mm1, mm2, hq⟩ => hk2 _ ⟨mm1, mm2 + 1, (u_d_X1_survey_2 ⟨gI22.out, ⟨f20, (Or.inr ⟨c23, ⟨z31, A32, ghw33, (Or.inl ⟨c35, hq⟩)⟩⟩)⟩⟩)⟩) hI (fk.rf) hP hS (lv_sub hl [0, 1, 2, 3, 4, 5] rfl)
              · have c35 : ¬ z31 = 0 := mt (i_eq0 (rb hw33 (by decide) (by decide))).mpr c35
                refine lv_aload_n hx hb (dk_at dkX1_survey_1 11 rfl) rfl (lv_at hl 3 rfl) ?_
                refine lv_iload hx hb (dk_at dkX1_survey_1 12 rfl) (lv_at hl 1 rfl) ?_
                refine lv_iload_n hx hb (dk_at dkX1_survey_1 13 rfl) rfl (lv_at hl 5 rfl) ?_
                refine k_callv (As := [.int (iI z4), .int (iI x2)]) (rest := []) ⟨hx, hb, hml, hown, hts⟩ hE (kc_X1_weigh l dC dI cB cI cJ cZ cQ aL aS q _ z4 x2 hI (rb f10 (by decide) (by decide)) hx2) (cwV 2 hts (goodVk wkq_3_17 wkq_3_18 wkq_3_19 wkq_3_13 wkq_3_20) rfl rfl rfl (by decide +kernel) ⟨Nat.le_of_ble_eq_true rfl, Nat.le_of_ble_eq_true rfl⟩) hK hDD hA0 hP hS 22 1 (wkFD) rfl rfl hl.1 (Nat.le_of_ble_eq_true rfl) (dk_at dkX1_survey_1 14 rfl) (fun A37 H locs hw38 hP hS => ?_)
                have ghw38 : q_X1_weigh z4 x2 A32 A37 := hw38
                obtain ⟨_, hI, hf39, hw38⟩ := hw38
                clear hw38
                exact J54_36 _ _ _ _ (fun uq ⟨mm1, mm2, hq⟩ => hk2 _ ⟨mm1, mm2 + 1, (u_d_X1_survey_2 ⟨gI22.out, ⟨f20, (Or.inr ⟨c23, ⟨z31, A32, ghw33, (Or.inr ⟨c35, ⟨A37, ghw38, hq⟩⟩)⟩⟩)⟩⟩)⟩) hI (fk.trans (fk.rf) hf39 rfl rfl) hP hS (lv_sub hl [0, 1, 2, 3, 4, 5] rfl)
        exact L29_18 _ 0 _ _ _ _ (by omega) (fun uq ⟨mm1, mm2, hq⟩ => hk1 _ ⟨mm1 + 1, (u_d_X1_survey_1 ⟨gI13.out, ⟨f10, ⟨f11, (Or.inr ⟨c14, ⟨mm2, hq⟩⟩)⟩⟩⟩)⟩) rfl hI (fk.rf) hP hS (lv_sub hl [0, 1, 2, 3, 4, 5] rfl)
  exact L20_8 _ 0 1 _ _ _ _ (by omega) (by omega) (fun uq ⟨mm1, hq⟩ => (u_r_X1_survey ⟨A1, hA1, ⟨A2, hA2, ⟨A3, hA3, ⟨mm1, hq⟩⟩⟩⟩)) rfl hI (fk.rf) hP hS (lv_sub hl [0, 1, 2, 3, 4] rfl)

abbrev tr_d_X2_areCrossing_2 (z9 : Int) (z10 : Int) (z11 : Int) (z12 : Int) (z : Int) : Prop := (((z9 ≤ z11) ∧ (z = 0)) ∨ ((¬ z9 ≤ z11) ∧ (((z12 ≤ z9) ∧ (z = 0)) ∨ ((¬ z12 ≤ z9) ∧ (((z10 ≤ z12) ∧ (z = 0)) ∨ ((¬ z10 ≤ z12) ∧ (z = 1)))))))
def d_X2_areCrossing_2 (z9 : Int) (z10 : Int) (z11 : Int) (z12 : Int) (z : Int) : Prop := tr_d_X2_areCrossing_2 z9 z10 z11 z12 z
theorem u_d_X2_areCrossing_2 {z9 : Int} {z10 : Int} {z11 : Int} {z12 : Int} {z : Int} (h : tr_d_X2_areCrossing_2 z9 z10 z11 z12 z) : d_X2_areCrossing_2 z9 z10 z11 z12 z := h
abbrev tr_d_X2_areCrossing_1 (z9 : Int) (z10 : Int) (z11 : Int) (z12 : Int) (z : Int) : Prop := (((z11 ≤ z9) ∧ (d_X2_areCrossing_2 z9 z10 z11 z12 z)) ∨ ((¬ z11 ≤ z9) ∧ (((z10 ≤ z11) ∧ (d_X2_areCrossing_2 z9 z10 z11 z12 z)) ∨ ((¬ z10 ≤ z11) ∧ (((z10 < z12) ∧ (z = 1)) ∨ ((¬ z10 < z12) ∧ (d_X2_areCrossing_2 z9 z10 z11 z12 z)))))))
def d_X2_areCrossing_1 (z9 : Int) (z10 : Int) (z11 : Int) (z12 : Int) (z : Int) : Prop := tr_d_X2_areCrossing_1 z9 z10 z11 z12 z
theorem u_d_X2_areCrossing_1 {z9 : Int} {z10 : Int} {z11 : Int} {z12 : Int} {z : Int} (h : tr_d_X2_areCrossing_1 z9 z10 z11 z12 z) : d_X2_areCrossing_1 z9 z10 z11 z12 z := h
abbrev tr_r_X2_areCrossing (ta : Nat) (x2 : Int) (x3 : Int) (A : St) (z : Int) : Prop := (∃ z1 : Int, q_X9_isThere_1_6 ta x2 A z1 ∧ (((z1 = 0) ∧ (z = 0)) ∨ ((¬ z1 = 0) ∧ (∃ z5 : Int, q_X9_isThere_1_6 ta x3 A z5 ∧ (((¬ z5 = 0) ∧ (∃ z9 : Int, z9 = A (ta + 14) (x2).toNat ∧ (∃ z10 : Int, z10 = A (ta + 15) (x2).toNat ∧ (∃ z11 : Int, z11 = A (ta + 14) (x3).toNat ∧ (∃ z12 : Int, z12 = A (ta + 15) (x3).toNat ∧ (∃ z13 : Int, z13 = A (ta + 13) (x2).toNat ∧ (∃ z14 : Int, z14 = A (ta + 13) (x3).toNat ∧ (((¬ z13 = z14) ∧ (d_X2_areCrossing_1 z9 z10 z11 z12 z)) ∨ ((z13 = z14) ∧ (((z12 ≤ z9) ∧ (d_X2_areCrossing_1 z9 z10 z11 z12 z)) ∨ ((¬ z12 ≤ z9) ∧ (((z10 ≤ z11) ∧ (d_X2_areCrossing_1 z9 z10 z11 z12 z)) ∨ ((¬ z10 ≤ z11) ∧ (z = 1)))))))))))))) ∨ ((z5 = 0) ∧ (z = 0)))))))
def r_X2_areCrossing (ta : Nat) (x2 : Int) (x3 : Int) (A : St) (z : Int) : Prop := tr_r_X2_areCrossing ta x2 x3 A z
theorem u_r_X2_areCrossing {ta : Nat} {x2 : Int} {x3 : Int} {A : St} {z : Int} (h : tr_r_X2_areCrossing ta x2 x3 A z) : r_X2_areCrossing ta x2 x3 A z := h
def q_X2_areCrossing (ta : Nat) (x2 : Int) (x3 : Int) (A : St) (z : Int) : Prop := r_X2_areCrossing ta x2 x3 A z ∧ (0 ≤ z ∧ z ≤ 1)
def ws_kc_X2_areCrossing : List Cond := .code yX2_areCrossing cX2_areCrossing 7 (some .boolean) :: WY
set_option maxHeartbeats 4000000 in
set_option maxRecDepth 100000 in
theorem kc_X2_areCrossing (l : Launch) (dC : Nat → ClassId) (dI : Nat → Nat → Nat) (cB cI cJ cZ cQ : ClassId) (aL aS : Nat) (q : Nat → Nat) (A : St) (ta : Nat) (x2 x3 : Int) (hI : IK A) (hta : isT ta) (hx2 : (-2147483648 : Int) ≤ x2 ∧ x2 ≤ 2147483647) (hx3 : (-2147483648 : Int) ≤ x3 ∧ x3 ≤ 2147483647) : KMi l yX2_areCrossing ws_kc_X2_areCrossing ({ frames := 1, cells := 0, slots := 0, locals := 22 } : Room) aL aS (dC, dI) (tyA cB cI cJ cZ cQ) (WK cB cI cJ cZ cQ q) A [.ref (q ta), .int (iI x2), .int (iI x3)] (fun z u => A = u ∧ r_X2_areCrossing ta x2 x3 A z ∧ (0 ≤ z ∧ z ≤ 1)) := by
  refine k_metz (cc := cX2_areCrossing) (maxL := 7) WK_adr (plainFor_of_name (by decide +kernel)) rfl (Nat.le_of_ble_eq_true rfl) (fun z u h => h.2.2) (fun p e s m below meth c Q AS ls hx hb hml hown hts hK hDD hA0 hE RET H locs hP hS hl => ?_)
  have hown : s.vm.findClass RX2 = some m.cls := hown
  have hl : lv_has ls 7 [(0, .ref (q ta)), (1, .int (iI x2)), (2, .int (iI x3))] := hl
  have hiX9 : ∀ w ∈ u_ws RX9 TX9 16, w ∈ ws_kc_X2_areCrossing := fun w h => List.mem_cons_of_mem _ (wy_layX9 w h)
  refine lv_aload_n hx hb (dk_at dkX2_areCrossing_0 0 rfl) rfl (lv_at hl 0 rfl) ?_
  refine lv_bipush (v := iI 6) hx hb (dk_at dkX2_areCrossing_0 1 rfl) (by decide +kernel) ?_
  refine lv_iload_n hx hb (dk_at dkX2_areCrossing_0 2 rfl) rfl (lv_at hl 1 rfl) ?_
  refine k_calli (As := [.int (iI 6), .int (iI x2)]) (rest := []) ⟨hx, hb, hml, hown, hts⟩ hE (kc_X9_isThere_1_6 l dC dI cB cI cJ cZ cQ aL aS q _ ta x2 hI hta hx2) (cwV 2 hts (goodVk wkq_3_39 wkq_0_22 wkq_0_23 wkq_0_6 wkq_0_24) rfl rfl rfl (by decide +kernel) ⟨Nat.le_of_ble_eq_true rfl, Nat.le_of_ble_eq_true rfl⟩) hK hDD hA0 hP hS ta 9 (wkT hta) rfl rfl hl.1 (Nat.le_of_ble_eq_true rfl) (dk_at dkX2_areCrossing_0 3 rfl) (fun z1 A2 H locs hw3 hP hS => ?_)
  obtain ⟨rfl, hw3⟩ := hw3
  have ghw3 : q_X9_isThere_1_6 ta x2 A z1 := hw3
  have hw3 := hw3.2
  have rz1 : 0 ≤ z1 ∧ z1 ≤ 1 := hw3.1
  have hw3 := hw3.2
  refine lv_if_eq (tgt := 20) hx hb (dk_at dkX2_areCrossing_0 4 rfl) (by decide) (fun c4 => ?_) (fun c4 => ?_)
  · have c4 : z1 = 0 := (i_eq0 (rb rz1 (by decide) (by decide))).mp c4
    clear hw3
    refine lv_iconst (v := iI 0) hx hb (dk_at dkX2_areCrossing_0 10 rfl) (by decide +kernel) ?_
    exact RET 0 _ _ _ _ _ ⟨rfl, (u_r_X2_areCrossing ⟨z1, ghw3, (Or.inl ⟨c4, rfl⟩)⟩), ⟨by decide, by decide⟩⟩ hP hS (dk_at dkX2_areCrossing_0 11 rfl)
  · have c4 : ¬ z1 = 0 := mt (i_eq0 (rb rz1 (by decide) (by decide))).mpr c4
    have hw3b := hw3 (by omega)
    clear hw3
    refine lv_aload_n hx hb (dk_at dkX2_areCrossing_0 5 rfl) rfl (lv_at hl 0 rfl) ?_
    refine lv_bipush (v := iI 6) hx hb (dk_at dkX2_areCrossing_0 6 rfl) (by decide +kernel) ?_
    refine lv_iload_n hx hb (dk_at dkX2_areCrossing_0 7 rfl) rfl (lv_at hl 2 rfl) ?_
    refine k_calli (As := [.int (iI 6), .int (iI x3)]) (rest := []) ⟨hx, hb, hml, hown, hts⟩ hE (kc_X9_isThere_1_6 l dC dI cB cI cJ cZ cQ aL aS q _ ta x3 hI hta hx3) (cwV 2 hts (goodVk wkq_3_39 wkq_0_22 wkq_0_23 wkq_0_6 wkq_0_24) rfl rfl rfl (by decide +kernel) ⟨Nat.le_of_ble_eq_true rfl, Nat.le_of_ble_eq_true rfl⟩) hK hDD hA0 hP hS ta 9 (wkT hta) rfl rfl hl.1 (Nat.le_of_ble_eq_true rfl) (dk_at dkX2_areCrossing_0 8 rfl) (fun z5 A6 H locs hw7 hP hS => ?_)
    obtain ⟨rfl, hw7⟩ := hw7
    have ghw7 : q_X9_isThere_1_6 ta x3 A z5 := hw7
    have hw7 := hw7.2
    have rz5 : 0 ≤ z5 ∧ z5 ≤ 1 := hw7.1
    have hw7 := hw7.2
    refine lv_if_ne (tgt := 22) hx hb (dk_at dkX2_areCrossing_0 9 rfl) (by decide) (fun c8 => ?_) (fun c8 => ?_)
    · have c8 : ¬ z5 = 0 := mt (i_eq0 (rb rz5 (by decide) (by decide))).mpr c8
      have hw7b := hw7 (by omega)
      clear hw7
      refine lv_aload_n hx hb (dk_at dkX2_areCrossing_0 12 rfl) rfl (lv_at hl 0 rfl) ?_
      refine va_get (D := (dC, dI)) (ci := 9) (v := .ref (q (ta + 14))) (C := RX9) (T := TX9) (N := 16) hx hb hts hiX9 hown hK hP ta (wkT hta) rfl 8 (by decide) (hts _ (List.mem_cons_of_mem _ wkq_3_36)) (fun _ h9 => h9) rfl (dk_at dkX2_areCrossing_0 13 rfl) ?_
      refine lv_iload_n hx hb (dk_at dkX2_areCrossing_0 14 rfl) rfl (lv_at hl 1 rfl) ?_
      refine x_iald (Wf := WK cB cI cJ cZ cQ q) hx hb hK hP (ta + 14) 1 (wkTmb hta) rfl (by omega) (by decide) (dk_at dkX2_areCrossing_0 15 rfl) (fun z9 hz9 => ?_)
      have rz9 : (-2147483648 : Int) ≤ z9 ∧ z9 ≤ 2147483647 := by rw [hz9]; exact irTmb hta hI
      have gz9 := Hd.mk hz9
      refine lv_istore_n (lv' := [(3, .int (iI z9)), (0, .ref (q ta)), (1, .int (iI x2)), (2, .int (iI x3))]) hx hb (dk_at dkX2_areCrossing_1 0 rfl) rfl hl (by decide) rfl (fun ls hl => ?_)
      refine lv_aload_n hx hb (dk_at dkX2_areCrossing_1 1 rfl) rfl (lv_at hl 1 rfl) ?_
      refine va_get (D := (dC, dI)) (ci := 9) (v := .ref (q (ta + 15))) (C := RX9) (T := TX9) (N := 16) hx hb hts hiX9 hown hK hP ta (wkT hta) rfl 9 (by decide) (hts _ (List.mem_cons_of_mem _ wkq_3_37)) (fun _ h9 => h9) rfl (dk_at dkX2_areCrossing_1 2 rfl) ?_
      refine lv_iload_n hx hb (dk_at dkX2_areCrossing_1 3 rfl) rfl (lv_at hl 2 rfl) ?_
      refine x_iald (Wf := WK cB cI cJ cZ cQ q) hx hb hK hP (ta + 15) 1 (wkTme hta) rfl (by omega) (by decide) (dk_at dkX2_areCrossing_1 4 rfl) (fun z10 hz10 => ?_)
      have rz10 : (-2147483648 : Int) ≤ z10 ∧ z10 ≤ 2147483647 := by rw [hz10]; exact irTme hta hI
      have gz10 := Hd.mk hz10
      refine lv_istore (lv' := [(4, .int (iI z10)), (3, .int (iI z9)), (0, .ref (q ta)), (1, .int (iI x2)), (2, .int (iI x3))]) hx hb (dk_at dkX2_areCrossing_1 5 rfl) hl (by decide) rfl (fun ls hl => ?_)
      refine lv_aload_n hx hb (dk_at dkX2_areCrossing_1 6 rfl) rfl (lv_at hl 2 rfl) ?_
      refine va_get (D := (dC, dI)) (ci := 9) (v := .ref (q (ta + 14))) (C := RX9) (T := TX9) (N := 16) hx hb hts hiX9 hown hK hP ta (wkT hta) rfl 8 (by decide) (hts _ (List.mem_cons_of_mem _ wkq_3_36)) (fun _ h9 => h9) rfl (dk_at dkX2_areCrossing_1 7 rfl) ?_
      refine lv_iload_n hx hb (dk_at dkX2_areCrossing_1 8 rfl) rfl (lv_at hl 4 rfl) ?_
      refine x_iald (Wf := WK cB cI cJ cZ cQ q) hx hb hK hP (ta + 14) 1 (wkTmb hta) rfl (by omega) (by decide) (dk_at dkX2_areCrossing_1 9 rfl) (fun z11 hz11 => ?_)
      have rz11 : (-2147483648 : Int) ≤ z11 ∧ z11 ≤ 2147483647 := by rw [hz11]; exact irTmb hta hI
      have gz11 := Hd.mk hz11
      refine lv_istore (lv' := [(5, .int (iI z11)), (4, .int (iI z10)), (3, .int (iI z9)), (0, .ref (q ta)), (1, .int (iI x2)), (2, .int (iI x3))]) hx hb (dk_at dkX2_areCrossing_1 10 rfl) hl (by decide) rfl (fun ls hl => ?_)
      refine lv_aload_n hx hb (dk_at dkX2_areCrossing_1 11 rfl) rfl (lv_at hl 3 rfl) ?_
      refine va_get (D := (dC, dI)) (ci := 9) (v := .ref (q (ta + 15))) (C := RX9) (T := TX9) (N := 16) hx hb hts hiX9 hown hK hP ta (wkT hta) rfl 9 (by decide) (hts _ (List.mem_cons_of_mem _ wkq_3_37)) (fun _ h9 => h9) rfl (dk_at dkX2_areCrossing_1 12 rfl) ?_
      refine lv_iload_n hx hb (dk_at dkX2_areCrossing_1 13 rfl) rfl (lv_at hl 5 rfl) ?_
      refine x_iald (Wf := WK cB cI cJ cZ cQ q) hx hb hK hP (ta + 15) 1 (wkTme hta) rfl (by omega) (by decide) (dk_at dkX2_areCrossing_1 14 rfl) (fun z12 hz12 => ?_)
      have rz12 : (-2147483648 : Int) ≤ z12 ∧ z12 ≤ 2147483647 := by rw [hz12]; exact irTme hta hI
      have gz12 := Hd.mk hz12
      refine lv_istore (lv' := [(6, .int (iI z12)), (5, .int (iI z11)), (4, .int (iI z10)), (3, .int (iI z9)), (0, .ref (q ta)), (1, .int (iI x2)), (2, .int (iI x3))]) hx hb (dk_at dkX2_areCrossing_1 15 rfl) hl (by decide) rfl (fun ls hl => ?_)
      refine lv_aload_n hx hb (dk_at dkX2_areCrossing_2 0 rfl) rfl (lv_at hl 4 rfl) ?_
      refine va_get (D := (dC, dI)) (ci := 9) (v := .ref (q (ta + 13))) (C := RX9) (T := TX9) (N := 16) hx hb hts hiX9 hown hK hP ta (wkT hta) rfl 7 (by decide) (hts _ (List.mem_cons_of_mem _ wkq_3_38)) (fun _ h9 => h9) rfl (dk_at dkX2_areCrossing_2 1 rfl) ?_
      refine lv_iload_n hx hb (dk_at dkX2_areCrossing_2 2 rfl) rfl (lv_at hl 5 rfl) ?_
      refine x_iald (Wf := WK cB cI cJ cZ cQ q) hx hb hK hP (ta + 13) 1 (wkTmd hta) rfl (by omega) (by decide) (dk_at dkX2_areCrossing_2 3 rfl) (fun z13 hz13 => ?_)
      have rz13 : (-2147483648 : Int) ≤ z13 ∧ z13 ≤ 2147483647 := by rw [hz13]; exact irTmd hta hI
      have gz13 := Hd.mk hz13
      refine lv_aload_n hx hb (dk_at dkX2_areCrossing_2 4 rfl) rfl (lv_at hl 4 rfl) ?_
      refine va_get (D := (dC, dI)) (ci := 9) (v := .ref (q (ta + 13))) (C := RX9) (T := TX9) (N := 16) hx hb hts hiX9 hown hK hP ta (wkT hta) rfl 7 (by decide) (hts _ (List.mem_cons_of_mem _ wkq_3_38)) (fun _ h9 => h9) rfl (dk_at dkX2_areCrossing_2 5 rfl) ?_
      refine lv_iload_n hx hb (dk_at dkX2_areCrossing_2 6 rfl) rfl (lv_at hl 6 rfl) ?_
      refine x_iald (Wf := WK cB cI cJ cZ cQ q) hx hb hK hP (ta + 13) 1 (wkTmd hta) rfl (by omega) (by decide) (dk_at dkX2_areCrossing_2 7 rfl) (fun z14 hz14 => ?_)
      have rz14 : (-2147483648 : Int) ≤ z14 ∧ z14 ≤ 2147483647 := by rw [hz14]; exact irTmd hta hI
      have gz14 := Hd.mk hz14
      have J83_16 : ∀ (H : Heap) (locs : List Loc) (ls : Array Slot), (∀ (z : Int), (d_X2_areCrossing_1 z9 z10 z11 z12 z) → r_X2_areCrossing ta x2 x3 A z) → va_P (dC, dI) vwCl (WK cB cI cJ cZ cQ q A) H → va_S AS s.heap H locs → lv_has ls 7 [(6, .int (iI z12)), (5, .int (iI z11)), (4, .int (iI z10)), (3, .int (iI z9)), (0, .ref (q ta)), (1, .int (iI x2)), (2, .int (iI x3))] → W p l e (headSpec ws_kc_X2_areCrossing ({ frames := 1, cells := 0, slots := 0, locals := 22 } : Room)).room s m [.ref (q ta), .int (iI x2), .int (iI x3)].toArray below meth c H locs 0 0 Q (F0 m 83 ls []) := by
        intro H locs ls hk1 hP hS hl
        refine lv_iload_n hx hb (dk_at dkX2_areCrossing_3 1 rfl) rfl (lv_at hl 3 rfl) ?_
        refine lv_iload hx hb (dk_at dkX2_areCrossing_3 2 rfl) (lv_at hl 1 rfl) ?_
        have J103_21 : ∀ (H : Heap) (locs : List Loc) (ls : Array Slot), (∀ (z : Int), (d_X2_areCrossing_2 z9 z10 z11 z12 z) → r_X2_areCrossing ta x2 x3 A z) → va_P (dC, dI) vwCl (WK cB cI cJ cZ cQ q A) H → va_S AS s.heap H locs → lv_has ls 7 [(6, .int (iI z12)), (5, .int (iI z11)), (4, .int (iI z10)), (3, .int (iI z9)), (0, .ref (q ta)), (1, .int (iI x2)), (2, .int (iI x3))] → W p l e (headSpec ws_kc_X2_areCrossing ({ frames := 1, cells := 0, slots := 0, locals := 22 } : Room)).room s m [.ref (q ta), .int (iI x2), .int (iI x3)].toArray below meth c H locs 0 0 Q (F0 m 103 ls []) := by
          intro H locs ls hk2 hP hS hl
          refine lv_iload hx hb (dk_at dkX2_areCrossing_3 10 rfl) (lv_at hl 1 rfl) ?_
          refine lv_iload_n hx hb (dk_at dkX2_areCrossing_3 11 rfl) rfl (lv_at hl 3 rfl) ?_
          refine lv_icmp_ge (tgt := 126) hx hb (dk_at dkX2_areCrossing_3 12 rfl) (by decide) (fun c25 => ?_) (fun c25 => ?_)
          · have c25 : z9 ≤ z11 := (i_le rz9 rz11).mp c25
            refine lv_iconst (v := iI 0) hx hb (dk_at dkX2_areCrossing_4 5 rfl) (by decide +kernel) ?_
            exact RET 0 _ _ _ _ _ ⟨rfl, hk2 _ (u_d_X2_areCrossing_2 (Or.inl ⟨c25, rfl⟩)), ⟨by decide, by decide⟩⟩ hP hS (dk_at dkX2_areCrossing_4 6 rfl)
          · have c25 : ¬ z9 ≤ z11 := mt (i_le rz9 rz11).mpr c25
            refine lv_iload_n hx hb (dk_at dkX2_areCrossing_3 13 rfl) rfl (lv_at hl 3 rfl) ?_
            refine lv_iload hx hb (dk_at dkX2_areCrossing_3 14 rfl) (lv_at hl 0 rfl) ?_
            refine lv_icmp_ge (tgt := 126) hx hb (dk_at dkX2_areCrossing_3 15 rfl) (by decide) (fun c26 => ?_) (fun c26 => ?_)
            · have c26 : z12 ≤ z9 := (i_le rz12 rz9).mp c26
              refine lv_iconst (v := iI 0) hx hb (dk_at dkX2_areCrossing_4 5 rfl) (by decide +kernel) ?_
              exact RET 0 _ _ _ _ _ ⟨rfl, hk2 _ (u_d_X2_areCrossing_2 (Or.inr ⟨c25, (Or.inl ⟨c26, rfl⟩)⟩)), ⟨by decide, by decide⟩⟩ hP hS (dk_at dkX2_areCrossing_4 6 rfl)
            · have c26 : ¬ z12 ≤ z9 := mt (i_le rz12 rz9).mpr c26
              refine lv_iload hx hb (dk_at dkX2_areCrossing_4 0 rfl) (lv_at hl 0 rfl) ?_
              refine lv_iload hx hb (dk_at dkX2_areCrossing_4 1 rfl) (lv_at hl 2 rfl) ?_
              refine lv_icmp_ge (tgt := 126) hx hb (dk_at dkX2_areCrossing_4 2 rfl) (by decide) (fun c27 => ?_) (fun c27 => ?_)
              · have c27 : z10 ≤ z12 := (i_le rz10 rz12).mp c27
                refine lv_iconst (v := iI 0) hx hb (dk_at dkX2_areCrossing_4 5 rfl) (by decide +kernel) ?_
                exact RET 0 _ _ _ _ _ ⟨rfl, hk2 _ (u_d_X2_areCrossing_2 (Or.inr ⟨c25, (Or.inr ⟨c26, (Or.inl ⟨c27, rfl⟩)⟩)⟩)), ⟨by decide, by decide⟩⟩ hP hS (dk_at dkX2_areCrossing_4 6 rfl)
              · have c27 : ¬ z10 ≤ z12 := mt (i_le rz10 rz12).mpr c27
                refine lv_iconst (v := iI 1) hx hb (dk_at dkX2_areCrossing_4 3 rfl) (by decide +kernel) ?_
                refine lv_goto (tgt := 127) hx hb (dk_at dkX2_areCrossing_4 4 rfl) (by decide) ?_
                exact RET 1 _ _ _ _ _ ⟨rfl, hk2 _ (u_d_X2_areCrossing_2 (Or.inr ⟨c25, (Or.inr ⟨c26, (Or.inr ⟨c27, rfl⟩)⟩)⟩)), ⟨by decide, by decide⟩⟩ hP hS (dk_at dkX2_areCrossing_4 6 rfl)
        refine lv_icmp_ge (tgt := 103) hx hb (dk_at dkX2_areCrossing_3 3 rfl) (by decide) (fun c20 => ?_) (fun c20 => ?_)
        · have c20 : z11 ≤ z9 := (i_le rz11 rz9).mp c20
          exact J103_21 _ _ _ (fun zq hq => hk1 _ (u_d_X2_areCrossing_1 (Or.inl ⟨c20, hq⟩))) hP hS (lv_sub hl [0, 1, 2, 3, 4, 5, 6] rfl)
        · have c20 : ¬ z11 ≤ z9 := mt (i_le rz11 rz9).mpr c20
          refine lv_iload hx hb (dk_at dkX2_areCrossing_3 4 rfl) (lv_at hl 1 rfl) ?_
          refine lv_iload hx hb (dk_at dkX2_areCrossing_3 5 rfl) (lv_at hl 2 rfl) ?_
          refine lv_icmp_ge (tgt := 103) hx hb (dk_at dkX2_areCrossing_3 6 rfl) (by decide) (fun c22 => ?_) (fun c22 => ?_)
          · have c22 : z10 ≤ z11 := (i_le rz10 rz11).mp c22
            exact J103_21 _ _ _ (fun zq hq => hk1 _ (u_d_X2_areCrossing_1 (Or.inr ⟨c20, (Or.inl ⟨c22, hq⟩)⟩))) hP hS (lv_sub hl [0, 1, 2, 3, 4, 5, 6] rfl)
          · have c22 : ¬ z10 ≤ z11 := mt (i_le rz10 rz11).mpr c22
            refine lv_iload hx hb (dk_at dkX2_areCrossing_3 7 rfl) (lv_at hl 2 rfl) ?_
            refine lv_iload hx hb (dk_at dkX2_areCrossing_3 8 rfl) (lv_at hl 0 rfl) ?_
            refine lv_icmp_lt (tgt := 122) hx hb (dk_at dkX2_areCrossing_3 9 rfl) (by decide) (fun c23 => ?_) (fun c23 => ?_)
            · have c23 : z10 < z12 := (i_lt rz10 rz12).mp c23
              refine lv_iconst (v := iI 1) hx hb (dk_at dkX2_areCrossing_4 3 rfl) (by decide +kernel) ?_
              refine lv_goto (tgt := 127) hx hb (dk_at dkX2_areCrossing_4 4 rfl) (by decide) ?_
              exact RET 1 _ _ _ _ _ ⟨rfl, hk1 _ (u_d_X2_areCrossing_1 (Or.inr ⟨c20, (Or.inr ⟨c22, (Or.inl ⟨c23, rfl⟩)⟩)⟩)), ⟨by decide, by decide⟩⟩ hP hS (dk_at dkX2_areCrossing_4 6 rfl)
            · have c23 : ¬ z10 < z12 := mt (i_lt rz10 rz12).mpr c23
              exact J103_21 _ _ _ (fun zq hq => hk1 _ (u_d_X2_areCrossing_1 (Or.inr ⟨c20, (Or.inr ⟨c22, (Or.inr ⟨c23, hq⟩)⟩)⟩))) hP hS (lv_sub hl [0, 1, 2, 3, 4, 5, 6] rfl)
      refine lv_icmp_ne (tgt := 83) hx hb (dk_at dkX2_areCrossing_2 8 rfl) (by decide) (fun c15 => ?_) (fun c15 => ?_)
      · have c15 : ¬ z13 = z14 := mt (i_eq rz13 rz14).mpr c15
        exact J83_16 _ _ _ (fun zq hq => (u_r_X2_areCrossing ⟨z1, ghw3, (Or.inr ⟨c4, ⟨z5, ghw7, (Or.inl ⟨c8, ⟨z9, gz9.out, ⟨z10, gz10.out, ⟨z11, gz11.out, ⟨z12, gz12.out, ⟨z13, gz13.out, ⟨z14, gz14.out, (Or.inl ⟨c15, hq⟩)⟩⟩⟩⟩⟩⟩⟩)⟩⟩)⟩)) hP hS (lv_sub hl [0, 1, 2, 3, 4, 5, 6] rfl)
      · have c15 : z13 = z14 := (i_eq rz13 rz14).mp c15
        refine lv_iload_n hx hb (dk_at dkX2_areCrossing_2 9 rfl) rfl (lv_at hl 3 rfl) ?_
        refine lv_iload hx hb (dk_at dkX2_areCrossing_2 10 rfl) (lv_at hl 0 rfl) ?_
        refine lv_icmp_ge (tgt := 83) hx hb (dk_at dkX2_areCrossing_2 11 rfl) (by decide) (fun c17 => ?_) (fun c17 => ?_)
        · have c17 : z12 ≤ z9 := (i_le rz12 rz9).mp c17
          exact J83_16 _ _ _ (fun zq hq => (u_r_X2_areCrossing ⟨z1, ghw3, (Or.inr ⟨c4, ⟨z5, ghw7, (Or.inl ⟨c8, ⟨z9, gz9.out, ⟨z10, gz10.out, ⟨z11, gz11.out, ⟨z12, gz12.out, ⟨z13, gz13.out, ⟨z14, gz14.out, (Or.inr ⟨c15, (Or.inl ⟨c17, hq⟩)⟩)⟩⟩⟩⟩⟩⟩⟩)⟩⟩)⟩)) hP hS (lv_sub hl [0, 1, 2, 3, 4, 5, 6] rfl)
        · have c17 : ¬ z12 ≤ z9 := mt (i_le rz12 rz9).mpr c17
          refine lv_iload hx hb (dk_at dkX2_areCrossing_2 12 rfl) (lv_at hl 1 rfl) ?_
          refine lv_iload hx hb (dk_at dkX2_areCrossing_2 13 rfl) (lv_at hl 2 rfl) ?_
          refine lv_icmp_ge (tgt := 83) hx hb (dk_at dkX2_areCrossing_2 14 rfl) (by decide) (fun c18 => ?_) (fun c18 => ?_)
          · have c18 : z10 ≤ z11 := (i_le rz10 rz11).mp c18
            exact J83_16 _ _ _ (fun zq hq => (u_r_X2_areCrossing ⟨z1, ghw3, (Or.inr ⟨c4, ⟨z5, ghw7, (Or.inl ⟨c8, ⟨z9, gz9.out, ⟨z10, gz10.out, ⟨z11, gz11.out, ⟨z12, gz12.out, ⟨z13, gz13.out, ⟨z14, gz14.out, (Or.inr ⟨c15, (Or.inr ⟨c17, (Or.inl ⟨c18, hq⟩)⟩)⟩)⟩⟩⟩⟩⟩⟩⟩)⟩⟩)⟩)) hP hS (lv_sub hl [0, 1, 2, 3, 4, 5, 6] rfl)
          · have c18 : ¬ z10 ≤ z11 := mt (i_le rz10 rz11).mpr c18
            refine lv_iconst (v := iI 1) hx hb (dk_at dkX2_areCrossing_2 15 rfl) (by decide +kernel) ?_
            exact RET 1 _ _ _ _ _ ⟨rfl, (u_r_X2_areCrossing ⟨z1, ghw3, (Or.inr ⟨c4, ⟨z5, ghw7, (Or.inl ⟨c8, ⟨z9, gz9.out, ⟨z10, gz10.out, ⟨z11, gz11.out, ⟨z12, gz12.out, ⟨z13, gz13.out, ⟨z14, gz14.out, (Or.inr ⟨c15, (Or.inr ⟨c17, (Or.inr ⟨c18, rfl⟩)⟩)⟩)⟩⟩⟩⟩⟩⟩⟩)⟩⟩)⟩), ⟨by decide, by decide⟩⟩ hP hS (dk_at dkX2_areCrossing_3 0 rfl)
    · have c8 : z5 = 0 := (i_eq0 (rb rz5 (by decide) (by decide))).mp c8
      clear hw7
      refine lv_iconst (v := iI 0) hx hb (dk_at dkX2_areCrossing_0 10 rfl) (by decide +kernel) ?_
      exact RET 0 _ _ _ _ _ ⟨rfl, (u_r_X2_areCrossing ⟨z1, ghw3, (Or.inr ⟨c4, ⟨z5, ghw7, (Or.inr ⟨c8, rfl⟩)⟩⟩)⟩), ⟨by decide, by decide⟩⟩ hP hS (dk_at dkX2_areCrossing_0 11 rfl)
theorem dkX2_firstCrossing_0 : dkq cX2_firstCrossing [(0, .iconst 0, 1), (1, .istore_n 3, 1), (2, .iload_n 3, 1), (3, .aload_n 1, 1), (4, .getfield 15, 3), (7, .bipush 6, 2), (9, .iaload, 1), (10, .if_icmp .ge 57, 3), (13, .iconst 0, 1), (14, .istore 4, 2), (16, .iload 4, 2), (18, .aload_n 1, 1), (19, .getfield 15, 3), (22, .bipush 6, 2), (24, .iaload, 1), (25, .if_icmp .ge 36, 3)] = true := by decide +kernel
theorem dkX2_firstCrossing_1 : dkq cX2_firstCrossing [(28, .iload_n 3, 1), (29, .iload 4, 2), (31, .if_icmp .eq 24, 3), (34, .aload_n 1, 1), (35, .iload_n 3, 1), (36, .iload 4, 2), (38, .invokestatic 20, 3), (41, .ifCond .eq 14, 3), (44, .iload_n 2, 1), (45, .ifCond .eq 8, 3), (48, .iload 4, 2), (50, .goto 4, 3), (53, .iload_n 3, 1), (54, .ireturn, 1), (55, .iinc 4 1, 3), (58, .goto (-42), 3)] = true := by decide +kernel
theorem dkX2_firstCrossing_2 : dkq cX2_firstCrossing [(61, .iinc 3 1, 3), (64, .goto (-62), 3), (67, .iconst (-1), 1), (68, .ireturn, 1)] = true := by decide +kernel
theorem dkX2_fewestKeys_0 : dkq cX2_fewestKeys [(0, .iconst 0, 1), (1, .istore_n 2, 1), (2, .iload_n 2, 1), (3, .bipush 6, 2), (5, .if_icmp .gt 21, 3), (8, .aload_n 0, 1), (9, .aload_n 1, 1), (10, .iconst 0, 1), (11, .iload_n 2, 1), (12, .invokevirtual 24, 3), (15, .ifCond .eq 5, 3), (18, .iload_n 2, 1), (19, .ireturn, 1), (20, .iinc 2 1, 3), (23, .goto (-21), 3), (26, .iconst (-1), 1)] = true := by decide +kernel
theorem dkX2_fewestKeys_1 : dkq cX2_fewestKeys [(27, .ireturn, 1)] = true := by decide +kernel
theorem dkX2_giveKeys_0 : dkq cX2_giveKeys [(0, .iload_n 2, 1), (1, .aload_n 1, 1), (2, .getfield 15, 3), (5, .bipush 6, 2), (7, .iaload, 1), (8, .if_icmp .ge 9, 3), (11, .iload_n 2, 1), (12, .bipush 6, 2), (14, .if_icmp .lt 5, 3), (17, .iconst 1, 1), (18, .ireturn, 1), (19, .iconst 0, 1), (20, .istore 4, 2), (22, .iload 4, 2), (24, .iload_n 3, 1), (25, .if_icmp .ge 42, 3)] = true := by decide +kernel
theorem dkX2_giveKeys_1 : dkq cX2_giveKeys [(28, .aload_n 0, 1), (29, .aload_n 1, 1), (30, .iload_n 2, 1), (31, .iload 4, 2), (33, .invokevirtual 27, 3), (36, .ifCond .eq 25, 3), (39, .aload_n 0, 1), (40, .getfield 9, 3), (43, .iload_n 2, 1), (44, .iload 4, 2), (46, .iastore, 1), (47, .aload_n 0, 1), (48, .aload_n 1, 1), (49, .iload_n 2, 1), (50, .iconst 1, 1), (51, .iadd, 1)] = true := by decide +kernel
theorem dkX2_giveKeys_2 : dkq cX2_giveKeys [(52, .iload_n 3, 1), (53, .invokevirtual 24, 3), (56, .ifCond .eq 5, 3), (59, .iconst 1, 1), (60, .ireturn, 1), (61, .iinc 4 1, 3), (64, .goto (-42), 3), (67, .iconst 0, 1), (68, .ireturn, 1)] = true := by decide +kernel
theorem dkX2_canTake_0 : dkq cX2_canTake [(0, .iconst 0, 1), (1, .istore 4, 2), (3, .iload 4, 2), (5, .iload_n 2, 1), (6, .if_icmp .ge 39, 3), (9, .iload 4, 2), (11, .bipush 6, 2), (13, .if_icmp .ge 32, 3), (16, .aload_n 0, 1), (17, .getfield 9, 3), (20, .iload 4, 2), (22, .iaload, 1), (23, .iload_n 3, 1), (24, .if_icmp .ne 15, 3), (27, .aload_n 1, 1), (28, .iload 4, 2)] = true := by decide +kernel
theorem dkX2_canTake_1 : dkq cX2_canTake [(30, .iload_n 2, 1), (31, .invokestatic 20, 3), (34, .ifCond .eq 5, 3), (37, .iconst 0, 1), (38, .ireturn, 1), (39, .iinc 4 1, 3), (42, .goto (-39), 3), (45, .iconst 1, 1), (46, .ireturn, 1)] = true := by decide +kernel
theorem dkX2_inOrder_0 : dkq cX2_inOrder [(0, .iconst 0, 1), (1, .istore_n 3, 1), (2, .iload_n 3, 1), (3, .aload_n 1, 1), (4, .getfield 15, 3), (7, .bipush 6, 2), (9, .iaload, 1), (10, .if_icmp .ge 54, 3), (13, .iconst 0, 1), (14, .istore 4, 2), (16, .iconst 0, 1), (17, .istore 5, 2), (19, .iload 5, 2), (21, .aload_n 1, 1), (22, .getfield 15, 3), (25, .bipush 6, 2)] = true := by decide +kernel
theorem dkX2_inOrder_1 : dkq cX2_inOrder [(27, .iaload, 1), (28, .if_icmp .ge 22, 3), (31, .aload_n 1, 1), (32, .iload 5, 2), (34, .iload_n 3, 1), (35, .invokestatic 43, 3), (38, .ifCond .eq 6, 3), (41, .iinc 4 1, 3), (44, .iinc 5 1, 3), (47, .goto (-28), 3), (50, .iload 4, 2), (52, .iload_n 2, 1), (53, .if_icmp .ne 5, 3), (56, .iload_n 3, 1), (57, .ireturn, 1), (58, .iinc 3 1, 3)] = true := by decide +kernel
theorem dkX2_inOrder_2 : dkq cX2_inOrder [(61, .goto (-59), 3), (64, .iconst (-1), 1), (65, .ireturn, 1)] = true := by decide +kernel
theorem dkX2_isAhead_0 : dkq cX2_isAhead [(0, .aload_n 0, 1), (1, .getfield 34, 3), (4, .iload_n 1, 1), (5, .iaload, 1), (6, .aload_n 0, 1), (7, .getfield 34, 3), (10, .iload_n 2, 1), (11, .iaload, 1), (12, .if_icmp .eq 24, 3), (15, .aload_n 0, 1), (16, .getfield 34, 3), (19, .iload_n 1, 1), (20, .iaload, 1), (21, .aload_n 0, 1), (22, .getfield 34, 3), (25, .iload_n 2, 1)] = true := by decide +kernel
theorem dkX2_isAhead_1 : dkq cX2_isAhead [(26, .iaload, 1), (27, .if_icmp .ge 7, 3), (30, .iconst 1, 1), (31, .goto 4, 3), (34, .iconst 0, 1), (35, .ireturn, 1), (36, .aload_n 0, 1), (37, .getfield 37, 3), (40, .iload_n 1, 1), (41, .iaload, 1), (42, .aload_n 0, 1), (43, .getfield 37, 3), (46, .iload_n 2, 1), (47, .iaload, 1), (48, .if_icmp .eq 24, 3), (51, .aload_n 0, 1)] = true := by decide +kernel
theorem dkX2_isAhead_2 : dkq cX2_isAhead [(52, .getfield 37, 3), (55, .iload_n 1, 1), (56, .iaload, 1), (57, .aload_n 0, 1), (58, .getfield 37, 3), (61, .iload_n 2, 1), (62, .iaload, 1), (63, .if_icmp .le 7, 3), (66, .iconst 1, 1), (67, .goto 4, 3), (70, .iconst 0, 1), (71, .ireturn, 1), (72, .iload_n 1, 1), (73, .iload_n 2, 1), (74, .if_icmp .ge 7, 3), (77, .iconst 1, 1)] = true := by decide +kernel
theorem dkX2_isAhead_3 : dkq cX2_isAhead [(78, .goto 4, 3), (81, .iconst 0, 1), (82, .ireturn, 1)] = true := by decide +kernel
