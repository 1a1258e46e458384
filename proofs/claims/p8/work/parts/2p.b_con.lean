abbrev tr_r_X11_handingAnswer (x1 : Int) (A : St) (z : Int) (u : St) : Prop := (((¬ x1 = 0) ∧ (z = x1 ∧ u = A)) ∨ ((x1 = 0) ∧ (∃ z2 : Int, ∃ A3 : St, q_X11_refused 3 A z2 A3 ∧ (z = x1 ∧ u = A3))))
def r_X11_handingAnswer (x1 : Int) (A : St) (z : Int) (u : St) : Prop := tr_r_X11_handingAnswer x1 A z u
theorem u_r_X11_handingAnswer {x1 : Int} {A : St} {z : Int} {u : St} (h : tr_r_X11_handingAnswer x1 A z u) : r_X11_handingAnswer x1 A z u := h
def q_X11_handingAnswer (x1 : Int) (A : St) (z : Int) (u : St) : Prop := r_X11_handingAnswer x1 A z u ∧ IK u ∧ fk [50] [] A u ∧ (0 ≤ z ∧ z ≤ 1)
def ws_kc_X11_handingAnswer : List Cond := .code yX11_handingAnswer cX11_handingAnswer 2 (some .boolean) :: WY
set_option maxHeartbeats 4000000 in
set_option maxRecDepth 100000 in
theorem kc_X11_handingAnswer (l : Launch) (dC : Nat → ClassId) (dI : Nat → Nat → Nat) (cB cI cJ cZ cQ : ClassId) (aL aS : Nat) (q : Nat → Nat) (A : St) (x1 : Int) (hI : IK A) (hx1 : (0 : Int) ≤ x1 ∧ x1 ≤ 1) : KMi l yX11_handingAnswer ws_kc_X11_handingAnswer ({ frames := 1, cells := 0, slots := 0, locals := 21 } : Room) aL aS (dC, dI) (tyA cB cI cJ cZ cQ) (WK cB cI cJ cZ cQ q) A [.ref (q 0), .int (iI x1)] (fun z u => r_X11_handingAnswer x1 A z u ∧ IK u ∧ fk [50] [] A u ∧ (0 ≤ z ∧ z ≤ 1)) := by
  refine k_metz (cc := cX11_handingAnswer) (maxL := 2) WK_adr (plainFor_of_name (by decide +kernel)) rfl (Nat.le_of_ble_eq_true rfl) (fun z u h => h.2.2.2) (fun p e s m below meth c Q AS ls hx hb hml hown hts hK hDD hA0 hE RET H locs hP hS hl => ?_)
  have hown : s.vm.findClass RX11 = some m.cls := hown
  have hl : lv_has ls 2 [(0, .ref (q 0)), (1, .int (iI x1))] := hl
  refine lv_iload_n hx hb dX11_handingAnswer_0 rfl (lv_at hl 1 rfl) ?_
  refine lv_if_ne (tgt := 10) hx hb dX11_handingAnswer_1 (by decide) (fun c1 => ?_) (fun c1 => ?_)
  · have c1 : ¬ x1 = 0 := mt (i_eq0 (rb hx1 (by decide) (by decide))).mpr c1
    refine lv_iload_n hx hb dX11_handingAnswer_10 rfl (lv_at hl 1 rfl) ?_
    exact RET x1 _ _ _ _ _ ⟨(u_r_X11_handingAnswer (Or.inl ⟨c1, ⟨rfl, rfl⟩⟩)), hI, fk.rf, hx1⟩ hP hS dX11_handingAnswer_11
  · have c1 : x1 = 0 := (i_eq0 (rb hx1 (by decide) (by decide))).mp c1
    refine lv_aload_n hx hb dX11_handingAnswer_4 rfl (lv_at hl 0 rfl) ?_
    refine lv_iconst (v := iI 3) hx hb dX11_handingAnswer_5 (by decide +kernel) ?_
    refine k_calli (As := [.int (iI 3)]) (rest := []) ⟨hx, hb, hml, hown, hts⟩ hE (kc_X11_refused l dC dI cB cI cJ cZ cQ aL aS q _ 3 hI ⟨by decide, by decide⟩) (cwV 1 hts (goodVk (wk_in_10 _ (List.mem_of_getElem? (i := 23) rfl)) (wk_in_10 _ (List.mem_of_getElem? (i := 24) rfl)) (wk_in_10 _ (List.mem_of_getElem? (i := 25) rfl)) (wk_in_10 _ (List.mem_of_getElem? (i := 26) rfl)) (wk_in_10 _ (List.mem_of_getElem? (i := 27) rfl))) rfl rfl rfl (by decide +kernel) ⟨Nat.le_of_ble_eq_true rfl, Nat.le_of_ble_eq_true rfl⟩) hK hDD hA0 hP hS 0 11 (wkK) rfl rfl hl.1 (Nat.le_of_ble_eq_true rfl) dX11_handingAnswer_6 (fun z2 A3 H locs hw4 hP hS => ?_)
    have ghw4 : q_X11_refused 3 A z2 A3 := hw4
    obtain ⟨_, hI, hf5, hw4⟩ := hw4
    refine lv_pop hx hb dX11_handingAnswer_9 rfl ?_
    refine lv_iload_n hx hb dX11_handingAnswer_10 rfl (lv_at hl 1 rfl) ?_
    exact RET x1 _ _ _ _ _ ⟨(u_r_X11_handingAnswer (Or.inr ⟨c1, ⟨z2, A3, ghw4, ⟨rfl, rfl⟩⟩⟩)), hI, fk.trans (fk.rf) hf5 rfl rfl, hx1⟩ hP hS dX11_handingAnswer_11

abbrev tr_r_X11_lend (x1 : Int) (x2 : Int) (x3 : Int) (A : St) (z : Int) (u : St) : Prop := (∃ t2 : Nat, t2 = 51 + 31 * ((A 0 9)).toNat ∧ (∃ z3 : Int, ∃ A4 : St, q_X9_lendTo t2 x1 x2 x3 A z3 A4 ∧ (∃ z7 : Int, ∃ A8 : St, q_X11_handingAnswer z3 A4 z7 A8 ∧ (z = z7 ∧ u = A8))))
def r_X11_lend (x1 : Int) (x2 : Int) (x3 : Int) (A : St) (z : Int) (u : St) : Prop := tr_r_X11_lend x1 x2 x3 A z u
theorem u_r_X11_lend {x1 : Int} {x2 : Int} {x3 : Int} {A : St} {z : Int} {u : St} (h : tr_r_X11_lend x1 x2 x3 A z u) : r_X11_lend x1 x2 x3 A z u := h
def ws_kc_X11_lend : List Cond := .code yX11_lend cX11_lend 4 (some .boolean) :: WY
set_option maxHeartbeats 4000000 in
set_option maxRecDepth 100000 in
theorem kc_X11_lend (l : Launch) (dC : Nat → ClassId) (dI : Nat → Nat → Nat) (cB cI cJ cZ cQ : ClassId) (aL aS : Nat) (q : Nat → Nat) (A : St) (x1 x2 x3 : Int) (hI : IK A) (hx1 : (-2147483648 : Int) ≤ x1 ∧ x1 ≤ 2147483647) (hx2 : (-2147483648 : Int) ≤ x2 ∧ x2 ≤ 2147483647) (hx3 : (-2147483648 : Int) ≤ x3 ∧ x3 ≤ 2147483647) : KMi l yX11_lend ws_kc_X11_lend ({ frames := 3, cells := 0, slots := 0, locals := 67 } : Room) aL aS (dC, dI) (tyA cB cI cJ cZ cQ) (WK cB cI cJ cZ cQ q) A [.ref (q 0), .int (iI x1), .int (iI x2), .int (iI x3)] (fun z u => r_X11_lend x1 x2 x3 A z u ∧ IK u ∧ fk [34, 43, 50, 75, 106] [] A u ∧ (0 ≤ z ∧ z ≤ 1)) := by
  refine k_metz (cc := cX11_lend) (maxL := 4) WK_adr (plainFor_of_name (by decide +kernel)) rfl (Nat.le_of_ble_eq_true rfl) (fun z u h => h.2.2.2) (fun p e s m below meth c Q AS ls hx hb hml hown hts hK hDD hA0 hE RET H locs hP hS hl => ?_)
  have hown : s.vm.findClass RX11 = some m.cls := hown
  have hl : lv_has ls 4 [(0, .ref (q 0)), (1, .int (iI x1)), (2, .int (iI x2)), (3, .int (iI x3))] := hl
  have hiX11 : ∀ w ∈ u_ws RX11 TX11 11, w ∈ ws_kc_X11_lend := fun w h => List.mem_cons_of_mem _ (wy_layX11 w h)
  refine lv_aload_n hx hb dX11_lend_0 rfl (lv_at hl 0 rfl) ?_
  refine lv_aload_n hx hb dX11_lend_1 rfl (lv_at hl 0 rfl) ?_
  have r1 : (0 : Int) ≤ (A 0 9) ∧ (A 0 9) ≤ 1 := irK_9 hI
  obtain ⟨t2, et2⟩ : ∃ t : Nat, t = 51 + 31 * ((A 0 9)).toNat := ⟨_, rfl⟩
  have ht2 : isT t2 := by rw [et2]; exact isT.b r1
  refine va_get (D := (dC, dI)) (ci := 11) (v := .ref (q (51 + 31 * (A 0 9).toNat))) (C := RX11) (T := TX11) (N := 11) hx hb hts hiX11 hown hK hP 0 (wkK) rfl 9 (by decide) (hts _ (List.mem_cons_of_mem _ (wk_in_10 _ (List.mem_of_getElem? (i := 36) rfl)))) (fun _ h9 => h9) rfl dX11_lend_2 ?_
  refine tp_v (y := .ref (q t2)) (by rw [et2]) ?_
  refine lv_iload_n hx hb dX11_lend_5 rfl (lv_at hl 1 rfl) ?_
  refine lv_iload_n hx hb dX11_lend_6 rfl (lv_at hl 2 rfl) ?_
  refine lv_iload_n hx hb dX11_lend_7 rfl (lv_at hl 3 rfl) ?_
  refine k_calli (As := [.int (iI x1), .int (iI x2), .int (iI x3)]) (rest := [.ref (q 0)]) ⟨hx, hb, hml, hown, hts⟩ hE (kc_X9_lendTo l dC dI cB cI cJ cZ cQ aL aS q _ t2 x1 x2 x3 hI ht2 hx1 hx2 hx3) (cwV 3 hts (goodVk (wk_in_11 _ (List.mem_of_getElem? (i := 29) rfl)) (wk_in_11 _ (List.mem_of_getElem? (i := 30) rfl)) (wk_in_11 _ (List.mem_of_getElem? (i := 31) rfl)) (wk_in_0 _ (List.mem_of_getElem? (i := 6) rfl)) (wk_in_9 _ (List.mem_of_getElem? (i := 18) rfl))) rfl rfl rfl (by decide +kernel) ⟨Nat.le_of_ble_eq_true rfl, Nat.le_of_ble_eq_true rfl⟩) hK hDD hA0 hP hS t2 9 (wkT ht2) rfl rfl hl.1 (Nat.le_of_ble_eq_true rfl) dX11_lend_8 (fun z3 A4 H locs hw5 hP hS => ?_)
  have ghw5 : q_X9_lendTo t2 x1 x2 x3 A z3 A4 := hw5
  obtain ⟨_, hI, hf6, hw5⟩ := hw5
  refine k_calli (As := [.int (iI z3)]) (rest := []) ⟨hx, hb, hml, hown, hts⟩ hE (kc_X11_handingAnswer l dC dI cB cI cJ cZ cQ aL aS q _ z3 hI hw5) (cwV 1 hts (goodVk (wk_in_11 _ (List.mem_of_getElem? (i := 32) rfl)) (wk_in_11 _ (List.mem_of_getElem? (i := 33) rfl)) (wk_in_11 _ (List.mem_of_getElem? (i := 34) rfl)) (wk_in_10 _ (List.mem_of_getElem? (i := 26) rfl)) (wk_in_11 _ (List.mem_of_getElem? (i := 35) rfl))) rfl rfl rfl (by decide +kernel) ⟨Nat.le_of_ble_eq_true rfl, Nat.le_of_ble_eq_true rfl⟩) hK hDD hA0 hP hS 0 11 (wkK) rfl rfl hl.1 (Nat.le_of_ble_eq_true rfl) dX11_lend_11 (fun z7 A8 H locs hw9 hP hS => ?_)
  have ghw9 : q_X11_handingAnswer z3 A4 z7 A8 := hw9
  obtain ⟨_, hI, hf10, hw9⟩ := hw9
  exact RET z7 _ _ _ _ _ ⟨(u_r_X11_lend ⟨t2, et2, ⟨z3, A4, ghw5, ⟨z7, A8, ghw9, ⟨rfl, rfl⟩⟩⟩⟩), hI, fk.trans (fk.trans (fk.rf) hf6 rfl rfl) hf10 rfl rfl, hw9⟩ hP hS dX11_lend_14

abbrev tr_r_X11_take (x1 : Int) (x2 : Int) (A : St) (z : Int) (u : St) : Prop := (∃ t2 : Nat, t2 = 51 + 31 * ((A 0 9)).toNat ∧ (∃ z3 : Int, ∃ A4 : St, q_X9_takeUp t2 x1 x2 A z3 A4 ∧ (∃ z7 : Int, ∃ A8 : St, q_X11_handingAnswer z3 A4 z7 A8 ∧ (z = z7 ∧ u = A8))))
def r_X11_take (x1 : Int) (x2 : Int) (A : St) (z : Int) (u : St) : Prop := tr_r_X11_take x1 x2 A z u
theorem u_r_X11_take {x1 : Int} {x2 : Int} {A : St} {z : Int} {u : St} (h : tr_r_X11_take x1 x2 A z u) : r_X11_take x1 x2 A z u := h
def ws_kc_X11_take : List Cond := .code yX11_take cX11_take 3 (some .boolean) :: WY
set_option maxHeartbeats 4000000 in
set_option maxRecDepth 100000 in
theorem kc_X11_take (l : Launch) (dC : Nat → ClassId) (dI : Nat → Nat → Nat) (cB cI cJ cZ cQ : ClassId) (aL aS : Nat) (q : Nat → Nat) (A : St) (x1 x2 : Int) (hI : IK A) (hx1 : (-2147483648 : Int) ≤ x1 ∧ x1 ≤ 2147483647) (hx2 : (-2147483648 : Int) ≤ x2 ∧ x2 ≤ 2147483647) : KMi l yX11_take ws_kc_X11_take ({ frames := 6, cells := 0, slots := 0, locals := 135 } : Room) aL aS (dC, dI) (tyA cB cI cJ cZ cQ) (WK cB cI cJ cZ cQ q) A [.ref (q 0), .int (iI x1), .int (iI x2)] (fun z u => r_X11_take x1 x2 A z u ∧ IK u ∧ fk [34, 43, 50, 75, 106] [] A u ∧ (0 ≤ z ∧ z ≤ 1)) := by
  refine k_metz (cc := cX11_take) (maxL := 3) WK_adr (plainFor_of_name (by decide +kernel)) rfl (Nat.le_of_ble_eq_true rfl) (fun z u h => h.2.2.2) (fun p e s m below meth c Q AS ls hx hb hml hown hts hK hDD hA0 hE RET H locs hP hS hl => ?_)
  have hown : s.vm.findClass RX11 = some m.cls := hown
  have hl : lv_has ls 3 [(0, .ref (q 0)), (1, .int (iI x1)), (2, .int (iI x2))] := hl
  have hiX11 : ∀ w ∈ u_ws RX11 TX11 11, w ∈ ws_kc_X11_take := fun w h => List.mem_cons_of_mem _ (wy_layX11 w h)
  refine lv_aload_n hx hb dX11_take_0 rfl (lv_at hl 0 rfl) ?_
  refine lv_aload_n hx hb dX11_take_1 rfl (lv_at hl 0 rfl) ?_
  have r1 : (0 : Int) ≤ (A 0 9) ∧ (A 0 9) ≤ 1 := irK_9 hI
  obtain ⟨t2, et2⟩ : ∃ t : Nat, t = 51 + 31 * ((A 0 9)).toNat := ⟨_, rfl⟩
  have ht2 : isT t2 := by rw [et2]; exact isT.b r1
  refine va_get (D := (dC, dI)) (ci := 11) (v := .ref (q (51 + 31 * (A 0 9).toNat))) (C := RX11) (T := TX11) (N := 11) hx hb hts hiX11 hown hK hP 0 (wkK) rfl 9 (by decide) (hts _ (List.mem_cons_of_mem _ (wk_in_10 _ (List.mem_of_getElem? (i := 36) rfl)))) (fun _ h9 => h9) rfl dX11_take_2 ?_
  refine tp_v (y := .ref (q t2)) (by rw [et2]) ?_
  refine lv_iload_n hx hb dX11_take_5 rfl (lv_at hl 1 rfl) ?_
  refine lv_iload_n hx hb dX11_take_6 rfl (lv_at hl 2 rfl) ?_
  refine k_calli (As := [.int (iI x1), .int (iI x2)]) (rest := [.ref (q 0)]) ⟨hx, hb, hml, hown, hts⟩ hE (kc_X9_takeUp l dC dI cB cI cJ cZ cQ aL aS q _ t2 x1 x2 hI ht2 hx1 hx2) (cwV 2 hts (goodVk (wk_in_11 _ (List.mem_of_getElem? (i := 37) rfl)) (wk_in_11 _ (List.mem_of_getElem? (i := 38) rfl)) (wk_in_11 _ (List.mem_of_getElem? (i := 39) rfl)) (wk_in_0 _ (List.mem_of_getElem? (i := 6) rfl)) (wk_in_9 _ (List.mem_of_getElem? (i := 19) rfl))) rfl rfl rfl (by decide +kernel) ⟨Nat.le_of_ble_eq_true rfl, Nat.le_of_ble_eq_true rfl⟩) hK hDD hA0 hP hS t2 9 (wkT ht2) rfl rfl hl.1 (Nat.le_of_ble_eq_true rfl) dX11_take_7 (fun z3 A4 H locs hw5 hP hS => ?_)
  have ghw5 : q_X9_takeUp t2 x1 x2 A z3 A4 := hw5
  obtain ⟨_, hI, hf6, hw5⟩ := hw5
  refine k_calli (As := [.int (iI z3)]) (rest := []) ⟨hx, hb, hml, hown, hts⟩ hE (kc_X11_handingAnswer l dC dI cB cI cJ cZ cQ aL aS q _ z3 hI hw5) (cwV 1 hts (goodVk (wk_in_11 _ (List.mem_of_getElem? (i := 32) rfl)) (wk_in_11 _ (List.mem_of_getElem? (i := 33) rfl)) (wk_in_11 _ (List.mem_of_getElem? (i := 34) rfl)) (wk_in_10 _ (List.mem_of_getElem? (i := 26) rfl)) (wk_in_11 _ (List.mem_of_getElem? (i := 35) rfl))) rfl rfl rfl (by decide +kernel) ⟨Nat.le_of_ble_eq_true rfl, Nat.le_of_ble_eq_true rfl⟩) hK hDD hA0 hP hS 0 11 (wkK) rfl rfl hl.1 (Nat.le_of_ble_eq_true rfl) dX11_take_10 (fun z7 A8 H locs hw9 hP hS => ?_)
  have ghw9 : q_X11_handingAnswer z3 A4 z7 A8 := hw9
  obtain ⟨_, hI, hf10, hw9⟩ := hw9
  exact RET z7 _ _ _ _ _ ⟨(u_r_X11_take ⟨t2, et2, ⟨z3, A4, ghw5, ⟨z7, A8, ghw9, ⟨rfl, rfl⟩⟩⟩⟩), hI, fk.trans (fk.trans (fk.rf) hf6 rfl rfl) hf10 rfl rfl, hw9⟩ hP hS dX11_take_13

abbrev tr_r_X11_lay (x1 : Int) (x2 : Int) (x3 : Int) (A : St) (z : Int) (u : St) : Prop := (∃ t2 : Nat, t2 = 51 + 31 * ((A 0 9)).toNat ∧ (∃ z3 : Int, ∃ A4 : St, q_X9_layDown t2 x1 x2 x3 A z3 A4 ∧ (∃ z7 : Int, ∃ A8 : St, q_X11_handingAnswer z3 A4 z7 A8 ∧ (z = z7 ∧ u = A8))))
def r_X11_lay (x1 : Int) (x2 : Int) (x3 : Int) (A : St) (z : Int) (u : St) : Prop := tr_r_X11_lay x1 x2 x3 A z u
theorem u_r_X11_lay {x1 : Int} {x2 : Int} {x3 : Int} {A : St} {z : Int} {u : St} (h : tr_r_X11_lay x1 x2 x3 A z u) : r_X11_lay x1 x2 x3 A z u := h
def ws_kc_X11_lay : List Cond := .code yX11_lay cX11_lay 4 (some .boolean) :: WY
set_option maxHeartbeats 4000000 in
set_option maxRecDepth 100000 in
theorem kc_X11_lay (l : Launch) (dC : Nat → ClassId) (dI : Nat → Nat → Nat) (cB cI cJ cZ cQ : ClassId) (aL aS : Nat) (q : Nat → Nat) (A : St) (x1 x2 x3 : Int) (hI : IK A) (hx1 : (-2147483648 : Int) ≤ x1 ∧ x1 ≤ 2147483647) (hx2 : (-2147483648 : Int) ≤ x2 ∧ x2 ≤ 2147483647) (hx3 : (-2147483648 : Int) ≤ x3 ∧ x3 ≤ 2147483647) : KMi l yX11_lay ws_kc_X11_lay ({ frames := 6, cells := 0, slots := 0, locals := 135 } : Room) aL aS (dC, dI) (tyA cB cI cJ cZ cQ) (WK cB cI cJ cZ cQ q) A [.ref (q 0), .int (iI x1), .int (iI x2), .int (iI x3)] (fun z u => r_X11_lay x1 x2 x3 A z u ∧ IK u ∧ fk [34, 43, 50, 75, 106] [] A u ∧ (0 ≤ z ∧ z ≤ 1)) := by
  refine k_metz (cc := cX11_lay) (maxL := 4) WK_adr (plainFor_of_name (by decide +kernel)) rfl (Nat.le_of_ble_eq_true rfl) (fun z u h => h.2.2.2) (fun p e s m below meth c Q AS ls hx hb hml hown hts hK hDD hA0 hE RET H locs hP hS hl => ?_)
  have hown : s.vm.findClass RX11 = some m.cls := hown
  have hl : lv_has ls 4 [(0, .ref (q 0)), (1, .int (iI x1)), (2, .int (iI x2)), (3, .int (iI x3))] := hl
  have hiX11 : ∀ w ∈ u_ws RX11 TX11 11, w ∈ ws_kc_X11_lay := fun w h => List.mem_cons_of_mem _ (wy_layX11 w h)
  refine lv_aload_n hx hb dX11_lay_0 rfl (lv_at hl 0 rfl) ?_
  refine lv_aload_n hx hb dX11_lay_1 rfl (lv_at hl 0 rfl) ?_
  have r1 : (0 : Int) ≤ (A 0 9) ∧ (A 0 9) ≤ 1 := irK_9 hI
  obtain ⟨t2, et2⟩ : ∃ t : Nat, t = 51 + 31 * ((A 0 9)).toNat := ⟨_, rfl⟩
  have ht2 : isT t2 := by rw [et2]; exact isT.b r1
  refine va_get (D := (dC, dI)) (ci := 11) (v := .ref (q (51 + 31 * (A 0 9).toNat))) (C := RX11) (T := TX11) (N := 11) hx hb hts hiX11 hown hK hP 0 (wkK) rfl 9 (by decide) (hts _ (List.mem_cons_of_mem _ (wk_in_10 _ (List.mem_of_getElem? (i := 36) rfl)))) (fun _ h9 => h9) rfl dX11_lay_2 ?_
  refine tp_v (y := .ref (q t2)) (by rw [et2]) ?_
  refine lv_iload_n hx hb dX11_lay_5 rfl (lv_at hl 1 rfl) ?_
  refine lv_iload_n hx hb dX11_lay_6 rfl (lv_at hl 2 rfl) ?_
  refine lv_iload_n hx hb dX11_lay_7 rfl (lv_at hl 3 rfl) ?_
  refine k_calli (As := [.int (iI x1), .int (iI x2), .int (iI x3)]) (rest := [.ref (q 0)]) ⟨hx, hb, hml, hown, hts⟩ hE (kc_X9_layDown l dC dI cB cI cJ cZ cQ aL aS q _ t2 x1 x2 x3 hI ht2 hx1 hx2 hx3) (cwV 3 hts (goodVk (wk_in_11 _ (List.mem_of_getElem? (i := 41) rfl)) (wk_in_11 _ (List.mem_of_getElem? (i := 42) rfl)) (wk_in_11 _ (List.mem_of_getElem? (i := 43) rfl)) (wk_in_0 _ (List.mem_of_getElem? (i := 6) rfl)) (wk_in_9 _ (List.mem_of_getElem? (i := 27) rfl))) rfl rfl rfl (by decide +kernel) ⟨Nat.le_of_ble_eq_true rfl, Nat.le_of_ble_eq_true rfl⟩) hK hDD hA0 hP hS t2 9 (wkT ht2) rfl rfl hl.1 (Nat.le_of_ble_eq_true rfl) dX11_lay_8 (fun z3 A4 H locs hw5 hP hS => ?_)
  have ghw5 : q_X9_layDown t2 x1 x2 x3 A z3 A4 := hw5
  obtain ⟨_, hI, hf6, hw5⟩ := hw5
  refine k_calli (As := [.int (iI z3)]) (rest := []) ⟨hx, hb, hml, hown, hts⟩ hE (kc_X11_handingAnswer l dC dI cB cI cJ cZ cQ aL aS q _ z3 hI hw5) (cwV 1 hts (goodVk (wk_in_11 _ (List.mem_of_getElem? (i := 32) rfl)) (wk_in_11 _ (List.mem_of_getElem? (i := 33) rfl)) (wk_in_11 _ (List.mem_of_getElem? (i := 34) rfl)) (wk_in_10 _ (List.mem_of_getElem? (i := 26) rfl)) (wk_in_11 _ (List.mem_of_getElem? (i := 35) rfl))) rfl rfl rfl (by decide +kernel) ⟨Nat.le_of_ble_eq_true rfl, Nat.le_of_ble_eq_true rfl⟩) hK hDD hA0 hP hS 0 11 (wkK) rfl rfl hl.1 (Nat.le_of_ble_eq_true rfl) dX11_lay_11 (fun z7 A8 H locs hw9 hP hS => ?_)
  have ghw9 : q_X11_handingAnswer z3 A4 z7 A8 := hw9
  obtain ⟨_, hI, hf10, hw9⟩ := hw9
  exact RET z7 _ _ _ _ _ ⟨(u_r_X11_lay ⟨t2, et2, ⟨z3, A4, ghw5, ⟨z7, A8, ghw9, ⟨rfl, rfl⟩⟩⟩⟩), hI, fk.trans (fk.trans (fk.rf) hf6 rfl rfl) hf10 rfl rfl, hw9⟩ hP hS dX11_lay_14

abbrev tr_r_X11_snap (x1 : Int) (A : St) (z : Int) (u : St) : Prop := (∃ t2 : Nat, t2 = 51 + 31 * ((A 0 9)).toNat ∧ (∃ z3 : Int, q_X9_isThere_1_2 t2 x1 A z3 ∧ (((z3 = 0) ∧ (∃ z7 : Int, ∃ A8 : St, q_X11_refused 3 A z7 A8 ∧ (z = z7 ∧ u = A8))) ∨ ((¬ z3 = 0) ∧ (∃ z11 : Int, z11 = A ((t2 + 22) + 2) (x1).toNat ∧ (((¬ z11 = 40) ∧ (∃ A13 : St, A13 = stA A ((t2 + 22) + 2) (x1).toNat 40 ∧ (∃ z16 : Int, z16 = A13 ((t2 + 22) + 3) (x1).toNat ∧ (z = z16 ∧ u = A13)))) ∨ ((z11 = 40) ∧ (∃ z17 : Int, ∃ A18 : St, q_X11_refused 3 A z17 A18 ∧ (z = z17 ∧ u = A18)))))))))
def r_X11_snap (x1 : Int) (A : St) (z : Int) (u : St) : Prop := tr_r_X11_snap x1 A z u
theorem u_r_X11_snap {x1 : Int} {A : St} {z : Int} {u : St} (h : tr_r_X11_snap x1 A z u) : r_X11_snap x1 A z u := h
def ws_kc_X11_snap : List Cond := .code yX11_snap cX11_snap 2 (some .int) :: WY
set_option maxHeartbeats 4000000 in
set_option maxRecDepth 100000 in
theorem kc_X11_snap (l : Launch) (dC : Nat → ClassId) (dI : Nat → Nat → Nat) (cB cI cJ cZ cQ : ClassId) (aL aS : Nat) (q : Nat → Nat) (A : St) (x1 : Int) (hI : IK A) (hx1 : (-2147483648 : Int) ≤ x1 ∧ x1 ≤ 2147483647) : KMi l yX11_snap ws_kc_X11_snap ({ frames := 1, cells := 0, slots := 0, locals := 22 } : Room) aL aS (dC, dI) (tyA cB cI cJ cZ cQ) (WK cB cI cJ cZ cQ q) A [.ref (q 0), .int (iI x1)] (fun z u => r_X11_snap x1 A z u ∧ IK u ∧ fk [34, 43, 50, 75, 106] [] A u ∧ (-2147483648 ≤ z ∧ z ≤ 2147483647)) := by
  refine k_meti (cc := cX11_snap) (maxL := 2) WK_adr (plainFor_of_name (by decide +kernel)) rfl (Nat.le_of_ble_eq_true rfl) (fun p e s m below meth c Q AS ls hx hb hml hown hts hK hDD hA0 hE RET H locs hP hS hl => ?_)
  have hown : s.vm.findClass RX11 = some m.cls := hown
  have hl : lv_has ls 2 [(0, .ref (q 0)), (1, .int (iI x1))] := hl
  have hiX11 : ∀ w ∈ u_ws RX11 TX11 11, w ∈ ws_kc_X11_snap := fun w h => List.mem_cons_of_mem _ (wy_layX11 w h)
  have hiX9 : ∀ w ∈ u_ws RX9 TX9 16, w ∈ ws_kc_X11_snap := fun w h => List.mem_cons_of_mem _ (wy_layX9 w h)
  have hiX6 : ∀ w ∈ u_ws RX6 TX6 4, w ∈ ws_kc_X11_snap := fun w h => List.mem_cons_of_mem _ (wy_layX6 w h)
  refine lv_aload_n hx hb dX11_snap_0 rfl (lv_at hl 0 rfl) ?_
  have r1 : (0 : Int) ≤ (A 0 9) ∧ (A 0 9) ≤ 1 := irK_9 hI
  obtain ⟨t2, et2⟩ : ∃ t : Nat, t = 51 + 31 * ((A 0 9)).toNat := ⟨_, rfl⟩
  have ht2 : isT t2 := by rw [et2]; exact isT.b r1
  refine va_get (D := (dC, dI)) (ci := 11) (v := .ref (q (51 + 31 * (A 0 9).toNat))) (C := RX11) (T := TX11) (N := 11) hx hb hts hiX11 hown hK hP 0 (wkK) rfl 9 (by decide) (hts _ (List.mem_cons_of_mem _ (wk_in_10 _ (List.mem_of_getElem? (i := 36) rfl)))) (fun _ h9 => h9) rfl dX11_snap_1 ?_
  refine tp_v (y := .ref (q t2)) (by rw [et2]) ?_
  refine lv_iconst (v := iI 2) hx hb dX11_snap_4 (by decide +kernel) ?_
  refine lv_iload_n hx hb dX11_snap_5 rfl (lv_at hl 1 rfl) ?_
  refine k_calli (As := [.int (iI 2), .int (iI x1)]) (rest := []) ⟨hx, hb, hml, hown, hts⟩ hE (kc_X9_isThere_1_2 l dC dI cB cI cJ cZ cQ aL aS q _ t2 x1 hI ht2 hx1) (cwV 2 hts (goodVk (wk_in_10 _ (List.mem_of_getElem? (i := 54) rfl)) (wk_in_0 _ (List.mem_of_getElem? (i := 22) rfl)) (wk_in_0 _ (List.mem_of_getElem? (i := 23) rfl)) (wk_in_0 _ (List.mem_of_getElem? (i := 6) rfl)) (wk_in_0 _ (List.mem_of_getElem? (i := 24) rfl))) rfl rfl rfl (by decide +kernel) ⟨Nat.le_of_ble_eq_true rfl, Nat.le_of_ble_eq_true rfl⟩) hK hDD hA0 hP hS t2 9 (wkT ht2) rfl rfl hl.1 (Nat.le_of_ble_eq_true rfl) dX11_snap_6 (fun z3 A4 H locs hw5 hP hS => ?_)
  obtain ⟨rfl, hw5⟩ := hw5
  have ghw5 : q_X9_isThere_1_2 t2 x1 A z3 := hw5
  have hw5 := hw5.2
  have rz3 : 0 ≤ z3 ∧ z3 ≤ 1 := hw5.1
  have hw5 := hw5.2
  refine lv_if_eq (tgt := 29) hx hb dX11_snap_9 (by decide) (fun c6 => ?_) (fun c6 => ?_)
  · have c6 : z3 = 0 := (i_eq0 (rb rz3 (by decide) (by decide))).mp c6
    clear hw5
    refine lv_aload_n hx hb dX11_snap_29 rfl (lv_at hl 0 rfl) ?_
    refine lv_iconst (v := iI 3) hx hb dX11_snap_30 (by decide +kernel) ?_
    refine k_calli (As := [.int (iI 3)]) (rest := []) ⟨hx, hb, hml, hown, hts⟩ hE (kc_X11_refused l dC dI cB cI cJ cZ cQ aL aS q _ 3 hI ⟨by decide, by decide⟩) (cwV 1 hts (goodVk (wk_in_10 _ (List.mem_of_getElem? (i := 23) rfl)) (wk_in_10 _ (List.mem_of_getElem? (i := 24) rfl)) (wk_in_10 _ (List.mem_of_getElem? (i := 25) rfl)) (wk_in_10 _ (List.mem_of_getElem? (i := 26) rfl)) (wk_in_10 _ (List.mem_of_getElem? (i := 27) rfl))) rfl rfl rfl (by decide +kernel) ⟨Nat.le_of_ble_eq_true rfl, Nat.le_of_ble_eq_true rfl⟩) hK hDD hA0 hP hS 0 11 (wkK) rfl rfl hl.1 (Nat.le_of_ble_eq_true rfl) dX11_snap_31 (fun z7 A8 H locs hw9 hP hS => ?_)
    have ghw9 : q_X11_refused 3 A z7 A8 := hw9
    obtain ⟨_, hI, hf10, hw9⟩ := hw9
    exact RET z7 _ _ _ _ _ ⟨(u_r_X11_snap ⟨t2, et2, ⟨z3, ghw5, (Or.inl ⟨c6, ⟨z7, A8, ghw9, ⟨rfl, rfl⟩⟩⟩)⟩⟩), hI, fk.trans (fk.rf) hf10 rfl rfl, (by omega)⟩ hP hS dX11_snap_34
  · have c6 : ¬ z3 = 0 := mt (i_eq0 (rb rz3 (by decide) (by decide))).mpr c6
    have hw5b := hw5 (by omega)
    clear hw5
    refine lv_aload_n hx hb dX11_snap_12 rfl (lv_at hl 0 rfl) ?_
    refine va_get (D := (dC, dI)) (ci := 11) (v := .ref (q (51 + 31 * (A 0 9).toNat))) (C := RX11) (T := TX11) (N := 11) hx hb hts hiX11 hown hK hP 0 (wkK) rfl 9 (by decide) (hts _ (List.mem_cons_of_mem _ (wk_in_10 _ (List.mem_of_getElem? (i := 36) rfl)))) (fun _ h9 => h9) rfl dX11_snap_13 ?_
    refine tp_v (y := .ref (q t2)) (by rw [et2]) ?_
    refine va_get (D := (dC, dI)) (ci := 9) (v := .ref (q (t2 + 22))) (C := RX9) (T := TX9) (N := 16) hx hb hts hiX9 hown hK hP t2 (wkT ht2) rfl 14 (by decide) (hts _ (List.mem_cons_of_mem _ (wk_in_11 _ (List.mem_of_getElem? (i := 5) rfl)))) (fun _ h9 => h9) rfl dX11_snap_16 ?_
    refine va_get (D := (dC, dI)) (ci := 6) (v := .ref (q ((t2 + 22) + 2))) (C := RX6) (T := TX6) (N := 4) hx hb hts hiX6 hown hK hP (t2 + 22) (wkS ht2.s) rfl 1 (by decide) (hts _ (List.mem_cons_of_mem _ (wk_in_11 _ (List.mem_of_getElem? (i := 6) rfl)))) (fun _ h9 => h9) rfl dX11_snap_19 ?_
    refine lv_iload_n hx hb dX11_snap_22 rfl (lv_at hl 1 rfl) ?_
    refine x_iald (Wf := WK cB cI cJ cZ cQ q) hx hb hK hP ((t2 + 22) + 2) 1 (wkSw ht2.s) rfl (by omega) (by decide) dX11_snap_23 (fun z11 hz11 => ?_)
    have rz11 : (-2147483648 : Int) ≤ z11 ∧ z11 ≤ 2147483647 := by rw [hz11]; exact irSw ht2.s hI
    have gz11 := Hd.mk hz11
    refine lv_bipush (v := iI 40) hx hb dX11_snap_24 (by decide +kernel) ?_
    refine lv_icmp_ne (tgt := 35) hx hb dX11_snap_26 (by decide) (fun c12 => ?_) (fun c12 => ?_)
    · have c12 : ¬ z11 = 40 := mt (i_eq rz11 ⟨by decide, by decide⟩).mpr c12
      refine lv_aload_n hx hb dX11_snap_35 rfl (lv_at hl 0 rfl) ?_
      refine va_get (D := (dC, dI)) (ci := 11) (v := .ref (q (51 + 31 * (A 0 9).toNat))) (C := RX11) (T := TX11) (N := 11) hx hb hts hiX11 hown hK hP 0 (wkK) rfl 9 (by decide) (hts _ (List.mem_cons_of_mem _ (wk_in_10 _ (List.mem_of_getElem? (i := 36) rfl)))) (fun _ h9 => h9) rfl dX11_snap_36 ?_
      refine tp_v (y := .ref (q t2)) (by rw [et2]) ?_
      refine va_get (D := (dC, dI)) (ci := 9) (v := .ref (q (t2 + 22))) (C := RX9) (T := TX9) (N := 16) hx hb hts hiX9 hown hK hP t2 (wkT ht2) rfl 14 (by decide) (hts _ (List.mem_cons_of_mem _ (wk_in_11 _ (List.mem_of_getElem? (i := 5) rfl)))) (fun _ h9 => h9) rfl dX11_snap_39 ?_
      refine va_get (D := (dC, dI)) (ci := 6) (v := .ref (q ((t2 + 22) + 2))) (C := RX6) (T := TX6) (N := 4) hx hb hts hiX6 hown hK hP (t2 + 22) (wkS ht2.s) rfl 1 (by decide) (hts _ (List.mem_cons_of_mem _ (wk_in_11 _ (List.mem_of_getElem? (i := 6) rfl)))) (fun _ h9 => h9) rfl dX11_snap_42 ?_
      refine lv_iload_n hx hb dX11_snap_45 rfl (lv_at hl 1 rfl) ?_
      refine lv_bipush (v := iI 40) hx hb dX11_snap_46 (by decide +kernel) ?_
      refine k_iast (Wf := WK cB cI cJ cZ cQ q) hx hb hK hP hDD hS ((t2 + 22) + 2) 1 (wkSw ht2.s) rfl (by omega) (by decide) dX11_snap_48 (wsSw ht2.s) (fun H locs A13 hA13 hP hS => ?_)
      have hI := isSw ht2.s hA13 hI (show (-2147483648 : Int) ≤ 40 ∧ 40 ≤ 2147483647 from ⟨by decide, by decide⟩)
      refine lv_aload_n hx hb dX11_snap_49 rfl (lv_at hl 0 rfl) ?_
      have e14 : A13 0 9 = (A 0 9) := (rd_ne hA13 (by rcases ht2.s with h | h | h | h <;> omega) 9)
      refine va_get (D := (dC, dI)) (ci := 11) (v := .ref (q (51 + 31 * (A13 0 9).toNat))) (C := RX11) (T := TX11) (N := 11) hx hb hts hiX11 hown hK hP 0 (wkK) rfl 9 (by decide) (hts _ (List.mem_cons_of_mem _ (wk_in_10 _ (List.mem_of_getElem? (i := 36) rfl)))) (fun _ h9 => h9) rfl dX11_snap_50 ?_
      refine tp_v (y := .ref (q t2)) (by rw [et2, e14]) ?_
      refine va_get (D := (dC, dI)) (ci := 9) (v := .ref (q (t2 + 22))) (C := RX9) (T := TX9) (N := 16) hx hb hts hiX9 hown hK hP t2 (wkT ht2) rfl 14 (by decide) (hts _ (List.mem_cons_of_mem _ (wk_in_11 _ (List.mem_of_getElem? (i := 5) rfl)))) (fun _ h9 => h9) rfl dX11_snap_53 ?_
      refine va_get (D := (dC, dI)) (ci := 6) (v := .ref (q ((t2 + 22) + 3))) (C := RX6) (T := TX6) (N := 4) hx hb hts hiX6 hown hK hP (t2 + 22) (wkS ht2.s) rfl 2 (by decide) (hts _ (List.mem_cons_of_mem _ (wk_in_11 _ (List.mem_of_getElem? (i := 7) rfl)))) (fun _ h9 => h9) rfl dX11_snap_56 ?_
      refine lv_iload_n hx hb dX11_snap_59 rfl (lv_at hl 1 rfl) ?_
      have a15 : ∀ k, A13 ((t2 + 22) + 3) k = A ((t2 + 22) + 3) k := fun k => rd_ne hA13 (by omega) k
      refine x_iald (Wf := WK cB cI cJ cZ cQ q) hx hb hK hP ((t2 + 22) + 3) 1 (wkSz ht2.s) rfl (by omega) (by decide) dX11_snap_60 (fun z16 hz16 => ?_)
      have rz16 : (0 : Int) ≤ z16 ∧ z16 ≤ 6 := by rw [hz16]; exact irSz ht2.s hI
      have gz16 := Hd.mk hz16
      have hz16 : z16 = A ((t2 + 22) + 3) (x1).toNat := hz16.trans (a15 _)
      exact RET z16 _ _ _ _ _ ⟨(u_r_X11_snap ⟨t2, et2, ⟨z3, ghw5, (Or.inr ⟨c6, ⟨z11, gz11.out, (Or.inl ⟨c12, ⟨A13, hA13, ⟨z16, gz16.out, ⟨rfl, rfl⟩⟩⟩⟩)⟩⟩)⟩⟩), hI, fk.da (fk.rf) hA13 (isS.b2 (o := fun b => List.contains [34, 43, 50, 75, 106] (b + 2)) ht2.s rfl rfl rfl rfl), (rb rz16 (by decide) (by decide))⟩ hP hS dX11_snap_61
    · have c12 : z11 = 40 := (i_eq rz11 ⟨by decide, by decide⟩).mp c12
      refine lv_aload_n hx hb dX11_snap_29 rfl (lv_at hl 0 rfl) ?_
      refine lv_iconst (v := iI 3) hx hb dX11_snap_30 (by decide +kernel) ?_
      refine k_calli (As := [.int (iI 3)]) (rest := []) ⟨hx, hb, hml, hown, hts⟩ hE (kc_X11_refused l dC dI cB cI cJ cZ cQ aL aS q _ 3 hI ⟨by decide, by decide⟩) (cwV 1 hts (goodVk (wk_in_10 _ (List.mem_of_getElem? (i := 23) rfl)) (wk_in_10 _ (List.mem_of_getElem? (i := 24) rfl)) (wk_in_10 _ (List.mem_of_getElem? (i := 25) rfl)) (wk_in_10 _ (List.mem_of_getElem? (i := 26) rfl)) (wk_in_10 _ (List.mem_of_getElem? (i := 27) rfl))) rfl rfl rfl (by decide +kernel) ⟨Nat.le_of_ble_eq_true rfl, Nat.le_of_ble_eq_true rfl⟩) hK hDD hA0 hP hS 0 11 (wkK) rfl rfl hl.1 (Nat.le_of_ble_eq_true rfl) dX11_snap_31 (fun z17 A18 H locs hw19 hP hS => ?_)
      have ghw19 : q_X11_refused 3 A z17 A18 := hw19
      obtain ⟨_, hI, hf20, hw19⟩ := hw19
      exact RET z17 _ _ _ _ _ ⟨(u_r_X11_snap ⟨t2, et2, ⟨z3, ghw5, (Or.inr ⟨c6, ⟨z11, gz11.out, (Or.inr ⟨c12, ⟨z17, A18, ghw19, ⟨rfl, rfl⟩⟩⟩)⟩⟩)⟩⟩), hI, fk.trans (fk.rf) hf20 rfl rfl, (by omega)⟩ hP hS dX11_snap_34

abbrev tr_d_X11_firstImpossible_1 (A : St) (z : Int) (u : St) (K1 : Int → Int → St → Prop) (z1 : Int) (z2 : Int) (A4 : St) : Prop := ((IK A4) ∧ ((0 ≤ z1 ∧ z1 ≤ 2147483647) ∧ ((-2147483648 ≤ z2 ∧ z2 ≤ 2147483647) ∧ ((((A 1 1) ≤ z1) ∧ (z = (-1) ∧ u = A4)) ∨ ((¬ (A 1 1) ≤ z1) ∧ (((z1 + 3 ≤ (A 1 1)) ∧ (∃ t19 : Nat, t19 = 51 + 31 * ((A 0 9)).toNat ∧ (∃ z20 : Int, q_X7_at z1 A4 z20 ∧ (∃ z23 : Int, q_X7_at (z1 + 1) A4 z23 ∧ (∃ z26 : Int, q_X7_at (z1 + 2) A4 z26 ∧ (∃ z29 : Int, ∃ A30 : St, q_X9_toldAct t19 z20 z23 z26 A4 z29 A30 ∧ (((¬ z29 = (-1)) ∧ (∃ z34 : Int, z34 = oWrap (z2 + 1) ∧ (K1 (z1 + 3) z34 A30))) ∨ ((z29 = (-1)) ∧ (z = z2 ∧ u = A30))))))))) ∨ ((¬ z1 + 3 ≤ (A 1 1)) ∧ (z = z2 ∧ u = A4))))))))
def d_X11_firstImpossible_1 (A : St) (z : Int) (u : St) : Nat → Int → Int → St → Prop
  | 0, _, _, _ => False
  | nn9 + 1, z1, z2, A4 => tr_d_X11_firstImpossible_1 A z u (fun z1 z2 A4 => d_X11_firstImpossible_1 A z u nn9 z1 z2 A4) z1 z2 A4
theorem u_d_X11_firstImpossible_1 {A : St} {z : Int} {u : St} {nn9 : Nat} {z1 : Int} {z2 : Int} {A4 : St} (h : tr_d_X11_firstImpossible_1 A z u (fun z1 z2 A4 => d_X11_firstImpossible_1 A z u nn9 z1 z2 A4) z1 z2 A4) : d_X11_firstImpossible_1 A z u (nn9 + 1) z1 z2 A4 := h
abbrev tr_r_X11_firstImpossible (A : St) (z : Int) (u : St) : Prop := (∃ nn9 : Nat, d_X11_firstImpossible_1 A z u nn9 0 0 A)
def r_X11_firstImpossible (A : St) (z : Int) (u : St) : Prop := tr_r_X11_firstImpossible A z u
theorem u_r_X11_firstImpossible {A : St} {z : Int} {u : St} (h : tr_r_X11_firstImpossible A z u) : r_X11_firstImpossible A z u := h
def q_X11_firstImpossible (A : St) (z : Int) (u : St) : Prop := r_X11_firstImpossible A z u ∧ IK u ∧ fk [33, 35, 37, 38, 39, 40, 42, 44, 46, 47, 48, 49, 72, 74, 76, 78, 79, 80, 81, 103, 105, 107, 109, 110, 111, 112] [] A u ∧ (-2147483648 ≤ z ∧ z ≤ 2147483647)
def ws_kc_X11_firstImpossible : List Cond := .code yX11_firstImpossible cX11_firstImpossible 3 (some .int) :: WY
set_option maxHeartbeats 4000000 in
set_option maxRecDepth 100000 in
theorem kc_X11_firstImpossible (l : Launch) (dC : Nat → ClassId) (dI : Nat → Nat → Nat) (cB cI cJ cZ cQ : ClassId) (aL aS : Nat) (q : Nat → Nat) (A : St) (hI : IK A) : KMi l yX11_firstImpossible ws_kc_X11_firstImpossible ({ frames := 6, cells := 0, slots := 0, locals := 146 } : Room) aL aS (dC, dI) (tyA cB cI cJ cZ cQ) (WK cB cI cJ cZ cQ q) A [.ref (q 0)] (fun z u => r_X11_firstImpossible A z u ∧ IK u ∧ fk [33, 35, 37, 38, 39, 40, 42, 44, 46, 47, 48, 49, 72, 74, 76, 78, 79, 80, 81, 103, 105, 107, 109, 110, 111, 112] [] A u ∧ (-2147483648 ≤ z ∧ z ≤ 2147483647)) := by
  refine k_meti (cc := cX11_firstImpossible) (maxL := 3) WK_adr (plainFor_of_name (by decide +kernel)) rfl (Nat.le_of_ble_eq_true rfl) (fun p e s m below meth c Q AS ls hx hb hml hown hts hK hDD hA0 hE RET H locs hP hS hl => ?_)
  have hown : s.vm.findClass RX11 = some m.cls := hown
  have hl : lv_has ls 3 [(0, .ref (q 0))] := hl
  have hiX11 : ∀ w ∈ u_ws RX11 TX11 11, w ∈ ws_kc_X11_firstImpossible := fun w h => List.mem_cons_of_mem _ (wy_layX11 w h)
  have hiX7 : ∀ w ∈ u_ws RX7 TX7 2, w ∈ ws_kc_X11_firstImpossible := fun w h => List.mem_cons_of_mem _ (wy_layX7 w h)
  refine lv_iconst (v := iI 0) hx hb dX11_firstImpossible_0 (by decide +kernel) ?_
  refine lv_istore_n (lv' := [(1, .int (iI 0)), (0, .ref (q 0))]) hx hb dX11_firstImpossible_1 rfl hl (by decide) rfl (fun ls hl => ?_)
  refine lv_iconst (v := iI 0) hx hb dX11_firstImpossible_2 (by decide +kernel) ?_
  refine lv_istore_n (lv' := [(2, .int (iI 0)), (1, .int (iI 0)), (0, .ref (q 0))]) hx hb dX11_firstImpossible_3 rfl hl (by decide) rfl (fun ls hl => ?_)
  have L4_5 : ∀ (n11 : Nat) (z1 z2 : Int) (A4 : St) (H : Heap) (locs : List Loc) (ls : Array Slot), (0 ≤ z1 ∧ z1 ≤ 2147483647) → (-2147483648 ≤ z2 ∧ z2 ≤ 2147483647) → (∀ (z : Int) (u : St), (∃ mm1 : Nat, (d_X11_firstImpossible_1 A z u mm1 z1 z2 A4)) → r_X11_firstImpossible A z u) → ((1601 - z1).toNat = n11) → IK A4 → fk [33, 35, 37, 38, 39, 40, 42, 44, 46, 47, 48, 49, 72, 74, 76, 78, 79, 80, 81, 103, 105, 107, 109, 110, 111, 112] [] A A4 → va_P (dC, dI) vwCl (WK cB cI cJ cZ cQ q A4) H → va_S AS s.heap H locs → lv_has ls 3 [(2, .int (iI z1)), (1, .int (iI z2)), (0, .ref (q 0))] → W p l e (headSpec ws_kc_X11_firstImpossible ({ frames := 6, cells := 0, slots := 0, locals := 146 } : Room)).room s m [.ref (q 0)].toArray below meth c H locs 0 0 Q (F0 m 4 ls []) := by
    intro n11
    induction n11 using Nat.strongRecOn with
    | ind n11 ih6 =>
      intro z1 z2 A4 H locs ls f7 f8 hk1 hn11 hI hj3 hP hS hl
      have gI12 : Hd (IK A4) := Hd.mk hI
      refine lv_iload_n hx hb dX11_firstImpossible_4 rfl (lv_at hl 0 rfl) ?_
      refine lv_aload_n hx hb dX11_firstImpossible_5 rfl (lv_at hl 2 rfl) ?_
      refine va_get (D := (dC, dI)) (ci := 11) (v := .ref (q 1)) (C := RX11) (T := TX11) (N := 11) hx hb hts hiX11 hown hK hP 0 (wkK) rfl 0 (by decide) (hts _ (List.mem_cons_of_mem _ (wk_in_10 _ (List.mem_of_getElem? (i := 18) rfl)))) (fun _ h9 => h9) rfl dX11_firstImpossible_6 ?_
      have e13 : A4 1 1 = (A 1 1) := (hj3 1 1 rfl rfl)
      have r14 : (0 : Int) ≤ (A 1 1) ∧ (A 1 1) ≤ 1600 := by rw [← e13]; exact irTP_1 hI
      refine va_get (D := (dC, dI)) (ci := 7) (v := .int (iI (A4 1 1))) (C := RX7) (T := TX7) (N := 2) hx hb hts hiX7 hown hK hP 1 (wkTP) rfl 1 (by decide) (hts _ (List.mem_cons_of_mem _ (wk_in_10 _ (List.mem_of_getElem? (i := 19) rfl)))) (fun _ h9 => h9) rfl dX11_firstImpossible_9 ?_
      refine tp_i (y := iI (A 1 1)) (congrArg iI e13) ?_
      refine lv_icmp_ge (tgt := 80) hx hb dX11_firstImpossible_12 (by decide) (fun c15 => ?_) (fun c15 => ?_)
      · have c15 : (A 1 1) ≤ z1 := (i_le (rb r14 (by decide) (by decide)) (rb f7 (by decide) (by decide))).mp c15
        refine lv_iconst (v := iI (-1)) hx hb dX11_firstImpossible_80 (by decide +kernel) ?_
        exact RET (-1) _ _ _ _ _ ⟨hk1 _ _ ⟨0 + 1, (u_d_X11_firstImpossible_1 ⟨gI12.out, ⟨f7, ⟨f8, (Or.inl ⟨c15, ⟨rfl, rfl⟩⟩)⟩⟩⟩)⟩, hI, fk.trans (fk.rf) hj3 rfl rfl, ⟨by decide, by decide⟩⟩ hP hS dX11_firstImpossible_81
      · have c15 : ¬ (A 1 1) ≤ z1 := mt (i_le (rb r14 (by decide) (by decide)) (rb f7 (by decide) (by decide))).mpr c15
        refine lv_iload_n hx hb dX11_firstImpossible_15 rfl (lv_at hl 0 rfl) ?_
        refine lv_iconst (v := iI 3) hx hb dX11_firstImpossible_16 (by decide +kernel) ?_
        refine x_addv (v := z1 + 3) hx hb dX11_firstImpossible_17 (by omega) ?_
        refine lv_aload_n hx hb dX11_firstImpossible_18 rfl (lv_at hl 2 rfl) ?_
        refine va_get (D := (dC, dI)) (ci := 11) (v := .ref (q 1)) (C := RX11) (T := TX11) (N := 11) hx hb hts hiX11 hown hK hP 0 (wkK) rfl 0 (by decide) (hts _ (List.mem_cons_of_mem _ (wk_in_10 _ (List.mem_of_getElem? (i := 18) rfl)))) (fun _ h9 => h9) rfl dX11_firstImpossible_19 ?_
        refine va_get (D := (dC, dI)) (ci := 7) (v := .int (iI (A4 1 1))) (C := RX7) (T := TX7) (N := 2) hx hb hts hiX7 hown hK hP 1 (wkTP) rfl 1 (by decide) (hts _ (List.mem_cons_of_mem _ (wk_in_10 _ (List.mem_of_getElem? (i := 19) rfl)))) (fun _ h9 => h9) rfl dX11_firstImpossible_22 ?_
        refine tp_i (y := iI (A 1 1)) (congrArg iI e13) ?_
        refine lv_icmp_le (tgt := 30) hx hb dX11_firstImpossible_25 (by decide) (fun c16 => ?_) (fun c16 => ?_)
        · have c16 : z1 + 3 ≤ (A 1 1) := (i_le (by omega) (rb r14 (by decide) (by decide))).mp c16
          refine lv_aload_n hx hb dX11_firstImpossible_30 rfl (lv_at hl 2 rfl) ?_
          have e17 : A4 0 9 = (A 0 9) := (hj3 0 9 rfl rfl)
          have r18 : (0 : Int) ≤ (A 0 9) ∧ (A 0 9) ≤ 1 := by rw [← e17]; exact irK_9 hI
          obtain ⟨t19, et19⟩ : ∃ t : Nat, t = 51 + 31 * ((A 0 9)).toNat := ⟨_, rfl⟩
          have ht19 : isT t19 := by rw [et19]; exact isT.b r18
          refine va_get (D := (dC, dI)) (ci := 11) (v := .ref (q (51 + 31 * (A4 0 9).toNat))) (C := RX11) (T := TX11) (N := 11) hx hb hts hiX11 hown hK hP 0 (wkK) rfl 9 (by decide) (hts _ (List.mem_cons_of_mem _ (wk_in_10 _ (List.mem_of_getElem? (i := 36) rfl)))) (fun _ h9 => h9) rfl dX11_firstImpossible_31 ?_
          refine tp_v (y := .ref (q t19)) (by rw [et19, e17]) ?_
          refine lv_aload_n hx hb dX11_firstImpossible_34 rfl (lv_at hl 2 rfl) ?_
          refine va_get (D := (dC, dI)) (ci := 11) (v := .ref (q 1)) (C := RX11) (T := TX11) (N := 11) hx hb hts hiX11 hown hK hP 0 (wkK) rfl 0 (by decide) (hts _ (List.mem_cons_of_mem _ (wk_in_10 _ (List.mem_of_getElem? (i := 18) rfl)))) (fun _ h9 => h9) rfl dX11_firstImpossible_35 ?_
          refine lv_iload_n hx hb dX11_firstImpossible_38 rfl (lv_at hl 0 rfl) ?_
          refine k_calli (As := [.int (iI z1)]) (rest := [.ref (q t19)]) ⟨hx, hb, hml, hown, hts⟩ hE (kc_X7_at l dC dI cB cI cJ cZ cQ aL aS q _ z1 hI (rb f7 (by decide) (by decide))) (cwV 1 hts (goodVk (wk_in_11 _ (List.mem_of_getElem? (i := 52) rfl)) (wk_in_4 _ (List.mem_of_getElem? (i := 39) rfl)) (wk_in_4 _ (List.mem_of_getElem? (i := 40) rfl)) (wk_in_4 _ (List.mem_of_getElem? (i := 41) rfl)) (wk_in_4 _ (List.mem_of_getElem? (i := 42) rfl))) rfl rfl rfl (by decide +kernel) ⟨Nat.le_of_ble_eq_true rfl, Nat.le_of_ble_eq_true rfl⟩) hK hDD hA0 hP hS 1 7 (wkTP) rfl rfl hl.1 (Nat.le_of_ble_eq_true rfl) dX11_firstImpossible_39 (fun z20 A21 H locs hw22 hP hS => ?_)
          obtain ⟨rfl, hw22⟩ := hw22
          have ghw22 : q_X7_at z1 A4 z20 := hw22
          have hw22 := hw22.2
          refine lv_aload_n hx hb dX11_firstImpossible_42 rfl (lv_at hl 2 rfl) ?_
          refine va_get (D := (dC, dI)) (ci := 11) (v := .ref (q 1)) (C := RX11) (T := TX11) (N := 11) hx hb hts hiX11 hown hK hP 0 (wkK) rfl 0 (by decide) (hts _ (List.mem_cons_of_mem _ (wk_in_10 _ (List.mem_of_getElem? (i := 18) rfl)))) (fun _ h9 => h9) rfl dX11_firstImpossible_43 ?_
          refine lv_iload_n hx hb dX11_firstImpossible_46 rfl (lv_at hl 0 rfl) ?_
          refine lv_iconst (v := iI 1) hx hb dX11_firstImpossible_47 (by decide +kernel) ?_
          refine x_addv (v := z1 + 1) hx hb dX11_firstImpossible_48 (by omega) ?_
          refine k_calli (As := [.int (iI (z1 + 1))]) (rest := [.int (iI z20), .ref (q t19)]) ⟨hx, hb, hml, hown, hts⟩ hE (kc_X7_at l dC dI cB cI cJ cZ cQ aL aS q _ (z1 + 1) hI (by omega)) (cwV 1 hts (goodVk (wk_in_11 _ (List.mem_of_getElem? (i := 52) rfl)) (wk_in_4 _ (List.mem_of_getElem? (i := 39) rfl)) (wk_in_4 _ (List.mem_of_getElem? (i := 40) rfl)) (wk_in_4 _ (List.mem_of_getElem? (i := 41) rfl)) (wk_in_4 _ (List.mem_of_getElem? (i := 42) rfl))) rfl rfl rfl (by decide +kernel) ⟨Nat.le_of_ble_eq_true rfl, Nat.le_of_ble_eq_true rfl⟩) hK hDD hA0 hP hS 1 7 (wkTP) rfl rfl hl.1 (Nat.le_of_ble_eq_true rfl) dX11_firstImpossible_49 (fun z23 A24 H locs hw25 hP hS => ?_)
          obtain ⟨rfl, hw25⟩ := hw25
          have ghw25 : q_X7_at (z1 + 1) A4 z23 := hw25
          have hw25 := hw25.2
          refine lv_aload_n hx hb dX11_firstImpossible_52 rfl (lv_at hl 2 rfl) ?_
          refine va_get (D := (dC, dI)) (ci := 11) (v := .ref (q 1)) (C := RX11) (T := TX11) (N := 11) hx hb hts hiX11 hown hK hP 0 (wkK) rfl 0 (by decide) (hts _ (List.mem_cons_of_mem _ (wk_in_10 _ (List.mem_of_getElem? (i := 18) rfl)))) (fun _ h9 => h9) rfl dX11_firstImpossible_53 ?_
          refine lv_iload_n hx hb dX11_firstImpossible_56 rfl (lv_at hl 0 rfl) ?_
          refine lv_iconst (v := iI 2) hx hb dX11_firstImpossible_57 (by decide +kernel) ?_
          refine x_addv (v := z1 + 2) hx hb dX11_firstImpossible_58 (by omega) ?_
          refine k_calli (As := [.int (iI (z1 + 2))]) (rest := [.int (iI z23), .int (iI z20), .ref (q t19)]) ⟨hx, hb, hml, hown, hts⟩ hE (kc_X7_at l dC dI cB cI cJ cZ cQ aL aS q _ (z1 + 2) hI (by omega)) (cwV 1 hts (goodVk (wk_in_11 _ (List.mem_of_getElem? (i := 52) rfl)) (wk_in_4 _ (List.mem_of_getElem? (i := 39) rfl)) (wk_in_4 _ (List.mem_of_getElem? (i := 40) rfl)) (wk_in_4 _ (List.mem_of_getElem? (i := 41) rfl)) (wk_in_4 _ (List.mem_of_getElem? (i := 42) rfl))) rfl rfl rfl (by decide +kernel) ⟨Nat.le_of_ble_eq_true rfl, Nat.le_of_ble_eq_true rfl⟩) hK hDD hA0 hP hS 1 7 (wkTP) rfl rfl hl.1 (Nat.le_of_ble_eq_true rfl) dX11_firstImpossible_59 (fun z26 A27 H locs hw28 hP hS => ?_)
          obtain ⟨rfl, hw28⟩ := hw28
          have ghw28 : q_X7_at (z1 + 2) A4 z26 := hw28
          have hw28 := hw28.2
          refine k_calli (As := [.int (iI z20), .int (iI z23), .int (iI z26)]) (rest := []) ⟨hx, hb, hml, hown, hts⟩ hE (kc_X9_toldAct l dC dI cB cI cJ cZ cQ aL aS q _ t19 z20 z23 z26 hI ht19 (rb hw22 (by decide) (by decide)) (rb hw25 (by decide) (by decide)) (rb hw28 (by decide) (by decide))) (cwV 3 hts (goodVk (wk_in_11 _ (List.mem_of_getElem? (i := 53) rfl)) (wk_in_11 _ (List.mem_of_getElem? (i := 54) rfl)) (wk_in_11 _ (List.mem_of_getElem? (i := 55) rfl)) (wk_in_0 _ (List.mem_of_getElem? (i := 6) rfl)) (wk_in_9 _ (List.mem_of_getElem? (i := 28) rfl))) rfl rfl rfl (by decide +kernel) ⟨Nat.le_of_ble_eq_true rfl, Nat.le_of_ble_eq_true rfl⟩) hK hDD hA0 hP hS t19 9 (wkT ht19) rfl rfl hl.1 (Nat.le_of_ble_eq_true rfl) dX11_firstImpossible_62 (fun z29 A30 H locs hw31 hP hS => ?_)
          have ghw31 : q_X9_toldAct t19 z20 z23 z26 A4 z29 A30 := hw31
          obtain ⟨_, hI, hf32, hw31⟩ := hw31
          refine lv_iconst (v := iI (-1)) hx hb dX11_firstImpossible_65 (by decide +kernel) ?_
          refine lv_icmp_ne (tgt := 71) hx hb dX11_firstImpossible_66 (by decide) (fun c33 => ?_) (fun c33 => ?_)
          · have c33 : ¬ z29 = (-1) := mt (i_eq hw31 ⟨by decide, by decide⟩).mpr c33
            obtain ⟨z34, gz34, hz34, ez34⟩ := i_wrapE (z2 + 1)
            refine lv_iinc (v := iI z34) (lv' := [(1, .int (iI z34)), (2, .int (iI z1)), (0, .ref (q 0))]) hx hb dX11_firstImpossible_71 hl (k := 1) rfl ((i_inc (by omega)).trans ez34) (by decide) rfl (fun ls hl => ?_)
            refine lv_iinc (v := iI (z1 + 3)) (lv' := [(2, .int (iI (z1 + 3))), (1, .int (iI z34)), (0, .ref (q 0))]) hx hb dX11_firstImpossible_74 hl (k := 1) rfl (i_inc (by omega)) (by decide) rfl (fun ls hl => ?_)
            refine lv_goto (tgt := 4) hx hb dX11_firstImpossible_77 (by decide) ?_
            exact ih6 _ (by omega) (z1 + 3) z34 _ _ _ _ (by omega) (by omega) (fun zq uq ⟨mm1, hq⟩ => hk1 _ _ ⟨mm1 + 1, (u_d_X11_firstImpossible_1 ⟨gI12.out, ⟨f7, ⟨f8, (Or.inr ⟨c15, (Or.inl ⟨c16, ⟨t19, et19, ⟨z20, ghw22, ⟨z23, ghw25, ⟨z26, ghw28, ⟨z29, A30, ghw31, (Or.inl ⟨c33, ⟨z34, gz34.out, hq⟩⟩)⟩⟩⟩⟩⟩⟩)⟩)⟩⟩⟩)⟩) rfl hI (fk.trans (fk.trans (fk.rf) hj3 rfl rfl) hf32 rfl rfl) hP hS (lv_sub hl [0, 1, 2] rfl)
          · have c33 : z29 = (-1) := (i_eq hw31 ⟨by decide, by decide⟩).mp c33
            refine lv_iload_n hx hb dX11_firstImpossible_69 rfl (lv_at hl 1 rfl) ?_
            exact RET z2 _ _ _ _ _ ⟨hk1 _ _ ⟨0 + 1, (u_d_X11_firstImpossible_1 ⟨gI12.out, ⟨f7, ⟨f8, (Or.inr ⟨c15, (Or.inl ⟨c16, ⟨t19, et19, ⟨z20, ghw22, ⟨z23, ghw25, ⟨z26, ghw28, ⟨z29, A30, ghw31, (Or.inr ⟨c33, ⟨rfl, rfl⟩⟩)⟩⟩⟩⟩⟩⟩)⟩)⟩⟩⟩)⟩, hI, fk.trans (fk.trans (fk.rf) hj3 rfl rfl) hf32 rfl rfl, f8⟩ hP hS dX11_firstImpossible_70
        · have c16 : ¬ z1 + 3 ≤ (A 1 1) := mt (i_le (by omega) (rb r14 (by decide) (by decide))).mpr c16
          refine lv_iload_n hx hb dX11_firstImpossible_28 rfl (lv_at hl 1 rfl) ?_
          exact RET z2 _ _ _ _ _ ⟨hk1 _ _ ⟨0 + 1, (u_d_X11_firstImpossible_1 ⟨gI12.out, ⟨f7, ⟨f8, (Or.inr ⟨c15, (Or.inr ⟨c16, ⟨rfl, rfl⟩⟩)⟩)⟩⟩⟩)⟩, hI, fk.trans (fk.rf) hj3 rfl rfl, f8⟩ hP hS dX11_firstImpossible_29
  exact L4_5 _ 0 0 _ _ _ _ (by omega) (by omega) (fun zq uq ⟨mm1, hq⟩ => (u_r_X11_firstImpossible ⟨mm1, hq⟩)) rfl hI (fk.rf) hP hS (lv_sub hl [0, 1, 2] rfl)

abbrev tr_r_X11_row (A : St) (z : Int) (u : St) : Prop := (∃ t2 : Nat, t2 = 51 + 31 * ((A 0 9)).toNat ∧ (∃ A3 : St, q_X6_copyFrom 41 (t2 + 22) A A3 ∧ (∃ z6 : Int, ∃ A7 : St, q_X11_firstImpossible A3 z6 A7 ∧ (∃ A12 : St, q_X6_copyFrom (t2 + 22) 41 A7 A12 ∧ (∃ A15 : St, A15 = stA A12 1 1 0 ∧ (z = z6 ∧ u = A15))))))
def r_X11_row (A : St) (z : Int) (u : St) : Prop := tr_r_X11_row A z u
theorem u_r_X11_row {A : St} {z : Int} {u : St} (h : tr_r_X11_row A z u) : r_X11_row A z u := h
def ws_kc_X11_row : List Cond := .code yX11_row cX11_row 2 (some .int) :: WY
set_option maxHeartbeats 4000000 in
set_option maxRecDepth 100000 in
theorem kc_X11_row (l : Launch) (dC : Nat → ClassId) (dI : Nat → Nat → Nat) (cB cI cJ cZ cQ : ClassId) (aL aS : Nat) (q : Nat → Nat) (A : St) (hI : IK A) : KMi l yX11_row ws_kc_X11_row ({ frames := 7, cells := 0, slots := 0, locals := 168 } : Room) aL aS (dC, dI) (tyA cB cI cJ cZ cQ) (WK cB cI cJ cZ cQ q) A [.ref (q 0)] (fun z u => r_X11_row A z u ∧ IK u ∧ fk [33, 34, 35, 37, 38, 39, 40, 42, 43, 44, 46, 47, 48, 49, 72, 74, 75, 76, 78, 79, 80, 81, 103, 105, 106, 107, 109, 110, 111, 112] [(1, 1)] A u ∧ ((-2147483648 ≤ z ∧ z ≤ 2147483647) ∧ u 1 1 = 0)) := by
  refine k_meti (cc := cX11_row) (maxL := 2) WK_adr (plainFor_of_name (by decide +kernel)) rfl (Nat.le_of_ble_eq_true rfl) (fun p e s m below meth c Q AS ls hx hb hml hown hts hK hDD hA0 hE RET H locs hP hS hl => ?_)
  have hown : s.vm.findClass RX11 = some m.cls := hown
  have hl : lv_has ls 2 [(0, .ref (q 0))] := hl
  have hiX11 : ∀ w ∈ u_ws RX11 TX11 11, w ∈ ws_kc_X11_row := fun w h => List.mem_cons_of_mem _ (wy_layX11 w h)
  have hiX9 : ∀ w ∈ u_ws RX9 TX9 16, w ∈ ws_kc_X11_row := fun w h => List.mem_cons_of_mem _ (wy_layX9 w h)
  have hiX7 : ∀ w ∈ u_ws RX7 TX7 2, w ∈ ws_kc_X11_row := fun w h => List.mem_cons_of_mem _ (wy_layX7 w h)
  refine lv_aload_n hx hb dX11_row_0 rfl (lv_at hl 0 rfl) ?_
  refine va_get (D := (dC, dI)) (ci := 11) (v := .ref (q 41)) (C := RX11) (T := TX11) (N := 11) hx hb hts hiX11 hown hK hP 0 (wkK) rfl 7 (by decide) (hts _ (List.mem_cons_of_mem _ (wk_in_11 _ (List.mem_of_getElem? (i := 46) rfl)))) (fun _ h9 => h9) rfl dX11_row_1 ?_
  refine lv_aload_n hx hb dX11_row_4 rfl (lv_at hl 0 rfl) ?_
  have r1 : (0 : Int) ≤ (A 0 9) ∧ (A 0 9) ≤ 1 := irK_9 hI
  obtain ⟨t2, et2⟩ : ∃ t : Nat, t = 51 + 31 * ((A 0 9)).toNat := ⟨_, rfl⟩
  have ht2 : isT t2 := by rw [et2]; exact isT.b r1
  refine va_get (D := (dC, dI)) (ci := 11) (v := .ref (q (51 + 31 * (A 0 9).toNat))) (C := RX11) (T := TX11) (N := 11) hx hb hts hiX11 hown hK hP 0 (wkK) rfl 9 (by decide) (hts _ (List.mem_cons_of_mem _ (wk_in_10 _ (List.mem_of_getElem? (i := 36) rfl)))) (fun _ h9 => h9) rfl dX11_row_5 ?_
  refine tp_v (y := .ref (q t2)) (by rw [et2]) ?_
  refine va_get (D := (dC, dI)) (ci := 9) (v := .ref (q (t2 + 22))) (C := RX9) (T := TX9) (N := 16) hx hb hts hiX9 hown hK hP t2 (wkT ht2) rfl 14 (by decide) (hts _ (List.mem_cons_of_mem _ (wk_in_11 _ (List.mem_of_getElem? (i := 5) rfl)))) (fun _ h9 => h9) rfl dX11_row_8 ?_
  refine k_callv (As := [.ref (q (t2 + 22))]) (rest := []) ⟨hx, hb, hml, hown, hts⟩ hE (kc_X6_copyFrom l dC dI cB cI cJ cZ cQ aL aS q _ 41 (t2 + 22) hI isS41 ht2.s) (cwV 1 hts (goodVk (wk_in_11 _ (List.mem_of_getElem? (i := 47) rfl)) (wk_in_4 _ (List.mem_of_getElem? (i := 33) rfl)) (wk_in_4 _ (List.mem_of_getElem? (i := 34) rfl)) (wk_in_0 _ (List.mem_of_getElem? (i := 52) rfl)) (wk_in_4 _ (List.mem_of_getElem? (i := 35) rfl))) rfl rfl rfl (by decide +kernel) ⟨Nat.le_of_ble_eq_true rfl, Nat.le_of_ble_eq_true rfl⟩) hK hDD hA0 hP hS 41 6 (wkS isS41) rfl rfl hl.1 (Nat.le_of_ble_eq_true rfl) dX11_row_11 (fun A3 H locs hw4 hP hS => ?_)
  have ghw4 : q_X6_copyFrom 41 (t2 + 22) A A3 := hw4
  obtain ⟨_, hI, hf5, hw4⟩ := hw4
  clear hw4
  refine lv_aload_n hx hb dX11_row_14 rfl (lv_at hl 0 rfl) ?_
  refine k_calli (As := []) (rest := []) ⟨hx, hb, hml, hown, hts⟩ hE (kc_X11_firstImpossible l dC dI cB cI cJ cZ cQ aL aS q _ hI) (cwV 0 hts (goodVk (wk_in_11 _ (List.mem_of_getElem? (i := 48) rfl)) (wk_in_11 _ (List.mem_of_getElem? (i := 49) rfl)) (wk_in_11 _ (List.mem_of_getElem? (i := 50) rfl)) (wk_in_10 _ (List.mem_of_getElem? (i := 26) rfl)) (wk_in_11 _ (List.mem_of_getElem? (i := 51) rfl))) rfl rfl rfl (by decide +kernel) ⟨Nat.le_of_ble_eq_true rfl, Nat.le_of_ble_eq_true rfl⟩) hK hDD hA0 hP hS 0 11 (wkK) rfl rfl hl.1 (Nat.le_of_ble_eq_true rfl) dX11_row_15 (fun z6 A7 H locs hw8 hP hS => ?_)
  have ghw8 : q_X11_firstImpossible A3 z6 A7 := hw8
  obtain ⟨_, hI, hf9, hw8⟩ := hw8
  refine lv_istore_n (lv' := [(1, .int (iI z6)), (0, .ref (q 0))]) hx hb dX11_row_18 rfl hl (by decide) rfl (fun ls hl => ?_)
  refine lv_aload_n hx hb dX11_row_19 rfl (lv_at hl 1 rfl) ?_
  have e11 : A3 0 9 = (A 0 9) := (hf5 0 9 rfl rfl)
  have e10 : A7 0 9 = (A 0 9) := (hf9 0 9 rfl rfl).trans e11
  refine va_get (D := (dC, dI)) (ci := 11) (v := .ref (q (51 + 31 * (A7 0 9).toNat))) (C := RX11) (T := TX11) (N := 11) hx hb hts hiX11 hown hK hP 0 (wkK) rfl 9 (by decide) (hts _ (List.mem_cons_of_mem _ (wk_in_10 _ (List.mem_of_getElem? (i := 36) rfl)))) (fun _ h9 => h9) rfl dX11_row_20 ?_
  refine tp_v (y := .ref (q t2)) (by rw [et2, e10]) ?_
  refine va_get (D := (dC, dI)) (ci := 9) (v := .ref (q (t2 + 22))) (C := RX9) (T := TX9) (N := 16) hx hb hts hiX9 hown hK hP t2 (wkT ht2) rfl 14 (by decide) (hts _ (List.mem_cons_of_mem _ (wk_in_11 _ (List.mem_of_getElem? (i := 5) rfl)))) (fun _ h9 => h9) rfl dX11_row_23 ?_
  refine lv_aload_n hx hb dX11_row_26 rfl (lv_at hl 1 rfl) ?_
  refine va_get (D := (dC, dI)) (ci := 11) (v := .ref (q 41)) (C := RX11) (T := TX11) (N := 11) hx hb hts hiX11 hown hK hP 0 (wkK) rfl 7 (by decide) (hts _ (List.mem_cons_of_mem _ (wk_in_11 _ (List.mem_of_getElem? (i := 46) rfl)))) (fun _ h9 => h9) rfl dX11_row_27 ?_
  refine k_callv (As := [.ref (q 41)]) (rest := []) ⟨hx, hb, hml, hown, hts⟩ hE (kc_X6_copyFrom l dC dI cB cI cJ cZ cQ aL aS q _ (t2 + 22) 41 hI ht2.s isS41) (cwV 1 hts (goodVk (wk_in_11 _ (List.mem_of_getElem? (i := 47) rfl)) (wk_in_4 _ (List.mem_of_getElem? (i := 33) rfl)) (wk_in_4 _ (List.mem_of_getElem? (i := 34) rfl)) (wk_in_0 _ (List.mem_of_getElem? (i := 52) rfl)) (wk_in_4 _ (List.mem_of_getElem? (i := 35) rfl))) rfl rfl rfl (by decide +kernel) ⟨Nat.le_of_ble_eq_true rfl, Nat.le_of_ble_eq_true rfl⟩) hK hDD hA0 hP hS (t2 + 22) 6 (wkS ht2.s) rfl rfl hl.1 (Nat.le_of_ble_eq_true rfl) dX11_row_30 (fun A12 H locs hw13 hP hS => ?_)
  have ghw13 : q_X6_copyFrom (t2 + 22) 41 A7 A12 := hw13
  obtain ⟨_, hI, hf14, hw13⟩ := hw13
  clear hw13
  refine lv_aload_n hx hb dX11_row_33 rfl (lv_at hl 1 rfl) ?_
  refine va_get (D := (dC, dI)) (ci := 11) (v := .ref (q 1)) (C := RX11) (T := TX11) (N := 11) hx hb hts hiX11 hown hK hP 0 (wkK) rfl 0 (by decide) (hts _ (List.mem_cons_of_mem _ (wk_in_10 _ (List.mem_of_getElem? (i := 18) rfl)))) (fun _ h9 => h9) rfl dX11_row_34 ?_
  refine lv_iconst (v := iI 0) hx hb dX11_row_37 (by decide +kernel) ?_
  refine k_put (Wf := WK cB cI cJ cZ cQ q) (D := (dC, dI)) (ci := 7) (v := .int (iI 0)) (ty := .int) (C := RX7) (T := TX7) (N := 2) hx hb hts hiX7 tyX7 tyX7_ok nmX7 hown hK hP hDD hS 1 (wkTP) rfl 1 (by decide) (hts _ (List.mem_cons_of_mem _ (wk_in_10 _ (List.mem_of_getElem? (i := 19) rfl)))) (fun _ h9 => h9) rfl (by decide +kernel) rfl rfl (Nat.le_of_ble_eq_true rfl) dX11_row_38 (wfTP_1 (v := 0)) (fun H locs A15 hA15 hP hS => ?_)
  have hI := isTP_1 hA15 hI (show (0 : Int) ≤ 0 ∧ 0 ≤ 1600 from ⟨by decide, by decide⟩)
  refine lv_iload_n hx hb dX11_row_41 rfl (lv_at hl 0 rfl) ?_
  have e16 : A15 1 1 = 0 := rd_is hA15
  exact RET z6 _ _ _ _ _ ⟨(u_r_X11_row ⟨t2, et2, ⟨A3, ghw4, ⟨z6, A7, ghw8, ⟨A12, ghw13, ⟨A15, hA15, ⟨rfl, rfl⟩⟩⟩⟩⟩⟩), hI, fk.df (fk.trans (fk.trans (fk.trans (fk.rf) hf5 rfl rfl) hf9 rfl rfl) hf14 rfl rfl) hA15 rfl, by omega⟩ hP hS dX11_row_42

abbrev tr_r_X11_reach (x1 : Int) (x2 : Int) (A : St) (z : Int) (u : St) : Prop := (∃ t2 : Nat, t2 = 51 + 31 * ((A 0 9)).toNat ∧ (∃ z3 : Int, q_X9_isThere_1_3 t2 x1 A z3 ∧ (((z3 = 0) ∧ (z = (-1) ∧ u = A)) ∨ ((¬ z3 = 0) ∧ (∃ z7 : Int, q_X9_isThere_1_0 t2 x2 A z7 ∧ (((¬ z7 = 0) ∧ (∃ z11 : Int, q_X9_keysOf t2 x1 A z11 ∧ (∃ z14 : Int, ∃ A15 : St, q_X0_search t2 x1 z11 0 x2 A z14 A15 ∧ (z = z14 ∧ u = A15)))) ∨ ((z7 = 0) ∧ (z = (-1) ∧ u = A))))))))
def r_X11_reach (x1 : Int) (x2 : Int) (A : St) (z : Int) (u : St) : Prop := tr_r_X11_reach x1 x2 A z u
theorem u_r_X11_reach {x1 : Int} {x2 : Int} {A : St} {z : Int} {u : St} (h : tr_r_X11_reach x1 x2 A z u) : r_X11_reach x1 x2 A z u := h
def ws_kc_X11_reach : List Cond := .code yX11_reach cX11_reach 3 (some .int) :: WY
set_option maxHeartbeats 4000000 in
set_option maxRecDepth 100000 in
theorem kc_X11_reach (l : Launch) (dC : Nat → ClassId) (dI : Nat → Nat → Nat) (cB cI cJ cZ cQ : ClassId) (aL aS : Nat) (q : Nat → Nat) (A : St) (x1 x2 : Int) (hI : IK A) (hx1 : (-2147483648 : Int) ≤ x1 ∧ x1 ≤ 2147483647) (hx2 : (-2147483648 : Int) ≤ x2 ∧ x2 ≤ 2147483647) : KMi l yX11_reach ws_kc_X11_reach ({ frames := 6, cells := 0, slots := 0, locals := 155 } : Room) aL aS (dC, dI) (tyA cB cI cJ cZ cQ) (WK cB cI cJ cZ cQ q) A [.ref (q 0), .int (iI x1), .int (iI x2)] (fun z u => r_X11_reach x1 x2 A z u ∧ IK u ∧ fk [7, 9, 10, 11, 12, 13, 14, 15, 16, 17, 18, 19, 72, 103] [(6, 7), (6, 8), (6, 9), (6, 10), (6, 11), (6, 12), (6, 13), (6, 14), (6, 15)] A u ∧ (-2147483648 ≤ z ∧ z ≤ 2147483647)) := by
  refine k_meti (cc := cX11_reach) (maxL := 3) WK_adr (plainFor_of_name (by decide +kernel)) rfl (Nat.le_of_ble_eq_true rfl) (fun p e s m below meth c Q AS ls hx hb hml hown hts hK hDD hA0 hE RET H locs hP hS hl => ?_)
  have hown : s.vm.findClass RX11 = some m.cls := hown
  have hl : lv_has ls 3 [(0, .ref (q 0)), (1, .int (iI x1)), (2, .int (iI x2))] := hl
  have hiX11 : ∀ w ∈ u_ws RX11 TX11 11, w ∈ ws_kc_X11_reach := fun w h => List.mem_cons_of_mem _ (wy_layX11 w h)
  refine lv_aload_n hx hb dX11_reach_0 rfl (lv_at hl 0 rfl) ?_
  have r1 : (0 : Int) ≤ (A 0 9) ∧ (A 0 9) ≤ 1 := irK_9 hI
  obtain ⟨t2, et2⟩ : ∃ t : Nat, t = 51 + 31 * ((A 0 9)).toNat := ⟨_, rfl⟩
  have ht2 : isT t2 := by rw [et2]; exact isT.b r1
  refine va_get (D := (dC, dI)) (ci := 11) (v := .ref (q (51 + 31 * (A 0 9).toNat))) (C := RX11) (T := TX11) (N := 11) hx hb hts hiX11 hown hK hP 0 (wkK) rfl 9 (by decide) (hts _ (List.mem_cons_of_mem _ (wk_in_10 _ (List.mem_of_getElem? (i := 36) rfl)))) (fun _ h9 => h9) rfl dX11_reach_1 ?_
  refine tp_v (y := .ref (q t2)) (by rw [et2]) ?_
  refine lv_iconst (v := iI 3) hx hb dX11_reach_4 (by decide +kernel) ?_
  refine lv_iload_n hx hb dX11_reach_5 rfl (lv_at hl 1 rfl) ?_
  refine k_calli (As := [.int (iI 3), .int (iI x1)]) (rest := []) ⟨hx, hb, hml, hown, hts⟩ hE (kc_X9_isThere_1_3 l dC dI cB cI cJ cZ cQ aL aS q _ t2 x1 hI ht2 hx1) (cwV 2 hts (goodVk (wk_in_10 _ (List.mem_of_getElem? (i := 54) rfl)) (wk_in_0 _ (List.mem_of_getElem? (i := 22) rfl)) (wk_in_0 _ (List.mem_of_getElem? (i := 23) rfl)) (wk_in_0 _ (List.mem_of_getElem? (i := 6) rfl)) (wk_in_0 _ (List.mem_of_getElem? (i := 24) rfl))) rfl rfl rfl (by decide +kernel) ⟨Nat.le_of_ble_eq_true rfl, Nat.le_of_ble_eq_true rfl⟩) hK hDD hA0 hP hS t2 9 (wkT ht2) rfl rfl hl.1 (Nat.le_of_ble_eq_true rfl) dX11_reach_6 (fun z3 A4 H locs hw5 hP hS => ?_)
  obtain ⟨rfl, hw5⟩ := hw5
  have ghw5 : q_X9_isThere_1_3 t2 x1 A z3 := hw5
  have hw5 := hw5.2
  have rz3 : 0 ≤ z3 ∧ z3 ≤ 1 := hw5.1
  have hw5 := hw5.2
  refine lv_if_eq (tgt := 24) hx hb dX11_reach_9 (by decide) (fun c6 => ?_) (fun c6 => ?_)
  · have c6 : z3 = 0 := (i_eq0 (rb rz3 (by decide) (by decide))).mp c6
    clear hw5
    refine lv_iconst (v := iI (-1)) hx hb dX11_reach_24 (by decide +kernel) ?_
    exact RET (-1) _ _ _ _ _ ⟨(u_r_X11_reach ⟨t2, et2, ⟨z3, ghw5, (Or.inl ⟨c6, ⟨rfl, rfl⟩⟩)⟩⟩), hI, fk.rf, ⟨by decide, by decide⟩⟩ hP hS dX11_reach_25
  · have c6 : ¬ z3 = 0 := mt (i_eq0 (rb rz3 (by decide) (by decide))).mpr c6
    have hw5b := hw5 (by omega)
    clear hw5
    refine lv_aload_n hx hb dX11_reach_12 rfl (lv_at hl 0 rfl) ?_
    refine va_get (D := (dC, dI)) (ci := 11) (v := .ref (q (51 + 31 * (A 0 9).toNat))) (C := RX11) (T := TX11) (N := 11) hx hb hts hiX11 hown hK hP 0 (wkK) rfl 9 (by decide) (hts _ (List.mem_cons_of_mem _ (wk_in_10 _ (List.mem_of_getElem? (i := 36) rfl)))) (fun _ h9 => h9) rfl dX11_reach_13 ?_
    refine tp_v (y := .ref (q t2)) (by rw [et2]) ?_
    refine lv_iconst (v := iI 0) hx hb dX11_reach_16 (by decide +kernel) ?_
    refine lv_iload_n hx hb dX11_reach_17 rfl (lv_at hl 2 rfl) ?_
    refine k_calli (As := [.int (iI 0), .int (iI x2)]) (rest := []) ⟨hx, hb, hml, hown, hts⟩ hE (kc_X9_isThere_1_0 l dC dI cB cI cJ cZ cQ aL aS q _ t2 x2 hI ht2 hx2) (cwV 2 hts (goodVk (wk_in_10 _ (List.mem_of_getElem? (i := 54) rfl)) (wk_in_0 _ (List.mem_of_getElem? (i := 22) rfl)) (wk_in_0 _ (List.mem_of_getElem? (i := 23) rfl)) (wk_in_0 _ (List.mem_of_getElem? (i := 6) rfl)) (wk_in_0 _ (List.mem_of_getElem? (i := 24) rfl))) rfl rfl rfl (by decide +kernel) ⟨Nat.le_of_ble_eq_true rfl, Nat.le_of_ble_eq_true rfl⟩) hK hDD hA0 hP hS t2 9 (wkT ht2) rfl rfl hl.1 (Nat.le_of_ble_eq_true rfl) dX11_reach_18 (fun z7 A8 H locs hw9 hP hS => ?_)
    obtain ⟨rfl, hw9⟩ := hw9
    have ghw9 : q_X9_isThere_1_0 t2 x2 A z7 := hw9
    have hw9 := hw9.2
    have rz7 : 0 ≤ z7 ∧ z7 ≤ 1 := hw9.1
    have hw9 := hw9.2
    refine lv_if_ne (tgt := 26) hx hb dX11_reach_21 (by decide) (fun c10 => ?_) (fun c10 => ?_)
    · have c10 : ¬ z7 = 0 := mt (i_eq0 (rb rz7 (by decide) (by decide))).mpr c10
      have hw9b := hw9 (by omega)
      clear hw9
      refine lv_aload_n hx hb dX11_reach_26 rfl (lv_at hl 0 rfl) ?_
      refine va_get (D := (dC, dI)) (ci := 11) (v := .ref (q 6)) (C := RX11) (T := TX11) (N := 11) hx hb hts hiX11 hown hK hP 0 (wkK) rfl 2 (by decide) (hts _ (List.mem_cons_of_mem _ (wk_in_11 _ (List.mem_of_getElem? (i := 13) rfl)))) (fun _ h9 => h9) rfl dX11_reach_27 ?_
      refine lv_aload_n hx hb dX11_reach_30 rfl (lv_at hl 0 rfl) ?_
      refine va_get (D := (dC, dI)) (ci := 11) (v := .ref (q (51 + 31 * (A 0 9).toNat))) (C := RX11) (T := TX11) (N := 11) hx hb hts hiX11 hown hK hP 0 (wkK) rfl 9 (by decide) (hts _ (List.mem_cons_of_mem _ (wk_in_10 _ (List.mem_of_getElem? (i := 36) rfl)))) (fun _ h9 => h9) rfl dX11_reach_31 ?_
      refine tp_v (y := .ref (q t2)) (by rw [et2]) ?_
      refine lv_iload_n hx hb dX11_reach_34 rfl (lv_at hl 1 rfl) ?_
      refine lv_aload_n hx hb dX11_reach_35 rfl (lv_at hl 0 rfl) ?_
      refine va_get (D := (dC, dI)) (ci := 11) (v := .ref (q (51 + 31 * (A 0 9).toNat))) (C := RX11) (T := TX11) (N := 11) hx hb hts hiX11 hown hK hP 0 (wkK) rfl 9 (by decide) (hts _ (List.mem_cons_of_mem _ (wk_in_10 _ (List.mem_of_getElem? (i := 36) rfl)))) (fun _ h9 => h9) rfl dX11_reach_36 ?_
      refine tp_v (y := .ref (q t2)) (by rw [et2]) ?_
      refine lv_iload_n hx hb dX11_reach_39 rfl (lv_at hl 1 rfl) ?_
      refine k_calli (As := [.int (iI x1)]) (rest := [.int (iI x1), .ref (q t2), .ref (q 6)]) ⟨hx, hb, hml, hown, hts⟩ hE (kc_X9_keysOf l dC dI cB cI cJ cZ cQ aL aS q _ t2 x1 hI ht2 hx1) (cwV 1 hts (goodVk (wk_in_11 _ (List.mem_of_getElem? (i := 14) rfl)) (wk_in_0 _ (List.mem_of_getElem? (i := 4) rfl)) (wk_in_0 _ (List.mem_of_getElem? (i := 5) rfl)) (wk_in_0 _ (List.mem_of_getElem? (i := 6) rfl)) (wk_in_0 _ (List.mem_of_getElem? (i := 7) rfl))) rfl rfl rfl (by decide +kernel) ⟨Nat.le_of_ble_eq_true rfl, Nat.le_of_ble_eq_true rfl⟩) hK hDD hA0 hP hS t2 9 (wkT ht2) rfl rfl hl.1 (Nat.le_of_ble_eq_true rfl) dX11_reach_40 (fun z11 A12 H locs hw13 hP hS => ?_)
      obtain ⟨rfl, hw13⟩ := hw13
      have ghw13 : q_X9_keysOf t2 x1 A z11 := hw13
      have hw13 := hw13.2
      refine lv_iconst (v := iI 0) hx hb dX11_reach_43 (by decide +kernel) ?_
      refine lv_iload_n hx hb dX11_reach_44 rfl (lv_at hl 2 rfl) ?_
      refine k_calli (As := [.ref (q t2), .int (iI x1), .int (iI z11), .int (iI 0), .int (iI x2)]) (rest := []) ⟨hx, hb, hml, hown, hts⟩ hE (kc_X0_search l dC dI cB cI cJ cZ cQ aL aS q _ t2 x1 z11 0 x2 hI ht2 hx1 hw13 ⟨by decide, by decide⟩ hx2) (cwV 5 hts (goodVk (wk_in_11 _ (List.mem_of_getElem? (i := 57) rfl)) (wk_in_0 _ (List.mem_of_getElem? (i := 12) rfl)) (wk_in_0 _ (List.mem_of_getElem? (i := 13) rfl)) (wk_in_0 _ (List.mem_of_getElem? (i := 14) rfl)) (wk_in_0 _ (List.mem_of_getElem? (i := 15) rfl))) rfl rfl rfl (by decide +kernel) ⟨Nat.le_of_ble_eq_true rfl, Nat.le_of_ble_eq_true rfl⟩) hK hDD hA0 hP hS 6 0 (wkAL) rfl rfl hl.1 (Nat.le_of_ble_eq_true rfl) dX11_reach_45 (fun z14 A15 H locs hw16 hP hS => ?_)
      have ghw16 : q_X0_search t2 x1 z11 0 x2 A z14 A15 := hw16
      obtain ⟨_, hI, hf17, hw16⟩ := hw16
      exact RET z14 _ _ _ _ _ ⟨(u_r_X11_reach ⟨t2, et2, ⟨z3, ghw5, (Or.inr ⟨c6, ⟨z7, ghw9, (Or.inl ⟨c10, ⟨z11, ghw13, ⟨z14, A15, ghw16, ⟨rfl, rfl⟩⟩⟩⟩)⟩⟩)⟩⟩), hI, fk.trans (fk.rf) hf17 rfl rfl, hw16⟩ hP hS dX11_reach_48
    · have c10 : z7 = 0 := (i_eq0 (rb rz7 (by decide) (by decide))).mp c10
      clear hw9
      refine lv_iconst (v := iI (-1)) hx hb dX11_reach_24 (by decide +kernel) ?_
      exact RET (-1) _ _ _ _ _ ⟨(u_r_X11_reach ⟨t2, et2, ⟨z3, ghw5, (Or.inr ⟨c6, ⟨z7, ghw9, (Or.inr ⟨c10, ⟨rfl, rfl⟩⟩)⟩⟩)⟩⟩), hI, fk.rf, ⟨by decide, by decide⟩⟩ hP hS dX11_reach_25

abbrev tr_r_X11_opens (x1 : Int) (x2 : Int) (A : St) (z : Int) (u : St) : Prop := (∃ t2 : Nat, t2 = 51 + 31 * ((A 0 9)).toNat ∧ (∃ z3 : Int, q_X9_isThere_1_3 t2 x1 A z3 ∧ (((z3 = 0) ∧ (z = (-1) ∧ u = A)) ∨ ((¬ z3 = 0) ∧ (∃ z7 : Int, q_X9_isThere_1_1 t2 x2 A z7 ∧ (((¬ z7 = 0) ∧ (∃ z11 : Int, q_X9_keysOf t2 x1 A z11 ∧ (∃ z14 : Int, ∃ A15 : St, q_X0_search t2 x1 z11 1 x2 A z14 A15 ∧ (z = z14 ∧ u = A15)))) ∨ ((z7 = 0) ∧ (z = (-1) ∧ u = A))))))))
def r_X11_opens (x1 : Int) (x2 : Int) (A : St) (z : Int) (u : St) : Prop := tr_r_X11_opens x1 x2 A z u
theorem u_r_X11_opens {x1 : Int} {x2 : Int} {A : St} {z : Int} {u : St} (h : tr_r_X11_opens x1 x2 A z u) : r_X11_opens x1 x2 A z u := h
def ws_kc_X11_opens : List Cond := .code yX11_opens cX11_opens 3 (some .int) :: WY
set_option maxHeartbeats 4000000 in
set_option maxRecDepth 100000 in
theorem kc_X11_opens (l : Launch) (dC : Nat → ClassId) (dI : Nat → Nat → Nat) (cB cI cJ cZ cQ : ClassId) (aL aS : Nat) (q : Nat → Nat) (A : St) (x1 x2 : Int) (hI : IK A) (hx1 : (-2147483648 : Int) ≤ x1 ∧ x1 ≤ 2147483647) (hx2 : (-2147483648 : Int) ≤ x2 ∧ x2 ≤ 2147483647) : KMi l yX11_opens ws_kc_X11_opens ({ frames := 6, cells := 0, slots := 0, locals := 155 } : Room) aL aS (dC, dI) (tyA cB cI cJ cZ cQ) (WK cB cI cJ cZ cQ q) A [.ref (q 0), .int (iI x1), .int (iI x2)] (fun z u => r_X11_opens x1 x2 A z u ∧ IK u ∧ fk [7, 9, 10, 11, 12, 13, 14, 15, 16, 17, 18, 19, 72, 103] [(6, 7), (6, 8), (6, 9), (6, 10), (6, 11), (6, 12), (6, 13), (6, 14), (6, 15)] A u ∧ (-2147483648 ≤ z ∧ z ≤ 2147483647)) := by
  refine k_meti (cc := cX11_opens) (maxL := 3) WK_adr (plainFor_of_name (by decide +kernel)) rfl (Nat.le_of_ble_eq_true rfl) (fun p e s m below meth c Q AS ls hx hb hml hown hts hK hDD hA0 hE RET H locs hP hS hl => ?_)
  have hown : s.vm.findClass RX11 = some m.cls := hown
  have hl : lv_has ls 3 [(0, .ref (q 0)), (1, .int (iI x1)), (2, .int (iI x2))] := hl
  have hiX11 : ∀ w ∈ u_ws RX11 TX11 11, w ∈ ws_kc_X11_opens := fun w h => List.mem_cons_of_mem _ (wy_layX11 w h)
  refine lv_aload_n hx hb dX11_opens_0 rfl (lv_at hl 0 rfl) ?_
  have r1 : (0 : Int) ≤ (A 0 9) ∧ (A 0 9) ≤ 1 := irK_9 hI
  obtain ⟨t2, et2⟩ : ∃ t : Nat, t = 51 + 31 * ((A 0 9)).toNat := ⟨_, rfl⟩
  have ht2 : isT t2 := by rw [et2]; exact isT.b r1
  refine va_get (D := (dC, dI)) (ci := 11) (v := .ref (q (51 + 31 * (A 0 9).toNat))) (C := RX11) (T := TX11) (N := 11) hx hb hts hiX11 hown hK hP 0 (wkK) rfl 9 (by decide) (hts _ (List.mem_cons_of_mem _ (wk_in_10 _ (List.mem_of_getElem? (i := 36) rfl)))) (fun _ h9 => h9) rfl dX11_opens_1 ?_
  refine tp_v (y := .ref (q t2)) (by rw [et2]) ?_
  refine lv_iconst (v := iI 3) hx hb dX11_opens_4 (by decide +kernel) ?_
  refine lv_iload_n hx hb dX11_opens_5 rfl (lv_at hl 1 rfl) ?_
  refine k_calli (As := [.int (iI 3), .int (iI x1)]) (rest := []) ⟨hx, hb, hml, hown, hts⟩ hE (kc_X9_isThere_1_3 l dC dI cB cI cJ cZ cQ aL aS q _ t2 x1 hI ht2 hx1) (cwV 2 hts (goodVk (wk_in_10 _ (List.mem_of_getElem? (i := 54) rfl)) (wk_in_0 _ (List.mem_of_getElem? (i := 22) rfl)) (wk_in_0 _ (List.mem_of_getElem? (i := 23) rfl)) (wk_in_0 _ (List.mem_of_getElem? (i := 6) rfl)) (wk_in_0 _ (List.mem_of_getElem? (i := 24) rfl))) rfl rfl rfl (by decide +kernel) ⟨Nat.le_of_ble_eq_true rfl, Nat.le_of_ble_eq_true rfl⟩) hK hDD hA0 hP hS t2 9 (wkT ht2) rfl rfl hl.1 (Nat.le_of_ble_eq_true rfl) dX11_opens_6 (fun z3 A4 H locs hw5 hP hS => ?_)
  obtain ⟨rfl, hw5⟩ := hw5
  have ghw5 : q_X9_isThere_1_3 t2 x1 A z3 := hw5
  have hw5 := hw5.2
  have rz3 : 0 ≤ z3 ∧ z3 ≤ 1 := hw5.1
  have hw5 := hw5.2
  refine lv_if_eq (tgt := 24) hx hb dX11_opens_9 (by decide) (fun c6 => ?_) (fun c6 => ?_)
  · have c6 : z3 = 0 := (i_eq0 (rb rz3 (by decide) (by decide))).mp c6
    clear hw5
    refine lv_iconst (v := iI (-1)) hx hb dX11_opens_24 (by decide +kernel) ?_
    exact RET (-1) _ _ _ _ _ ⟨(u_r_X11_opens ⟨t2, et2, ⟨z3, ghw5, (Or.inl ⟨c6, ⟨rfl, rfl⟩⟩)⟩⟩), hI, fk.rf, ⟨by decide, by decide⟩⟩ hP hS dX11_opens_25
  · have c6 : ¬ z3 = 0 := mt (i_eq0 (rb rz3 (by decide) (by decide))).mpr c6
    have hw5b := hw5 (by omega)
    clear hw5
    refine lv_aload_n hx hb dX11_opens_12 rfl (lv_at hl 0 rfl) ?_
    refine va_get (D := (dC, dI)) (ci := 11) (v := .ref (q (51 + 31 * (A 0 9).toNat))) (C := RX11) (T := TX11) (N := 11) hx hb hts hiX11 hown hK hP 0 (wkK) rfl 9 (by decide) (hts _ (List.mem_cons_of_mem _ (wk_in_10 _ (List.mem_of_getElem? (i := 36) rfl)))) (fun _ h9 => h9) rfl dX11_opens_13 ?_
    refine tp_v (y := .ref (q t2)) (by rw [et2]) ?_
    refine lv_iconst (v := iI 1) hx hb dX11_opens_16 (by decide +kernel) ?_
    refine lv_iload_n hx hb dX11_opens_17 rfl (lv_at hl 2 rfl) ?_
    refine k_calli (As := [.int (iI 1), .int (iI x2)]) (rest := []) ⟨hx, hb, hml, hown, hts⟩ hE (kc_X9_isThere_1_1 l dC dI cB cI cJ cZ cQ aL aS q _ t2 x2 hI ht2 hx2) (cwV 2 hts (goodVk (wk_in_10 _ (List.mem_of_getElem? (i := 54) rfl)) (wk_in_0 _ (List.mem_of_getElem? (i := 22) rfl)) (wk_in_0 _ (List.mem_of_getElem? (i := 23) rfl)) (wk_in_0 _ (List.mem_of_getElem? (i := 6) rfl)) (wk_in_0 _ (List.mem_of_getElem? (i := 24) rfl))) rfl rfl rfl (by decide +kernel) ⟨Nat.le_of_ble_eq_true rfl, Nat.le_of_ble_eq_true rfl⟩) hK hDD hA0 hP hS t2 9 (wkT ht2) rfl rfl hl.1 (Nat.le_of_ble_eq_true rfl) dX11_opens_18 (fun z7 A8 H locs hw9 hP hS => ?_)
    obtain ⟨rfl, hw9⟩ := hw9
    have ghw9 : q_X9_isThere_1_1 t2 x2 A z7 := hw9
    have hw9 := hw9.2
    have rz7 : 0 ≤ z7 ∧ z7 ≤ 1 := hw9.1
    have hw9 := hw9.2
    refine lv_if_ne (tgt := 26) hx hb dX11_opens_21 (by decide) (fun c10 => ?_) (fun c10 => ?_)
    · have c10 : ¬ z7 = 0 := mt (i_eq0 (rb rz7 (by decide) (by decide))).mpr c10
      have hw9b := hw9 (by omega)
      clear hw9
      refine lv_aload_n hx hb dX11_opens_26 rfl (lv_at hl 0 rfl) ?_
      refine va_get (D := (dC, dI)) (ci := 11) (v := .ref (q 6)) (C := RX11) (T := TX11) (N := 11) hx hb hts hiX11 hown hK hP 0 (wkK) rfl 2 (by decide) (hts _ (List.mem_cons_of_mem _ (wk_in_11 _ (List.mem_of_getElem? (i := 13) rfl)))) (fun _ h9 => h9) rfl dX11_opens_27 ?_
      refine lv_aload_n hx hb dX11_opens_30 rfl (lv_at hl 0 rfl) ?_
      refine va_get (D := (dC, dI)) (ci := 11) (v := .ref (q (51 + 31 * (A 0 9).toNat))) (C := RX11) (T := TX11) (N := 11) hx hb hts hiX11 hown hK hP 0 (wkK) rfl 9 (by decide) (hts _ (List.mem_cons_of_mem _ (wk_in_10 _ (List.mem_of_getElem? (i := 36) rfl)))) (fun _ h9 => h9) rfl dX11_opens_31 ?_
      refine tp_v (y := .ref (q t2)) (by rw [et2]) ?_
      refine lv_iload_n hx hb dX11_opens_34 rfl (lv_at hl 1 rfl) ?_
      refine lv_aload_n hx hb dX11_opens_35 rfl (lv_at hl 0 rfl) ?_
      refine va_get (D := (dC, dI)) (ci := 11) (v := .ref (q (51 + 31 * (A 0 9).toNat))) (C := RX11) (T := TX11) (N := 11) hx hb hts hiX11 hown hK hP 0 (wkK) rfl 9 (by decide) (hts _ (List.mem_cons_of_mem _ (wk_in_10 _ (List.mem_of_getElem? (i := 36) rfl)))) (fun _ h9 => h9) rfl dX11_opens_36 ?_
      refine tp_v (y := .ref (q t2)) (by rw [et2]) ?_
      refine lv_iload_n hx hb dX11_opens_39 rfl (lv_at hl 1 rfl) ?_
      refine k_calli (As := [.int (iI x1)]) (rest := [.int (iI x1), .ref (q t2), .ref (q 6)]) ⟨hx, hb, hml, hown, hts⟩ hE (kc_X9_keysOf l dC dI cB cI cJ cZ cQ aL aS q _ t2 x1 hI ht2 hx1) (cwV 1 hts (goodVk (wk_in_11 _ (List.mem_of_getElem? (i := 14) rfl)) (wk_in_0 _ (List.mem_of_getElem? (i := 4) rfl)) (wk_in_0 _ (List.mem_of_getElem? (i := 5) rfl)) (wk_in_0 _ (List.mem_of_getElem? (i := 6) rfl)) (wk_in_0 _ (List.mem_of_getElem? (i := 7) rfl))) rfl rfl rfl (by decide +kernel) ⟨Nat.le_of_ble_eq_true rfl, Nat.le_of_ble_eq_true rfl⟩) hK hDD hA0 hP hS t2 9 (wkT ht2) rfl rfl hl.1 (Nat.le_of_ble_eq_true rfl) dX11_opens_40 (fun z11 A12 H locs hw13 hP hS => ?_)
      obtain ⟨rfl, hw13⟩ := hw13
      have ghw13 : q_X9_keysOf t2 x1 A z11 := hw13
      have hw13 := hw13.2
      refine lv_iconst (v := iI 1) hx hb dX11_opens_43 (by decide +kernel) ?_
      refine lv_iload_n hx hb dX11_opens_44 rfl (lv_at hl 2 rfl) ?_
      refine k_calli (As := [.ref (q t2), .int (iI x1), .int (iI z11), .int (iI 1), .int (iI x2)]) (rest := []) ⟨hx, hb, hml, hown, hts⟩ hE (kc_X0_search l dC dI cB cI cJ cZ cQ aL aS q _ t2 x1 z11 1 x2 hI ht2 hx1 hw13 ⟨by decide, by decide⟩ hx2) (cwV 5 hts (goodVk (wk_in_11 _ (List.mem_of_getElem? (i := 57) rfl)) (wk_in_0 _ (List.mem_of_getElem? (i := 12) rfl)) (wk_in_0 _ (List.mem_of_getElem? (i := 13) rfl)) (wk_in_0 _ (List.mem_of_getElem? (i := 14) rfl)) (wk_in_0 _ (List.mem_of_getElem? (i := 15) rfl))) rfl rfl rfl (by decide +kernel) ⟨Nat.le_of_ble_eq_true rfl, Nat.le_of_ble_eq_true rfl⟩) hK hDD hA0 hP hS 6 0 (wkAL) rfl rfl hl.1 (Nat.le_of_ble_eq_true rfl) dX11_opens_45 (fun z14 A15 H locs hw16 hP hS => ?_)
      have ghw16 : q_X0_search t2 x1 z11 1 x2 A z14 A15 := hw16
      obtain ⟨_, hI, hf17, hw16⟩ := hw16
      exact RET z14 _ _ _ _ _ ⟨(u_r_X11_opens ⟨t2, et2, ⟨z3, ghw5, (Or.inr ⟨c6, ⟨z7, ghw9, (Or.inl ⟨c10, ⟨z11, ghw13, ⟨z14, A15, ghw16, ⟨rfl, rfl⟩⟩⟩⟩)⟩⟩)⟩⟩), hI, fk.trans (fk.rf) hf17 rfl rfl, hw16⟩ hP hS dX11_opens_48
    · have c10 : z7 = 0 := (i_eq0 (rb rz7 (by decide) (by decide))).mp c10
      clear hw9
      refine lv_iconst (v := iI (-1)) hx hb dX11_opens_24 (by decide +kernel) ?_
      exact RET (-1) _ _ _ _ _ ⟨(u_r_X11_opens ⟨t2, et2, ⟨z3, ghw5, (Or.inr ⟨c6, ⟨z7, ghw9, (Or.inr ⟨c10, ⟨rfl, rfl⟩⟩)⟩⟩)⟩⟩), hI, fk.rf, ⟨by decide, by decide⟩⟩ hP hS dX11_opens_25

abbrev tr_r_X11_errands (x1 : Int) (A : St) (z : Int) (u : St) : Prop := (∃ t2 : Nat, t2 = 51 + 31 * ((A 0 9)).toNat ∧ (∃ z3 : Int, q_X9_isThere_1_3 t2 x1 A z3 ∧ (((¬ z3 = 0) ∧ (∃ z7 : Int, q_X9_keysOf t2 x1 A z7 ∧ (∃ z10 : Int, ∃ A11 : St, q_X0_search t2 x1 z7 2 0 A z10 A11 ∧ (z = z10 ∧ u = A11)))) ∨ ((z3 = 0) ∧ (z = (-1) ∧ u = A)))))
def r_X11_errands (x1 : Int) (A : St) (z : Int) (u : St) : Prop := tr_r_X11_errands x1 A z u
theorem u_r_X11_errands {x1 : Int} {A : St} {z : Int} {u : St} (h : tr_r_X11_errands x1 A z u) : r_X11_errands x1 A z u := h
def ws_kc_X11_errands : List Cond := .code yX11_errands cX11_errands 2 (some .int) :: WY
set_option maxHeartbeats 4000000 in
set_option maxRecDepth 100000 in
theorem kc_X11_errands (l : Launch) (dC : Nat → ClassId) (dI : Nat → Nat → Nat) (cB cI cJ cZ cQ : ClassId) (aL aS : Nat) (q : Nat → Nat) (A : St) (x1 : Int) (hI : IK A) (hx1 : (-2147483648 : Int) ≤ x1 ∧ x1 ≤ 2147483647) : KMi l yX11_errands ws_kc_X11_errands ({ frames := 6, cells := 0, slots := 0, locals := 155 } : Room) aL aS (dC, dI) (tyA cB cI cJ cZ cQ) (WK cB cI cJ cZ cQ q) A [.ref (q 0), .int (iI x1)] (fun z u => r_X11_errands x1 A z u ∧ IK u ∧ fk [7, 9, 10, 11, 12, 13, 14, 15, 16, 17, 18, 19, 72, 103] [(6, 7), (6, 8), (6, 9), (6, 10), (6, 11), (6, 12), (6, 13), (6, 14), (6, 15)] A u ∧ (-2147483648 ≤ z ∧ z ≤ 2147483647)) := by
  refine k_meti (cc := cX11_errands) (maxL := 2) WK_adr (plainFor_of_name (by decide +kernel)) rfl (Nat.le_of_ble_eq_true rfl) (fun p e s m below meth c Q AS ls hx hb hml hown hts hK hDD hA0 hE RET H locs hP hS hl => ?_)
  have hown : s.vm.findClass RX11 = some m.cls := hown
  have hl : lv_has ls 2 [(0, .ref (q 0)), (1, .int (iI x1))] := hl
  have hiX11 : ∀ w ∈ u_ws RX11 TX11 11, w ∈ ws_kc_X11_errands := fun w h => List.mem_cons_of_mem _ (wy_layX11 w h)
  refine lv_aload_n hx hb dX11_errands_0 rfl (lv_at hl 0 rfl) ?_
  have r1 : (0 : Int) ≤ (A 0 9) ∧ (A 0 9) ≤ 1 := irK_9 hI
  obtain ⟨t2, et2⟩ : ∃ t : Nat, t = 51 + 31 * ((A 0 9)).toNat := ⟨_, rfl⟩
  have ht2 : isT t2 := by rw [et2]; exact isT.b r1
  refine va_get (D := (dC, dI)) (ci := 11) (v := .ref (q (51 + 31 * (A 0 9).toNat))) (C := RX11) (T := TX11) (N := 11) hx hb hts hiX11 hown hK hP 0 (wkK) rfl 9 (by decide) (hts _ (List.mem_cons_of_mem _ (wk_in_10 _ (List.mem_of_getElem? (i := 36) rfl)))) (fun _ h9 => h9) rfl dX11_errands_1 ?_
  refine tp_v (y := .ref (q t2)) (by rw [et2]) ?_
  refine lv_iconst (v := iI 3) hx hb dX11_errands_4 (by decide +kernel) ?_
  refine lv_iload_n hx hb dX11_errands_5 rfl (lv_at hl 1 rfl) ?_
  refine k_calli (As := [.int (iI 3), .int (iI x1)]) (rest := []) ⟨hx, hb, hml, hown, hts⟩ hE (kc_X9_isThere_1_3 l dC dI cB cI cJ cZ cQ aL aS q _ t2 x1 hI ht2 hx1) (cwV 2 hts (goodVk (wk_in_10 _ (List.mem_of_getElem? (i := 54) rfl)) (wk_in_0 _ (List.mem_of_getElem? (i := 22) rfl)) (wk_in_0 _ (List.mem_of_getElem? (i := 23) rfl)) (wk_in_0 _ (List.mem_of_getElem? (i := 6) rfl)) (wk_in_0 _ (List.mem_of_getElem? (i := 24) rfl))) rfl rfl rfl (by decide +kernel) ⟨Nat.le_of_ble_eq_true rfl, Nat.le_of_ble_eq_true rfl⟩) hK hDD hA0 hP hS t2 9 (wkT ht2) rfl rfl hl.1 (Nat.le_of_ble_eq_true rfl) dX11_errands_6 (fun z3 A4 H locs hw5 hP hS => ?_)
  obtain ⟨rfl, hw5⟩ := hw5
  have ghw5 : q_X9_isThere_1_3 t2 x1 A z3 := hw5
  have hw5 := hw5.2
  have rz3 : 0 ≤ z3 ∧ z3 ≤ 1 := hw5.1
  have hw5 := hw5.2
  refine lv_if_ne (tgt := 14) hx hb dX11_errands_9 (by decide) (fun c6 => ?_) (fun c6 => ?_)
  · have c6 : ¬ z3 = 0 := mt (i_eq0 (rb rz3 (by decide) (by decide))).mpr c6
    have hw5b := hw5 (by omega)
    clear hw5
    refine lv_aload_n hx hb dX11_errands_14 rfl (lv_at hl 0 rfl) ?_
    refine va_get (D := (dC, dI)) (ci := 11) (v := .ref (q 6)) (C := RX11) (T := TX11) (N := 11) hx hb hts hiX11 hown hK hP 0 (wkK) rfl 2 (by decide) (hts _ (List.mem_cons_of_mem _ (wk_in_11 _ (List.mem_of_getElem? (i := 13) rfl)))) (fun _ h9 => h9) rfl dX11_errands_15 ?_
    refine lv_aload_n hx hb dX11_errands_18 rfl (lv_at hl 0 rfl) ?_
    refine va_get (D := (dC, dI)) (ci := 11) (v := .ref (q (51 + 31 * (A 0 9).toNat))) (C := RX11) (T := TX11) (N := 11) hx hb hts hiX11 hown hK hP 0 (wkK) rfl 9 (by decide) (hts _ (List.mem_cons_of_mem _ (wk_in_10 _ (List.mem_of_getElem? (i := 36) rfl)))) (fun _ h9 => h9) rfl dX11_errands_19 ?_
    refine tp_v (y := .ref (q t2)) (by rw [et2]) ?_
    refine lv_iload_n hx hb dX11_errands_22 rfl (lv_at hl 1 rfl) ?_
    refine lv_aload_n hx hb dX11_errands_23 rfl (lv_at hl 0 rfl) ?_
    refine va_get (D := (dC, dI)) (ci := 11) (v := .ref (q (51 + 31 * (A 0 9).toNat))) (C := RX11) (T := TX11) (N := 11) hx hb hts hiX11 hown hK hP 0 (wkK) rfl 9 (by decide) (hts _ (List.mem_cons_of_mem _ (wk_in_10 _ (List.mem_of_getElem? (i := 36) rfl)))) (fun _ h9 => h9) rfl dX11_errands_24 ?_
    refine tp_v (y := .ref (q t2)) (by rw [et2]) ?_
    refine lv_iload_n hx hb dX11_errands_27 rfl (lv_at hl 1 rfl) ?_
    refine k_calli (As := [.int (iI x1)]) (rest := [.int (iI x1), .ref (q t2), .ref (q 6)]) ⟨hx, hb, hml, hown, hts⟩ hE (kc_X9_keysOf l dC dI cB cI cJ cZ cQ aL aS q _ t2 x1 hI ht2 hx1) (cwV 1 hts (goodVk (wk_in_11 _ (List.mem_of_getElem? (i := 14) rfl)) (wk_in_0 _ (List.mem_of_getElem? (i := 4) rfl)) (wk_in_0 _ (List.mem_of_getElem? (i := 5) rfl)) (wk_in_0 _ (List.mem_of_getElem? (i := 6) rfl)) (wk_in_0 _ (List.mem_of_getElem? (i := 7) rfl))) rfl rfl rfl (by decide +kernel) ⟨Nat.le_of_ble_eq_true rfl, Nat.le_of_ble_eq_true rfl⟩) hK hDD hA0 hP hS t2 9 (wkT ht2) rfl rfl hl.1 (Nat.le_of_ble_eq_true rfl) dX11_errands_28 (fun z7 A8 H locs hw9 hP hS => ?_)
    obtain ⟨rfl, hw9⟩ := hw9
    have ghw9 : q_X9_keysOf t2 x1 A z7 := hw9
    have hw9 := hw9.2
    refine lv_iconst (v := iI 2) hx hb dX11_errands_31 (by decide +kernel) ?_
    refine lv_iconst (v := iI 0) hx hb dX11_errands_32 (by decide +kernel) ?_
    refine k_calli (As := [.ref (q t2), .int (iI x1), .int (iI z7), .int (iI 2), .int (iI 0)]) (rest := []) ⟨hx, hb, hml, hown, hts⟩ hE (kc_X0_search l dC dI cB cI cJ cZ cQ aL aS q _ t2 x1 z7 2 0 hI ht2 hx1 hw9 ⟨by decide, by decide⟩ ⟨by decide, by decide⟩) (cwV 5 hts (goodVk (wk_in_11 _ (List.mem_of_getElem? (i := 57) rfl)) (wk_in_0 _ (List.mem_of_getElem? (i := 12) rfl)) (wk_in_0 _ (List.mem_of_getElem? (i := 13) rfl)) (wk_in_0 _ (List.mem_of_getElem? (i := 14) rfl)) (wk_in_0 _ (List.mem_of_getElem? (i := 15) rfl))) rfl rfl rfl (by decide +kernel) ⟨Nat.le_of_ble_eq_true rfl, Nat.le_of_ble_eq_true rfl⟩) hK hDD hA0 hP hS 6 0 (wkAL) rfl rfl hl.1 (Nat.le_of_ble_eq_true rfl) dX11_errands_33 (fun z10 A11 H locs hw12 hP hS => ?_)
    have ghw12 : q_X0_search t2 x1 z7 2 0 A z10 A11 := hw12
    obtain ⟨_, hI, hf13, hw12⟩ := hw12
    exact RET z10 _ _ _ _ _ ⟨(u_r_X11_errands ⟨t2, et2, ⟨z3, ghw5, (Or.inl ⟨c6, ⟨z7, ghw9, ⟨z10, A11, ghw12, ⟨rfl, rfl⟩⟩⟩⟩)⟩⟩), hI, fk.trans (fk.rf) hf13 rfl rfl, hw12⟩ hP hS dX11_errands_36
  · have c6 : z3 = 0 := (i_eq0 (rb rz3 (by decide) (by decide))).mp c6
    clear hw5
    refine lv_iconst (v := iI (-1)) hx hb dX11_errands_12 (by decide +kernel) ?_
    exact RET (-1) _ _ _ _ _ ⟨(u_r_X11_errands ⟨t2, et2, ⟨z3, ghw5, (Or.inr ⟨c6, ⟨rfl, rfl⟩⟩)⟩⟩), hI, fk.rf, ⟨by decide, by decide⟩⟩ hP hS dX11_errands_13

abbrev tr_r_X11_lent (x1 : Int) (x2 : Int) (x3 : Int) (A : St) (z : Int) (u : St) : Prop := (∃ t2 : Nat, t2 = 51 + 31 * ((A 0 9)).toNat ∧ (∃ z3 : Int, q_X9_isThere_1_3 t2 x1 A z3 ∧ (((z3 = 0) ∧ (z = (-1) ∧ u = A)) ∨ ((¬ z3 = 0) ∧ (∃ z7 : Int, q_X9_isThere_1_0 t2 x2 A z7 ∧ (((z7 = 0) ∧ (z = (-1) ∧ u = A)) ∨ ((¬ z7 = 0) ∧ (((x3 < 0) ∧ (z = (-1) ∧ u = A)) ∨ ((¬ x3 < 0) ∧ (((x3 ≤ 2) ∧ (∃ z13 : Int, ∃ A14 : St, q_X0_bestLent t2 x1 x2 A z13 A14 ∧ (((z13 = (-1)) ∧ (z = z13 ∧ u = A14)) ∨ ((¬ z13 = (-1)) ∧ (((¬ x3 = 0) ∧ (((¬ x3 = 1) ∧ (∃ z22 : Int, q_X9_keysOf t2 x1 A14 z22 ∧ (∃ z25 : Int, ∃ A26 : St, q_X0_search t2 x1 z22 0 x2 A14 z25 A26 ∧ (((¬ z25 = (-1)) ∧ (∃ z30 : Int, z30 = oWrap (z25 - (A14 6 16)) ∧ (z = z30 ∧ u = A26))) ∨ ((z25 = (-1)) ∧ (z = (-1) ∧ u = A26)))))) ∨ ((x3 = 1) ∧ (z = (A14 6 16) ∧ u = A14)))) ∨ ((x3 = 0) ∧ (z = z13 ∧ u = A14))))))) ∨ ((¬ x3 ≤ 2) ∧ (z = (-1) ∧ u = A))))))))))))
def r_X11_lent (x1 : Int) (x2 : Int) (x3 : Int) (A : St) (z : Int) (u : St) : Prop := tr_r_X11_lent x1 x2 x3 A z u
theorem u_r_X11_lent {x1 : Int} {x2 : Int} {x3 : Int} {A : St} {z : Int} {u : St} (h : tr_r_X11_lent x1 x2 x3 A z u) : r_X11_lent x1 x2 x3 A z u := h
def ws_kc_X11_lent : List Cond := .code yX11_lent cX11_lent 7 (some .int) :: WY
set_option maxHeartbeats 4000000 in
set_option maxRecDepth 100000 in
theorem kc_X11_lent (l : Launch) (dC : Nat → ClassId) (dI : Nat → Nat → Nat) (cB cI cJ cZ cQ : ClassId) (aL aS : Nat) (q : Nat → Nat) (A : St) (x1 x2 x3 : Int) (hI : IK A) (hx1 : (-2147483648 : Int) ≤ x1 ∧ x1 ≤ 2147483647) (hx2 : (-2147483648 : Int) ≤ x2 ∧ x2 ≤ 2147483647) (hx3 : (-2147483648 : Int) ≤ x3 ∧ x3 ≤ 2147483647) : KMi l yX11_lent ws_kc_X11_lent ({ frames := 7, cells := 0, slots := 0, locals := 182 } : Room) aL aS (dC, dI) (tyA cB cI cJ cZ cQ) (WK cB cI cJ cZ cQ q) A [.ref (q 0), .int (iI x1), .int (iI x2), .int (iI x3)] (fun z u => r_X11_lent x1 x2 x3 A z u ∧ IK u ∧ fk [7, 9, 10, 11, 12, 13, 14, 15, 16, 17, 18, 19, 72, 103] [(6, 7), (6, 8), (6, 9), (6, 10), (6, 11), (6, 12), (6, 13), (6, 14), (6, 15), (6, 16)] A u ∧ (-2147483648 ≤ z ∧ z ≤ 2147483647)) := by
  refine k_meti (cc := cX11_lent) (maxL := 7) WK_adr (plainFor_of_name (by decide +kernel)) rfl (Nat.le_of_ble_eq_true rfl) (fun p e s m below meth c Q AS ls hx hb hml hown hts hK hDD hA0 hE RET H locs hP hS hl => ?_)
  have hown : s.vm.findClass RX11 = some m.cls := hown
  have hl : lv_has ls 7 [(0, .ref (q 0)), (1, .int (iI x1)), (2, .int (iI x2)), (3, .int (iI x3))] := hl
  have hiX11 : ∀ w ∈ u_ws RX11 TX11 11, w ∈ ws_kc_X11_lent := fun w h => List.mem_cons_of_mem _ (wy_layX11 w h)
  have hiX0 : ∀ w ∈ u_ws RX0 TX0 17, w ∈ ws_kc_X11_lent := fun w h => List.mem_cons_of_mem _ (wy_layX0 w h)
  refine lv_aload_n hx hb dX11_lent_0 rfl (lv_at hl 0 rfl) ?_
  have r1 : (0 : Int) ≤ (A 0 9) ∧ (A 0 9) ≤ 1 := irK_9 hI
  obtain ⟨t2, et2⟩ : ∃ t : Nat, t = 51 + 31 * ((A 0 9)).toNat := ⟨_, rfl⟩
  have ht2 : isT t2 := by rw [et2]; exact isT.b r1
  refine va_get (D := (dC, dI)) (ci := 11) (v := .ref (q (51 + 31 * (A 0 9).toNat))) (C := RX11) (T := TX11) (N := 11) hx hb hts hiX11 hown hK hP 0 (wkK) rfl 9 (by decide) (hts _ (List.mem_cons_of_mem _ (wk_in_10 _ (List.mem_of_getElem? (i := 36) rfl)))) (fun _ h9 => h9) rfl dX11_lent_1 ?_
  refine tp_v (y := .ref (q t2)) (by rw [et2]) ?_
  refine lv_iconst (v := iI 3) hx hb dX11_lent_4 (by decide +kernel) ?_
  refine lv_iload_n hx hb dX11_lent_5 rfl (lv_at hl 1 rfl) ?_
  refine k_calli (As := [.int (iI 3), .int (iI x1)]) (rest := []) ⟨hx, hb, hml, hown, hts⟩ hE (kc_X9_isThere_1_3 l dC dI cB cI cJ cZ cQ aL aS q _ t2 x1 hI ht2 hx1) (cwV 2 hts (goodVk (wk_in_10 _ (List.mem_of_getElem? (i := 54) rfl)) (wk_in_0 _ (List.mem_of_getElem? (i := 22) rfl)) (wk_in_0 _ (List.mem_of_getElem? (i := 23) rfl)) (wk_in_0 _ (List.mem_of_getElem? (i := 6) rfl)) (wk_in_0 _ (List.mem_of_getElem? (i := 24) rfl))) rfl rfl rfl (by decide +kernel) ⟨Nat.le_of_ble_eq_true rfl, Nat.le_of_ble_eq_true rfl⟩) hK hDD hA0 hP hS t2 9 (wkT ht2) rfl rfl hl.1 (Nat.le_of_ble_eq_true rfl) dX11_lent_6 (fun z3 A4 H locs hw5 hP hS => ?_)
  obtain ⟨rfl, hw5⟩ := hw5
  have ghw5 : q_X9_isThere_1_3 t2 x1 A z3 := hw5
  have hw5 := hw5.2
  have rz3 : 0 ≤ z3 ∧ z3 ≤ 1 := hw5.1
  have hw5 := hw5.2
  refine lv_if_eq (tgt := 33) hx hb dX11_lent_9 (by decide) (fun c6 => ?_) (fun c6 => ?_)
  · have c6 : z3 = 0 := (i_eq0 (rb rz3 (by decide) (by decide))).mp c6
    clear hw5
    refine lv_iconst (v := iI (-1)) hx hb dX11_lent_33 (by decide +kernel) ?_
    exact RET (-1) _ _ _ _ _ ⟨(u_r_X11_lent ⟨t2, et2, ⟨z3, ghw5, (Or.inl ⟨c6, ⟨rfl, rfl⟩⟩)⟩⟩), hI, fk.rf, ⟨by decide, by decide⟩⟩ hP hS dX11_lent_34
  · have c6 : ¬ z3 = 0 := mt (i_eq0 (rb rz3 (by decide) (by decide))).mpr c6
    have hw5b := hw5 (by omega)
    clear hw5
    refine lv_aload_n hx hb dX11_lent_12 rfl (lv_at hl 0 rfl) ?_
    refine va_get (D := (dC, dI)) (ci := 11) (v := .ref (q (51 + 31 * (A 0 9).toNat))) (C := RX11) (T := TX11) (N := 11) hx hb hts hiX11 hown hK hP 0 (wkK) rfl 9 (by decide) (hts _ (List.mem_cons_of_mem _ (wk_in_10 _ (List.mem_of_getElem? (i := 36) rfl)))) (fun _ h9 => h9) rfl dX11_lent_13 ?_
    refine tp_v (y := .ref (q t2)) (by rw [et2]) ?_
    refine lv_iconst (v := iI 0) hx hb dX11_lent_16 (by decide +kernel) ?_
    refine lv_iload_n hx hb dX11_lent_17 rfl (lv_at hl 2 rfl) ?_
    refine k_calli (As := [.int (iI 0), .int (iI x2)]) (rest := []) ⟨hx, hb, hml, hown, hts⟩ hE (kc_X9_isThere_1_0 l dC dI cB cI cJ cZ cQ aL aS q _ t2 x2 hI ht2 hx2) (cwV 2 hts (goodVk (wk_in_10 _ (List.mem_of_getElem? (i := 54) rfl)) (wk_in_0 _ (List.mem_of_getElem? (i := 22) rfl)) (wk_in_0 _ (List.mem_of_getElem? (i := 23) rfl)) (wk_in_0 _ (List.mem_of_getElem? (i := 6) rfl)) (wk_in_0 _ (List.mem_of_getElem? (i := 24) rfl))) rfl rfl rfl (by decide +kernel) ⟨Nat.le_of_ble_eq_true rfl, Nat.le_of_ble_eq_true rfl⟩) hK hDD hA0 hP hS t2 9 (wkT ht2) rfl rfl hl.1 (Nat.le_of_ble_eq_true rfl) dX11_lent_18 (fun z7 A8 H locs hw9 hP hS => ?_)
    obtain ⟨rfl, hw9⟩ := hw9
    have ghw9 : q_X9_isThere_1_0 t2 x2 A z7 := hw9
    have hw9 := hw9.2
    have rz7 : 0 ≤ z7 ∧ z7 ≤ 1 := hw9.1
    have hw9 := hw9.2
    refine lv_if_eq (tgt := 33) hx hb dX11_lent_21 (by decide) (fun c10 => ?_) (fun c10 => ?_)
    · have c10 : z7 = 0 := (i_eq0 (rb rz7 (by decide) (by decide))).mp c10
      clear hw9
      refine lv_iconst (v := iI (-1)) hx hb dX11_lent_33 (by decide +kernel) ?_
      exact RET (-1) _ _ _ _ _ ⟨(u_r_X11_lent ⟨t2, et2, ⟨z3, ghw5, (Or.inr ⟨c6, ⟨z7, ghw9, (Or.inl ⟨c10, ⟨rfl, rfl⟩⟩)⟩⟩)⟩⟩), hI, fk.rf, ⟨by decide, by decide⟩⟩ hP hS dX11_lent_34
    · have c10 : ¬ z7 = 0 := mt (i_eq0 (rb rz7 (by decide) (by decide))).mpr c10
      have hw9b := hw9 (by omega)
      clear hw9
      refine lv_iload_n hx hb dX11_lent_24 rfl (lv_at hl 3 rfl) ?_
      refine lv_if_lt (tgt := 33) hx hb dX11_lent_25 (by decide) (fun c11 => ?_) (fun c11 => ?_)
      · have c11 : x3 < 0 := (i_lt0 hx3).mp c11
        refine lv_iconst (v := iI (-1)) hx hb dX11_lent_33 (by decide +kernel) ?_
        exact RET (-1) _ _ _ _ _ ⟨(u_r_X11_lent ⟨t2, et2, ⟨z3, ghw5, (Or.inr ⟨c6, ⟨z7, ghw9, (Or.inr ⟨c10, (Or.inl ⟨c11, ⟨rfl, rfl⟩⟩)⟩)⟩⟩)⟩⟩), hI, fk.rf, ⟨by decide, by decide⟩⟩ hP hS dX11_lent_34
      · have c11 : ¬ x3 < 0 := mt (i_lt0 hx3).mpr c11
        refine lv_iload_n hx hb dX11_lent_28 rfl (lv_at hl 3 rfl) ?_
        refine lv_iconst (v := iI 2) hx hb dX11_lent_29 (by decide +kernel) ?_
        refine lv_icmp_le (tgt := 35) hx hb dX11_lent_30 (by decide) (fun c12 => ?_) (fun c12 => ?_)
        · have c12 : x3 ≤ 2 := (i_le hx3 ⟨by decide, by decide⟩).mp c12
          refine lv_aload_n hx hb dX11_lent_35 rfl (lv_at hl 0 rfl) ?_
          refine va_get (D := (dC, dI)) (ci := 11) (v := .ref (q 6)) (C := RX11) (T := TX11) (N := 11) hx hb hts hiX11 hown hK hP 0 (wkK) rfl 2 (by decide) (hts _ (List.mem_cons_of_mem _ (wk_in_11 _ (List.mem_of_getElem? (i := 13) rfl)))) (fun _ h9 => h9) rfl dX11_lent_36 ?_
          refine lv_aload_n hx hb dX11_lent_39 rfl (lv_at hl 0 rfl) ?_
          refine va_get (D := (dC, dI)) (ci := 11) (v := .ref (q (51 + 31 * (A 0 9).toNat))) (C := RX11) (T := TX11) (N := 11) hx hb hts hiX11 hown hK hP 0 (wkK) rfl 9 (by decide) (hts _ (List.mem_cons_of_mem _ (wk_in_10 _ (List.mem_of_getElem? (i := 36) rfl)))) (fun _ h9 => h9) rfl dX11_lent_40 ?_
          refine tp_v (y := .ref (q t2)) (by rw [et2]) ?_
          refine lv_iload_n hx hb dX11_lent_43 rfl (lv_at hl 1 rfl) ?_
          refine lv_iload_n hx hb dX11_lent_44 rfl (lv_at hl 2 rfl) ?_
          refine k_calli (As := [.ref (q t2), .int (iI x1), .int (iI x2)]) (rest := []) ⟨hx, hb, hml, hown, hts⟩ hE (kc_X0_bestLent l dC dI cB cI cJ cZ cQ aL aS q _ t2 x1 x2 hI ht2 hx1 hx2) (cwV 3 hts (goodVk (wk_in_12 _ (List.mem_of_getElem? (i := 2) rfl)) (wk_in_12 _ (List.mem_of_getElem? (i := 3) rfl)) (wk_in_12 _ (List.mem_of_getElem? (i := 4) rfl)) (wk_in_0 _ (List.mem_of_getElem? (i := 14) rfl)) (wk_in_2 _ (List.mem_of_getElem? (i := 58) rfl))) rfl rfl rfl (by decide +kernel) ⟨Nat.le_of_ble_eq_true rfl, Nat.le_of_ble_eq_true rfl⟩) hK hDD hA0 hP hS 6 0 (wkAL) rfl rfl hl.1 (Nat.le_of_ble_eq_true rfl) dX11_lent_45 (fun z13 A14 H locs hw15 hP hS => ?_)
          have ghw15 : q_X0_bestLent t2 x1 x2 A z13 A14 := hw15
          obtain ⟨_, hI, hf16, hw15⟩ := hw15
          refine lv_istore (lv' := [(4, .int (iI z13)), (0, .ref (q 0)), (1, .int (iI x1)), (2, .int (iI x2)), (3, .int (iI x3))]) hx hb dX11_lent_48 hl (by decide) rfl (fun ls hl => ?_)
          refine lv_iload hx hb dX11_lent_50 (lv_at hl 0 rfl) ?_
          refine lv_iconst (v := iI (-1)) hx hb dX11_lent_52 (by decide +kernel) ?_
          refine lv_icmp_eq (tgt := 60) hx hb dX11_lent_53 (by decide) (fun c17 => ?_) (fun c17 => ?_)
          · have c17 : z13 = (-1) := (i_eq hw15 ⟨by decide, by decide⟩).mp c17
            refine lv_iload hx hb dX11_lent_60 (lv_at hl 0 rfl) ?_
            exact RET z13 _ _ _ _ _ ⟨(u_r_X11_lent ⟨t2, et2, ⟨z3, ghw5, (Or.inr ⟨c6, ⟨z7, ghw9, (Or.inr ⟨c10, (Or.inr ⟨c11, (Or.inl ⟨c12, ⟨z13, A14, ghw15, (Or.inl ⟨c17, ⟨rfl, rfl⟩⟩)⟩⟩)⟩)⟩)⟩⟩)⟩⟩), hI, fk.trans (fk.rf) hf16 rfl rfl, hw15⟩ hP hS dX11_lent_62
          · have c17 : ¬ z13 = (-1) := mt (i_eq hw15 ⟨by decide, by decide⟩).mpr c17
            refine lv_iload_n hx hb dX11_lent_56 rfl (lv_at hl 4 rfl) ?_
            refine lv_if_ne (tgt := 63) hx hb dX11_lent_57 (by decide) (fun c18 => ?_) (fun c18 => ?_)
            · have c18 : ¬ x3 = 0 := mt (i_eq0 hx3).mpr c18
              refine lv_aload_n hx hb dX11_lent_63 rfl (lv_at hl 1 rfl) ?_
              refine va_get (D := (dC, dI)) (ci := 11) (v := .ref (q 6)) (C := RX11) (T := TX11) (N := 11) hx hb hts hiX11 hown hK hP 0 (wkK) rfl 2 (by decide) (hts _ (List.mem_cons_of_mem _ (wk_in_11 _ (List.mem_of_getElem? (i := 13) rfl)))) (fun _ h9 => h9) rfl dX11_lent_64 ?_
              have r19 : (-2147483648 : Int) ≤ (A14 6 16) ∧ (A14 6 16) ≤ 2147483647 := irAL_16 hI
              refine va_get (D := (dC, dI)) (ci := 0) (v := .int (iI (A14 6 16))) (C := RX0) (T := TX0) (N := 17) hx hb hts hiX0 hown hK hP 6 (wkAL) rfl 16 (by decide) (hts _ (List.mem_cons_of_mem _ (wk_in_12 _ (List.mem_of_getElem? (i := 1) rfl)))) (fun _ h9 => h9) rfl dX11_lent_67 ?_
              refine lv_istore (lv' := [(5, .int (iI (A14 6 16))), (4, .int (iI z13)), (0, .ref (q 0)), (1, .int (iI x1)), (2, .int (iI x2)), (3, .int (iI x3))]) hx hb dX11_lent_70 hl (by decide) rfl (fun ls hl => ?_)
              refine lv_iload_n hx hb dX11_lent_72 rfl (lv_at hl 5 rfl) ?_
              refine lv_iconst (v := iI 1) hx hb dX11_lent_73 (by decide +kernel) ?_
              refine lv_icmp_ne (tgt := 80) hx hb dX11_lent_74 (by decide) (fun c20 => ?_) (fun c20 => ?_)
              · have c20 : ¬ x3 = 1 := mt (i_eq hx3 ⟨by decide, by decide⟩).mpr c20
                refine lv_aload_n hx hb dX11_lent_80 rfl (lv_at hl 2 rfl) ?_
                refine va_get (D := (dC, dI)) (ci := 11) (v := .ref (q 6)) (C := RX11) (T := TX11) (N := 11) hx hb hts hiX11 hown hK hP 0 (wkK) rfl 2 (by decide) (hts _ (List.mem_cons_of_mem _ (wk_in_11 _ (List.mem_of_getElem? (i := 13) rfl)))) (fun _ h9 => h9) rfl dX11_lent_81 ?_
                refine lv_aload_n hx hb dX11_lent_84 rfl (lv_at hl 2 rfl) ?_
                have e21 : A14 0 9 = (A 0 9) := (hf16 0 9 rfl rfl)
                refine va_get (D := (dC, dI)) (ci := 11) (v := .ref (q (51 + 31 * (A14 0 9).toNat))) (C := RX11) (T := TX11) (N := 11) hx hb hts hiX11 hown hK hP 0 (wkK) rfl 9 (by decide) (hts _ (List.mem_cons_of_mem _ (wk_in_10 _ (List.mem_of_getElem? (i := 36) rfl)))) (fun _ h9 => h9) rfl dX11_lent_85 ?_
                refine tp_v (y := .ref (q t2)) (by rw [et2, e21]) ?_
                refine lv_iload_n hx hb dX11_lent_88 rfl (lv_at hl 3 rfl) ?_
                refine lv_aload_n hx hb dX11_lent_89 rfl (lv_at hl 2 rfl) ?_
                refine va_get (D := (dC, dI)) (ci := 11) (v := .ref (q (51 + 31 * (A14 0 9).toNat))) (C := RX11) (T := TX11) (N := 11) hx hb hts hiX11 hown hK hP 0 (wkK) rfl 9 (by decide) (hts _ (List.mem_cons_of_mem _ (wk_in_10 _ (List.mem_of_getElem? (i := 36) rfl)))) (fun _ h9 => h9) rfl dX11_lent_90 ?_
                refine tp_v (y := .ref (q t2)) (by rw [et2, e21]) ?_
                refine lv_iload_n hx hb dX11_lent_93 rfl (lv_at hl 3 rfl) ?_
                refine k_calli (As := [.int (iI x1)]) (rest := [.int (iI x1), .ref (q t2), .ref (q 6)]) ⟨hx, hb, hml, hown, hts⟩ hE (kc_X9_keysOf l dC dI cB cI cJ cZ cQ aL aS q _ t2 x1 hI ht2 hx1) (cwV 1 hts (goodVk (wk_in_11 _ (List.mem_of_getElem? (i := 14) rfl)) (wk_in_0 _ (List.mem_of_getElem? (i := 4) rfl)) (wk_in_0 _ (List.mem_of_getElem? (i := 5) rfl)) (wk_in_0 _ (List.mem_of_getElem? (i := 6) rfl)) (wk_in_0 _ (List.mem_of_getElem? (i := 7) rfl))) rfl rfl rfl (by decide +kernel) ⟨Nat.le_of_ble_eq_true rfl, Nat.le_of_ble_eq_true rfl⟩) hK hDD hA0 hP hS t2 9 (wkT ht2) rfl rfl hl.1 (Nat.le_of_ble_eq_true rfl) dX11_lent_94 (fun z22 A23 H locs hw24 hP hS => ?_)
                obtain ⟨rfl, hw24⟩ := hw24
                have ghw24 : q_X9_keysOf t2 x1 A14 z22 := hw24
                have hw24 := hw24.2
                refine lv_iconst (v := iI 0) hx hb dX11_lent_97 (by decide +kernel) ?_
                refine lv_iload_n hx hb dX11_lent_98 rfl (lv_at hl 4 rfl) ?_
                refine k_calli (As := [.ref (q t2), .int (iI x1), .int (iI z22), .int (iI 0), .int (iI x2)]) (rest := []) ⟨hx, hb, hml, hown, hts⟩ hE (kc_X0_search l dC dI cB cI cJ cZ cQ aL aS q _ t2 x1 z22 0 x2 hI ht2 hx1 hw24 ⟨by decide, by decide⟩ hx2) (cwV 5 hts (goodVk (wk_in_11 _ (List.mem_of_getElem? (i := 57) rfl)) (wk_in_0 _ (List.mem_of_getElem? (i := 12) rfl)) (wk_in_0 _ (List.mem_of_getElem? (i := 13) rfl)) (wk_in_0 _ (List.mem_of_getElem? (i := 14) rfl)) (wk_in_0 _ (List.mem_of_getElem? (i := 15) rfl))) rfl rfl rfl (by decide +kernel) ⟨Nat.le_of_ble_eq_true rfl, Nat.le_of_ble_eq_true rfl⟩) hK hDD hA0 hP hS 6 0 (wkAL) rfl rfl hl.1 (Nat.le_of_ble_eq_true rfl) dX11_lent_99 (fun z25 A26 H locs hw27 hP hS => ?_)
                have ghw27 : q_X0_search t2 x1 z22 0 x2 A14 z25 A26 := hw27
                obtain ⟨_, hI, hf28, hw27⟩ := hw27
                refine lv_istore (lv' := [(6, .int (iI z25)), (5, .int (iI (A14 6 16))), (4, .int (iI z13)), (0, .ref (q 0)), (1, .int (iI x1)), (2, .int (iI x2)), (3, .int (iI x3))]) hx hb dX11_lent_102 hl (by decide) rfl (fun ls hl => ?_)
                refine lv_iload hx hb dX11_lent_104 (lv_at hl 0 rfl) ?_
                refine lv_iconst (v := iI (-1)) hx hb dX11_lent_106 (by decide +kernel) ?_
                refine lv_icmp_ne (tgt := 114) hx hb dX11_lent_107 (by decide) (fun c29 => ?_) (fun c29 => ?_)
                · have c29 : ¬ z25 = (-1) := mt (i_eq hw27 ⟨by decide, by decide⟩).mpr c29
                  refine lv_iload hx hb dX11_lent_114 (lv_at hl 0 rfl) ?_
                  refine lv_iload hx hb dX11_lent_116 (lv_at hl 1 rfl) ?_
                  refine x_subv (v := z25 - (A14 6 16)) hx hb dX11_lent_118 (by omega) ?_
                  refine x_absE (fun z30 gz30 hz30 => ?_)
                  exact RET z30 _ _ _ _ _ ⟨(u_r_X11_lent ⟨t2, et2, ⟨z3, ghw5, (Or.inr ⟨c6, ⟨z7, ghw9, (Or.inr ⟨c10, (Or.inr ⟨c11, (Or.inl ⟨c12, ⟨z13, A14, ghw15, (Or.inr ⟨c17, (Or.inl ⟨c18, (Or.inl ⟨c20, ⟨z22, ghw24, ⟨z25, A26, ghw27, (Or.inl ⟨c29, ⟨z30, gz30.out, ⟨rfl, rfl⟩⟩⟩)⟩⟩⟩)⟩)⟩)⟩⟩)⟩)⟩)⟩⟩)⟩⟩), hI, fk.trans (fk.trans (fk.rf) hf16 rfl rfl) hf28 rfl rfl, hz30⟩ hP hS dX11_lent_119
                · have c29 : z25 = (-1) := (i_eq hw27 ⟨by decide, by decide⟩).mp c29
                  refine lv_iconst (v := iI (-1)) hx hb dX11_lent_110 (by decide +kernel) ?_
                  refine lv_goto (tgt := 119) hx hb dX11_lent_111 (by decide) ?_
                  exact RET (-1) _ _ _ _ _ ⟨(u_r_X11_lent ⟨t2, et2, ⟨z3, ghw5, (Or.inr ⟨c6, ⟨z7, ghw9, (Or.inr ⟨c10, (Or.inr ⟨c11, (Or.inl ⟨c12, ⟨z13, A14, ghw15, (Or.inr ⟨c17, (Or.inl ⟨c18, (Or.inl ⟨c20, ⟨z22, ghw24, ⟨z25, A26, ghw27, (Or.inr ⟨c29, ⟨rfl, rfl⟩⟩)⟩⟩⟩)⟩)⟩)⟩⟩)⟩)⟩)⟩⟩)⟩⟩), hI, fk.trans (fk.trans (fk.rf) hf16 rfl rfl) hf28 rfl rfl, ⟨by decide, by decide⟩⟩ hP hS dX11_lent_119
              · have c20 : x3 = 1 := (i_eq hx3 ⟨by decide, by decide⟩).mp c20
                refine lv_iload hx hb dX11_lent_77 (lv_at hl 0 rfl) ?_
                exact RET (A14 6 16) _ _ _ _ _ ⟨(u_r_X11_lent ⟨t2, et2, ⟨z3, ghw5, (Or.inr ⟨c6, ⟨z7, ghw9, (Or.inr ⟨c10, (Or.inr ⟨c11, (Or.inl ⟨c12, ⟨z13, A14, ghw15, (Or.inr ⟨c17, (Or.inl ⟨c18, (Or.inr ⟨c20, ⟨rfl, rfl⟩⟩)⟩)⟩)⟩⟩)⟩)⟩)⟩⟩)⟩⟩), hI, fk.trans (fk.rf) hf16 rfl rfl, r19⟩ hP hS dX11_lent_79
            · have c18 : x3 = 0 := (i_eq0 hx3).mp c18
              refine lv_iload hx hb dX11_lent_60 (lv_at hl 0 rfl) ?_
              exact RET z13 _ _ _ _ _ ⟨(u_r_X11_lent ⟨t2, et2, ⟨z3, ghw5, (Or.inr ⟨c6, ⟨z7, ghw9, (Or.inr ⟨c10, (Or.inr ⟨c11, (Or.inl ⟨c12, ⟨z13, A14, ghw15, (Or.inr ⟨c17, (Or.inr ⟨c18, ⟨rfl, rfl⟩⟩)⟩)⟩⟩)⟩)⟩)⟩⟩)⟩⟩), hI, fk.trans (fk.rf) hf16 rfl rfl, hw15⟩ hP hS dX11_lent_62
        · have c12 : ¬ x3 ≤ 2 := mt (i_le hx3 ⟨by decide, by decide⟩).mpr c12
          refine lv_iconst (v := iI (-1)) hx hb dX11_lent_33 (by decide +kernel) ?_
          exact RET (-1) _ _ _ _ _ ⟨(u_r_X11_lent ⟨t2, et2, ⟨z3, ghw5, (Or.inr ⟨c6, ⟨z7, ghw9, (Or.inr ⟨c10, (Or.inr ⟨c11, (Or.inr ⟨c12, ⟨rfl, rfl⟩⟩)⟩)⟩)⟩⟩)⟩⟩), hI, fk.rf, ⟨by decide, by decide⟩⟩ hP hS dX11_lent_34

abbrev tr_d_X11_locked_2 (K1 : Int → Int → St → Prop) (z1 : Int) (z : Int) (u : St) (z37 : Int) (A39 : St) : Prop := ((IK A39) ∧ ((-2147483648 ≤ z37 ∧ z37 ≤ 2147483647) ∧ (K1 (z1 + 1) z37 A39)))
def d_X11_locked_2 (K1 : Int → Int → St → Prop) (z1 : Int) (z : Int) (u : St) (z37 : Int) (A39 : St) : Prop := tr_d_X11_locked_2 K1 z1 z u z37 A39
theorem u_d_X11_locked_2 {K1 : Int → Int → St → Prop} {z1 : Int} {z : Int} {u : St} {z37 : Int} {A39 : St} (h : tr_d_X11_locked_2 K1 z1 z u z37 A39) : d_X11_locked_2 K1 z1 z u z37 A39 := h
abbrev tr_d_X11_locked_1 (A : St) (z : Int) (u : St) (K1 : Int → Int → St → Prop) (z1 : Int) (z2 : Int) (A4 : St) : Prop := ((IK A4) ∧ ((0 ≤ z1 ∧ z1 ≤ 2147483647) ∧ ((-2147483648 ≤ z2 ∧ z2 ≤ 2147483647) ∧ (∃ t18 : Nat, t18 = 51 + 31 * ((A 0 9)).toNat ∧ (∃ z20 : Int, z20 = A4 (t18 + 1) (3 : Int).toNat ∧ (((z20 ≤ z1) ∧ (z = z2 ∧ u = A4)) ∨ ((¬ z20 ≤ z1) ∧ (∃ z23 : Int, z23 = A4 ((t18 + 22) + 1) (z1).toNat ∧ (∃ z24 : Int, q_X9_hasDoorAt t18 z23 A4 z24 ∧ (((z24 = 0) ∧ (d_X11_locked_2 K1 z1 z u z2 A4)) ∨ ((¬ z24 = 0) ∧ (∃ z29 : Int, ∃ A30 : St, q_X0_placesOf t18 z1 A4 z29 A30 ∧ (∃ z33 : Int, z33 = oShl 1 z23 ∧ (((¬ z29 = z33) ∧ (d_X11_locked_2 K1 z1 z u z2 A30)) ∨ ((z29 = z33) ∧ (∃ z35 : Int, z35 = oShl 1 z1 ∧ (∃ z36 : Int, z36 = oOr z2 z35 ∧ (d_X11_locked_2 K1 z1 z u z36 A30))))))))))))))))))
def d_X11_locked_1 (A : St) (z : Int) (u : St) : Nat → Int → Int → St → Prop
  | 0, _, _, _ => False
  | nn9 + 1, z1, z2, A4 => tr_d_X11_locked_1 A z u (fun z1 z2 A4 => d_X11_locked_1 A z u nn9 z1 z2 A4) z1 z2 A4
theorem u_d_X11_locked_1 {A : St} {z : Int} {u : St} {nn9 : Nat} {z1 : Int} {z2 : Int} {A4 : St} (h : tr_d_X11_locked_1 A z u (fun z1 z2 A4 => d_X11_locked_1 A z u nn9 z1 z2 A4) z1 z2 A4) : d_X11_locked_1 A z u (nn9 + 1) z1 z2 A4 := h
abbrev tr_r_X11_locked (A : St) (z : Int) (u : St) : Prop := (∃ nn9 : Nat, d_X11_locked_1 A z u nn9 0 0 A)
def r_X11_locked (A : St) (z : Int) (u : St) : Prop := tr_r_X11_locked A z u
theorem u_r_X11_locked {A : St} {z : Int} {u : St} (h : tr_r_X11_locked A z u) : r_X11_locked A z u := h
def ws_kc_X11_locked : List Cond := .code yX11_locked cX11_locked 4 (some .int) :: WY
set_option maxHeartbeats 4000000 in
set_option maxRecDepth 100000 in
theorem kc_X11_locked (l : Launch) (dC : Nat → ClassId) (dI : Nat → Nat → Nat) (cB cI cJ cZ cQ : ClassId) (aL aS : Nat) (q : Nat → Nat) (A : St) (hI : IK A) : KMi l yX11_locked ws_kc_X11_locked ({ frames := 7, cells := 0, slots := 0, locals := 177 } : Room) aL aS (dC, dI) (tyA cB cI cJ cZ cQ) (WK cB cI cJ cZ cQ q) A [.ref (q 0)] (fun z u => r_X11_locked A z u ∧ IK u ∧ fk [7, 9, 10, 11, 12, 13, 14, 15, 16, 17, 18, 19, 72, 103] [(6, 7), (6, 8), (6, 9), (6, 10), (6, 11), (6, 12), (6, 13), (6, 14), (6, 15)] A u ∧ (-2147483648 ≤ z ∧ z ≤ 2147483647)) := by
  refine k_meti (cc := cX11_locked) (maxL := 4) WK_adr (plainFor_of_name (by decide +kernel)) rfl (Nat.le_of_ble_eq_true rfl) (fun p e s m below meth c Q AS ls hx hb hml hown hts hK hDD hA0 hE RET H locs hP hS hl => ?_)
  have hown : s.vm.findClass RX11 = some m.cls := hown
  have hl : lv_has ls 4 [(0, .ref (q 0))] := hl
  have hiX11 : ∀ w ∈ u_ws RX11 TX11 11, w ∈ ws_kc_X11_locked := fun w h => List.mem_cons_of_mem _ (wy_layX11 w h)
  have hiX9 : ∀ w ∈ u_ws RX9 TX9 16, w ∈ ws_kc_X11_locked := fun w h => List.mem_cons_of_mem _ (wy_layX9 w h)
  have hiX6 : ∀ w ∈ u_ws RX6 TX6 4, w ∈ ws_kc_X11_locked := fun w h => List.mem_cons_of_mem _ (wy_layX6 w h)
  refine lv_iconst (v := iI 0) hx hb dX11_locked_0 (by decide +kernel) ?_
  refine lv_istore_n (lv' := [(1, .int (iI 0)), (0, .ref (q 0))]) hx hb dX11_locked_1 rfl hl (by decide) rfl (fun ls hl => ?_)
  refine lv_iconst (v := iI 0) hx hb dX11_locked_2 (by decide +kernel) ?_
  refine lv_istore_n (lv' := [(2, .int (iI 0)), (1, .int (iI 0)), (0, .ref (q 0))]) hx hb dX11_locked_3 rfl hl (by decide) rfl (fun ls hl => ?_)
  have L4_5 : ∀ (n14 : Nat) (z1 z2 : Int) (A4 : St) (H : Heap) (locs : List Loc) (ls : Array Slot), (0 ≤ z1 ∧ z1 ≤ 2147483647) → (-2147483648 ≤ z2 ∧ z2 ≤ 2147483647) → (∀ (z : Int) (u : St), (∃ mm1 : Nat, (d_X11_locked_1 A z u mm1 z1 z2 A4)) → r_X11_locked A z u) → ((4 - z1).toNat = n14) → IK A4 → fk [7, 9, 10, 11, 12, 13, 14, 15, 16, 17, 18, 19, 72, 103] [(6, 7), (6, 8), (6, 9), (6, 10), (6, 11), (6, 12), (6, 13), (6, 14), (6, 15)] A A4 → va_P (dC, dI) vwCl (WK cB cI cJ cZ cQ q A4) H → va_S AS s.heap H locs → lv_has ls 4 [(2, .int (iI z1)), (1, .int (iI z2)), (0, .ref (q 0))] → W p l e (headSpec ws_kc_X11_locked ({ frames := 7, cells := 0, slots := 0, locals := 177 } : Room)).room s m [.ref (q 0)].toArray below meth c H locs 0 0 Q (F0 m 4 ls []) := by
    intro n14
    induction n14 using Nat.strongRecOn with
    | ind n14 ih6 =>
      intro z1 z2 A4 H locs ls f7 f8 hk1 hn14 hI hj3 hP hS hl
      have gI15 : Hd (IK A4) := Hd.mk hI
      refine lv_iload_n hx hb dX11_locked_4 rfl (lv_at hl 0 rfl) ?_
      refine lv_aload_n hx hb dX11_locked_5 rfl (lv_at hl 2 rfl) ?_
      have e16 : A4 0 9 = (A 0 9) := (hj3 0 9 rfl rfl)
      have r17 : (0 : Int) ≤ (A 0 9) ∧ (A 0 9) ≤ 1 := by rw [← e16]; exact irK_9 hI
      obtain ⟨t18, et18⟩ : ∃ t : Nat, t = 51 + 31 * ((A 0 9)).toNat := ⟨_, rfl⟩
      have ht18 : isT t18 := by rw [et18]; exact isT.b r17
      refine va_get (D := (dC, dI)) (ci := 11) (v := .ref (q (51 + 31 * (A4 0 9).toNat))) (C := RX11) (T := TX11) (N := 11) hx hb hts hiX11 hown hK hP 0 (wkK) rfl 9 (by decide) (hts _ (List.mem_cons_of_mem _ (wk_in_10 _ (List.mem_of_getElem? (i := 36) rfl)))) (fun _ h9 => h9) rfl dX11_locked_6 ?_
      refine tp_v (y := .ref (q t18)) (by rw [et18, e16]) ?_
      refine va_get (D := (dC, dI)) (ci := 9) (v := .ref (q (t18 + 1))) (C := RX9) (T := TX9) (N := 16) hx hb hts hiX9 hown hK hP t18 (wkT ht18) rfl 0 (by decide) (hts _ (List.mem_cons_of_mem _ (wk_in_10 _ (List.mem_of_getElem? (i := 46) rfl)))) (fun _ h9 => h9) rfl dX11_locked_9 ?_
      refine lv_iconst (v := iI 3) hx hb dX11_locked_12 (by decide +kernel) ?_
      have a19 : ∀ k, A4 (t18 + 1) k = A (t18 + 1) k := fun k => hj3 (t18 + 1) k (isT.b2 (o := fun b => List.contains [7, 9, 10, 11, 12, 13, 14, 15, 16, 17, 18, 19, 72, 103] (b + 1)) ht18 rfl rfl) (isT.b2 (o := fun b => fin2 [(6, 7), (6, 8), (6, 9), (6, 10), (6, 11), (6, 12), (6, 13), (6, 14), (6, 15)] (b + 1) k) ht18 rfl rfl)
      refine x_iald (Wf := WK cB cI cJ cZ cQ q) hx hb hK hP (t18 + 1) 1 (wkTc ht18) rfl (by decide) (by decide) dX11_locked_13 (fun z20 hz20 => ?_)
      have rz20 : (0 : Int) ≤ z20 ∧ z20 ≤ 3 := by rw [hz20]; exact irTc3 ht18 hI
      have gz20 := Hd.mk hz20
      have hz20 : z20 = A (t18 + 1) (3 : Int).toNat := hz20.trans (a19 _)
      refine lv_icmp_ge (tgt := 71) hx hb dX11_locked_14 (by decide) (fun c21 => ?_) (fun c21 => ?_)
      · have c21 : z20 ≤ z1 := (i_le (rb rz20 (by decide) (by decide)) (rb f7 (by decide) (by decide))).mp c21
        refine lv_iload_n hx hb dX11_locked_71 rfl (lv_at hl 1 rfl) ?_
        exact RET z2 _ _ _ _ _ ⟨hk1 _ _ ⟨0 + 1, (u_d_X11_locked_1 ⟨gI15.out, ⟨f7, ⟨f8, ⟨t18, et18, ⟨z20, gz20.out, (Or.inl ⟨c21, ⟨rfl, rfl⟩⟩)⟩⟩⟩⟩⟩)⟩, hI, fk.trans (fk.rf) hj3 rfl rfl, f8⟩ hP hS dX11_locked_72
      · have c21 : ¬ z20 ≤ z1 := mt (i_le (rb rz20 (by decide) (by decide)) (rb f7 (by decide) (by decide))).mpr c21
        refine lv_aload_n hx hb dX11_locked_17 rfl (lv_at hl 2 rfl) ?_
        refine va_get (D := (dC, dI)) (ci := 11) (v := .ref (q (51 + 31 * (A4 0 9).toNat))) (C := RX11) (T := TX11) (N := 11) hx hb hts hiX11 hown hK hP 0 (wkK) rfl 9 (by decide) (hts _ (List.mem_cons_of_mem _ (wk_in_10 _ (List.mem_of_getElem? (i := 36) rfl)))) (fun _ h9 => h9) rfl dX11_locked_18 ?_
        refine tp_v (y := .ref (q t18)) (by rw [et18, e16]) ?_
        refine va_get (D := (dC, dI)) (ci := 9) (v := .ref (q (t18 + 22))) (C := RX9) (T := TX9) (N := 16) hx hb hts hiX9 hown hK hP t18 (wkT ht18) rfl 14 (by decide) (hts _ (List.mem_cons_of_mem _ (wk_in_11 _ (List.mem_of_getElem? (i := 5) rfl)))) (fun _ h9 => h9) rfl dX11_locked_21 ?_
        refine va_get (D := (dC, dI)) (ci := 6) (v := .ref (q ((t18 + 22) + 1))) (C := RX6) (T := TX6) (N := 4) hx hb hts hiX6 hown hK hP (t18 + 22) (wkS ht18.s) rfl 0 (by decide) (hts _ (List.mem_cons_of_mem _ (wk_in_11 _ (List.mem_of_getElem? (i := 12) rfl)))) (fun _ h9 => h9) rfl dX11_locked_24 ?_
        refine lv_iload_n hx hb dX11_locked_27 rfl (lv_at hl 0 rfl) ?_
        have a22 : ∀ k, A4 ((t18 + 22) + 1) k = A ((t18 + 22) + 1) k := fun k => hj3 ((t18 + 22) + 1) k (isS.b2 (o := fun b => List.contains [7, 9, 10, 11, 12, 13, 14, 15, 16, 17, 18, 19, 72, 103] (b + 1)) ht18.s rfl rfl rfl rfl) (isS.b2 (o := fun b => fin2 [(6, 7), (6, 8), (6, 9), (6, 10), (6, 11), (6, 12), (6, 13), (6, 14), (6, 15)] (b + 1) k) ht18.s rfl rfl rfl rfl)
        refine x_iald (Wf := WK cB cI cJ cZ cQ q) hx hb hK hP ((t18 + 22) + 1) 1 (wkSs ht18.s) rfl (by omega) (by decide) dX11_locked_28 (fun z23 hz23 => ?_)
        have rz23 : (-2147483648 : Int) ≤ z23 ∧ z23 ≤ 2147483647 := by rw [hz23]; exact irSs ht18.s hI
        have gz23 := Hd.mk hz23
        have hz23 : z23 = A ((t18 + 22) + 1) (z1).toNat := hz23.trans (a22 _)
        refine lv_istore_n (lv' := [(3, .int (iI z23)), (2, .int (iI z1)), (1, .int (iI z2)), (0, .ref (q 0))]) hx hb dX11_locked_29 rfl hl (by decide) rfl (fun ls hl => ?_)
        refine lv_aload_n hx hb dX11_locked_30 rfl (lv_at hl 3 rfl) ?_
        refine va_get (D := (dC, dI)) (ci := 11) (v := .ref (q (51 + 31 * (A4 0 9).toNat))) (C := RX11) (T := TX11) (N := 11) hx hb hts hiX11 hown hK hP 0 (wkK) rfl 9 (by decide) (hts _ (List.mem_cons_of_mem _ (wk_in_10 _ (List.mem_of_getElem? (i := 36) rfl)))) (fun _ h9 => h9) rfl dX11_locked_31 ?_
        refine tp_v (y := .ref (q t18)) (by rw [et18, e16]) ?_
        refine lv_iload_n hx hb dX11_locked_34 rfl (lv_at hl 0 rfl) ?_
        refine k_calli (As := [.int (iI z23)]) (rest := []) ⟨hx, hb, hml, hown, hts⟩ hE (kc_X9_hasDoorAt l dC dI cB cI cJ cZ cQ aL aS q _ t18 z23 hI ht18 rz23) (cwV 1 hts (goodVk (wk_in_12 _ (List.mem_of_getElem? (i := 6) rfl)) (wk_in_12 _ (List.mem_of_getElem? (i := 7) rfl)) (wk_in_12 _ (List.mem_of_getElem? (i := 8) rfl)) (wk_in_0 _ (List.mem_of_getElem? (i := 6) rfl)) (wk_in_8 _ (List.mem_of_getElem? (i := 47) rfl))) rfl rfl rfl (by decide +kernel) ⟨Nat.le_of_ble_eq_true rfl, Nat.le_of_ble_eq_true rfl⟩) hK hDD hA0 hP hS t18 9 (wkT ht18) rfl rfl hl.1 (Nat.le_of_ble_eq_true rfl) dX11_locked_35 (fun z24 A25 H locs hw26 hP hS => ?_)
        obtain ⟨rfl, hw26⟩ := hw26
        have ghw26 : q_X9_hasDoorAt t18 z23 A4 z24 := hw26
        have hw26 := hw26.2
        have J65_28 : ∀ (z37 : Int) (A39 : St) (H : Heap) (locs : List Loc) (ls : Array Slot), (-2147483648 ≤ z37 ∧ z37 ≤ 2147483647) → (∀ (z : Int) (u : St), (∃ mm1 : Nat, (d_X11_locked_2 (fun z1' z2' A4' => d_X11_locked_1 A z u mm1 z1' z2' A4') z1 z u z37 A39)) → r_X11_locked A z u) → IK A39 → fk [7, 9, 10, 11, 12, 13, 14, 15, 16, 17, 18, 19, 72, 103] [(6, 7), (6, 8), (6, 9), (6, 10), (6, 11), (6, 12), (6, 13), (6, 14), (6, 15)] A4 A39 → va_P (dC, dI) vwCl (WK cB cI cJ cZ cQ q A39) H → va_S AS s.heap H locs → lv_has ls 4 [(3, .int (iI z23)), (2, .int (iI z1)), (1, .int (iI z37)), (0, .ref (q 0))] → W p l e (headSpec ws_kc_X11_locked ({ frames := 7, cells := 0, slots := 0, locals := 177 } : Room)).room s m [.ref (q 0)].toArray below meth c H locs 0 0 Q (F0 m 65 ls []) := by
          intro z37 A39 H locs ls f40 hk2 hI hj38 hP hS hl
          have gI41 : Hd (IK A39) := Hd.mk hI
          refine lv_iinc (v := iI (z1 + 1)) (lv' := [(2, .int (iI (z1 + 1))), (3, .int (iI z23)), (1, .int (iI z37)), (0, .ref (q 0))]) hx hb dX11_locked_65 hl (k := 1) rfl (i_inc (by omega)) (by decide) rfl (fun ls hl => ?_)
          refine lv_goto (tgt := 4) hx hb dX11_locked_68 (by decide) ?_
          exact ih6 _ (by omega) (z1 + 1) z37 _ _ _ _ (by omega) (by omega) (fun zq uq ⟨mm1, hq⟩ => hk2 _ _ ⟨mm1, (u_d_X11_locked_2 ⟨gI41.out, ⟨f40, hq⟩⟩)⟩) rfl hI (fk.trans (fk.trans (fk.rf) hj3 rfl rfl) hj38 rfl rfl) hP hS (lv_sub hl [0, 2, 3] rfl)
        refine lv_if_eq (tgt := 65) hx hb dX11_locked_38 (by decide) (fun c27 => ?_) (fun c27 => ?_)
        · have c27 : z24 = 0 := (i_eq0 (rb hw26 (by decide) (by decide))).mp c27
          exact J65_28 z2 _ _ _ _ (by omega) (fun zq uq ⟨mm1, hq⟩ => hk1 _ _ ⟨mm1 + 1, (u_d_X11_locked_1 ⟨gI15.out, ⟨f7, ⟨f8, ⟨t18, et18, ⟨z20, gz20.out, (Or.inr ⟨c21, ⟨z23, gz23.out, ⟨z24, ghw26, (Or.inl ⟨c27, hq⟩)⟩⟩⟩)⟩⟩⟩⟩⟩)⟩) hI (fk.rf) hP hS (lv_sub hl [0, 1, 2, 3] rfl)
        · have c27 : ¬ z24 = 0 := mt (i_eq0 (rb hw26 (by decide) (by decide))).mpr c27
          refine lv_aload_n hx hb dX11_locked_41 rfl (lv_at hl 3 rfl) ?_
          refine va_get (D := (dC, dI)) (ci := 11) (v := .ref (q 6)) (C := RX11) (T := TX11) (N := 11) hx hb hts hiX11 hown hK hP 0 (wkK) rfl 2 (by decide) (hts _ (List.mem_cons_of_mem _ (wk_in_11 _ (List.mem_of_getElem? (i := 13) rfl)))) (fun _ h9 => h9) rfl dX11_locked_42 ?_
          refine lv_aload_n hx hb dX11_locked_45 rfl (lv_at hl 3 rfl) ?_
          refine va_get (D := (dC, dI)) (ci := 11) (v := .ref (q (51 + 31 * (A4 0 9).toNat))) (C := RX11) (T := TX11) (N := 11) hx hb hts hiX11 hown hK hP 0 (wkK) rfl 9 (by decide) (hts _ (List.mem_cons_of_mem _ (wk_in_10 _ (List.mem_of_getElem? (i := 36) rfl)))) (fun _ h9 => h9) rfl dX11_locked_46 ?_
          refine tp_v (y := .ref (q t18)) (by rw [et18, e16]) ?_
          refine lv_iload_n hx hb dX11_locked_49 rfl (lv_at hl 1 rfl) ?_
          refine k_calli (As := [.ref (q t18), .int (iI z1)]) (rest := []) ⟨hx, hb, hml, hown, hts⟩ hE (kc_X0_placesOf l dC dI cB cI cJ cZ cQ aL aS q _ t18 z1 hI ht18 (rb f7 (by decide) (by decide))) (cwV 2 hts (goodVk (wk_in_11 _ (List.mem_of_getElem? (i := 15) rfl)) (wk_in_11 _ (List.mem_of_getElem? (i := 16) rfl)) (wk_in_11 _ (List.mem_of_getElem? (i := 17) rfl)) (wk_in_0 _ (List.mem_of_getElem? (i := 14) rfl)) (wk_in_0 _ (List.mem_of_getElem? (i := 0) rfl))) rfl rfl rfl (by decide +kernel) ⟨Nat.le_of_ble_eq_true rfl, Nat.le_of_ble_eq_true rfl⟩) hK hDD hA0 hP hS 6 0 (wkAL) rfl rfl hl.1 (Nat.le_of_ble_eq_true rfl) dX11_locked_50 (fun z29 A30 H locs hw31 hP hS => ?_)
          have ghw31 : q_X0_placesOf t18 z1 A4 z29 A30 := hw31
          obtain ⟨_, hI, hf32, hw31⟩ := hw31
          refine lv_iconst (v := iI 1) hx hb dX11_locked_53 (by decide +kernel) ?_
          refine lv_iload_n hx hb dX11_locked_54 rfl (lv_at hl 0 rfl) ?_
          refine lv_ishl hx hb dX11_locked_55 ?_
          refine x_absE (fun z33 gz33 hz33 => ?_)
          refine lv_icmp_ne (tgt := 65) hx hb dX11_locked_56 (by decide) (fun c34 => ?_) (fun c34 => ?_)
          · have c34 : ¬ z29 = z33 := mt (i_eq hw31 hz33).mpr c34
            exact J65_28 z2 _ _ _ _ (by omega) (fun zq uq ⟨mm1, hq⟩ => hk1 _ _ ⟨mm1 + 1, (u_d_X11_locked_1 ⟨gI15.out, ⟨f7, ⟨f8, ⟨t18, et18, ⟨z20, gz20.out, (Or.inr ⟨c21, ⟨z23, gz23.out, ⟨z24, ghw26, (Or.inr ⟨c27, ⟨z29, A30, ghw31, ⟨z33, gz33.out, (Or.inl ⟨c34, hq⟩)⟩⟩⟩)⟩⟩⟩)⟩⟩⟩⟩⟩)⟩) hI (fk.trans (fk.rf) hf32 rfl rfl) hP hS (lv_sub hl [0, 1, 2, 3] rfl)
          · have c34 : z29 = z33 := (i_eq hw31 hz33).mp c34
            refine lv_iload_n hx hb dX11_locked_59 rfl (lv_at hl 2 rfl) ?_
            refine lv_iconst (v := iI 1) hx hb dX11_locked_60 (by decide +kernel) ?_
            refine lv_iload_n hx hb dX11_locked_61 rfl (lv_at hl 1 rfl) ?_
            refine lv_ishl hx hb dX11_locked_62 ?_
            refine x_absE (fun z35 gz35 hz35 => ?_)
            refine lv_ior hx hb dX11_locked_63 ?_
            refine x_absE (fun z36 gz36 hz36 => ?_)
            refine lv_istore_n (lv' := [(1, .int (iI z36)), (3, .int (iI z23)), (2, .int (iI z1)), (0, .ref (q 0))]) hx hb dX11_locked_64 rfl hl (by decide) rfl (fun ls hl => ?_)
            exact J65_28 z36 _ _ _ _ (by omega) (fun zq uq ⟨mm1, hq⟩ => hk1 _ _ ⟨mm1 + 1, (u_d_X11_locked_1 ⟨gI15.out, ⟨f7, ⟨f8, ⟨t18, et18, ⟨z20, gz20.out, (Or.inr ⟨c21, ⟨z23, gz23.out, ⟨z24, ghw26, (Or.inr ⟨c27, ⟨z29, A30, ghw31, ⟨z33, gz33.out, (Or.inr ⟨c34, ⟨z35, gz35.out, ⟨z36, gz36.out, hq⟩⟩⟩)⟩⟩⟩)⟩⟩⟩)⟩⟩⟩⟩⟩)⟩) hI (fk.trans (fk.rf) hf32 rfl rfl) hP hS (lv_sub hl [1, 2, 0, 3] rfl)
  exact L4_5 _ 0 0 _ _ _ _ (by omega) (by omega) (fun zq uq ⟨mm1, hq⟩ => (u_r_X11_locked ⟨mm1, hq⟩)) rfl hI (fk.rf) hP hS (lv_sub hl [0, 1, 2] rfl)

abbrev tr_r_X11_can (x1 : Int) (x2 : Int) (A : St) (z : Int) : Prop := (∃ t2 : Nat, t2 = 51 + 31 * ((A 0 9)).toNat ∧ (∃ z3 : Int, q_X9_isThere_1_1 t2 x2 A z3 ∧ (((z3 = 0) ∧ (z = (-1))) ∨ ((¬ z3 = 0) ∧ (((x1 < 0) ∧ (z = (-1))) ∨ ((¬ x1 < 0) ∧ (∃ z8 : Int, z8 = A (t2 + 1) (3 : Int).toNat ∧ (∃ z9 : Int, z9 = oShl 1 z8 ∧ (((x1 < z9) ∧ (∃ z11 : Int, q_X9_holdersOf t2 x2 A z11 ∧ (((z11 = (-1)) ∧ (z = 0)) ∨ ((¬ z11 = (-1)) ∧ (∃ z15 : Int, z15 = oXor x1 (-1) ∧ (∃ z16 : Int, z16 = oAnd z11 z15 ∧ (((¬ z16 = 0) ∧ (z = 0)) ∨ ((z16 = 0) ∧ (z = 1))))))))) ∨ ((¬ x1 < z9) ∧ (z = (-1))))))))))))
def r_X11_can (x1 : Int) (x2 : Int) (A : St) (z : Int) : Prop := tr_r_X11_can x1 x2 A z
theorem u_r_X11_can {x1 : Int} {x2 : Int} {A : St} {z : Int} (h : tr_r_X11_can x1 x2 A z) : r_X11_can x1 x2 A z := h
def ws_kc_X11_can : List Cond := .code yX11_can cX11_can 4 (some .int) :: WY
set_option maxHeartbeats 4000000 in
set_option maxRecDepth 100000 in
theorem kc_X11_can (l : Launch) (dC : Nat → ClassId) (dI : Nat → Nat → Nat) (cB cI cJ cZ cQ : ClassId) (aL aS : Nat) (q : Nat → Nat) (A : St) (x1 x2 : Int) (hI : IK A) (hx1 : (-2147483648 : Int) ≤ x1 ∧ x1 ≤ 2147483647) (hx2 : (-2147483648 : Int) ≤ x2 ∧ x2 ≤ 2147483647) : KMi l yX11_can ws_kc_X11_can ({ frames := 3, cells := 0, slots := 0, locals := 68 } : Room) aL aS (dC, dI) (tyA cB cI cJ cZ cQ) (WK cB cI cJ cZ cQ q) A [.ref (q 0), .int (iI x1), .int (iI x2)] (fun z u => A = u ∧ r_X11_can x1 x2 A z ∧ (-2147483648 ≤ z ∧ z ≤ 2147483647)) := by
  refine k_meti (cc := cX11_can) (maxL := 4) WK_adr (plainFor_of_name (by decide +kernel)) rfl (Nat.le_of_ble_eq_true rfl) (fun p e s m below meth c Q AS ls hx hb hml hown hts hK hDD hA0 hE RET H locs hP hS hl => ?_)
  have hown : s.vm.findClass RX11 = some m.cls := hown
  have hl : lv_has ls 4 [(0, .ref (q 0)), (1, .int (iI x1)), (2, .int (iI x2))] := hl
  have hiX11 : ∀ w ∈ u_ws RX11 TX11 11, w ∈ ws_kc_X11_can := fun w h => List.mem_cons_of_mem _ (wy_layX11 w h)
  have hiX9 : ∀ w ∈ u_ws RX9 TX9 16, w ∈ ws_kc_X11_can := fun w h => List.mem_cons_of_mem _ (wy_layX9 w h)
  refine lv_aload_n hx hb dX11_can_0 rfl (lv_at hl 0 rfl) ?_
  have r1 : (0 : Int) ≤ (A 0 9) ∧ (A 0 9) ≤ 1 := irK_9 hI
  obtain ⟨t2, et2⟩ : ∃ t : Nat, t = 51 + 31 * ((A 0 9)).toNat := ⟨_, rfl⟩
  have ht2 : isT t2 := by rw [et2]; exact isT.b r1
  refine va_get (D := (dC, dI)) (ci := 11) (v := .ref (q (51 + 31 * (A 0 9).toNat))) (C := RX11) (T := TX11) (N := 11) hx hb hts hiX11 hown hK hP 0 (wkK) rfl 9 (by decide) (hts _ (List.mem_cons_of_mem _ (wk_in_10 _ (List.mem_of_getElem? (i := 36) rfl)))) (fun _ h9 => h9) rfl dX11_can_1 ?_
  refine tp_v (y := .ref (q t2)) (by rw [et2]) ?_
  refine lv_iconst (v := iI 1) hx hb dX11_can_4 (by decide +kernel) ?_
  refine lv_iload_n hx hb dX11_can_5 rfl (lv_at hl 2 rfl) ?_
  refine k_calli (As := [.int (iI 1), .int (iI x2)]) (rest := []) ⟨hx, hb, hml, hown, hts⟩ hE (kc_X9_isThere_1_1 l dC dI cB cI cJ cZ cQ aL aS q _ t2 x2 hI ht2 hx2) (cwV 2 hts (goodVk (wk_in_10 _ (List.mem_of_getElem? (i := 54) rfl)) (wk_in_0 _ (List.mem_of_getElem? (i := 22) rfl)) (wk_in_0 _ (List.mem_of_getElem? (i := 23) rfl)) (wk_in_0 _ (List.mem_of_getElem? (i := 6) rfl)) (wk_in_0 _ (List.mem_of_getElem? (i := 24) rfl))) rfl rfl rfl (by decide +kernel) ⟨Nat.le_of_ble_eq_true rfl, Nat.le_of_ble_eq_true rfl⟩) hK hDD hA0 hP hS t2 9 (wkT ht2) rfl rfl hl.1 (Nat.le_of_ble_eq_true rfl) dX11_can_6 (fun z3 A4 H locs hw5 hP hS => ?_)
  obtain ⟨rfl, hw5⟩ := hw5
  have ghw5 : q_X9_isThere_1_1 t2 x2 A z3 := hw5
  have hw5 := hw5.2
  have rz3 : 0 ≤ z3 ∧ z3 ≤ 1 := hw5.1
  have hw5 := hw5.2
  refine lv_if_eq (tgt := 31) hx hb dX11_can_9 (by decide) (fun c6 => ?_) (fun c6 => ?_)
  · have c6 : z3 = 0 := (i_eq0 (rb rz3 (by decide) (by decide))).mp c6
    clear hw5
    refine lv_iconst (v := iI (-1)) hx hb dX11_can_31 (by decide +kernel) ?_
    exact RET (-1) _ _ _ _ _ ⟨rfl, (u_r_X11_can ⟨t2, et2, ⟨z3, ghw5, (Or.inl ⟨c6, rfl⟩)⟩⟩), ⟨by decide, by decide⟩⟩ hP hS dX11_can_32
  · have c6 : ¬ z3 = 0 := mt (i_eq0 (rb rz3 (by decide) (by decide))).mpr c6
    have hw5b := hw5 (by omega)
    clear hw5
    refine lv_iload_n hx hb dX11_can_12 rfl (lv_at hl 1 rfl) ?_
    refine lv_if_lt (tgt := 31) hx hb dX11_can_13 (by decide) (fun c7 => ?_) (fun c7 => ?_)
    · have c7 : x1 < 0 := (i_lt0 hx1).mp c7
      refine lv_iconst (v := iI (-1)) hx hb dX11_can_31 (by decide +kernel) ?_
      exact RET (-1) _ _ _ _ _ ⟨rfl, (u_r_X11_can ⟨t2, et2, ⟨z3, ghw5, (Or.inr ⟨c6, (Or.inl ⟨c7, rfl⟩)⟩)⟩⟩), ⟨by decide, by decide⟩⟩ hP hS dX11_can_32
    · have c7 : ¬ x1 < 0 := mt (i_lt0 hx1).mpr c7
      refine lv_iload_n hx hb dX11_can_16 rfl (lv_at hl 1 rfl) ?_
      refine lv_iconst (v := iI 1) hx hb dX11_can_17 (by decide +kernel) ?_
      refine lv_aload_n hx hb dX11_can_18 rfl (lv_at hl 0 rfl) ?_
      refine va_get (D := (dC, dI)) (ci := 11) (v := .ref (q (51 + 31 * (A 0 9).toNat))) (C := RX11) (T := TX11) (N := 11) hx hb hts hiX11 hown hK hP 0 (wkK) rfl 9 (by decide) (hts _ (List.mem_cons_of_mem _ (wk_in_10 _ (List.mem_of_getElem? (i := 36) rfl)))) (fun _ h9 => h9) rfl dX11_can_19 ?_
      refine tp_v (y := .ref (q t2)) (by rw [et2]) ?_
      refine va_get (D := (dC, dI)) (ci := 9) (v := .ref (q (t2 + 1))) (C := RX9) (T := TX9) (N := 16) hx hb hts hiX9 hown hK hP t2 (wkT ht2) rfl 0 (by decide) (hts _ (List.mem_cons_of_mem _ (wk_in_10 _ (List.mem_of_getElem? (i := 46) rfl)))) (fun _ h9 => h9) rfl dX11_can_22 ?_
      refine lv_iconst (v := iI 3) hx hb dX11_can_25 (by decide +kernel) ?_
      refine x_iald (Wf := WK cB cI cJ cZ cQ q) hx hb hK hP (t2 + 1) 1 (wkTc ht2) rfl (by decide) (by decide) dX11_can_26 (fun z8 hz8 => ?_)
      have rz8 : (0 : Int) ≤ z8 ∧ z8 ≤ 3 := by rw [hz8]; exact irTc3 ht2 hI
      have gz8 := Hd.mk hz8
      refine lv_ishl hx hb dX11_can_27 ?_
      refine x_absE (fun z9 gz9 hz9 => ?_)
      refine lv_icmp_lt (tgt := 33) hx hb dX11_can_28 (by decide) (fun c10 => ?_) (fun c10 => ?_)
      · have c10 : x1 < z9 := (i_lt hx1 hz9).mp c10
        refine lv_aload_n hx hb dX11_can_33 rfl (lv_at hl 0 rfl) ?_
        refine va_get (D := (dC, dI)) (ci := 11) (v := .ref (q (51 + 31 * (A 0 9).toNat))) (C := RX11) (T := TX11) (N := 11) hx hb hts hiX11 hown hK hP 0 (wkK) rfl 9 (by decide) (hts _ (List.mem_cons_of_mem _ (wk_in_10 _ (List.mem_of_getElem? (i := 36) rfl)))) (fun _ h9 => h9) rfl dX11_can_34 ?_
        refine tp_v (y := .ref (q t2)) (by rw [et2]) ?_
        refine lv_iload_n hx hb dX11_can_37 rfl (lv_at hl 2 rfl) ?_
        refine k_calli (As := [.int (iI x2)]) (rest := []) ⟨hx, hb, hml, hown, hts⟩ hE (kc_X9_holdersOf l dC dI cB cI cJ cZ cQ aL aS q _ t2 x2 hI ht2 hx2) (cwV 1 hts (goodVk (wk_in_12 _ (List.mem_of_getElem? (i := 10) rfl)) (wk_in_12 _ (List.mem_of_getElem? (i := 11) rfl)) (wk_in_12 _ (List.mem_of_getElem? (i := 12) rfl)) (wk_in_0 _ (List.mem_of_getElem? (i := 6) rfl)) (wk_in_9 _ (List.mem_of_getElem? (i := 42) rfl))) rfl rfl rfl (by decide +kernel) ⟨Nat.le_of_ble_eq_true rfl, Nat.le_of_ble_eq_true rfl⟩) hK hDD hA0 hP hS t2 9 (wkT ht2) rfl rfl hl.1 (Nat.le_of_ble_eq_true rfl) dX11_can_38 (fun z11 A12 H locs hw13 hP hS => ?_)
        obtain ⟨rfl, hw13⟩ := hw13
        have ghw13 : q_X9_holdersOf t2 x2 A z11 := hw13
        have hw13 := hw13.2
        refine lv_istore_n (lv' := [(3, .int (iI z11)), (0, .ref (q 0)), (1, .int (iI x1)), (2, .int (iI x2))]) hx hb dX11_can_41 rfl hl (by decide) rfl (fun ls hl => ?_)
        refine lv_iload_n hx hb dX11_can_42 rfl (lv_at hl 0 rfl) ?_
        refine lv_iconst (v := iI (-1)) hx hb dX11_can_43 (by decide +kernel) ?_
        refine lv_icmp_eq (tgt := 59) hx hb dX11_can_44 (by decide) (fun c14 => ?_) (fun c14 => ?_)
        · have c14 : z11 = (-1) := (i_eq hw13 ⟨by decide, by decide⟩).mp c14
          refine lv_iconst (v := iI 0) hx hb dX11_can_59 (by decide +kernel) ?_
          exact RET 0 _ _ _ _ _ ⟨rfl, (u_r_X11_can ⟨t2, et2, ⟨z3, ghw5, (Or.inr ⟨c6, (Or.inr ⟨c7, ⟨z8, gz8.out, ⟨z9, gz9.out, (Or.inl ⟨c10, ⟨z11, ghw13, (Or.inl ⟨c14, rfl⟩)⟩⟩)⟩⟩⟩)⟩)⟩⟩), ⟨by decide, by decide⟩⟩ hP hS dX11_can_60
        · have c14 : ¬ z11 = (-1) := mt (i_eq hw13 ⟨by decide, by decide⟩).mpr c14
          refine lv_iload_n hx hb dX11_can_47 rfl (lv_at hl 0 rfl) ?_
          refine lv_iload_n hx hb dX11_can_48 rfl (lv_at hl 2 rfl) ?_
          refine lv_iconst (v := iI (-1)) hx hb dX11_can_49 (by decide +kernel) ?_
          refine lv_ixor hx hb dX11_can_50 ?_
          refine x_absE (fun z15 gz15 hz15 => ?_)
          refine lv_iand hx hb dX11_can_51 ?_
          refine x_absE (fun z16 gz16 hz16 => ?_)
          refine lv_if_ne (tgt := 59) hx hb dX11_can_52 (by decide) (fun c17 => ?_) (fun c17 => ?_)
          · have c17 : ¬ z16 = 0 := mt (i_eq0 hz16).mpr c17
            refine lv_iconst (v := iI 0) hx hb dX11_can_59 (by decide +kernel) ?_
            exact RET 0 _ _ _ _ _ ⟨rfl, (u_r_X11_can ⟨t2, et2, ⟨z3, ghw5, (Or.inr ⟨c6, (Or.inr ⟨c7, ⟨z8, gz8.out, ⟨z9, gz9.out, (Or.inl ⟨c10, ⟨z11, ghw13, (Or.inr ⟨c14, ⟨z15, gz15.out, ⟨z16, gz16.out, (Or.inl ⟨c17, rfl⟩)⟩⟩⟩)⟩⟩)⟩⟩⟩)⟩)⟩⟩), ⟨by decide, by decide⟩⟩ hP hS dX11_can_60
          · have c17 : z16 = 0 := (i_eq0 hz16).mp c17
            refine lv_iconst (v := iI 1) hx hb dX11_can_55 (by decide +kernel) ?_
            refine lv_goto (tgt := 60) hx hb dX11_can_56 (by decide) ?_
            exact RET 1 _ _ _ _ _ ⟨rfl, (u_r_X11_can ⟨t2, et2, ⟨z3, ghw5, (Or.inr ⟨c6, (Or.inr ⟨c7, ⟨z8, gz8.out, ⟨z9, gz9.out, (Or.inl ⟨c10, ⟨z11, ghw13, (Or.inr ⟨c14, ⟨z15, gz15.out, ⟨z16, gz16.out, (Or.inr ⟨c17, rfl⟩)⟩⟩⟩)⟩⟩)⟩⟩⟩)⟩)⟩⟩), ⟨by decide, by decide⟩⟩ hP hS dX11_can_60
      · have c10 : ¬ x1 < z9 := mt (i_lt hx1 hz9).mpr c10
        refine lv_iconst (v := iI (-1)) hx hb dX11_can_31 (by decide +kernel) ?_
        exact RET (-1) _ _ _ _ _ ⟨rfl, (u_r_X11_can ⟨t2, et2, ⟨z3, ghw5, (Or.inr ⟨c6, (Or.inr ⟨c7, ⟨z8, gz8.out, ⟨z9, gz9.out, (Or.inr ⟨c10, rfl⟩)⟩⟩⟩)⟩)⟩⟩), ⟨by decide, by decide⟩⟩ hP hS dX11_can_32

abbrev tr_r_X11_needs (x1 : Int) (x2 : Int) (A : St) (z : Int) : Prop := (∃ t2 : Nat, t2 = 51 + 31 * ((A 0 9)).toNat ∧ (∃ z3 : Int, q_X9_isThere_1_1 t2 x1 A z3 ∧ (((z3 = 0) ∧ (z = (-1))) ∨ ((¬ z3 = 0) ∧ (((x2 < 0) ∧ (z = (-1))) ∨ ((¬ x2 < 0) ∧ (((x2 ≤ 1) ∧ (∃ z9 : Int, q_X9_holdersOf t2 x1 A z9 ∧ (((¬ z9 = (-1)) ∧ (((¬ x2 = 0) ∧ (∃ z14 : Int, q_X9_workOf t2 x1 A z14 ∧ (z = z14))) ∨ ((x2 = 0) ∧ (∃ z17 : Int, q_J6_bitCount_0f7a4 z9 A z17 ∧ (z = z17))))) ∨ ((z9 = (-1)) ∧ (z = (-1)))))) ∨ ((¬ x2 ≤ 1) ∧ (z = (-1))))))))))
def r_X11_needs (x1 : Int) (x2 : Int) (A : St) (z : Int) : Prop := tr_r_X11_needs x1 x2 A z
theorem u_r_X11_needs {x1 : Int} {x2 : Int} {A : St} {z : Int} (h : tr_r_X11_needs x1 x2 A z) : r_X11_needs x1 x2 A z := h
def ws_kc_X11_needs : List Cond := .code yX11_needs cX11_needs 4 (some .int) :: WY
set_option maxHeartbeats 4000000 in
set_option maxRecDepth 100000 in
theorem kc_X11_needs (l : Launch) (dC : Nat → ClassId) (dI : Nat → Nat → Nat) (cB cI cJ cZ cQ : ClassId) (aL aS : Nat) (q : Nat → Nat) (A : St) (x1 x2 : Int) (hI : IK A) (hx1 : (-2147483648 : Int) ≤ x1 ∧ x1 ≤ 2147483647) (hx2 : (-2147483648 : Int) ≤ x2 ∧ x2 ≤ 2147483647) : KMi l yX11_needs ws_kc_X11_needs ({ frames := 3, cells := 0, slots := 0, locals := 69 } : Room) aL aS (dC, dI) (tyA cB cI cJ cZ cQ) (WK cB cI cJ cZ cQ q) A [.ref (q 0), .int (iI x1), .int (iI x2)] (fun z u => A = u ∧ r_X11_needs x1 x2 A z ∧ (-2147483648 ≤ z ∧ z ≤ 2147483647)) := by
  refine k_meti (cc := cX11_needs) (maxL := 4) WK_adr (plainFor_of_name (by decide +kernel)) rfl (Nat.le_of_ble_eq_true rfl) (fun p e s m below meth c Q AS ls hx hb hml hown hts hK hDD hA0 hE RET H locs hP hS hl => ?_)
  have hown : s.vm.findClass RX11 = some m.cls := hown
  have hl : lv_has ls 4 [(0, .ref (q 0)), (1, .int (iI x1)), (2, .int (iI x2))] := hl
  have hiX11 : ∀ w ∈ u_ws RX11 TX11 11, w ∈ ws_kc_X11_needs := fun w h => List.mem_cons_of_mem _ (wy_layX11 w h)
  refine lv_aload_n hx hb dX11_needs_0 rfl (lv_at hl 0 rfl) ?_
  have r1 : (0 : Int) ≤ (A 0 9) ∧ (A 0 9) ≤ 1 := irK_9 hI
  obtain ⟨t2, et2⟩ : ∃ t : Nat, t = 51 + 31 * ((A 0 9)).toNat := ⟨_, rfl⟩
  have ht2 : isT t2 := by rw [et2]; exact isT.b r1
  refine va_get (D := (dC, dI)) (ci := 11) (v := .ref (q (51 + 31 * (A 0 9).toNat))) (C := RX11) (T := TX11) (N := 11) hx hb hts hiX11 hown hK hP 0 (wkK) rfl 9 (by decide) (hts _ (List.mem_cons_of_mem _ (wk_in_10 _ (List.mem_of_getElem? (i := 36) rfl)))) (fun _ h9 => h9) rfl dX11_needs_1 ?_
  refine tp_v (y := .ref (q t2)) (by rw [et2]) ?_
  refine lv_iconst (v := iI 1) hx hb dX11_needs_4 (by decide +kernel) ?_
  refine lv_iload_n hx hb dX11_needs_5 rfl (lv_at hl 1 rfl) ?_
  refine k_calli (As := [.int (iI 1), .int (iI x1)]) (rest := []) ⟨hx, hb, hml, hown, hts⟩ hE (kc_X9_isThere_1_1 l dC dI cB cI cJ cZ cQ aL aS q _ t2 x1 hI ht2 hx1) (cwV 2 hts (goodVk (wk_in_10 _ (List.mem_of_getElem? (i := 54) rfl)) (wk_in_0 _ (List.mem_of_getElem? (i := 22) rfl)) (wk_in_0 _ (List.mem_of_getElem? (i := 23) rfl)) (wk_in_0 _ (List.mem_of_getElem? (i := 6) rfl)) (wk_in_0 _ (List.mem_of_getElem? (i := 24) rfl))) rfl rfl rfl (by decide +kernel) ⟨Nat.le_of_ble_eq_true rfl, Nat.le_of_ble_eq_true rfl⟩) hK hDD hA0 hP hS t2 9 (wkT ht2) rfl rfl hl.1 (Nat.le_of_ble_eq_true rfl) dX11_needs_6 (fun z3 A4 H locs hw5 hP hS => ?_)
  obtain ⟨rfl, hw5⟩ := hw5
  have ghw5 : q_X9_isThere_1_1 t2 x1 A z3 := hw5
  have hw5 := hw5.2
  have rz3 : 0 ≤ z3 ∧ z3 ≤ 1 := hw5.1
  have hw5 := hw5.2
  refine lv_if_eq (tgt := 21) hx hb dX11_needs_9 (by decide) (fun c6 => ?_) (fun c6 => ?_)
  · have c6 : z3 = 0 := (i_eq0 (rb rz3 (by decide) (by decide))).mp c6
    clear hw5
    refine lv_iconst (v := iI (-1)) hx hb dX11_needs_21 (by decide +kernel) ?_
    exact RET (-1) _ _ _ _ _ ⟨rfl, (u_r_X11_needs ⟨t2, et2, ⟨z3, ghw5, (Or.inl ⟨c6, rfl⟩)⟩⟩), ⟨by decide, by decide⟩⟩ hP hS dX11_needs_22
  · have c6 : ¬ z3 = 0 := mt (i_eq0 (rb rz3 (by decide) (by decide))).mpr c6
    have hw5b := hw5 (by omega)
    clear hw5
    refine lv_iload_n hx hb dX11_needs_12 rfl (lv_at hl 2 rfl) ?_
    refine lv_if_lt (tgt := 21) hx hb dX11_needs_13 (by decide) (fun c7 => ?_) (fun c7 => ?_)
    · have c7 : x2 < 0 := (i_lt0 hx2).mp c7
      refine lv_iconst (v := iI (-1)) hx hb dX11_needs_21 (by decide +kernel) ?_
      exact RET (-1) _ _ _ _ _ ⟨rfl, (u_r_X11_needs ⟨t2, et2, ⟨z3, ghw5, (Or.inr ⟨c6, (Or.inl ⟨c7, rfl⟩)⟩)⟩⟩), ⟨by decide, by decide⟩⟩ hP hS dX11_needs_22
    · have c7 : ¬ x2 < 0 := mt (i_lt0 hx2).mpr c7
      refine lv_iload_n hx hb dX11_needs_16 rfl (lv_at hl 2 rfl) ?_
      refine lv_iconst (v := iI 1) hx hb dX11_needs_17 (by decide +kernel) ?_
      refine lv_icmp_le (tgt := 23) hx hb dX11_needs_18 (by decide) (fun c8 => ?_) (fun c8 => ?_)
      · have c8 : x2 ≤ 1 := (i_le hx2 ⟨by decide, by decide⟩).mp c8
        refine lv_aload_n hx hb dX11_needs_23 rfl (lv_at hl 0 rfl) ?_
        refine va_get (D := (dC, dI)) (ci := 11) (v := .ref (q (51 + 31 * (A 0 9).toNat))) (C := RX11) (T := TX11) (N := 11) hx hb hts hiX11 hown hK hP 0 (wkK) rfl 9 (by decide) (hts _ (List.mem_cons_of_mem _ (wk_in_10 _ (List.mem_of_getElem? (i := 36) rfl)))) (fun _ h9 => h9) rfl dX11_needs_24 ?_
        refine tp_v (y := .ref (q t2)) (by rw [et2]) ?_
        refine lv_iload_n hx hb dX11_needs_27 rfl (lv_at hl 1 rfl) ?_
        refine k_calli (As := [.int (iI x1)]) (rest := []) ⟨hx, hb, hml, hown, hts⟩ hE (kc_X9_holdersOf l dC dI cB cI cJ cZ cQ aL aS q _ t2 x1 hI ht2 hx1) (cwV 1 hts (goodVk (wk_in_12 _ (List.mem_of_getElem? (i := 10) rfl)) (wk_in_12 _ (List.mem_of_getElem? (i := 11) rfl)) (wk_in_12 _ (List.mem_of_getElem? (i := 12) rfl)) (wk_in_0 _ (List.mem_of_getElem? (i := 6) rfl)) (wk_in_9 _ (List.mem_of_getElem? (i := 42) rfl))) rfl rfl rfl (by decide +kernel) ⟨Nat.le_of_ble_eq_true rfl, Nat.le_of_ble_eq_true rfl⟩) hK hDD hA0 hP hS t2 9 (wkT ht2) rfl rfl hl.1 (Nat.le_of_ble_eq_true rfl) dX11_needs_28 (fun z9 A10 H locs hw11 hP hS => ?_)
        obtain ⟨rfl, hw11⟩ := hw11
        have ghw11 : q_X9_holdersOf t2 x1 A z9 := hw11
        have hw11 := hw11.2
        refine lv_istore_n (lv' := [(3, .int (iI z9)), (0, .ref (q 0)), (1, .int (iI x1)), (2, .int (iI x2))]) hx hb dX11_needs_31 rfl hl (by decide) rfl (fun ls hl => ?_)
        refine lv_iload_n hx hb dX11_needs_32 rfl (lv_at hl 0 rfl) ?_
        refine lv_iconst (v := iI (-1)) hx hb dX11_needs_33 (by decide +kernel) ?_
        refine lv_icmp_ne (tgt := 39) hx hb dX11_needs_34 (by decide) (fun c12 => ?_) (fun c12 => ?_)
        · have c12 : ¬ z9 = (-1) := mt (i_eq hw11 ⟨by decide, by decide⟩).mpr c12
          refine lv_iload_n hx hb dX11_needs_39 rfl (lv_at hl 3 rfl) ?_
          refine lv_if_ne (tgt := 50) hx hb dX11_needs_40 (by decide) (fun c13 => ?_) (fun c13 => ?_)
          · have c13 : ¬ x2 = 0 := mt (i_eq0 hx2).mpr c13
            refine lv_aload_n hx hb dX11_needs_50 rfl (lv_at hl 1 rfl) ?_
            refine va_get (D := (dC, dI)) (ci := 11) (v := .ref (q (51 + 31 * (A 0 9).toNat))) (C := RX11) (T := TX11) (N := 11) hx hb hts hiX11 hown hK hP 0 (wkK) rfl 9 (by decide) (hts _ (List.mem_cons_of_mem _ (wk_in_10 _ (List.mem_of_getElem? (i := 36) rfl)))) (fun _ h9 => h9) rfl dX11_needs_51 ?_
            refine tp_v (y := .ref (q t2)) (by rw [et2]) ?_
            refine lv_iload_n hx hb dX11_needs_54 rfl (lv_at hl 2 rfl) ?_
            refine k_calli (As := [.int (iI x1)]) (rest := []) ⟨hx, hb, hml, hown, hts⟩ hE (kc_X9_workOf l dC dI cB cI cJ cZ cQ aL aS q _ t2 x1 hI ht2 hx1) (cwV 1 hts (goodVk (wk_in_12 _ (List.mem_of_getElem? (i := 14) rfl)) (wk_in_12 _ (List.mem_of_getElem? (i := 15) rfl)) (wk_in_12 _ (List.mem_of_getElem? (i := 16) rfl)) (wk_in_0 _ (List.mem_of_getElem? (i := 6) rfl)) (wk_in_9 _ (List.mem_of_getElem? (i := 43) rfl))) rfl rfl rfl (by decide +kernel) ⟨Nat.le_of_ble_eq_true rfl, Nat.le_of_ble_eq_true rfl⟩) hK hDD hA0 hP hS t2 9 (wkT ht2) rfl rfl hl.1 (Nat.le_of_ble_eq_true rfl) dX11_needs_55 (fun z14 A15 H locs hw16 hP hS => ?_)
            obtain ⟨rfl, hw16⟩ := hw16
            have ghw16 : q_X9_workOf t2 x1 A z14 := hw16
            have hw16 := hw16.2
            exact RET z14 _ _ _ _ _ ⟨rfl, (u_r_X11_needs ⟨t2, et2, ⟨z3, ghw5, (Or.inr ⟨c6, (Or.inr ⟨c7, (Or.inl ⟨c8, ⟨z9, ghw11, (Or.inl ⟨c12, (Or.inl ⟨c13, ⟨z14, ghw16, rfl⟩⟩)⟩)⟩⟩)⟩)⟩)⟩⟩), hw16⟩ hP hS dX11_needs_58
          · have c13 : x2 = 0 := (i_eq0 hx2).mp c13
            refine lv_iload_n hx hb dX11_needs_43 rfl (lv_at hl 0 rfl) ?_
            refine k_callSi (As := [.int (iI z9)]) (rest := []) ⟨hx, hb, hml, hown, hts⟩ hE (kc_J6_bitCount_0f7a4 l dC dI cB cI cJ cZ cQ aL aS q _ z9 hI hw11) (va_cwS 1 hts (goodSk (wk_in_10 _ (List.mem_of_getElem? (i := 48) rfl)) (wk_in_1 _ (List.mem_of_getElem? (i := 17) rfl)) (wk_in_1 _ (List.mem_of_getElem? (i := 18) rfl)) (wk_in_1 _ (List.mem_of_getElem? (i := 19) rfl))) rfl rfl rfl (by decide +kernel) ⟨Nat.le_of_ble_eq_true rfl, Nat.le_of_ble_eq_true rfl⟩) hK hDD hA0 hP hS rfl hl.1 (Nat.le_of_ble_eq_true rfl) dX11_needs_44 (fun z17 A18 H locs hw19 hP hS => ?_)
            obtain ⟨rfl, hw19⟩ := hw19
            have ghw19 : q_J6_bitCount_0f7a4 z9 A z17 := hw19
            have hw19 := hw19.2
            refine lv_goto (tgt := 58) hx hb dX11_needs_47 (by decide) ?_
            exact RET z17 _ _ _ _ _ ⟨rfl, (u_r_X11_needs ⟨t2, et2, ⟨z3, ghw5, (Or.inr ⟨c6, (Or.inr ⟨c7, (Or.inl ⟨c8, ⟨z9, ghw11, (Or.inl ⟨c12, (Or.inr ⟨c13, ⟨z17, ghw19, rfl⟩⟩)⟩)⟩⟩)⟩)⟩)⟩⟩), (rb hw19 (by decide) (by decide))⟩ hP hS dX11_needs_58
        · have c12 : z9 = (-1) := (i_eq hw11 ⟨by decide, by decide⟩).mp c12
          refine lv_iconst (v := iI (-1)) hx hb dX11_needs_37 (by decide +kernel) ?_
          exact RET (-1) _ _ _ _ _ ⟨rfl, (u_r_X11_needs ⟨t2, et2, ⟨z3, ghw5, (Or.inr ⟨c6, (Or.inr ⟨c7, (Or.inl ⟨c8, ⟨z9, ghw11, (Or.inr ⟨c12, rfl⟩)⟩⟩)⟩)⟩)⟩⟩), ⟨by decide, by decide⟩⟩ hP hS dX11_needs_38
      · have c8 : ¬ x2 ≤ 1 := mt (i_le hx2 ⟨by decide, by decide⟩).mpr c8
        refine lv_iconst (v := iI (-1)) hx hb dX11_needs_21 (by decide +kernel) ?_
        exact RET (-1) _ _ _ _ _ ⟨rfl, (u_r_X11_needs ⟨t2, et2, ⟨z3, ghw5, (Or.inr ⟨c6, (Or.inr ⟨c7, (Or.inr ⟨c8, rfl⟩)⟩)⟩)⟩⟩), ⟨by decide, by decide⟩⟩ hP hS dX11_needs_22
