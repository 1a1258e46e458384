abbrev tr_r_X11_handingAnswer (x1 : Int) (A : St) (z : Int) (u : St) : Prop := (((¬ x1 = 0) ∧ (z = x1 ∧ u = A)) ∨ ((x1 = 0) ∧ (∃ z2 : Int, ∃ A3 : St, q_X11_refused 3 A z2 A3 ∧ (z = x1 ∧ u = A3))))
def r_X11_handingAnswer (x1 : Int) (A : St) (z : Int) (u : St) : Prop := tr_r_X11_handingAnswer x1 A z u
theorem u_r_X11_handingAnswer {x1 : Int} {A : St} {z : Int} {u : St} (h : tr_r_X11_handingAnswer x1 A z u) : r_X11_handingAnswer x1 A z u := h
def q_X11_handingAnswer (x1 : Int) (A : St) (z : Int) (u : St) : Prop := r_X11_handingAnswer x1 A z u ∧ IK u ∧ fk [50] [] A u ∧ (0 ≤ z ∧ z ≤ 1)
def ws_kc_X11_handingAnswer : List Cond := .code yX11_handingAnswer cX11_handingAnswer 2 (some .boolean) :: WY
set_option maxHeartbeats 4000000 in
set_option maxRecDepth 100000 in
theorem kc_X11_handingAnswer (l : Launch) (dC : Nat → ClassId) (dI : Nat → Nat → Nat) (cB cI cJ cZ cQ : ClassId) (aL aS : Nat) (q : Nat → Nat) (A : St) (x1 : Int) (hI : IK A) (hx1 : (0 : Int) ≤ x1 ∧ x1 ≤ 1) : KMi l yX11_handingAnswer ws_kc_X11_handingAnswer ({ frames := 1, cells := 0, slots := 0, locals := 21 } : Room) aL aS (dC, dI) (tyA cB cI cJ cZ cQ) (WK cB cI cJ cZ cQ q) A [.ref (q 0), .int (iI x1)] (fun z u => r_X11_handingAnswer x1 A z u ∧ IK u ∧ fk [50] [] A u ∧ (0 ≤ z ∧ z ≤ 1)) := by
  refine k_metz (cc := cX11_handingAnswer) (maxL := 2) WK_adr (plainFor_of_name (by decide +kernel)) rfl (Nat.le_of_ble_eq_true rfl) (fun z u h => h.2.2.2) (fun p e s m below meth c Q AS ls hx hb hml hown hts hK hDD hA0 hE RET H locs hP hS hl => ?_)
  have hown : s.vm.findClass RX11 = some m.cls := hown
  have hl : lv_has ls 2 [(0, .ref (q 0)), (1, .int (iI x1))] := hl
  refine lv_iload_n hx hb (dk_at dkX11_handingAnswer_0 0 rfl) rfl (lv_at hl 1 rfl) ?_
  refine lv_if_ne (tgt := 10) hx hb (dk_at dkX11_handingAnswer_0 1 rfl) (by decide) (fun c1 => ?_) (fun c1 => ?_)
  · have c1 : ¬ x1 = 0 := mt (i_eq0 (rb hx1 (by decide) (by decide))).mpr c1
    refine lv_iload_n hx hb (dk_at dkX11_handingAnswer_0 6 rfl) rfl (lv_at hl 1 rfl) ?_
    exact RET x1 _ _ _ _ _ ⟨(u_r_X11_handingAnswer (Or.inl ⟨c1, ⟨rfl, rfl⟩⟩)), hI, fk.rf, hx1⟩ hP hS (dk_at dkX11_handingAnswer_0 7 rfl)
  · have c1 : x1 = 0 := (i_eq0 (rb hx1 (by decide) (by decide))).mp c1
    refine lv_aload_n hx hb (dk_at dkX11_handingAnswer_0 2 rfl) rfl (lv_at hl 0 rfl) ?_
    refine lv_iconst (v := iI 3) hx hb (dk_at dkX11_handingAnswer_0 3 rfl) (by decide +kernel) ?_
    refine k_calli (As := [.int (iI 3)]) (rest := []) ⟨hx, hb, hml, hown, hts⟩ hE (kc_X11_refused l dC dI cB cI cJ cZ cQ aL aS q _ 3 hI ⟨by decide, by decide⟩) (cwV 1 hts (goodVk wkq_10_23 wkq_10_24 wkq_10_25 wkq_10_26 wkq_10_27) rfl rfl rfl (by decide +kernel) ⟨Nat.le_of_ble_eq_true rfl, Nat.le_of_ble_eq_true rfl⟩) hK hDD hA0 hP hS 0 11 (wkK) rfl rfl hl.1 (Nat.le_of_ble_eq_true rfl) (dk_at dkX11_handingAnswer_0 4 rfl) (fun z2 A3 H locs hw4 hP hS => ?_)
    have ghw4 : q_X11_refused 3 A z2 A3 := hw4
    obtain ⟨_, hI, hf5, hw4⟩ := hw4
    refine lv_pop hx hb (dk_at dkX11_handingAnswer_0 5 rfl) rfl ?_
    refine lv_iload_n hx hb (dk_at dkX11_handingAnswer_0 6 rfl) rfl (lv_at hl 1 rfl) ?_
    exact RET x1 _ _ _ _ _ ⟨(u_r_X11_handingAnswer (Or.inr ⟨c1, ⟨z2, A3, ghw4, ⟨rfl, rfl⟩⟩⟩)), hI, fk.trans (fk.rf) hf5 rfl rfl, hx1⟩ hP hS (dk_at dkX11_handingAnswer_0 7 rfl)

abbrev tr_r_X11_lend (x1 : Int) (x2 : Int) (x3 : Int) (A : St) (z : Int) (u : St) : Prop := (∃ t2 : Nat, t2 = 51 + 31 * ((A 0 9)).toNat ∧ (∃ z3 : Int, ∃ A4 : St, q_X9_lendTo t2 x1 x2 x3 A z3 A4 ∧ (∃ z7 : Int, ∃ A8 : St, q_X11_handingAnswer z3 A4 z7 A8 ∧ (z = z7 ∧ u = A8))))
def r_X11_lend (x1 : Int) (x2 : Int) (x3 : Int) (A : St) (z : Int) (u : St) : Prop := tr_r_X11_lend x1 x2 x3 A z u
theorem u_r_X11_lend {x1 : Int} {x2 : Int} {x3 : Int} {A : St} {z : Int} {u : St} (h : tr_r_X11_lend x1 x2 x3 A z u) : r_X11_lend x1 x2 x3 A z u := h
def ws_kc_X11_lend : List Cond := .code yX11_lend cX11_lend 4 (some .boolean) :: WY
set_option maxHeartbeats 4000000 in
set_option maxRecDepth 100000 in
theorem kc_X11_lend (l : Launch) (dC : Nat → ClassId) (dI : Nat → Nat → Nat) (cB cI cJ cZ cQ : ClassId) (aL aS : Nat) (q : Nat → Nat) (A : St) (x1 x2 x3 : Int) (hI : IK A) (hx1 : (-2147483648 : Int) ≤ x1 ∧ x1 ≤ 2147483647) (hx2 : (-2147483648 : Int) ≤ x2 ∧ x2 ≤ 2147483647) (hx3 : (-2147483648 : Int) ≤ x3 ∧ x3 ≤ 2147483647) : KMi l yX11_lend ws_kc_X11_lend ({ frames := 3, cells := 0, slots := 0, locals := 67 } : Room) aL aS (dC, dI) (tyA cB cI cJ cZ cQ) (WK cB cI cJ cZ cQ q) A [.ref (q 0), .int (iI x1), .int (iI x2), .int (iI x3)] (fun z u => r_X11_lend x1 x2 x3 A z u ∧ IK u ∧ fk [34, 43, 50, 75, 106] [] A u ∧ (0 ≤ z ∧ z ≤ 1)) := by
  refine k_metz (cc := cX11_lend) (maxL := 4) WK_adr (plainFor_of_name (by decide +kernel)) rfl (Nat.le_of_ble_eq_true rfl) (fun z u h => h.2.2.2) (fun p e s m below meth c Q AS ls hx hb hml hown hts hK hDD hA0 hE RET H locs hP hS hl => ?_)
  have hown : s.vm.findClass RX11 = some m.cls := hown
  have hl : lv_has ls 4 [(0, .ref (q 0)), (1, .int (iI x1)), (2, .int (iI x2)), (3, .int (iI x3))] := hl
  have hiX11 : ∀ w ∈ u_ws RX11 TX11 11, w ∈ ws_kc_X11_lend := fun w h => List.mem_cons_of_mem _ (wy_layX11 w h)
  refine lv_aload_n hx hb (dk_at dkX11_lend_0 0 rfl) rfl (lv_at hl 0 rfl) ?_
  refine lv_aload_n hx hb (dk_at dkX11_lend_0 1 rfl) rfl (lv_at hl 0 rfl) ?_
  have r1 : (0 : Int) ≤ (A 0 9) ∧ (A 0 9) ≤ 1 := irK_9 hI
  obtain ⟨t2, et2⟩ : ∃ t : Nat, t = 51 + 31 * ((A 0 9)).toNat := ⟨_, rfl⟩
  have ht2 : isT t2 := by rw [et2]; exact isT.b r1
  refine va_get (D := (dC, dI)) (ci := 11) (v := .ref (q (51 + 31 * (A 0 9).toNat))) (C := RX11) (T := TX11) (N := 11) hx hb hts hiX11 hown hK hP 0 (wkK) rfl 9 (by decide) (hts _ (List.mem_cons_of_mem _ wkq_10_36)) (fun _ h9 => h9) rfl (dk_at dkX11_lend_0 2 rfl) ?_
  refine tp_v (y := .ref (q t2)) (by rw [et2]) ?_
  refine lv_iload_n hx hb (dk_at dkX11_lend_0 3 rfl) rfl (lv_at hl 1 rfl) ?_
  refine lv_iload_n hx hb (dk_at dkX11_lend_0 4 rfl) rfl (lv_at hl 2 rfl) ?_
  refine lv_iload_n hx hb (dk_at dkX11_lend_0 5 rfl) rfl (lv_at hl 3 rfl) ?_
  refine k_calli (As := [.int (iI x1), .int (iI x2), .int (iI x3)]) (rest := [.ref (q 0)]) ⟨hx, hb, hml, hown, hts⟩ hE (kc_X9_lendTo l dC dI cB cI cJ cZ cQ aL aS q _ t2 x1 x2 x3 hI ht2 hx1 hx2 hx3) (cwV 3 hts (goodVk wkq_11_29 wkq_11_30 wkq_11_31 wkq_0_6 wkq_9_18) rfl rfl rfl (by decide +kernel) ⟨Nat.le_of_ble_eq_true rfl, Nat.le_of_ble_eq_true rfl⟩) hK hDD hA0 hP hS t2 9 (wkT ht2) rfl rfl hl.1 (Nat.le_of_ble_eq_true rfl) (dk_at dkX11_lend_0 6 rfl) (fun z3 A4 H locs hw5 hP hS => ?_)
  have ghw5 : q_X9_lendTo t2 x1 x2 x3 A z3 A4 := hw5
  obtain ⟨_, hI, hf6, hw5⟩ := hw5
  refine k_calli (As := [.int (iI z3)]) (rest := []) ⟨hx, hb, hml, hown, hts⟩ hE (kc_X11_handingAnswer l dC dI cB cI cJ cZ cQ aL aS q _ z3 hI hw5) (cwV 1 hts (goodVk wkq_11_32 wkq_11_33 wkq_11_34 wkq_10_26 wkq_11_35) rfl rfl rfl (by decide +kernel) ⟨Nat.le_of_ble_eq_true rfl, Nat.le_of_ble_eq_true rfl⟩) hK hDD hA0 hP hS 0 11 (wkK) rfl rfl hl.1 (Nat.le_of_ble_eq_true rfl) (dk_at dkX11_lend_0 7 rfl) (fun z7 A8 H locs hw9 hP hS => ?_)
  have ghw9 : q_X11_handingAnswer z3 A4 z7 A8 := hw9
  obtain ⟨_, hI, hf10, hw9⟩ := hw9
  exact RET z7 _ _ _ _ _ ⟨(u_r_X11_lend ⟨t2, et2, ⟨z3, A4, ghw5, ⟨z7, A8, ghw9, ⟨rfl, rfl⟩⟩⟩⟩), hI, fk.trans (fk.trans (fk.rf) hf6 rfl rfl) hf10 rfl rfl, hw9⟩ hP hS (dk_at dkX11_lend_0 8 rfl)

abbrev tr_r_X11_take (x1 : Int) (x2 : Int) (A : St) (z : Int) (u : St) : Prop := (∃ t2 : Nat, t2 = 51 + 31 * ((A 0 9)).toNat ∧ (∃ z3 : Int, ∃ A4 : St, q_X9_takeUp t2 x1 x2 A z3 A4 ∧ (∃ z7 : Int, ∃ A8 : St, q_X11_handingAnswer z3 A4 z7 A8 ∧ (z = z7 ∧ u = A8))))
def r_X11_take (x1 : Int) (x2 : Int) (A : St) (z : Int) (u : St) : Prop := tr_r_X11_take x1 x2 A z u
theorem u_r_X11_take {x1 : Int} {x2 : Int} {A : St} {z : Int} {u : St} (h : tr_r_X11_take x1 x2 A z u) : r_X11_take x1 x2 A z u := h
def ws_kc_X11_take : List Cond := .code yX11_take cX11_take 3 (some .boolean) :: WY
set_option maxHeartbeats 4000000 in
set_option maxRecDepth 100000 in
theorem kc_X11_take (l : Launch) (dC : Nat → ClassId) (dI : Nat → Nat → Nat) (cB cI cJ cZ cQ : ClassId) (aL aS : Nat) (q : Nat → Nat) (A : St) (x1 x2 : Int) (hI : IK A) (hx1 : (-2147483648 : Int) ≤ x1 ∧ x1 ≤ 2147483647) (hx2 : (-2147483648 : Int) ≤ x2 ∧ x2 ≤ 2147483647) : KMi l yX11_take ws_kc_X11_take ({ frames := 6, cells := 0, slots := 0, locals := 135 } : Room) aL aS (dC, dI) (tyA cB cI cJ cZ cQ) (WK cB cI cJ cZ cQ q) A [.ref (q 0), .int (iI x1), .int (iI x2)] (fun z u => r_X11_take x1 x2 A z u ∧ IK u ∧ fk [34, 43, 50, 75, 106] [] A u ∧ (0 ≤ z ∧ z ≤ 1)) := by
  refine k_metz (cc := cX11_take) (maxL := 3) WK_adr (plainFor_of_name (by decide +kernel)) rfl (Nat.le_of_ble_eq_true rfl) (fun z u h => h.2.2.2) (fun p e s m below meth c Q AS ls hx hb hml hown hts hK hDD hA0 hE RET H locs hP hS hl => ?_)
  have hown : s.vm.findClass RX11 = some m.cls := hown
  have hl : lv_has ls 3 [(0, .ref (q 0)), (1, .int (iI x1)), (2, .int (iI x2))] := hl
  have hiX11 : ∀ w ∈ u_ws RX11 TX11 11, w ∈ ws_kc_X11_take := fun w h => List.mem_cons_of_mem _ (wy_layX11 w h)
  refine lv_aload_n hx hb (dk_at dkX11_take_0 0 rfl) rfl (lv_at hl 0 rfl) ?_
  refine lv_aload_n hx hb (dk_at dkX11_take_0 1 rfl) rfl (lv_at hl 0 rfl) ?_
  have r1 : (0 : Int) ≤ (A 0 9) ∧ (A 0 9) ≤ 1 := irK_9 hI
  obtain ⟨t2, et2⟩ : ∃ t : Nat, t = 51 + 31 * ((A 0 9)).toNat := ⟨_, rfl⟩
  have ht2 : isT t2 := by rw [et2]; exact isT.b r1
  refine va_get (D := (dC, dI)) (ci := 11) (v := .ref (q (51 + 31 * (A 0 9).toNat))) (C := RX11) (T := TX11) (N := 11) hx hb hts hiX11 hown hK hP 0 (wkK) rfl 9 (by decide) (hts _ (List.mem_cons_of_mem _ wkq_10_36)) (fun _ h9 => h9) rfl (dk_at dkX11_take_0 2 rfl) ?_
  refine tp_v (y := .ref (q t2)) (by rw [et2]) ?_
  refine lv_iload_n hx hb (dk_at dkX11_take_0 3 rfl) rfl (lv_at hl 1 rfl) ?_
  refine lv_iload_n hx hb (dk_at dkX11_take_0 4 rfl) rfl (lv_at hl 2 rfl) ?_
  refine k_calli (As := [.int (iI x1), .int (iI x2)]) (rest := [.ref (q 0)]) ⟨hx, hb, hml, hown, hts⟩ hE (kc_X9_takeUp l dC dI cB cI cJ cZ cQ aL aS q _ t2 x1 x2 hI ht2 hx1 hx2) (cwV 2 hts (goodVk wkq_11_37 wkq_11_38 wkq_11_39 wkq_0_6 wkq_9_19) rfl rfl rfl (by decide +kernel) ⟨Nat.le_of_ble_eq_true rfl, Nat.le_of_ble_eq_true rfl⟩) hK hDD hA0 hP hS t2 9 (wkT ht2) rfl rfl hl.1 (Nat.le_of_ble_eq_true rfl) (dk_at dkX11_take_0 5 rfl) (fun z3 A4 H locs hw5 hP hS => ?_)
  have ghw5 : q_X9_takeUp t2 x1 x2 A z3 A4 := hw5
  obtain ⟨_, hI, hf6, hw5⟩ := hw5
  refine k_calli (As := [.int (iI z3)]) (rest := []) ⟨hx, hb, hml, hown, hts⟩ hE (kc_X11_handingAnswer l dC dI cB cI cJ cZ cQ aL aS q _ z3 hI hw5) (cwV 1 hts (goodVk wkq_11_32 wkq_11_33 wkq_11_34 wkq_10_26 wkq_11_35) rfl rfl rfl (by decide +kernel) ⟨Nat.le_of_ble_eq_true rfl, Nat.le_of_ble_eq_true rfl⟩) hK hDD hA0 hP hS 0 11 (wkK) rfl rfl hl.1 (Nat.le_of_ble_eq_true rfl) (dk_at dkX11_take_0 6 rfl) (fun z7 A8 H locs hw9 hP hS => ?_)
  have ghw9 : q_X11_handingAnswer z3 A4 z7 A8 := hw9
  obtain ⟨_, hI, hf10, hw9⟩ := hw9
  exact RET z7 _ _ _ _ _ ⟨(u_r_X11_take ⟨t2, et2, ⟨z3, A4, ghw5, ⟨z7, A8, ghw9, ⟨rfl, rfl⟩⟩⟩⟩), hI, fk.trans (fk.trans (fk.rf) hf6 rfl rfl) hf10 rfl rfl, hw9⟩ hP hS (dk_at dkX11_take_0 7 rfl)

abbrev tr_r_X11_lay (x1 : Int) (x2 : Int) (x3 : Int) (A : St) (z : Int) (u : St) : Prop := (∃ t2 : Nat, t2 = 51 + 31 * ((A 0 9)).toNat ∧ (∃ z3 : Int, ∃ A4 : St, q_X9_layDown t2 x1 x2 x3 A z3 A4 ∧ (∃ z7 : Int, ∃ A8 : St, q_X11_handingAnswer z3 A4 z7 A8 ∧ (z = z7 ∧ u = A8))))
def r_X11_lay (x1 : Int) (x2 : Int) (x3 : Int) (A : St) (z : Int) (u : St) : Prop := tr_r_X11_lay x1 x2 x3 A z u
theorem u_r_X11_lay {x1 : Int} {x2 : Int} {x3 : Int} {A : St} {z : Int} {u : St} (h : tr_r_X11_lay x1 x2 x3 A z u) : r_X11_lay x1 x2 x3 A z u := h
def ws_kc_X11_lay : List Cond := .code yX11_lay cX11_lay 4 (some .boolean) :: WY
set_option maxHeartbeats 4000000 in
set_option maxRecDepth 100000 in
theorem kc_X11_lay (l : Launch) (dC : Nat → ClassId) (dI : Nat → Nat → Nat) (cB cI cJ cZ cQ : ClassId) (aL aS : Nat) (q : Nat → Nat) (A : St) (x1 x2 x3 : Int) (hI : IK A) (hx1 : (-2147483648 : Int) ≤ x1 ∧ x1 ≤ 2147483647) (hx2 : (-2147483648 : Int) ≤ x2 ∧ x2 ≤ 2147483647) (hx3 : (-2147483648 : Int) ≤ x3 ∧ x3 ≤ 2147483647) : KMi l yX11_lay ws_kc_X11_lay ({ frames := 6, cells := 0, slots := 0, locals := 135 } : Room) aL aS (dC, dI) (tyA cB cI cJ cZ cQ) (WK cB cI cJ cZ cQ q) A [.ref (q 0), .int (iI x1), .int (iI x2), .int (iI x3)] (fun z u => r_X11_lay x1 x2 x3 A z u ∧ IK u ∧ fk [34, 43, 50, 75, 106] [] A u ∧ (0 ≤ z ∧ z ≤ 1)) := by
  refine k_metz (cc := cX11_lay) (maxL := 4) WK_adr (plainFor_of_name (by decide +kernel)) rfl (Nat.le_of_ble_eq_true rfl) (fun z u h => h.2.2.2) (fun p e s m below meth c Q AS ls hx hb hml hown hts hK hDD hA0 hE RET H locs hP hS hl => ?_)
  have hown : s.vm.findClass RX11 = some m.cls := hown
  have hl : lv_has ls 4 [(0, .ref (q 0)), (1, .int (iI x1)), (2, .int (iI x2)), (3, .int (iI x3))] := hl
  have hiX11 : ∀ w ∈ u_ws RX11 TX11 11, w ∈ ws_kc_X11_lay := fun w h => List.mem_cons_of_mem _ (wy_layX11 w h)
  refine lv_aload_n hx hb (dk_at dkX11_lay_0 0 rfl) rfl (lv_at hl 0 rfl) ?_
  refine lv_aload_n hx hb (dk_at dkX11_lay_0 1 rfl) rfl (lv_at hl 0 rfl) ?_
  have r1 : (0 : Int) ≤ (A 0 9) ∧ (A 0 9) ≤ 1 := irK_9 hI
  obtain ⟨t2, et2⟩ : ∃ t : Nat, t = 51 + 31 * ((A 0 9)).toNat := ⟨_, rfl⟩
  have ht2 : isT t2 := by rw [et2]; exact isT.b r1
  refine va_get (D := (dC, dI)) (ci := 11) (v := .ref (q (51 + 31 * (A 0 9).toNat))) (C := RX11) (T := TX11) (N := 11) hx hb hts hiX11 hown hK hP 0 (wkK) rfl 9 (by decide) (hts _ (List.mem_cons_of_mem _ wkq_10_36)) (fun _ h9 => h9) rfl (dk_at dkX11_lay_0 2 rfl) ?_
  refine tp_v (y := .ref (q t2)) (by rw [et2]) ?_
  refine lv_iload_n hx hb (dk_at dkX11_lay_0 3 rfl) rfl (lv_at hl 1 rfl) ?_
  refine lv_iload_n hx hb (dk_at dkX11_lay_0 4 rfl) rfl (lv_at hl 2 rfl) ?_
  refine lv_iload_n hx hb (dk_at dkX11_lay_0 5 rfl) rfl (lv_at hl 3 rfl) ?_
  refine k_calli (As := [.int (iI x1), .int (iI x2), .int (iI x3)]) (rest := [.ref (q 0)]) ⟨hx, hb, hml, hown, hts⟩ hE (kc_X9_layDown l dC dI cB cI cJ cZ cQ aL aS q _ t2 x1 x2 x3 hI ht2 hx1 hx2 hx3) (cwV 3 hts (goodVk wkq_11_41 wkq_11_42 wkq_11_43 wkq_0_6 wkq_9_27) rfl rfl rfl (by decide +kernel) ⟨Nat.le_of_ble_eq_true rfl, Nat.le_of_ble_eq_true rfl⟩) hK hDD hA0 hP hS t2 9 (wkT ht2) rfl rfl hl.1 (Nat.le_of_ble_eq_true rfl) (dk_at dkX11_lay_0 6 rfl) (fun z3 A4 H locs hw5 hP hS => ?_)
  have ghw5 : q_X9_layDown t2 x1 x2 x3 A z3 A4 := hw5
  obtain ⟨_, hI, hf6, hw5⟩ := hw5
  refine k_calli (As := [.int (iI z3)]) (rest := []) ⟨hx, hb, hml, hown, hts⟩ hE (kc_X11_handingAnswer l dC dI cB cI cJ cZ cQ aL aS q _ z3 hI hw5) (cwV 1 hts (goodVk wkq_11_32 wkq_11_33 wkq_11_34 wkq_10_26 wkq_11_35) rfl rfl rfl (by decide +kernel) ⟨Nat.le_of_ble_eq_true rfl, Nat.le_of_ble_eq_true rfl⟩) hK hDD hA0 hP hS 0 11 (wkK) rfl rfl hl.1 (Nat.le_of_ble_eq_true rfl) (dk_at dkX11_lay_0 7 rfl) (fun z7 A8 H locs hw9 hP hS => ?_)
  have ghw9 : q_X11_handingAnswer z3 A4 z7 A8 := hw9
  obtain ⟨_, hI, hf10, hw9⟩ := hw9
  exact RET z7 _ _ _ _ _ ⟨(u_r_X11_lay ⟨t2, et2, ⟨z3, A4, ghw5, ⟨z7, A8, ghw9, ⟨rfl, rfl⟩⟩⟩⟩), hI, fk.trans (fk.trans (fk.rf) hf6 rfl rfl) hf10 rfl rfl, hw9⟩ hP hS (dk_at dkX11_lay_0 8 rfl)

abbrev tr_r_X11_snap (x1 : Int) (A : St) (z : Int) (u : St) : Prop := (∃ t2 : Nat, t2 = 51 + 31 * ((A 0 9)).toNat ∧ (∃ z3 : Int, q_X9_isThere_1_2 t2 x1 A z3 ∧ (((z3 = 0) ∧ (∃ z7 : Int, ∃ A8 : St, q_X11_refused 3 A z7 A8 ∧ (z = z7 ∧ u = A8))) ∨ ((¬ z3 = 0) ∧ (∃ z11 : Int, z11 = A ((t2 + 22) + 2) (x1).toNat ∧ (((¬ z11 = 40) ∧ (∃ A13 : St, A13 = stA A ((t2 + 22) + 2) (x1).toNat 40 ∧ (∃ z16 : Int, z16 = A13 ((t2 + 22) + 3) (x1).toNat ∧ (z = z16 ∧ u = A13)))) ∨ ((z11 = 40) ∧ (∃ z17 : Int, ∃ A18 : St, q_X11_refused 3 A z17 A18 ∧ (z = z17 ∧ u = A18)))))))))
def r_X11_snap (x1 : Int) (A : St) (z : Int) (u : St) : Prop := tr_r_X11_snap x1 A z u
theorem u_r_X11_snap {x1 : Int} {A : St} {z : Int} {u : St} (h : tr_r_X11_snap x1 A z u) : r_X11_snap x1 A z u := h
def ws_kc_X11_snap : List Cond := .code yX11_snap cX11_snap 2 (some .int) :: WY
set_option maxHeartbeats 4000000 in
set_option maxRecDepth 100000 in
theorem kc_X11_snap (l : Launch) (dC : Nat → ClassId) (dI : Nat → Nat → Nat) (cB cI cJ cZ cQ : ClassId) (aL aS : Nat) (q : Nat → Nat) (A : St) (x1 : Int) (hI : IK A) (hx1 : (-2147483648 : Int) ≤ x1 ∧ x1 ≤ 2147483647) : KMi l yX11_snap ws_kc_X11_snap ({ frames := 1, cells := 0, slots := 0, locals := 22 } : Room) aL aS (dC, dI) (tyA cB cI cJ cZ cQ) (WK cB cI cJ cZ cQ q) A [.ref (q 0), .int (iI x1)] (fun z u => r_X11_snap x1 A z u ∧ IK u ∧ fk [34, 43, 50, 75, 106] [] A u ∧ (-2147483648 ≤ z ∧ z ≤ 2147483647)) := by
  refine k_meti (cc := cX11_snap) (maxL := 2) WK_adr (plainFor_of_name (by decide +kernel)) rfl (Nat.le_of_ble_eq_true rfl) (fun p e s m below meth c Q AS ls hx hb hml hown hts hK hDD hA0 hE RET H locs hP hS hl => ?_)
  have hown : s.vm.findClass RX11 = some m.cls := hown
  have hl : lv_has ls 2 [(0, .ref (q 0)), (1, .int (iI x1))] := hl
  have hiX11 : ∀ w ∈ u_ws RX11 TX11 11, w ∈ ws_kc_X11_snap := fun w h => List.mem_cons_of_mem _ (wy_layX11 w h)
  have hiX9 : ∀ w ∈ u_ws RX9 TX9 16, w ∈ ws_kc_X11_snap := fun w h => List.mem_cons_of_mem _ (wy_layX9 w h)
  have hiX6 : ∀ w ∈ u_ws RX6 TX6 4, w ∈ ws_kc_X11_snap := fun w h => List.mem_cons_of_mem _ (wy_layX6 w h)
  refine lv_aload_n hx hb (dk_at dkX11_snap_0 0 rfl) rfl (lv_at hl 0 rfl) ?_
  have r1 : (0 : Int) ≤ (A 0 9) ∧ (A 0 9) ≤ 1 := irK_9 hI
  obtain ⟨t2, et2⟩ : ∃ t : Nat, t = 51 + 31 * ((A 0 9)).toNat := ⟨_, rfl⟩
  have ht2 : isT t2 := by rw [et2]; exact isT.b r1
  refine va_get (D := (dC, dI)) (ci := 11) (v := .ref (q (51 + 31 * (A 0 9).toNat))) (C := RX11) (T := TX11) (N := 11) hx hb hts hiX11 hown hK hP 0 (wkK) rfl 9 (by decide) (hts _ (List.mem_cons_of_mem _ wkq_10_36)) (fun _ h9 => h9) rfl (dk_at dkX11_snap_0 1 rfl) ?_
  refine tp_v (y := .ref (q t2)) (by rw [et2]) ?_
  refine lv_iconst (v := iI 2) hx hb (dk_at dkX11_snap_0 2 rfl) (by decide +kernel) ?_
  refine lv_iload_n hx hb (dk_at dkX11_snap_0 3 rfl) rfl (lv_at hl 1 rfl) ?_
  refine k_calli (As := [.int (iI 2), .int (iI x1)]) (rest := []) ⟨hx, hb, hml, hown, hts⟩ hE (kc_X9_isThere_1_2 l dC dI cB cI cJ cZ cQ aL aS q _ t2 x1 hI ht2 hx1) (cwV 2 hts (goodVk wkq_10_54 wkq_0_22 wkq_0_23 wkq_0_6 wkq_0_24) rfl rfl rfl (by decide +kernel) ⟨Nat.le_of_ble_eq_true rfl, Nat.le_of_ble_eq_true rfl⟩) hK hDD hA0 hP hS t2 9 (wkT ht2) rfl rfl hl.1 (Nat.le_of_ble_eq_true rfl) (dk_at dkX11_snap_0 4 rfl) (fun z3 A4 H locs hw5 hP hS => ?_)
  obtain ⟨rfl, hw5⟩ := hw5
  have ghw5 : q_X9_isThere_1_2 t2 x1 A z3 := hw5
  have hw5 := hw5.2
  have rz3 : 0 ≤ z3 ∧ z3 ≤ 1 := hw5.1
  have hw5 := hw5.2
  refine lv_if_eq (tgt := 29) hx hb (dk_at dkX11_snap_0 5 rfl) (by decide) (fun c6 => ?_) (fun c6 => ?_)
  · have c6 : z3 = 0 := (i_eq0 (rb rz3 (by decide) (by decide))).mp c6
    clear hw5
    refine lv_aload_n hx hb (dk_at dkX11_snap_0 14 rfl) rfl (lv_at hl 0 rfl) ?_
    refine lv_iconst (v := iI 3) hx hb (dk_at dkX11_snap_0 15 rfl) (by decide +kernel) ?_
    refine k_calli (As := [.int (iI 3)]) (rest := []) ⟨hx, hb, hml, hown, hts⟩ hE (kc_X11_refused l dC dI cB cI cJ cZ cQ aL aS q _ 3 hI ⟨by decide, by decide⟩) (cwV 1 hts (goodVk wkq_10_23 wkq_10_24 wkq_10_25 wkq_10_26 wkq_10_27) rfl rfl rfl (by decide +kernel) ⟨Nat.le_of_ble_eq_true rfl, Nat.le_of_ble_eq_true rfl⟩) hK hDD hA0 hP hS 0 11 (wkK) rfl rfl hl.1 (Nat.le_of_ble_eq_true rfl) (dk_at dkX11_snap_1 0 rfl) (fun z7 A8 H locs hw9 hP hS => ?_)
    have ghw9 : q_X11_refused 3 A z7 A8 := hw9
    obtain ⟨_, hI, hf10, hw9⟩ := hw9
    exact RET z7 _ _ _ _ _ ⟨(u_r_X11_snap ⟨t2, et2, ⟨z3, ghw5, (Or.inl ⟨c6, ⟨z7, A8, ghw9, ⟨rfl, rfl⟩⟩⟩)⟩⟩), hI, fk.trans (fk.rf) hf10 rfl rfl, (by omega)⟩ hP hS (dk_at dkX11_snap_1 1 rfl)
  · have c6 : ¬ z3 = 0 := mt (i_eq0 (rb rz3 (by decide) (by decide))).mpr c6
    have hw5b := hw5 (by omega)
    clear hw5
    refine lv_aload_n hx hb (dk_at dkX11_snap_0 6 rfl) rfl (lv_at hl 0 rfl) ?_
    refine va_get (D := (dC, dI)) (ci := 11) (v := .ref (q (51 + 31 * (A 0 9).toNat))) (C := RX11) (T := TX11) (N := 11) hx hb hts hiX11 hown hK hP 0 (wkK) rfl 9 (by decide) (hts _ (List.mem_cons_of_mem _ wkq_10_36)) (fun _ h9 => h9) rfl (dk_at dkX11_snap_0 7 rfl) ?_
    refine tp_v (y := .ref (q t2)) (by rw [et2]) ?_
    refine va_get (D := (dC, dI)) (ci := 9) (v := .ref (q (t2 + 22))) (C := RX9) (T := TX9) (N := 16) hx hb hts hiX9 hown hK hP t2 (wkT ht2) rfl 14 (by decide) (hts _ (List.mem_cons_of_mem _ wkq_11_5)) (fun _ h9 => h9) rfl (dk_at dkX11_snap_0 8 rfl) ?_
    refine va_get (D := (dC, dI)) (ci := 6) (v := .ref (q ((t2 + 22) + 2))) (C := RX6) (T := TX6) (N := 4) hx hb hts hiX6 hown hK hP (t2 + 22) (wkS ht2.s) rfl 1 (by decide) (hts _ (List.mem_cons_of_mem _ wkq_11_6)) (fun _ h9 => h9) rfl (dk_at dkX11_snap_0 9 rfl) ?_
    refine lv_iload_n hx hb (dk_at dkX11_snap_0 10 rfl) rfl (lv_at hl 1 rfl) ?_
    refine x_iald (Wf := WK cB cI cJ cZ cQ q) hx hb hK hP ((t2 + 22) + 2) 1 (wkSw ht2.s) rfl (by omega) (by decide) (dk_at dkX11_snap_0 11 rfl) (fun z11 hz11 => ?_)
    have rz11 : (-2147483648 : Int) ≤ z11 ∧ z11 ≤ 2147483647 := by rw [hz11]; exact irSw ht2.s hI
    have gz11 := Hd.mk hz11
    refine lv_bipush (v := iI 40) hx hb (dk_at dkX11_snap_0 12 rfl) (by decide +kernel) ?_
    refine lv_icmp_ne (tgt := 35) hx hb (dk_at dkX11_snap_0 13 rfl) (by decide) (fun c12 => ?_) (fun c12 => ?_)
    · have c12 : ¬ z11 = 40 := mt (i_eq rz11 ⟨by decide, by decide⟩).mpr c12
      refine lv_aload_n hx hb (dk_at dkX11_snap_1 2 rfl) rfl (lv_at hl 0 rfl) ?_
      refine va_get (D := (dC, dI)) (ci := 11) (v := .ref (q (51 + 31 * (A 0 9).toNat))) (C := RX11) (T := TX11) (N := 11) hx hb hts hiX11 hown hK hP 0 (wkK) rfl 9 (by decide) (hts _ (List.mem_cons_of_mem _ wkq_10_36)) (fun _ h9 => h9) rfl (dk_at dkX11_snap_1 3 rfl) ?_
      refine tp_v (y := .ref (q t2)) (by rw [et2]) ?_
      refine va_get (D := (dC, dI)) (ci := 9) (v := .ref (q (t2 + 22))) (C := RX9) (T := TX9) (N := 16) hx hb hts hiX9 hown hK hP t2 (wkT ht2) rfl 14 (by decide) (hts _ (List.mem_cons_of_mem _ wkq_11_5)) (fun _ h9 => h9) rfl (dk_at dkX11_snap_1 4 rfl) ?_
      refine va_get (D := (dC, dI)) (ci := 6) (v := .ref (q ((t2 + 22) + 2))) (C := RX6) (T := TX6) (N := 4) hx hb hts hiX6 hown hK hP (t2 + 22) (wkS ht2.s) rfl 1 (by decide) (hts _ (List.mem_cons_of_mem _ wkq_11_6)) (fun _ h9 => h9) rfl (dk_at dkX11_snap_1 5 rfl) ?_
      refine lv_iload_n hx hb (dk_at dkX11_snap_1 6 rfl) rfl (lv_at hl 1 rfl) ?_
      refine lv_bipush (v := iI 40) hx hb (dk_at dkX11_snap_1 7 rfl) (by decide +kernel) ?_
      refine k_iast (Wf := WK cB cI cJ cZ cQ q) hx hb hK hP hDD hS ((t2 + 22) + 2) 1 (wkSw ht2.s) rfl (by omega) (by decide) (dk_at dkX11_snap_1 8 rfl) (wsSw ht2.s) (fun H locs A13 hA13 hP hS => ?_)
      have hI := isSw ht2.s hA13 hI (show (-2147483648 : Int) ≤ 40 ∧ 40 ≤ 2147483647 from ⟨by decide, by decide⟩)
      refine lv_aload_n hx hb (dk_at dkX11_snap_1 9 rfl) rfl (lv_at hl 0 rfl) ?_
      have e14 : A13 0 9 = (A 0 9) := (rd_ne hA13 (by rcases ht2.s with h | h | h | h <;> omega) 9)
      refine va_get (D := (dC, dI)) (ci := 11) (v := .ref (q (51 + 31 * (A13 0 9).toNat))) (C := RX11) (T := TX11) (N := 11) hx hb hts hiX11 hown hK hP 0 (wkK) rfl 9 (by decide) (hts _ (List.mem_cons_of_mem _ wkq_10_36)) (fun _ h9 => h9) rfl (dk_at dkX11_snap_1 10 rfl) ?_
      refine tp_v (y := .ref (q t2)) (by rw [et2, e14]) ?_
      refine va_get (D := (dC, dI)) (ci := 9) (v := .ref (q (t2 + 22))) (C := RX9) (T := TX9) (N := 16) hx hb hts hiX9 hown hK hP t2 (wkT ht2) rfl 14 (by decide) (hts _ (List.mem_cons_of_mem _ wkq_11_5)) (fun _ h9 => h9) rfl (dk_at dkX11_snap_1 11 rfl) ?_
      refine va_get (D := (dC, dI)) (ci := 6) (v := .ref (q ((t2 + 22) + 3))) (C := RX6) (T := TX6) (N := 4) hx hb hts hiX6 hown hK hP (t2 + 22) (wkS ht2.s) rfl 2 (by decide) (hts _ (List.mem_cons_of_mem _ wkq_11_7)) (fun _ h9 => h9) rfl (dk_at dkX11_snap_1 12 rfl) ?_
      refine lv_iload_n hx hb (dk_at dkX11_snap_1 13 rfl) rfl (lv_at hl 1 rfl) ?_
      have a15 : ∀ k, A13 ((t2 + 22) + 3) k = A ((t2 + 22) + 3) k := fun k => rd_ne hA13 (by omega) k
      refine x_iald (Wf := WK cB cI cJ cZ cQ q) hx hb hK hP ((t2 + 22) + 3) 1 (wkSz ht2.s) rfl (by omega) (by decide) (dk_at dkX11_snap_1 14 rfl) (fun z16 hz16 => ?_)
      have rz16 : (0 : Int) ≤ z16 ∧ z16 ≤ 6 := by rw [hz16]; exact irSz ht2.s hI
      have gz16 := Hd.mk hz16
      have hz16 : z16 = A ((t2 + 22) + 3) (x1).toNat := hz16.trans (a15 _)
      exact RET z16 _ _ _ _ _ ⟨(u_r_X11_snap ⟨t2, et2, ⟨z3, ghw5, (Or.inr ⟨c6, ⟨z11, gz11.out, (Or.inl ⟨c12, ⟨A13, hA13, ⟨z16, gz16.out, ⟨rfl, rfl⟩⟩⟩⟩)⟩⟩)⟩⟩), hI, fk.da (fk.rf) hA13 (isS.b2 (o := fun b => List.contains [34, 43, 50, 75, 106] (b + 2)) ht2.s rfl rfl rfl rfl), (rb rz16 (by decide) (by decide))⟩ hP hS (dk_at dkX11_snap_1 15 rfl)
    · have c12 : z11 = 40 := (i_eq rz11 ⟨by decide, by decide⟩).mp c12
      refine lv_aload_n hx hb (dk_at dkX11_snap_0 14 rfl) rfl (lv_at hl 0 rfl) ?_
      refine lv_iconst (v := iI 3) hx hb (dk_at dkX11_snap_0 15 rfl) (by decide +kernel) ?_
      refine k_calli (As := [.int (iI 3)]) (rest := []) ⟨hx, hb, hml, hown, hts⟩ hE (kc_X11_refused l dC dI cB cI cJ cZ cQ aL aS q _ 3 hI ⟨by decide, by decide⟩) (cwV 1 hts (goodVk wkq_10_23 wkq_10_24 wkq_10_25 wkq_10_26 wkq_10_27) rfl rfl rfl (by decide +kernel) ⟨Nat.le_of_ble_eq_true rfl, Nat.le_of_ble_eq_true rfl⟩) hK hDD hA0 hP hS 0 11 (wkK) rfl rfl hl.1 (Nat.le_of_ble_eq_true rfl) (dk_at dkX11_snap_1 0 rfl) (fun z17 A18 H locs hw19 hP hS => ?_)
      have ghw19 : q_X11_refused 3 A z17 A18 := hw19
      obtain ⟨_, hI, hf20, hw19⟩ := hw19
      exact RET z17 _ _ _ _ _ ⟨(u_r_X11_snap ⟨t2, et2, ⟨z3, ghw5, (Or.inr ⟨c6, ⟨z11, gz11.out, (Or.inr ⟨c12, ⟨z17, A18, ghw19, ⟨rfl, rfl⟩⟩⟩)⟩⟩)⟩⟩), hI, fk.trans (fk.rf) hf20 rfl rfl, (by omega)⟩ hP hS (dk_at dkX11_snap_1 1 rfl)

abbrev tr_d_X11_firstImpossible_1 (A : St) (z : Int) (u : St) (K1 : Int → Int → St → Prop) (z1 : Int) (z2 : Int) (A4 : St) : Prop := ((IK A4) ∧ ((0 ≤ z1 ∧ z1 ≤ 2147483647) ∧ ((-2147483648 ≤ z2 ∧ z2 ≤ 2147483647) ∧ ((((A 1 1) ≤ z1) ∧ (z = (-1) ∧ u = A4)) ∨ ((¬ (A 1 1) ≤ z1) ∧ (((z1 + 3 ≤ (A 1 1)) ∧ (∃ t19 : Nat, t19 = 51 + 31 * ((A 0 9)).toNat ∧ (∃ z20 : Int, q_X7_at z1 A4 z20 ∧ (∃ z23 : Int, q_X7_at (z1 + 1) A4 z23 ∧ (∃ z26 : Int, q_X7_at (z1 + 2) A4 z26 ∧ (∃ z29 : Int, ∃ A30 : St, q_X9_toldAct t19 z20 z23 z26 A4 z29 A30 ∧ (((¬ z29 = (-1)) ∧ (∃ z34 : Int, z34 = oWrap (z2 + 1) ∧ (K1 (z1 + 3) z34 A30))) ∨ ((z29 = (-1)) ∧ (z = z2 ∧ u = A30))))))))) ∨ ((¬ z1 + 3 ≤ (A 1 1)) ∧ (z = z2 ∧ u = A4))))))))
def d_X11_firstImpossible_1 (A : St) (z : Int) (u : St) : Nat → Int → Int → St → Prop
  | 0, _, _, _ => False
  | nn9 + 1, z1, z2, A4 => tr_d_X11_firstImpossible_1 A z u (fun z1 z2 A4 => d_X11_firstImpossible_1 A z u nn9 z1 z2 A4) z1 z2 A4
theorem u_d_X11_firstImpossible_1 {A : St} {z : Int} {u : St} {nn9 : Nat} {z1 : Int} {z2 : Int} {A4 : St} (h : tr_d_X11_firstImpossible_1 A z u (fun z1 z2 A4 => d_X11_firstImpossible_1 A z u nn9 z1 z2 A4) z1 z2 A4) : d_X11_firstImpossible_1 A z u (nn9 + 1) z1 z2 A4 := h
abbrev tr_r_X11_firstImpossible (A : St) (z : Int) (u : St) : Prop := (∃ nn9 : Nat, d_X11_firstImpossible_1 A z u nn9 0 0 A)
def r_X11_firstImpossible (A : St) (z : Int) (u : St) : Prop := tr_r_X11_firstImpossible A z u
theorem u_r_X11_firstImpossible {A : St} {z : Int} {u : St} (h : tr_r_X11_firstImpossible A z u) : r_X11_firstImpossible A z u := h
def q_X11_firstImpossible (A : St) (z : Int) (u : St) : Prop := r_X11_firstImpossible A z u ∧ IK u ∧ fk [33, 35, 37, 38, 39, 40, 42, 44, 46, 47, 48, 49, 72, 74, 76, 78, 79, 80, 81, 103, 105, 107, 109, 110, 111, 112] [] A u ∧ (-2147483648 ≤ z ∧ z ≤ 2147483647)
def ws_kc_X11_firstImpossible : List Cond := .code yX11_firstImpossible cX11_firstImpossible 3 (some .int) :: WY
set_option maxHeartbeats 4000000 in
set_option maxRecDepth 100000 in
theorem kc_X11_firstImpossible (l : Launch) (dC : Nat → ClassId) (dI : Nat → Nat → Nat) (cB cI cJ cZ cQ : ClassId) (aL aS : Nat) (q : Nat → Nat) (A : St) (hI : IK A) : KMi l yX11_firstImpossible ws_kc_X11_firstImpossible ({ frames := 6, cells := 0, slots := 0, locals := 146 } : Room) aL aS (dC, dI) (tyA cB cI cJ cZ cQ) (WK cB cI cJ cZ cQ q) A [.ref (q 0)] (fun z u => r_X11_firstImpossible A z u ∧ IK u ∧ fk [33, 35, 37, 38, 39, 40, 42, 44, 46, 47, 48, 49, 72, 74, 76, 78, 79, 80, 81, 103, 105, 107, 109, 110, 111, 112] [] A u ∧ (-2147483648 ≤ z ∧ z ≤ 2147483647)) := by
  refine k_meti (cc := cX11_firstImpossible) (maxL := 3) WK_adr (plainFor_of_name (by decide +kernel)) rfl (Nat.le_of_ble_eq_true rfl) (fun p e s m below meth c Q AS ls hx hb hml hown hts hK hDD hA0 hE RET H locs hP hS hl => ?_)
  have hown : s.vm.findClass RX11 = some m.cls := hown
  have hl : lv_has ls 3 [(0, .ref (q 0))] := hl
  have hiX11 : ∀ w ∈ u_ws RX11 TX11 11, w ∈ ws_kc_X11_firstImpossible := fun w h => List.mem_cons_of_mem _ (wy_layX11 w h)
  have hiX7 : ∀ w ∈ u_ws RX7 TX7 2, w ∈ ws_kc_X11_firstImpossible := fun w h => List.mem_cons_of_mem _ (wy_layX7 w h)
  refine lv_iconst (v := iI 0) hx hb (dk_at dkX11_firstImpossible_0 0 rfl) (by decide +kernel) ?_
  refine lv_istore_n (lv' := [(1, .int (iI 0)), (0, .ref (q 0))]) hx hb (dk_at dkX11_firstImpossible_0 1 rfl) rfl hl (by decide) rfl (fun ls hl => ?_)
  refine lv_iconst (v := iI 0) hx hb (dk_at dkX11_firstImpossible_0 2 rfl) (by decide +kernel) ?_
  refine lv_istore_n (lv' := [(2, .int (iI 0)), (1, .int (iI 0)), (0, .ref (q 0))]) hx hb (dk_at dkX11_firstImpossible_0 3 rfl) rfl hl (by decide) rfl (fun ls hl => ?_)
  have L4_5 : ∀ (n11 : Nat) (z1 z2 : Int) (A4 : St) (H : Heap) (locs : List Loc) (ls : Array Slot), (0 ≤ z1 ∧ z1 ≤ 2147483647) → (-2147483648 ≤ z2 ∧ z2 ≤ 2147483647) → (∀ (z : Int) (u : St), (∃ mm1 : Nat, (d_X11_firstImpossible_1 A z u mm1 z1 z2 A4)) → r_X11_firstImpossible A z u) → ((1601 - z1).toNat = n11) → IK A4 → fk [33, 35, 37, 38, 39, 40, 42, 44, 46, 47, 48, 49, 72, 74, 76, 78, 79, 80, 81, 103, 105, 107, 109, 110, 111, 112] [] A A4 → va_P (dC, dI) vwCl (WK cB cI cJ cZ cQ q A4) H → va_S AS s.heap H locs → lv_has ls 3 [(2, .int (iI z1)), (1, .int (iI z2)), (0, .ref (q 0))] → W p l e (headSpec ws_kc_X11_firstImpossible ({ frames := 6, cells := 0, slots := 0, locals := 146 } : Room)).room s m [.ref (q 0)].toArray below meth c H locs 0 0 Q (F0 m 4 ls []) := by
    intro n11
    induction n11 using Nat.strongRecOn with
    | ind n11 ih6 =>
      intro z1 z2 A4 H locs ls f7 f8 hk1 hn11 hI hj3 hP hS hl
      have gI12 : Hd (IK A4) := Hd.mk hI
      refine lv_iload_n hx hb (dk_at dkX11_firstImpossible_0 4 rfl) rfl (lv_at hl 0 rfl) ?_
      refine lv_aload_n hx hb (dk_at dkX11_firstImpossible_0 5 rfl) rfl (lv_at hl 2 rfl) ?_
      refine va_get (D := (dC, dI)) (ci := 11) (v := .ref (q 1)) (C := RX11) (T := TX11) (N := 11) hx hb hts hiX11 hown hK hP 0 (wkK) rfl 0 (by decide) (hts _ (List.mem_cons_of_mem _ wkq_10_18)) (fun _ h9 => h9) rfl (dk_at dkX11_firstImpossible_0 6 rfl) ?_
      have e13 : A4 1 1 = (A 1 1) := (hj3 1 1 rfl rfl)
      have r14 : (0 : Int) ≤ (A 1 1) ∧ (A 1 1) ≤ 1600 := by rw [← e13]; exact irTP_1 hI
      refine va_get (D := (dC, dI)) (ci := 7) (v := .int (iI (A4 1 1))) (C := RX7) (T := TX7) (N := 2) hx hb hts hiX7 hown hK hP 1 (wkTP) rfl 1 (by decide) (hts _ (List.mem_cons_of_mem _ wkq_10_19)) (fun _ h9 => h9) rfl (dk_at dkX11_firstImpossible_0 7 rfl) ?_
      refine tp_i (y := iI (A 1 1)) (congrArg iI e13) ?_
      refine lv_icmp_ge (tgt := 80) hx hb (dk_at dkX11_firstImpossible_0 8 rfl) (by decide) (fun c15 => ?_) (fun c15 => ?_)
      · have c15 : (A 1 1) ≤ z1 := (i_le (rb r14 (by decide) (by decide)) (rb f7 (by decide) (by decide))).mp c15
        refine lv_iconst (v := iI (-1)) hx hb (dk_at dkX11_firstImpossible_2 12 rfl) (by decide +kernel) ?_
        exact RET (-1) _ _ _ _ _ ⟨hk1 _ _ ⟨0 + 1, (u_d_X11_firstImpossible_1 ⟨gI12.out, ⟨f7, ⟨f8, (Or.inl ⟨c15, ⟨rfl, rfl⟩⟩)⟩⟩⟩)⟩, hI, fk.trans (fk.rf) hj3 rfl rfl, ⟨by decide, by decide⟩⟩ hP hS (dk_at dkX11_firstImpossible_2 13 rfl)
      · have c15 : ¬ (A 1 1) ≤ z1 := mt (i_le (rb r14 (by decide) (by decide)) (rb f7 (by decide) (by decide))).mpr c15
        refine lv_iload_n hx hb (dk_at dkX11_firstImpossible_0 9 rfl) rfl (lv_at hl 0 rfl) ?_
        refine lv_iconst (v := iI 3) hx hb (dk_at dkX11_firstImpossible_0 10 rfl) (by decide +kernel) ?_
        refine x_addv (v := z1 + 3) hx hb (dk_at dkX11_firstImpossible_0 11 rfl) (by omega) ?_
        refine lv_aload_n hx hb (dk_at dkX11_firstImpossible_0 12 rfl) rfl (lv_at hl 2 rfl) ?_
        refine va_get (D := (dC, dI)) (ci := 11) (v := .ref (q 1)) (C := RX11) (T := TX11) (N := 11) hx hb hts hiX11 hown hK hP 0 (wkK) rfl 0 (by decide) (hts _ (List.mem_cons_of_mem _ wkq_10_18)) (fun _ h9 => h9) rfl (dk_at dkX11_firstImpossible_0 13 rfl) ?_
        refine va_get (D := (dC, dI)) (ci := 7) (v := .int (iI (A4 1 1))) (C := RX7) (T := TX7) (N := 2) hx hb hts hiX7 hown hK hP 1 (wkTP) rfl 1 (by decide) (hts _ (List.mem_cons_of_mem _ wkq_10_19)) (fun _ h9 => h9) rfl (dk_at dkX11_firstImpossible_0 14 rfl) ?_
        refine tp_i (y := iI (A 1 1)) (congrArg iI e13) ?_
        refine lv_icmp_le (tgt := 30) hx hb (dk_at dkX11_firstImpossible_0 15 rfl) (by decide) (fun c16 => ?_) (fun c16 => ?_)
        · have c16 : z1 + 3 ≤ (A 1 1) := (i_le (by omega) (rb r14 (by decide) (by decide))).mp c16
          refine lv_aload_n hx hb (dk_at dkX11_firstImpossible_1 2 rfl) rfl (lv_at hl 2 rfl) ?_
          have e17 : A4 0 9 = (A 0 9) := (hj3 0 9 rfl rfl)
          have r18 : (0 : Int) ≤ (A 0 9) ∧ (A 0 9) ≤ 1 := by rw [← e17]; exact irK_9 hI
          obtain ⟨t19, et19⟩ : ∃ t : Nat, t = 51 + 31 * ((A 0 9)).toNat := ⟨_, rfl⟩
          have ht19 : isT t19 := by rw [et19]; exact isT.b r18
          refine va_get (D := (dC, dI)) (ci := 11) (v := .ref (q (51 + 31 * (A4 0 9).toNat))) (C := RX11) (T := TX11) (N := 11) hx hb hts hiX11 hown hK hP 0 (wkK) rfl 9 (by decide) (hts _ (List.mem_cons_of_mem _ wkq_10_36)) (fun _ h9 => h9) rfl (dk_at dkX11_firstImpossible_1 3 rfl) ?_
          refine tp_v (y := .ref (q t19)) (by rw [et19, e17]) ?_
          refine lv_aload_n hx hb (dk_at dkX11_firstImpossible_1 4 rfl) rfl (lv_at hl 2 rfl) ?_
          refine va_get (D := (dC, dI)) (ci := 11) (v := .ref (q 1)) (C := RX11) (T := TX11) (N := 11) hx hb hts hiX11 hown hK hP 0 (wkK) rfl 0 (by decide) (hts _ (List.mem_cons_of_mem _ wkq_10_18)) (fun _ h9 => h9) rfl (dk_at dkX11_firstImpossible_1 5 rfl) ?_
          refine lv_iload_n hx hb (dk_at dkX11_firstImpossible_1 6 rfl) rfl (lv_at hl 0 rfl) ?_
          refine k_calli (As := [.int (iI z1)]) (rest := [.ref (q t19)]) ⟨hx, hb, hml, hown, hts⟩ hE (kc_X7_at l dC dI cB cI cJ cZ cQ aL aS q _ z1 hI (rb f7 (by decide) (by decide))) (cwV 1 hts (goodVk wkq_11_52 wkq_4_39 wkq_4_40 wkq_4_41 wkq_4_42) rfl rfl rfl (by decide +kernel) ⟨Nat.le_of_ble_eq_true rfl, Nat.le_of_ble_eq_true rfl⟩) hK hDD hA0 hP hS 1 7 (wkTP) rfl rfl hl.1 (Nat.le_of_ble_eq_true rfl) (dk_at dkX11_firstImpossible_1 7 rfl) (fun z20 A21 H locs hw22 hP hS => ?_)
          obtain ⟨rfl, hw22⟩ := hw22
          have ghw22 : q_X7_at z1 A4 z20 := hw22
          have hw22 := hw22.2
          refine lv_aload_n hx hb (dk_at dkX11_firstImpossible_1 8 rfl) rfl (lv_at hl 2 rfl) ?_
          refine va_get (D := (dC, dI)) (ci := 11) (v := .ref (q 1)) (C := RX11) (T := TX11) (N := 11) hx hb hts hiX11 hown hK hP 0 (wkK) rfl 0 (by decide) (hts _ (List.mem_cons_of_mem _ wkq_10_18)) (fun _ h9 => h9) rfl (dk_at dkX11_firstImpossible_1 9 rfl) ?_
          refine lv_iload_n hx hb (dk_at dkX11_firstImpossible_1 10 rfl) rfl (lv_at hl 0 rfl) ?_
          refine lv_iconst (v := iI 1) hx hb (dk_at dkX11_firstImpossible_1 11 rfl) (by decide +kernel) ?_
          refine x_addv (v := z1 + 1) hx hb (dk_at dkX11_firstImpossible_1 12 rfl) (by omega) ?_
          refine k_calli (As := [.int (iI (z1 + 1))]) (rest := [.int (iI z20), .ref (q t19)]) ⟨hx, hb, hml, hown, hts⟩ hE (kc_X7_at l dC dI cB cI cJ cZ cQ aL aS q _ (z1 + 1) hI (by omega)) (cwV 1 hts (goodVk wkq_11_52 wkq_4_39 wkq_4_40 wkq_4_41 wkq_4_42) rfl rfl rfl (by decide +kernel) ⟨Nat.le_of_ble_eq_true rfl, Nat.le_of_ble_eq_true rfl⟩) hK hDD hA0 hP hS 1 7 (wkTP) rfl rfl hl.1 (Nat.le_of_ble_eq_true rfl) (dk_at dkX11_firstImpossible_1 13 rfl) (fun z23 A24 H locs hw25 hP hS => ?_)
          obtain ⟨rfl, hw25⟩ := hw25
          have ghw25 : q_X7_at (z1 + 1) A4 z23 := hw25
          have hw25 := hw25.2
          refine lv_aload_n hx hb (dk_at dkX11_firstImpossible_1 14 rfl) rfl (lv_at hl 2 rfl) ?_
          refine va_get (D := (dC, dI)) (ci := 11) (v := .ref (q 1)) (C := RX11) (T := TX11) (N := 11) hx hb hts hiX11 hown hK hP 0 (wkK) rfl 0 (by decide) (hts _ (List.mem_cons_of_mem _ wkq_10_18)) (fun _ h9 => h9) rfl (dk_at dkX11_firstImpossible_1 15 rfl) ?_
          refine lv_iload_n hx hb (dk_at dkX11_firstImpossible_2 0 rfl) rfl (lv_at hl 0 rfl) ?_
          refine lv_iconst (v := iI 2) hx hb (dk_at dkX11_firstImpossible_2 1 rfl) (by decide +kernel) ?_
          refine x_addv (v := z1 + 2) hx hb (dk_at dkX11_firstImpossible_2 2 rfl) (by omega) ?_
          refine k_calli (As := [.int (iI (z1 + 2))]) (rest := [.int (iI z23), .int (iI z20), .ref (q t19)]) ⟨hx, hb, hml, hown, hts⟩ hE (kc_X7_at l dC dI cB cI cJ cZ cQ aL aS q _ (z1 + 2) hI (by omega)) (cwV 1 hts (goodVk wkq_11_52 wkq_4_39 wkq_4_40 wkq_4_41 wkq_4_42) rfl rfl rfl (by decide +kernel) ⟨Nat.le_of_ble_eq_true rfl, Nat.le_of_ble_eq_true rfl⟩) hK hDD hA0 hP hS 1 7 (wkTP) rfl rfl hl.1 (Nat.le_of_ble_eq_true rfl) (dk_at dkX11_firstImpossible_2 3 rfl) (fun z26 A27 H locs hw28 hP hS => ?_)
          obtain ⟨rfl, hw28⟩ := hw28
          have ghw28 : q_X7_at (z1 + 2) A4 z26 := hw28
          have hw28 := hw28.2
          refine k_calli (As := [.int (iI z20), .int (iI z23), .int (iI z26)]) (rest := []) ⟨hx, hb, hml, hown, hts⟩ hE (kc_X9_toldAct l dC dI cB cI cJ cZ cQ aL aS q _ t19 z20 z23 z26 hI ht19 (rb hw22 (by decide) (by decide)) (rb hw25 (by decide) (by decide)) (rb hw28 (by decide) (by decide))) (cwV 3 hts (goodVk wkq_11_53 wkq_11_54 wkq_11_55 wkq_0_6 wkq_9_28) rfl rfl rfl (by decide +kernel) ⟨Nat.le_of_ble_eq_true rfl, Nat.le_of_ble_eq_true rfl⟩) hK hDD hA0 hP hS t19 9 (wkT ht19) rfl rfl hl.1 (Nat.le_of_ble_eq_true rfl) (dk_at dkX11_firstImpossible_2 4 rfl) (fun z29 A30 H locs hw31 hP hS => ?_)
          have ghw31 : q_X9_toldAct t19 z20 z23 z26 A4 z29 A30 := hw31
          obtain ⟨_, hI, hf32, hw31⟩ := hw31
          refine lv_iconst (v := iI (-1)) hx hb (dk_at dkX11_firstImpossible_2 5 rfl) (by decide +kernel) ?_
          refine lv_icmp_ne (tgt := 71) hx hb (dk_at dkX11_firstImpossible_2 6 rfl) (by decide) (fun c33 => ?_) (fun c33 => ?_)
          · have c33 : ¬ z29 = (-1) := mt (i_eq hw31 ⟨by decide, by decide⟩).mpr c33
            obtain ⟨z34, gz34, hz34, ez34⟩ := i_wrapE (z2 + 1)
            refine lv_iinc (v := iI z34) (lv' := [(1, .int (iI z34)), (2, .int (iI z1)), (0, .ref (q 0))]) hx hb (dk_at dkX11_firstImpossible_2 9 rfl) hl (k := 1) rfl ((i_inc (by omega)).trans ez34) (by decide) rfl (fun ls hl => ?_)
            refine lv_iinc (v := iI (z1 + 3)) (lv' := [(2, .int (iI (z1 + 3))), (1, .int (iI z34)), (0, .ref (q 0))]) hx hb (dk_at dkX11_firstImpossible_2 10 rfl) hl (k := 1) rfl (i_inc (by omega)) (by decide) rfl (fun ls hl => ?_)
            refine lv_goto (tgt := 4) hx hb (dk_at dkX11_firstImpossible_2 11 rfl) (by decide) ?_
            exact ih6 _ (by omega) (z1 + 3) z34 _ _ _ _ (by omega) (by omega) (fun zq uq ⟨mm1, hq⟩ => hk1 _ _ ⟨mm1 + 1, (u_d_X11_firstImpossible_1 ⟨gI12.out, ⟨f7, ⟨f8, (Or.inr ⟨c15, (Or.inl ⟨c16, ⟨t19, et19, ⟨z20, ghw22, ⟨z23, ghw25, ⟨z26, ghw28, ⟨z29, A30, ghw31, (Or.inl ⟨c33, ⟨z34, gz34.out, hq⟩⟩)⟩⟩⟩⟩⟩⟩)⟩)⟩⟩⟩)⟩) rfl hI (fk.trans (fk.trans (fk.rf) hj3 rfl rfl) hf32 rfl rfl) hP hS (lv_sub hl [0, 1, 2] rfl)
          · have c33 : z29 = (-1) := (i_eq hw31 ⟨by decide, by decide⟩).mp c33
            refine lv_iload_n hx hb (dk_at dkX11_firstImpossible_2 7 rfl) rfl (lv_at hl 1 rfl) ?_
            exact RET z2 _ _ _ _ _ ⟨hk1 _ _ ⟨0 + 1, (u_d_X11_firstImpossible_1 ⟨gI12.out, ⟨f7, ⟨f8, (Or.inr ⟨c15, (Or.inl ⟨c16, ⟨t19, et19, ⟨z20, ghw22, ⟨z23, ghw25, ⟨z26, ghw28, ⟨z29, A30, ghw31, (Or.inr ⟨c33, ⟨rfl, rfl⟩⟩)⟩⟩⟩⟩⟩⟩)⟩)⟩⟩⟩)⟩, hI, fk.trans (fk.trans (fk.rf) hj3 rfl rfl) hf32 rfl rfl, f8⟩ hP hS (dk_at dkX11_firstImpossible_2 8 rfl)
        · have c16 : ¬ z1 + 3 ≤ (A 1 1) := mt (i_le (by omega) (rb r14 (by decide) (by decide))).mpr c16
          refine lv_iload_n hx hb (dk_at dkX11_firstImpossible_1 0 rfl) rfl (lv_at hl 1 rfl) ?_
          exact RET z2 _ _ _ _ _ ⟨hk1 _ _ ⟨0 + 1, (u_d_X11_firstImpossible_1 ⟨gI12.out, ⟨f7, ⟨f8, (Or.inr ⟨c15, (Or.inr ⟨c16, ⟨rfl, rfl⟩⟩)⟩)⟩⟩⟩)⟩, hI, fk.trans (fk.rf) hj3 rfl rfl, f8⟩ hP hS (dk_at dkX11_firstImpossible_1 1 rfl)
  exact L4_5 _ 0 0 _ _ _ _ (by omega) (by omega) (fun zq uq ⟨mm1, hq⟩ => (u_r_X11_firstImpossible ⟨mm1, hq⟩)) rfl hI (fk.rf) hP hS (lv_sub hl [0, 1, 2] rfl)

abbrev tr_r_X11_row (A : St) (z : Int) (u : St) : Prop := (∃ t2 : Nat, t2 = 51 + 31 * ((A 0 9)).toNat ∧ (∃ A3 : St, q_X6_copyFrom 41 (t2 + 22) A A3 ∧ (∃ z6 : Int, ∃ A7 : St, q_X11_firstImpossible A3 z6 A7 ∧ (∃ A12 : St, q_X6_copyFrom (t2 + 22) 41 A7 A12 ∧ (∃ A15 : St, A15 = stA A12 1 1 0 ∧ (z = z6 ∧ u = A15))))))
def r_X11_row (A : St) (z : Int) (u : St) : Prop := tr_r_X11_row A z u
theorem u_r_X11_row {A : St} {z : Int} {u : St} (h : tr_r_X11_row A z u) : r_X11_row A z u := h
def ws_kc_X11_row : List Cond := .code yX11_row cX11_row 2 (some .int) :: WY
set_option maxHeartbeats 4000000 in
set_option maxRecDepth 100000 in
theorem kc_X11_row (l : Launch) (dC : Nat → ClassId) (dI : Nat → Nat → Nat) (cB cI cJ cZ cQ : ClassId) (aL aS : Nat) (q : Nat → Nat) (A : St) (hI : IK A) : KMi l yX11_row ws_kc_X11_row ({ frames := 7, cells := 0, slots := 0, locals := 168 } : Room) aL aS (dC, dI) (tyA cB cI cJ cZ cQ) (WK cB cI cJ cZ cQ q) A [.ref (q 0)] (fun z u => r_X11_row A z u ∧ IK u ∧ fk [33, 34, 35, 37, 38, 39, 40, 42, 43, 44, 46, 47, 48, 49, 72, 74, 75, 76, 78, 79, 80, 81, 103, 105, 106, 107, 109, 110, 111, 112] [(1, 1)] A u ∧ ((-2147483648 ≤ z ∧ z ≤ 2147483647) ∧ u 1 1 = 0)) := by
  refine k_meti (cc := cX11_row) (maxL := 2) WK_adr (plainFor_of_name (by decide +kernel)) rfl (Nat.le_of_ble_eq_true rfl) (fun p e s m below meth c Q AS ls hx hb hml hown hts hK hDD hA0 hE RET H locs hP hS hl => ?_)
  have hown : s.vm.findClass RX11 = some m.cls := hown
  have hl : lv_has ls 2 [(0, .ref (q 0))] := hl
  have hiX11 : ∀ w ∈ u_ws RX11 TX11 11, w ∈ ws_kc_X11_row := fun w h => List.mem_cons_of_mem _ (wy_layX11 w h)
  have hiX9 : ∀ w ∈ u_ws RX9 TX9 16, w ∈ ws_kc_X11_row := fun w h => List.mem_cons_of_mem _ (wy_layX9 w h)
  have hiX7 : ∀ w ∈ u_ws RX7 TX7 2, w ∈ ws_kc_X11_row := fun w h => List.mem_cons_of_mem _ (wy_layX7 w h)
  refine lv_aload_n hx hb (dk_at dkX11_row_0 0 rfl) rfl (lv_at hl 0 rfl) ?_
  refine va_get (D := (dC, dI)) (ci := 11) (v := .ref (q 41)) (C := RX11) (T := TX11) (N := 11) hx hb hts hiX11 hown hK hP 0 (wkK) rfl 7 (by decide) (hts _ (List.mem_cons_of_mem _ wkq_11_46)) (fun _ h9 => h9) rfl (dk_at dkX11_row_0 1 rfl) ?_
  refine lv_aload_n hx hb (dk_at dkX11_row_0 2 rfl) rfl (lv_at hl 0 rfl) ?_
  have r1 : (0 : Int) ≤ (A 0 9) ∧ (A 0 9) ≤ 1 := irK_9 hI
  obtain ⟨t2, et2⟩ : ∃ t : Nat, t = 51 + 31 * ((A 0 9)).toNat := ⟨_, rfl⟩
  have ht2 : isT t2 := by rw [et2]; exact isT.b r1
  refine va_get (D := (dC, dI)) (ci := 11) (v := .ref (q (51 + 31 * (A 0 9).toNat))) (C := RX11) (T := TX11) (N := 11) hx hb hts hiX11 hown hK hP 0 (wkK) rfl 9 (by decide) (hts _ (List.mem_cons_of_mem _ wkq_10_36)) (fun _ h9 => h9) rfl (dk_at dkX11_row_0 3 rfl) ?_
  refine tp_v (y := .ref (q t2)) (by rw [et2]) ?_
  refine va_get (D := (dC, dI)) (ci := 9) (v := .ref (q (t2 + 22))) (C := RX9) (T := TX9) (N := 16) hx hb hts hiX9 hown hK hP t2 (wkT ht2) rfl 14 (by decide) (hts _ (List.mem_cons_of_mem _ wkq_11_5)) (fun _ h9 => h9) rfl (dk_at dkX11_row_0 4 rfl) ?_
  refine k_callv (As := [.ref (q (t2 + 22))]) (rest := []) ⟨hx, hb, hml, hown, hts⟩ hE (kc_X6_copyFrom l dC dI cB cI cJ cZ cQ aL aS q _ 41 (t2 + 22) hI isS41 ht2.s) (cwV 1 hts (goodVk wkq_11_47 wkq_4_33 wkq_4_34 wkq_0_52 wkq_4_35) rfl rfl rfl (by decide +kernel) ⟨Nat.le_of_ble_eq_true rfl, Nat.le_of_ble_eq_true rfl⟩) hK hDD hA0 hP hS 41 6 (wkS isS41) rfl rfl hl.1 (Nat.le_of_ble_eq_true rfl) (dk_at dkX11_row_0 5 rfl) (fun A3 H locs hw4 hP hS => ?_)
  have ghw4 : q_X6_copyFrom 41 (t2 + 22) A A3 := hw4
  obtain ⟨_, hI, hf5, hw4⟩ := hw4
  clear hw4
  refine lv_aload_n hx hb (dk_at dkX11_row_0 6 rfl) rfl (lv_at hl 0 rfl) ?_
  refine k_calli (As := []) (rest := []) ⟨hx, hb, hml, hown, hts⟩ hE (kc_X11_firstImpossible l dC dI cB cI cJ cZ cQ aL aS q _ hI) (cwV 0 hts (goodVk wkq_11_48 wkq_11_49 wkq_11_50 wkq_10_26 wkq_11_51) rfl rfl rfl (by decide +kernel) ⟨Nat.le_of_ble_eq_true rfl, Nat.le_of_ble_eq_true rfl⟩) hK hDD hA0 hP hS 0 11 (wkK) rfl rfl hl.1 (Nat.le_of_ble_eq_true rfl) (dk_at dkX11_row_0 7 rfl) (fun z6 A7 H locs hw8 hP hS => ?_)
  have ghw8 : q_X11_firstImpossible A3 z6 A7 := hw8
  obtain ⟨_, hI, hf9, hw8⟩ := hw8
  refine lv_istore_n (lv' := [(1, .int (iI z6)), (0, .ref (q 0))]) hx hb (dk_at dkX11_row_0 8 rfl) rfl hl (by decide) rfl (fun ls hl => ?_)
  refine lv_aload_n hx hb (dk_at dkX11_row_0 9 rfl) rfl (lv_at hl 1 rfl) ?_
  have e11 : A3 0 9 = (A 0 9) := (hf5 0 9 rfl rfl)
  have e10 : A7 0 9 = (A 0 9) := (hf9 0 9 rfl rfl).trans e11
  refine va_get (D := (dC, dI)) (ci := 11) (v := .ref (q (51 + 31 * (A7 0 9).toNat))) (C := RX11) (T := TX11) (N := 11) hx hb hts hiX11 hown hK hP 0 (wkK) rfl 9 (by decide) (hts _ (List.mem_cons_of_mem _ wkq_10_36)) (fun _ h9 => h9) rfl (dk_at dkX11_row_0 10 rfl) ?_
  refine tp_v (y := .ref (q t2)) (by rw [et2, e10]) ?_
  refine va_get (D := (dC, dI)) (ci := 9) (v := .ref (q (t2 + 22))) (C := RX9) (T := TX9) (N := 16) hx hb hts hiX9 hown hK hP t2 (wkT ht2) rfl 14 (by decide) (hts _ (List.mem_cons_of_mem _ wkq_11_5)) (fun _ h9 => h9) rfl (dk_at dkX11_row_0 11 rfl) ?_
  refine lv_aload_n hx hb (dk_at dkX11_row_0 12 rfl) rfl (lv_at hl 1 rfl) ?_
  refine va_get (D := (dC, dI)) (ci := 11) (v := .ref (q 41)) (C := RX11) (T := TX11) (N := 11) hx hb hts hiX11 hown hK hP 0 (wkK) rfl 7 (by decide) (hts _ (List.mem_cons_of_mem _ wkq_11_46)) (fun _ h9 => h9) rfl (dk_at dkX11_row_0 13 rfl) ?_
  refine k_callv (As := [.ref (q 41)]) (rest := []) ⟨hx, hb, hml, hown, hts⟩ hE (kc_X6_copyFrom l dC dI cB cI cJ cZ cQ aL aS q _ (t2 + 22) 41 hI ht2.s isS41) (cwV 1 hts (goodVk wkq_11_47 wkq_4_33 wkq_4_34 wkq_0_52 wkq_4_35) rfl rfl rfl (by decide +kernel) ⟨Nat.le_of_ble_eq_true rfl, Nat.le_of_ble_eq_true rfl⟩) hK hDD hA0 hP hS (t2 + 22) 6 (wkS ht2.s) rfl rfl hl.1 (Nat.le_of_ble_eq_true rfl) (dk_at dkX11_row_0 14 rfl) (fun A12 H locs hw13 hP hS => ?_)
  have ghw13 : q_X6_copyFrom (t2 + 22) 41 A7 A12 := hw13
  obtain ⟨_, hI, hf14, hw13⟩ := hw13
  clear hw13
  refine lv_aload_n hx hb (dk_at dkX11_row_0 15 rfl) rfl (lv_at hl 1 rfl) ?_
  refine va_get (D := (dC, dI)) (ci := 11) (v := .ref (q 1)) (C := RX11) (T := TX11) (N := 11) hx hb hts hiX11 hown hK hP 0 (wkK) rfl 0 (by decide) (hts _ (List.mem_cons_of_mem _ wkq_10_18)) (fun _ h9 => h9) rfl (dk_at dkX11_row_1 0 rfl) ?_
  refine lv_iconst (v := iI 0) hx hb (dk_at dkX11_row_1 1 rfl) (by decide +kernel) ?_
  refine k_put (Wf := WK cB cI cJ cZ cQ q) (D := (dC, dI)) (ci := 7) (v := .int (iI 0)) (ty := .int) (C := RX7) (T := TX7) (N := 2) hx hb hts hiX7 tyX7 tyX7_ok nmX7 hown hK hP hDD hS 1 (wkTP) rfl 1 (by decide) (hts _ (List.mem_cons_of_mem _ wkq_10_19)) (fun _ h9 => h9) rfl (by decide +kernel) rfl rfl (Nat.le_of_ble_eq_true rfl) (dk_at dkX11_row_1 2 rfl) (wfTP_1 (v := 0)) (fun H locs A15 hA15 hP hS => ?_)
  have hI := isTP_1 hA15 hI (show (0 : Int) ≤ 0 ∧ 0 ≤ 1600 from ⟨by decide, by decide⟩)
  refine lv_iload_n hx hb (dk_at dkX11_row_1 3 rfl) rfl (lv_at hl 0 rfl) ?_
  have e16 : A15 1 1 = 0 := rd_is hA15
  exact RET z6 _ _ _ _ _ ⟨(u_r_X11_row ⟨t2, et2, ⟨A3, ghw4, ⟨z6, A7, ghw8, ⟨A12, ghw13, ⟨A15, hA15, ⟨rfl, rfl⟩⟩⟩⟩⟩⟩), hI, fk.df (fk.trans (fk.trans (fk.trans (fk.rf) hf5 rfl rfl) hf9 rfl rfl) hf14 rfl rfl) hA15 rfl, by omega⟩ hP hS (dk_at dkX11_row_1 4 rfl)

abbrev tr_r_X11_reach (x1 : Int) (x2 : Int) (A : St) (z : Int) (u : St) : Prop := (∃ t2 : Nat, t2 = 51 + 31 * ((A 0 9)).toNat ∧ (∃ z3 : Int, q_X9_isThere_1_3 t2 x1 A z3 ∧ (((z3 = 0) ∧ (z = (-1) ∧ u = A)) ∨ ((¬ z3 = 0) ∧ (∃ z7 : Int, q_X9_isThere_1_0 t2 x2 A z7 ∧ (((¬ z7 = 0) ∧ (∃ z11 : Int, q_X9_keysOf t2 x1 A z11 ∧ (∃ z14 : Int, ∃ A15 : St, q_X0_search t2 x1 z11 0 x2 A z14 A15 ∧ (z = z14 ∧ u = A15)))) ∨ ((z7 = 0) ∧ (z = (-1) ∧ u = A))))))))
def r_X11_reach (x1 : Int) (x2 : Int) (A : St) (z : Int) (u : St) : Prop := tr_r_X11_reach x1 x2 A z u
theorem u_r_X11_reach {x1 : Int} {x2 : Int} {A : St} {z : Int} {u : St} (h : tr_r_X11_reach x1 x2 A z u) : r_X11_reach x1 x2 A z u := h
def ws_kc_X11_reach : List Cond := .code yX11_reach cX11_reach 3 (some .int) :: WY
set_option maxHeartbeats 4000000 in
set_option maxRecDepth 100000 in
theorem kc_X11_reach (l : Launch) (dC : Nat → ClassId) (dI : Nat → Nat → Nat) (cB cI cJ cZ cQ : ClassId) (aL aS : Nat) (q : Nat → Nat) (A : St) (x1 x2 : Int) (hI : IK A) (hx1 : (-2147483648 : Int) ≤ x1 ∧ x1 ≤ 2147483647) (hx2 : (-2147483648 : Int) ≤ x2 ∧ x2 ≤ 2147483647) : KMi l yX11_reach ws_kc_X11_reach ({ frames := 6, cells := 0, slots := 0, locals := 155 } : Room) aL aS (dC, dI) (tyA cB cI cJ cZ cQ) (WK cB cI cJ cZ cQ q) A [.ref (q 0), .int (iI x1), .int (iI x2)] (fun z u => r_X11_reach x1 x2 A z u ∧ IK u ∧ fk [7, 9, 10, 11, 12, 13, 14, 15, 16, 17, 18, 19, 72, 103] [(6, 7), (6, 8), (6, 9), (6, 10), (6, 11), (6, 12), (6, 13), (6, 14), (6, 15)] A u ∧ (-2147483648 ≤ z ∧ z ≤ 2147483647)) := by
  refine k_meti (cc := cX11_reach) (maxL := 3) WK_adr (plainFor_of_name (by decide +kernel)) rfl (Nat.le_of_ble_eq_true rfl) (fun p e s m below meth c Q AS ls hx hb hml hown hts hK hDD hA0 hE RET H locs hP hS hl => ?_)
  have hown : s.vm.findClass RX11 = some m.cls := hown
  have hl : lv_has ls 3 [(0, .ref (q 0)), (1, .int (iI x1)), (2, .int (iI x2))] := hl
  have hiX11 : ∀ w ∈ u_ws RX11 TX11 11, w ∈ ws_kc_X11_reach := fun w h => List.mem_cons_of_mem _ (wy_layX11 w h)
  refine lv_aload_n hx hb (dk_at dkX11_reach_0 0 rfl) rfl (lv_at hl 0 rfl) ?_
  have r1 : (0 : Int) ≤ (A 0 9) ∧ (A 0 9) ≤ 1 := irK_9 hI
  obtain ⟨t2, et2⟩ : ∃ t : Nat, t = 51 + 31 * ((A 0 9)).toNat := ⟨_, rfl⟩
  have ht2 : isT t2 := by rw [et2]; exact isT.b r1
  refine va_get (D := (dC, dI)) (ci := 11) (v := .ref (q (51 + 31 * (A 0 9).toNat))) (C := RX11) (T := TX11) (N := 11) hx hb hts hiX11 hown hK hP 0 (wkK) rfl 9 (by decide) (hts _ (List.mem_cons_of_mem _ wkq_10_36)) (fun _ h9 => h9) rfl (dk_at dkX11_reach_0 1 rfl) ?_
  refine tp_v (y := .ref (q t2)) (by rw [et2]) ?_
  refine lv_iconst (v := iI 3) hx hb (dk_at dkX11_reach_0 2 rfl) (by decide +kernel) ?_
  refine lv_iload_n hx hb (dk_at dkX11_reach_0 3 rfl) rfl (lv_at hl 1 rfl) ?_
  refine k_calli (As := [.int (iI 3), .int (iI x1)]) (rest := []) ⟨hx, hb, hml, hown, hts⟩ hE (kc_X9_isThere_1_3 l dC dI cB cI cJ cZ cQ aL aS q _ t2 x1 hI ht2 hx1) (cwV 2 hts (goodVk wkq_10_54 wkq_0_22 wkq_0_23 wkq_0_6 wkq_0_24) rfl rfl rfl (by decide +kernel) ⟨Nat.le_of_ble_eq_true rfl, Nat.le_of_ble_eq_true rfl⟩) hK hDD hA0 hP hS t2 9 (wkT ht2) rfl rfl hl.1 (Nat.le_of_ble_eq_true rfl) (dk_at dkX11_reach_0 4 rfl) (fun z3 A4 H locs hw5 hP hS => ?_)
  obtain ⟨rfl, hw5⟩ := hw5
  have ghw5 : q_X9_isThere_1_3 t2 x1 A z3 := hw5
  have hw5 := hw5.2
  have rz3 : 0 ≤ z3 ∧ z3 ≤ 1 := hw5.1
  have hw5 := hw5.2
  refine lv_if_eq (tgt := 24) hx hb (dk_at dkX11_reach_0 5 rfl) (by decide) (fun c6 => ?_) (fun c6 => ?_)
  · have c6 : z3 = 0 := (i_eq0 (rb rz3 (by decide) (by decide))).mp c6
    clear hw5
    refine lv_iconst (v := iI (-1)) hx hb (dk_at dkX11_reach_0 12 rfl) (by decide +kernel) ?_
    exact RET (-1) _ _ _ _ _ ⟨(u_r_X11_reach ⟨t2, et2, ⟨z3, ghw5, (Or.inl ⟨c6, ⟨rfl, rfl⟩⟩)⟩⟩), hI, fk.rf, ⟨by decide, by decide⟩⟩ hP hS (dk_at dkX11_reach_0 13 rfl)
  · have c6 : ¬ z3 = 0 := mt (i_eq0 (rb rz3 (by decide) (by decide))).mpr c6
    have hw5b := hw5 (by omega)
    clear hw5
    refine lv_aload_n hx hb (dk_at dkX11_reach_0 6 rfl) rfl (lv_at hl 0 rfl) ?_
    refine va_get (D := (dC, dI)) (ci := 11) (v := .ref (q (51 + 31 * (A 0 9).toNat))) (C := RX11) (T := TX11) (N := 11) hx hb hts hiX11 hown hK hP 0 (wkK) rfl 9 (by decide) (hts _ (List.mem_cons_of_mem _ wkq_10_36)) (fun _ h9 => h9) rfl (dk_at dkX11_reach_0 7 rfl) ?_
    refine tp_v (y := .ref (q t2)) (by rw [et2]) ?_
    refine lv_iconst (v := iI 0) hx hb (dk_at dkX11_reach_0 8 rfl) (by decide +kernel) ?_
    refine lv_iload_n hx hb (dk_at dkX11_reach_0 9 rfl) rfl (lv_at hl 2 rfl) ?_
    refine k_calli (As := [.int (iI 0), .int (iI x2)]) (rest := []) ⟨hx, hb, hml, hown, hts⟩ hE (kc_X9_isThere_1_0 l dC dI cB cI cJ cZ cQ aL aS q _ t2 x2 hI ht2 hx2) (cwV 2 hts (goodVk wkq_10_54 wkq_0_22 wkq_0_23 wkq_0_6 wkq_0_24) rfl rfl rfl (by decide +kernel) ⟨Nat.le_of_ble_eq_true rfl, Nat.le_of_ble_eq_true rfl⟩) hK hDD hA0 hP hS t2 9 (wkT ht2) rfl rfl hl.1 (Nat.le_of_ble_eq_true rfl) (dk_at dkX11_reach_0 10 rfl) (fun z7 A8 H locs hw9 hP hS => ?_)
    obtain ⟨rfl, hw9⟩ := hw9
    have ghw9 : q_X9_isThere_1_0 t2 x2 A z7 := hw9
    have hw9 := hw9.2
    have rz7 : 0 ≤ z7 ∧ z7 ≤ 1 := hw9.1
    have hw9 := hw9.2
    refine lv_if_ne (tgt := 26) hx hb (dk_at dkX11_reach_0 11 rfl) (by decide) (fun c10 => ?_) (fun c10 => ?_)
    · have c10 : ¬ z7 = 0 := mt (i_eq0 (rb rz7 (by decide) (by decide))).mpr c10
      have hw9b := hw9 (by omega)
      clear hw9
      refine lv_aload_n hx hb (dk_at dkX11_reach_0 14 rfl) rfl (lv_at hl 0 rfl) ?_
      refine va_get (D := (dC, dI)) (ci := 11) (v := .ref (q 6)) (C := RX11) (T := TX11) (N := 11) hx hb hts hiX11 hown hK hP 0 (wkK) rfl 2 (by decide) (hts _ (List.mem_cons_of_mem _ wkq_11_13)) (fun _ h9 => h9) rfl (dk_at dkX11_reach_0 15 rfl) ?_
      refine lv_aload_n hx hb (dk_at dkX11_reach_1 0 rfl) rfl (lv_at hl 0 rfl) ?_
      refine va_get (D := (dC, dI)) (ci := 11) (v := .ref (q (51 + 31 * (A 0 9).toNat))) (C := RX11) (T := TX11) (N := 11) hx hb hts hiX11 hown hK hP 0 (wkK) rfl 9 (by decide) (hts _ (List.mem_cons_of_mem _ wkq_10_36)) (fun _ h9 => h9) rfl (dk_at dkX11_reach_1 1 rfl) ?_
      refine tp_v (y := .ref (q t2)) (by rw [et2]) ?_
      refine lv_iload_n hx hb (dk_at dkX11_reach_1 2 rfl) rfl (lv_at hl 1 rfl) ?_
      refine lv_aload_n hx hb (dk_at dkX11_reach_1 3 rfl) rfl (lv_at hl 0 rfl) ?_
      refine va_get (D := (dC, dI)) (ci := 11) (v := .ref (q (51 + 31 * (A 0 9).toNat))) (C := RX11) (T := TX11) (N := 11) hx hb hts hiX11 hown hK hP 0 (wkK) rfl 9 (by decide) (hts _ (List.mem_cons_of_mem _ wkq_10_36)) (fun _ h9 => h9) rfl (dk_at dkX11_reach_1 4 rfl) ?_
      refine tp_v (y := .ref (q t2)) (by rw [et2]) ?_
      refine lv_iload_n hx hb (dk_at dkX11_reach_1 5 rfl) rfl (lv_at hl 1 rfl) ?_
      refine k_calli (As := [.int (iI x1)]) (rest := [.int (iI x1), .ref (q t2), .ref (q 6)]) ⟨hx, hb, hml, hown, hts⟩ hE (kc_X9_keysOf l dC dI cB cI cJ cZ cQ aL aS q _ t2 x1 hI ht2 hx1) (cwV 1 hts (goodVk wkq_11_14 wkq_0_4 wkq_0_5 wkq_0_6 wkq_0_7) rfl rfl rfl (by decide +kernel) ⟨Nat.le_of_ble_eq_true rfl, Nat.le_of_ble_eq_true rfl⟩) hK hDD hA0 hP hS t2 9 (wkT ht2) rfl rfl hl.1 (Nat.le_of_ble_eq_true rfl) (dk_at dkX11_reach_1 6 rfl) (fun z11 A12 H locs hw13 hP hS => ?_)
      obtain ⟨rfl, hw13⟩ := hw13
      have ghw13 : q_X9_keysOf t2 x1 A z11 := hw13
      have hw13 := hw13.2
      refine lv_iconst (v := iI 0) hx hb (dk_at dkX11_reach_1 7 rfl) (by decide +kernel) ?_
      refine lv_iload_n hx hb (dk_at dkX11_reach_1 8 rfl) rfl (lv_at hl 2 rfl) ?_
      refine k_calli (As := [.ref (q t2), .int (iI x1), .int (iI z11), .int (iI 0), .int (iI x2)]) (rest := []) ⟨hx, hb, hml, hown, hts⟩ hE (kc_X0_search l dC dI cB cI cJ cZ cQ aL aS q _ t2 x1 z11 0 x2 hI ht2 hx1 hw13 ⟨by decide, by decide⟩ hx2) (cwV 5 hts (goodVk wkq_11_57 wkq_0_12 wkq_0_13 wkq_0_14 wkq_0_15) rfl rfl rfl (by decide +kernel) ⟨Nat.le_of_ble_eq_true rfl, Nat.le_of_ble_eq_true rfl⟩) hK hDD hA0 hP hS 6 0 (wkAL) rfl rfl hl.1 (Nat.le_of_ble_eq_true rfl) (dk_at dkX11_reach_1 9 rfl) (fun z14 A15 H locs hw16 hP hS => ?_)
      have ghw16 : q_X0_search t2 x1 z11 0 x2 A z14 A15 := hw16
      obtain ⟨_, hI, hf17, hw16⟩ := hw16
      exact RET z14 _ _ _ _ _ ⟨(u_r_X11_reach ⟨t2, et2, ⟨z3, ghw5, (Or.inr ⟨c6, ⟨z7, ghw9, (Or.inl ⟨c10, ⟨z11, ghw13, ⟨z14, A15, ghw16, ⟨rfl, rfl⟩⟩⟩⟩)⟩⟩)⟩⟩), hI, fk.trans (fk.rf) hf17 rfl rfl, hw16⟩ hP hS (dk_at dkX11_reach_1 10 rfl)
    · have c10 : z7 = 0 := (i_eq0 (rb rz7 (by decide) (by decide))).mp c10
      clear hw9
      refine lv_iconst (v := iI (-1)) hx hb (dk_at dkX11_reach_0 12 rfl) (by decide +kernel) ?_
      exact RET (-1) _ _ _ _ _ ⟨(u_r_X11_reach ⟨t2, et2, ⟨z3, ghw5, (Or.inr ⟨c6, ⟨z7, ghw9, (Or.inr ⟨c10, ⟨rfl, rfl⟩⟩)⟩⟩)⟩⟩), hI, fk.rf, ⟨by decide, by decide⟩⟩ hP hS (dk_at dkX11_reach_0 13 rfl)

abbrev tr_r_X11_opens (x1 : Int) (x2 : Int) (A : St) (z : Int) (u : St) : Prop := (∃ t2 : Nat, t2 = 51 + 31 * ((A 0 9)).toNat ∧ (∃ z3 : Int, q_X9_isThere_1_3 t2 x1 A z3 ∧ (((z3 = 0) ∧ (z = (-1) ∧ u = A)) ∨ ((¬ z3 = 0) ∧ (∃ z7 : Int, q_X9_isThere_1_1 t2 x2 A z7 ∧ (((¬ z7 = 0) ∧ (∃ z11 : Int, q_X9_keysOf t2 x1 A z11 ∧ (∃ z14 : Int, ∃ A15 : St, q_X0_search t2 x1 z11 1 x2 A z14 A15 ∧ (z = z14 ∧ u = A15)))) ∨ ((z7 = 0) ∧ (z = (-1) ∧ u = A))))))))
def r_X11_opens (x1 : Int) (x2 : Int) (A : St) (z : Int) (u : St) : Prop := tr_r_X11_opens x1 x2 A z u
theorem u_r_X11_opens {x1 : Int} {x2 : Int} {A : St} {z : Int} {u : St} (h : tr_r_X11_opens x1 x2 A z u) : r_X11_opens x1 x2 A z u := h
def ws_kc_X11_opens : List Cond := .code yX11_opens cX11_opens 3 (some .int) :: WY
set_option maxHeartbeats 4000000 in
set_option maxRecDepth 100000 in
theorem kc_X11_opens (l : Launch) (dC : Nat → ClassId) (dI : Nat → Nat → Nat) (cB cI cJ cZ cQ : ClassId) (aL aS : Nat) (q : Nat → Nat) (A : St) (x1 x2 : Int) (hI : IK A) (hx1 : (-2147483648 : Int) ≤ x1 ∧ x1 ≤ 2147483647) (hx2 : (-2147483648 : Int) ≤ x2 ∧ x2 ≤ 2147483647) : KMi l yX11_opens ws_kc_X11_opens ({ frames := 6, cells := 0, slots := 0, locals := 155 } : Room) aL aS (dC, dI) (tyA cB cI cJ cZ cQ) (WK cB cI cJ cZ cQ q) A [.ref (q 0), .int (iI x1), .int (iI x2)] (fun z u => r_X11_opens x1 x2 A z u ∧ IK u ∧ fk [7, 9, 10, 11, 12, 13, 14, 15, 16, 17, 18, 19, 72, 103] [(6, 7), (6, 8), (6, 9), (6, 10), (6, 11), (6, 12), (6, 13), (6, 14), (6, 15)] A u ∧ (-2147483648 ≤ z ∧ z ≤ 2147483647)) := by
  refine k_meti (cc := cX11_opens) (maxL := 3) WK_adr (plainFor_of_name (by decide +kernel)) rfl (Nat.le_of_ble_eq_true rfl) (fun p e s m below meth c Q AS ls hx hb hml hown hts hK hDD hA0 hE RET H locs hP hS hl => ?_)
  have hown : s.vm.findClass RX11 = some m.cls := hown
  have hl : lv_has ls 3 [(0, .ref (q 0)), (1, .int (iI x1)), (2, .int (iI x2))] := hl
  have hiX11 : ∀ w ∈ u_ws RX11 TX11 11, w ∈ ws_kc_X11_opens := fun w h => List.mem_cons_of_mem _ (wy_layX11 w h)
  refine lv_aload_n hx hb (dk_at dkX11_opens_0 0 rfl) rfl (lv_at hl 0 rfl) ?_
  have r1 : (0 : Int) ≤ (A 0 9) ∧ (A 0 9) ≤ 1 := irK_9 hI
  obtain ⟨t2, et2⟩ : ∃ t : Nat, t = 51 + 31 * ((A 0 9)).toNat := ⟨_, rfl⟩
  have ht2 : isT t2 := by rw [et2]; exact isT.b r1
  refine va_get (D := (dC, dI)) (ci := 11) (v := .ref (q (51 + 31 * (A 0 9).toNat))) (C := RX11) (T := TX11) (N := 11) hx hb hts hiX11 hown hK hP 0 (wkK) rfl 9 (by decide) (hts _ (List.mem_cons_of_mem _ wkq_10_36)) (fun _ h9 => h9) rfl (dk_at dkX11_opens_0 1 rfl) ?_
  refine tp_v (y := .ref (q t2)) (by rw [et2]) ?_
  refine lv_iconst (v := iI 3) hx hb (dk_at dkX11_opens_0 2 rfl) (by decide +kernel) ?_
  refine lv_iload_n hx hb (dk_at dkX11_opens_0 3 rfl) rfl (lv_at hl 1 rfl) ?_
  refine k_calli (As := [.int (iI 3), .int (iI x1)]) (rest := []) ⟨hx, hb, hml, hown, hts⟩ hE (kc_X9_isThere_1_3 l dC dI cB cI cJ cZ cQ aL aS q _ t2 x1 hI ht2 hx1) (cwV 2 hts (goodVk wkq_10_54 wkq_0_22 wkq_0_23 wkq_0_6 wkq_0_24) rfl rfl rfl (by decide +kernel) ⟨Nat.le_of_ble_eq_true rfl, Nat.le_of_ble_eq_true rfl⟩) hK hDD hA0 hP hS t2 9 (wkT ht2) rfl rfl hl.1 (Nat.le_of_ble_eq_true rfl) (dk_at dkX11_opens_0 4 rfl) (fun z3 A4 H locs hw5 hP hS => ?_)
  obtain ⟨rfl, hw5⟩ := hw5
  have ghw5 : q_X9_isThere_1_3 t2 x1 A z3 := hw5
  have hw5 := hw5.2
  have rz3 : 0 ≤ z3 ∧ z3 ≤ 1 := hw5.1
  have hw5 := hw5.2
  refine lv_if_eq (tgt := 24) hx hb (dk_at dkX11_opens_0 5 rfl) (by decide) (fun c6 => ?_) (fun c6 => ?_)
  · have c6 : z3 = 0 := (i_eq0 (rb rz3 (by decide) (by decide))).mp c6
    clear hw5
    refine lv_iconst (v := iI (-1)) hx hb (dk_at dkX11_opens_0 12 rfl) (by decide +kernel) ?_
    exact RET (-1) _ _ _ _ _ ⟨(u_r_X11_opens ⟨t2, et2, ⟨z3, ghw5, (Or.inl ⟨c6, ⟨rfl, rfl⟩⟩)⟩⟩), hI, fk.rf, ⟨by decide, by decide⟩⟩ hP hS (dk_at dkX11_opens_0 13 rfl)
  · have c6 : ¬ z3 = 0 := mt (i_eq0 (rb rz3 (by decide) (by decide))).mpr c6
    have hw5b := hw5 (by omega)
    clear hw5
    refine lv_aload_n hx hb (dk_at dkX11_opens_0 6 rfl) rfl (lv_at hl 0 rfl) ?_
    refine va_get (D := (dC, dI)) (ci := 11) (v := .ref (q (51 + 31 * (A 0 9).toNat))) (C := RX11) (T := TX11) (N := 11) hx hb hts hiX11 hown hK hP 0 (wkK) rfl 9 (by decide) (hts _ (List.mem_cons_of_mem _ wkq_10_36)) (fun _ h9 => h9) rfl (dk_at dkX11_opens_0 7 rfl) ?_
    refine tp_v (y := .ref (q t2)) (by rw [et2]) ?_
    refine lv_iconst (v := iI 1) hx hb (dk_at dkX11_opens_0 8 rfl) (by decide +kernel) ?_
    refine lv_iload_n hx hb (dk_at dkX11_opens_0 9 rfl) rfl (lv_at hl 2 rfl) ?_
    refine k_calli (As := [.int (iI 1), .int (iI x2)]) (rest := []) ⟨hx, hb, hml, hown, hts⟩ hE (kc_X9_isThere_1_1 l dC dI cB cI cJ cZ cQ aL aS q _ t2 x2 hI ht2 hx2) (cwV 2 hts (goodVk wkq_10_54 wkq_0_22 wkq_0_23 wkq_0_6 wkq_0_24) rfl rfl rfl (by decide +kernel) ⟨Nat.le_of_ble_eq_true rfl, Nat.le_of_ble_eq_true rfl⟩) hK hDD hA0 hP hS t2 9 (wkT ht2) rfl rfl hl.1 (Nat.le_of_ble_eq_true rfl) (dk_at dkX11_opens_0 10 rfl) (fun z7 A8 H locs hw9 hP hS => ?_)
    obtain ⟨rfl, hw9⟩ := hw9
    have ghw9 : q_X9_isThere_1_1 t2 x2 A z7 := hw9
    have hw9 := hw9.2
    have rz7 : 0 ≤ z7 ∧ z7 ≤ 1 := hw9.1
    have hw9 := hw9.2
    refine lv_if_ne (tgt := 26) hx hb (dk_at dkX11_opens_0 11 rfl) (by decide) (fun c10 => ?_) (fun c10 => ?_)
    · have c10 : ¬ z7 = 0 := mt (i_eq0 (rb rz7 (by decide) (by decide))).mpr c10
      have hw9b := hw9 (by omega)
      clear hw9
      refine lv_aload_n hx hb (dk_at dkX11_opens_0 14 rfl) rfl (lv_at hl 0 rfl) ?_
      refine va_get (D := (dC, dI)) (ci := 11) (v := .ref (q 6)) (C := RX11) (T := TX11) (N := 11) hx hb hts hiX11 hown hK hP 0 (wkK) rfl 2 (by decide) (hts _ (List.mem_cons_of_mem _ wkq_11_13)) (fun _ h9 => h9) rfl (dk_at dkX11_opens_0 15 rfl) ?_
      refine lv_aload_n hx hb (dk_at dkX11_opens_1 0 rfl) rfl (lv_at hl 0 rfl) ?_
      refine va_get (D := (dC, dI)) (ci := 11) (v := .ref (q (51 + 31 * (A 0 9).toNat))) (C := RX11) (T := TX11) (N := 11) hx hb hts hiX11 hown hK hP 0 (wkK) rfl 9 (by decide) (hts _ (List.mem_cons_of_mem _ wkq_10_36)) (fun _ h9 => h9) rfl (dk_at dkX11_opens_1 1 rfl) ?_
      refine tp_v (y := .ref (q t2)) (by rw [et2]) ?_
      refine lv_iload_n hx hb (dk_at dkX11_opens_1 2 rfl) rfl (lv_at hl 1 rfl) ?_
      refine lv_aload_n hx hb (dk_at dkX11_opens_1 3 rfl) rfl (lv_at hl 0 rfl) ?_
      refine va_get (D := (dC, dI)) (ci := 11) (v := .ref (q (51 + 31 * (A 0 9).toNat))) (C := RX11) (T := TX11) (N := 11) hx hb hts hiX11 hown hK hP 0 (wkK) rfl 9 (by decide) (hts _ (List.mem_cons_of_mem _ wkq_10_36)) (fun _ h9 => h9) rfl (dk_at dkX11_opens_1 4 rfl) ?_
      refine tp_v (y := .ref (q t2)) (by rw [et2]) ?_
      refine lv_iload_n hx hb (dk_at dkX11_opens_1 5 rfl) rfl (lv_at hl 1 rfl) ?_
      refine k_calli (As := [.int (iI x1)]) (rest := [.int (iI x1), .ref (q t2), .ref (q 6)]) ⟨hx, hb, hml, hown, hts⟩ hE (kc_X9_keysOf l dC dI cB cI cJ cZ cQ aL aS q _ t2 x1 hI ht2 hx1) (cwV 1 hts (goodVk wkq_11_14 wkq_0_4 wkq_0_5 wkq_0_6 wkq_0_7) rfl rfl rfl (by decide +kernel) ⟨Nat.le_of_ble_eq_true rfl, Nat.le_of_ble_eq_true rfl⟩) hK hDD hA0 hP hS t2 9 (wkT ht2) rfl rfl hl.1 (Nat.le_of_ble_eq_true rfl) (dk_at dkX11_opens_1 6 rfl) (fun z11 A12 H locs hw13 hP hS => ?_)
      obtain ⟨rfl, hw13⟩ := hw13
      have ghw13 : q_X9_keysOf t2 x1 A z11 := hw13
      have hw13 := hw13.2
      refine lv_iconst (v := iI 1) hx hb (dk_at dkX11_opens_1 7 rfl) (by decide +kernel) ?_
      refine lv_iload_n hx hb (dk_at dkX11_opens_1 8 rfl) rfl (lv_at hl 2 rfl) ?_
      refine k_calli (As := [.ref (q t2), .int (iI x1), .int (iI z11), .int (iI 1), .int (iI x2)]) (rest := []) ⟨hx, hb, hml, hown, hts⟩ hE (kc_X0_search l dC dI cB cI cJ cZ cQ aL aS q _ t2 x1 z11 1 x2 hI ht2 hx1 hw13 ⟨by decide, by decide⟩ hx2) (cwV 5 hts (goodVk wkq_11_57 wkq_0_12 wkq_0_13 wkq_0_14 wkq_0_15) rfl rfl rfl (by decide +kernel) ⟨Nat.le_of_ble_eq_true rfl, Nat.le_of_ble_eq_true rfl⟩) hK hDD hA0 hP hS 6 0 (wkAL) rfl rfl hl.1 (Nat.le_of_ble_eq_true rfl) (dk_at dkX11_opens_1 9 rfl) (fun z14 A15 H locs hw16 hP hS => ?_)
      have ghw16 : q_X0_search t2 x1 z11 1 x2 A z14 A15 := hw16
      obtain ⟨_, hI, hf17, hw16⟩ := hw16
      exact RET z14 _ _ _ _ _ ⟨(u_r_X11_opens ⟨t2, et2, ⟨z3, ghw5, (Or.inr ⟨c6, ⟨z7, ghw9, (Or.inl ⟨c10, ⟨z11, ghw13, ⟨z14, A15, ghw16, ⟨rfl, rfl⟩⟩⟩⟩)⟩⟩)⟩⟩), hI, fk.trans (fk.rf) hf17 rfl rfl, hw16⟩ hP hS (dk_at dkX11_opens_1 10 rfl)
    · have c10 : z7 = 0 := (i_eq0 (rb rz7 (by decide) (by decide))).mp c10
      clear hw9
      refine lv_iconst (v := iI (-1)) hx hb (dk_at dkX11_opens_0 12 rfl) (by decide +kernel) ?_
      exact RET (-1) _ _ _ _ _ ⟨(u_r_X11_opens ⟨t2, et2, ⟨z3, ghw5, (Or.inr ⟨c6, ⟨z7, ghw9, (Or.inr ⟨c10, ⟨rfl, rfl⟩⟩)⟩⟩)⟩⟩), hI, fk.rf, ⟨by decide, by decide⟩⟩ hP hS (dk_at dkX11_opens_0 13 rfl)

abbrev tr_r_X11_errands (x1 : Int) (A : St) (z : Int) (u : St) : Prop := (∃ t2 : Nat, t2 = 51 + 31 * ((A 0 9)).toNat ∧ (∃ z3 : Int, q_X9_isThere_1_3 t2 x1 A z3 ∧ (((¬ z3 = 0) ∧ (∃ z7 : Int, q_X9_keysOf t2 x1 A z7 ∧ (∃ z10 : Int, ∃ A11 : St, q_X0_search t2 x1 z7 2 0 A z10 A11 ∧ (z = z10 ∧ u = A11)))) ∨ ((z3 = 0) ∧ (z = (-1) ∧ u = A)))))
def r_X11_errands (x1 : Int) (A : St) (z : Int) (u : St) : Prop := tr_r_X11_errands x1 A z u
theorem u_r_X11_errands {x1 : Int} {A : St} {z : Int} {u : St} (h : tr_r_X11_errands x1 A z u) : r_X11_errands x1 A z u := h
def ws_kc_X11_errands : List Cond := .code yX11_errands cX11_errands 2 (some .int) :: WY
set_option maxHeartbeats 4000000 in
set_option maxRecDepth 100000 in
theorem kc_X11_errands (l : Launch) (dC : Nat → ClassId) (dI : Nat → Nat → Nat) (cB cI cJ cZ cQ : ClassId) (aL aS : Nat) (q : Nat → Nat) (A : St) (x1 : Int) (hI : IK A) (hx1 : (-2147483648 : Int) ≤ x1 ∧ x1 ≤ 2147483647) : KMi l yX11_errands ws_kc_X11_errands ({ frames := 6, cells := 0, slots := 0, locals := 155 } : Room) aL aS (dC, dI) (tyA cB cI cJ cZ cQ) (WK cB cI cJ cZ cQ q) A [.ref (q 0), .int (iI x1)] (fun z u => r_X11_errands x1 A z u ∧ IK u ∧ fk [7, 9, 10, 11, 12, 13, 14, 15, 16, 17, 18, 19, 72, 103] [(6, 7), (6, 8), (6, 9), (6, 10), (6, 11), (6, 12), (6, 13), (6, 14), (6, 15)] A u ∧ (-2147483648 ≤ z ∧ z ≤ 2147483647)) := by
  refine k_meti (cc := cX11_errands) (maxL := 2) WK_adr (plainFor_of_name (by decide +kernel)) rfl (Nat.le_of_ble_eq_true rfl) (fun p e s m below meth c Q AS ls hx hb hml hown hts hK hDD hA0 hE RET H locs hP hS hl => ?_)
  have hown : s.vm.findClass RX11 = some m.cls := hown
  have hl : lv_has ls 2 [(0, .ref (q 0)), (1, .int (iI x1))] := hl
  have hiX11 : ∀ w ∈ u_ws RX11 TX11 11, w ∈ ws_kc_X11_errands := fun w h => List.mem_cons_of_mem _ (wy_layX11 w h)
  refine lv_aload_n hx hb (dk_at dkX11_errands_0 0 rfl) rfl (lv_at hl 0 rfl) ?_
  have r1 : (0 : Int) ≤ (A 0 9) ∧ (A 0 9) ≤ 1 := irK_9 hI
  obtain ⟨t2, et2⟩ : ∃ t : Nat, t = 51 + 31 * ((A 0 9)).toNat := ⟨_, rfl⟩
  have ht2 : isT t2 := by rw [et2]; exact isT.b r1
  refine va_get (D := (dC, dI)) (ci := 11) (v := .ref (q (51 + 31 * (A 0 9).toNat))) (C := RX11) (T := TX11) (N := 11) hx hb hts hiX11 hown hK hP 0 (wkK) rfl 9 (by decide) (hts _ (List.mem_cons_of_mem _ wkq_10_36)) (fun _ h9 => h9) rfl (dk_at dkX11_errands_0 1 rfl) ?_
  refine tp_v (y := .ref (q t2)) (by rw [et2]) ?_
  refine lv_iconst (v := iI 3) hx hb (dk_at dkX11_errands_0 2 rfl) (by decide +kernel) ?_
  refine lv_iload_n hx hb (dk_at dkX11_errands_0 3 rfl) rfl (lv_at hl 1 rfl) ?_
  refine k_calli (As := [.int (iI 3), .int (iI x1)]) (rest := []) ⟨hx, hb, hml, hown, hts⟩ hE (kc_X9_isThere_1_3 l dC dI cB cI cJ cZ cQ aL aS q _ t2 x1 hI ht2 hx1) (cwV 2 hts (goodVk wkq_10_54 wkq_0_22 wkq_0_23 wkq_0_6 wkq_0_24) rfl rfl rfl (by decide +kernel) ⟨Nat.le_of_ble_eq_true rfl, Nat.le_of_ble_eq_true rfl⟩) hK hDD hA0 hP hS t2 9 (wkT ht2) rfl rfl hl.1 (Nat.le_of_ble_eq_true rfl) (dk_at dkX11_errands_0 4 rfl) (fun z3 A4 H locs hw5 hP hS => ?_)
  obtain ⟨rfl, hw5⟩ := hw5
  have ghw5 : q_X9_isThere_1_3 t2 x1 A z3 := hw5
  have hw5 := hw5.2
  have rz3 : 0 ≤ z3 ∧ z3 ≤ 1 := hw5.1
  have hw5 := hw5.2
  refine lv_if_ne (tgt := 14) hx hb (dk_at dkX11_errands_0 5 rfl) (by decide) (fun c6 => ?_) (fun c6 => ?_)
  · have c6 : ¬ z3 = 0 := mt (i_eq0 (rb rz3 (by decide) (by decide))).mpr c6
    have hw5b := hw5 (by omega)
    clear hw5
    refine lv_aload_n hx hb (dk_at dkX11_errands_0 8 rfl) rfl (lv_at hl 0 rfl) ?_
    refine va_get (D := (dC, dI)) (ci := 11) (v := .ref (q 6)) (C := RX11) (T := TX11) (N := 11) hx hb hts hiX11 hown hK hP 0 (wkK) rfl 2 (by decide) (hts _ (List.mem_cons_of_mem _ wkq_11_13)) (fun _ h9 => h9) rfl (dk_at dkX11_errands_0 9 rfl) ?_
    refine lv_aload_n hx hb (dk_at dkX11_errands_0 10 rfl) rfl (lv_at hl 0 rfl) ?_
    refine va_get (D := (dC, dI)) (ci := 11) (v := .ref (q (51 + 31 * (A 0 9).toNat))) (C := RX11) (T := TX11) (N := 11) hx hb hts hiX11 hown hK hP 0 (wkK) rfl 9 (by decide) (hts _ (List.mem_cons_of_mem _ wkq_10_36)) (fun _ h9 => h9) rfl (dk_at dkX11_errands_0 11 rfl) ?_
    refine tp_v (y := .ref (q t2)) (by rw [et2]) ?_
    refine lv_iload_n hx hb (dk_at dkX11_errands_0 12 rfl) rfl (lv_at hl 1 rfl) ?_
    refine lv_aload_n hx hb (dk_at dkX11_errands_0 13 rfl) rfl (lv_at hl 0 rfl) ?_
    refine va_get (D := (dC, dI)) (ci := 11) (v := .ref (q (51 + 31 * (A 0 9).toNat))) (C := RX11) (T := TX11) (N := 11) hx hb hts hiX11 hown hK hP 0 (wkK) rfl 9 (by decide) (hts _ (List.mem_cons_of_mem _ wkq_10_36)) (fun _ h9 => h9) rfl (dk_at dkX11_errands_0 14 rfl) ?_
    refine tp_v (y := .ref (q t2)) (by rw [et2]) ?_
    refine lv_iload_n hx hb (dk_at dkX11_errands_0 15 rfl) rfl (lv_at hl 1 rfl) ?_
    refine k_calli (As := [.int (iI x1)]) (rest := [.int (iI x1), .ref (q t2), .ref (q 6)]) ⟨hx, hb, hml, hown, hts⟩ hE (kc_X9_keysOf l dC dI cB cI cJ cZ cQ aL aS q _ t2 x1 hI ht2 hx1) (cwV 1 hts (goodVk wkq_11_14 wkq_0_4 wkq_0_5 wkq_0_6 wkq_0_7) rfl rfl rfl (by decide +kernel) ⟨Nat.le_of_ble_eq_true rfl, Nat.le_of_ble_eq_true rfl⟩) hK hDD hA0 hP hS t2 9 (wkT ht2) rfl rfl hl.1 (Nat.le_of_ble_eq_true rfl) (dk_at dkX11_errands_1 0 rfl) (fun z7 A8 H locs hw9 hP hS => ?_)
    obtain ⟨rfl, hw9⟩ := hw9
    have ghw9 : q_X9_keysOf t2 x1 A z7 := hw9
    have hw9 := hw9.2
    refine lv_iconst (v := iI 2) hx hb (dk_at dkX11_errands_1 1 rfl) (by decide +kernel) ?_
    refine lv_iconst (v := iI 0) hx hb (dk_at dkX11_errands_1 2 rfl) (by decide +kernel) ?_
    refine k_calli (As := [.ref (q t2), .int (iI x1), .int (iI z7), .int (iI 2), .int (iI 0)]) (rest := []) ⟨hx, hb, hml, hown, hts⟩ hE (kc_X0_search l dC dI cB cI cJ cZ cQ aL aS q _ t2 x1 z7 2 0 hI ht2 hx1 hw9 ⟨by decide, by decide⟩ ⟨by decide, by decide⟩) (cwV 5 hts (goodVk wkq_11_57 wkq_0_12 wkq_0_13 wkq_0_14 wkq_0_15) rfl rfl rfl (by decide +kernel) ⟨Nat.le_of_ble_eq_true rfl, Nat.le_of_ble_eq_true rfl⟩) hK hDD hA0 hP hS 6 0 (wkAL) rfl rfl hl.1 (Nat.le_of_ble_eq_true rfl) (dk_at dkX11_errands_1 3 rfl) (fun z10 A11 H locs hw12 hP hS => ?_)
    have ghw12 : q_X0_search t2 x1 z7 2 0 A z10 A11 := hw12
    obtain ⟨_, hI, hf13, hw12⟩ := hw12
    exact RET z10 _ _ _ _ _ ⟨(u_r_X11_errands ⟨t2, et2, ⟨z3, ghw5, (Or.inl ⟨c6, ⟨z7, ghw9, ⟨z10, A11, ghw12, ⟨rfl, rfl⟩⟩⟩⟩)⟩⟩), hI, fk.trans (fk.rf) hf13 rfl rfl, hw12⟩ hP hS (dk_at dkX11_errands_1 4 rfl)
  · have c6 : z3 = 0 := (i_eq0 (rb rz3 (by decide) (by decide))).mp c6
    clear hw5
    refine lv_iconst (v := iI (-1)) hx hb (dk_at dkX11_errands_0 6 rfl) (by decide +kernel) ?_
    exact RET (-1) _ _ _ _ _ ⟨(u_r_X11_errands ⟨t2, et2, ⟨z3, ghw5, (Or.inr ⟨c6, ⟨rfl, rfl⟩⟩)⟩⟩), hI, fk.rf, ⟨by decide, by decide⟩⟩ hP hS (dk_at dkX11_errands_0 7 rfl)

abbrev tr_r_X11_lent (x1 : Int) (x2 : Int) (x3 : Int) (A : St) (z : Int) (u : St) : Prop := (∃ t2 : Nat, t2 = 51 + 31 * ((A 0 9)).toNat ∧ (∃ z3 : Int, q_X9_isThere_1_3 t2 x1 A z3 ∧ (((z3 = 0) ∧ (z = (-1) ∧ u = A)) ∨ ((¬ z3 = 0) ∧ (∃ z7 : Int, q_X9_isThere_1_0 t2 x2 A z7 ∧ (((z7 = 0) ∧ (z = (-1) ∧ u = A)) ∨ ((¬ z7 = 0) ∧ (((x3 < 0) ∧ (z = (-1) ∧ u = A)) ∨ ((¬ x3 < 0) ∧ (((x3 ≤ 2) ∧ (∃ z13 : Int, ∃ A14 : St, q_X0_bestLent t2 x1 x2 A z13 A14 ∧ (((z13 = (-1)) ∧ (z = z13 ∧ u = A14)) ∨ ((¬ z13 = (-1)) ∧ (((¬ x3 = 0) ∧ (((¬ x3 = 1) ∧ (∃ z22 : Int, q_X9_keysOf t2 x1 A14 z22 ∧ (∃ z25 : Int, ∃ A26 : St, q_X0_search t2 x1 z22 0 x2 A14 z25 A26 ∧ (((¬ z25 = (-1)) ∧ (∃ z30 : Int, z30 = oWrap (z25 - (A14 6 16)) ∧ (z = z30 ∧ u = A26))) ∨ ((z25 = (-1)) ∧ (z = (-1) ∧ u = A26)))))) ∨ ((x3 = 1) ∧ (z = (A14 6 16) ∧ u = A14)))) ∨ ((x3 = 0) ∧ (z = z13 ∧ u = A14))))))) ∨ ((¬ x3 ≤ 2) ∧ (z = (-1) ∧ u = A))))))))))))
def r_X11_lent (x1 : Int) (x2 : Int) (x3 : Int) (A : St) (z : Int) (u : St) : Prop := tr_r_X11_lent x1 x2 x3 A z u
theorem u_r_X11_lent {x1 : Int} {x2 : Int} {x3 : Int} {A : St} {z : Int} {u : St} (h : tr_r_X11_lent x1 x2 x3 A z u) : r_X11_lent x1 x2 x3 A z u := h
def ws_kc_X11_lent : List Cond := .code yX11_lent cX11_lent 7 (some .int) :: WY
set_option maxHeartbeats 4000000 in
set_option maxRecDepth 100000 in
theorem kc_X11_lent (l : Launch) (dC : Nat → ClassId) (dI : Nat → Nat → Nat) (cB cI cJ cZ cQ : ClassId) (aL aS : Nat) (q : Nat → Nat) (A : St) (x1 x2 x3 : Int) (hI : IK A) (hx1 : (-2147483648 : Int) ≤ x1 ∧ x1 ≤ 2147483647) (hx2 : (-2147483648 : Int) ≤ x2 ∧ x2 ≤ 2147483647) (hx3 : (-2147483648 : Int) ≤ x3 ∧ x3 ≤ 2147483647) : KMi l yX11_lent ws_kc_X11_lent ({ frames := 7, cells := 0, slots := 0, locals := 182 } : Room) aL aS (dC, dI) (tyA cB cI cJ cZ cQ) (WK cB cI cJ cZ cQ q) A [.ref (q 0), .int (iI x1), .int (iI x2), .int (iI x3)] (fun z u => r_X11_lent x1 x2 x3 A z u ∧ IK u ∧ fk [7, 9, 10, 11, 12, 13, 14, 15, 16, 17, 18, 19, 72, 103] [(6, 7), (6, 8), (6, 9), (6, 10), (6, 11), (6, 12), (6, 13), (6, 14), (6, 15), (6, 16)] A u ∧ (-2147483648 ≤ z ∧ z ≤ 2147483647)) := by
  refine k_meti (cc := cX11_lent) (maxL := 7) WK_adr (plainFor_of_name (by decide +kernel)) rfl (Nat.le_of_ble_eq_true rfl) (fun p e s m below meth c Q AS ls hx hb hml hown hts hK hDD hA0 hE RET H locs hP hS hl => ?_)
  have hown : s.vm.findClass RX11 = some m.cls := hown
  have hl : lv_has ls 7 [(0, .ref (q 0)), (1, .int (iI x1)), (2, .int (iI x2)), (3, .int (iI x3))] := hl
  have hiX11 : ∀ w ∈ u_ws RX11 TX11 11, w ∈ ws_kc_X11_lent := fun w h => List.mem_cons_of_mem _ (wy_layX11 w h)
  have hiX0 : ∀ w ∈ u_ws RX0 TX0 17, w ∈ ws_kc_X11_lent := fun w h => List.mem_cons_of_mem _ (wy_layX0 w h)
  refine lv_aload_n hx hb (dk_at dkX11_lent_0 0 rfl) rfl (lv_at hl 0 rfl) ?_
  have r1 : (0 : Int) ≤ (A 0 9) ∧ (A 0 9) ≤ 1 := irK_9 hI
  obtain ⟨t2, et2⟩ : ∃ t : Nat, t = 51 + 31 * ((A 0 9)).toNat := ⟨_, rfl⟩
  have ht2 : isT t2 := by rw [et2]; exact isT.b r1
  refine va_get (D := (dC, dI)) (ci := 11) (v := .ref (q (51 + 31 * (A 0 9).toNat))) (C := RX11) (T := TX11) (N := 11) hx hb hts hiX11 hown hK hP 0 (wkK) rfl 9 (by decide) (hts _ (List.mem_cons_of_mem _ wkq_10_36)) (fun _ h9 => h9) rfl (dk_at dkX11_lent_0 1 rfl) ?_
  refine tp_v (y := .ref (q t2)) (by rw [et2]) ?_
  refine lv_iconst (v := iI 3) hx hb (dk_at dkX11_lent_0 2 rfl) (by decide +kernel) ?_
  refine lv_iload_n hx hb (dk_at dkX11_lent_0 3 rfl) rfl (lv_at hl 1 rfl) ?_
  refine k_calli (As := [.int (iI 3), .int (iI x1)]) (rest := []) ⟨hx, hb, hml, hown, hts⟩ hE (kc_X9_isThere_1_3 l dC dI cB cI cJ cZ cQ aL aS q _ t2 x1 hI ht2 hx1) (cwV 2 hts (goodVk wkq_10_54 wkq_0_22 wkq_0_23 wkq_0_6 wkq_0_24) rfl rfl rfl (by decide +kernel) ⟨Nat.le_of_ble_eq_true rfl, Nat.le_of_ble_eq_true rfl⟩) hK hDD hA0 hP hS t2 9 (wkT ht2) rfl rfl hl.1 (Nat.le_of_ble_eq_true rfl) (dk_at dkX11_lent_0 4 rfl) (fun z3 A4 H locs hw5 hP hS => ?_)
  obtain ⟨rfl, hw5⟩ := hw5
  have ghw5 : q_X9_isThere_1_3 t2 x1 A z3 := hw5
  have hw5 := hw5.2
  have rz3 : 0 ≤ z3 ∧ z3 ≤ 1 := hw5.1
  have hw5 := hw5.2
  refine lv_if_eq (tgt := 33) hx hb (dk_at dkX11_lent_0 5 rfl) (by decide) (fun c6 => ?_) (fun c6 => ?_)
  · have c6 : z3 = 0 := (i_eq0 (rb rz3 (by decide) (by decide))).mp c6
    clear hw5
    refine lv_iconst (v := iI (-1)) hx hb (dk_at dkX11_lent_1 1 rfl) (by decide +kernel) ?_
    exact RET (-1) _ _ _ _ _ ⟨(u_r_X11_lent ⟨t2, et2, ⟨z3, ghw5, (Or.inl ⟨c6, ⟨rfl, rfl⟩⟩)⟩⟩), hI, fk.rf, ⟨by decide, by decide⟩⟩ hP hS (dk_at dkX11_lent_1 2 rfl)
  · have c6 : ¬ z3 = 0 := mt (i_eq0 (rb rz3 (by decide) (by decide))).mpr c6
    have hw5b := hw5 (by omega)
    clear hw5
    refine lv_aload_n hx hb (dk_at dkX11_lent_0 6 rfl) rfl (lv_at hl 0 rfl) ?_
    refine va_get (D := (dC, dI)) (ci := 11) (v := .ref (q (51 + 31 * (A 0 9).toNat))) (C := RX11) (T := TX11) (N := 11) hx hb hts hiX11 hown hK hP 0 (wkK) rfl 9 (by decide) (hts _ (List.mem_cons_of_mem _ wkq_10_36)) (fun _ h9 => h9) rfl (dk_at dkX11_lent_0 7 rfl) ?_
    refine tp_v (y := .ref (q t2)) (by rw [et2]) ?_
    refine lv_iconst (v := iI 0) hx hb (dk_at dkX11_lent_0 8 rfl) (by decide +kernel) ?_
    refine lv_iload_n hx hb (dk_at dkX11_lent_0 9 rfl) rfl (lv_at hl 2 rfl) ?_
    refine k_calli (As := [.int (iI 0), .int (iI x2)]) (rest := []) ⟨hx, hb, hml, hown, hts⟩ hE (kc_X9_isThere_1_0 l dC dI cB cI cJ cZ cQ aL aS q _ t2 x2 hI ht2 hx2) (cwV 2 hts (goodVk wkq_10_54 wkq_0_22 wkq_0_23 wkq_0_6 wkq_0_24) rfl rfl rfl (by decide +kernel) ⟨Nat.le_of_ble_eq_true rfl, Nat.le_of_ble_eq_true rfl⟩) hK hDD hA0 hP hS t2 9 (wkT ht2) rfl rfl hl.1 (Nat.le_of_ble_eq_true rfl) (dk_at dkX11_lent_0 10 rfl) (fun z7 A8 H locs hw9 hP hS => ?_)
    obtain ⟨rfl, hw9⟩ := hw9
    have ghw9 : q_X9_isThere_1_0 t2 x2 A z7 := hw9
    have hw9 := hw9.2
    have rz7 : 0 ≤ z7 ∧ z7 ≤ 1 := hw9.1
    have hw9 := hw9.2
    refine lv_if_eq (tgt := 33) hx hb (dk_at dkX11_lent_0 11 rfl) (by decide) (fun c10 => ?_) (fun c10 => ?_)
    · have c10 : z7 = 0 := (i_eq0 (rb rz7 (by decide) (by decide))).mp c10
      clear hw9
      refine lv_iconst (v := iI (-1)) hx hb (dk_at dkX11_lent_1 1 rfl) (by decide +kernel) ?_
      exact RET (-1) _ _ _ _ _ ⟨(u_r_X11_lent ⟨t2, et2, ⟨z3, ghw5, (Or.inr ⟨c6, ⟨z7, ghw9, (Or.inl ⟨c10, ⟨rfl, rfl⟩⟩)⟩⟩)⟩⟩), hI, fk.rf, ⟨by decide, by decide⟩⟩ hP hS (dk_at dkX11_lent_1 2 rfl)
    · have c10 : ¬ z7 = 0 := mt (i_eq0 (rb rz7 (by decide) (by decide))).mpr c10
      have hw9b := hw9 (by omega)
      clear hw9
      refine lv_iload_n hx hb (dk_at dkX11_lent_0 12 rfl) rfl (lv_at hl 3 rfl) ?_
      refine lv_if_lt (tgt := 33) hx hb (dk_at dkX11_lent_0 13 rfl) (by decide) (fun c11 => ?_) (fun c11 => ?_)
      · have c11 : x3 < 0 := (i_lt0 hx3).mp c11
        refine lv_iconst (v := iI (-1)) hx hb (dk_at dkX11_lent_1 1 rfl) (by decide +kernel) ?_
        exact RET (-1) _ _ _ _ _ ⟨(u_r_X11_lent ⟨t2, et2, ⟨z3, ghw5, (Or.inr ⟨c6, ⟨z7, ghw9, (Or.inr ⟨c10, (Or.inl ⟨c11, ⟨rfl, rfl⟩⟩)⟩)⟩⟩)⟩⟩), hI, fk.rf, ⟨by decide, by decide⟩⟩ hP hS (dk_at dkX11_lent_1 2 rfl)
      · have c11 : ¬ x3 < 0 := mt (i_lt0 hx3).mpr c11
        refine lv_iload_n hx hb (dk_at dkX11_lent_0 14 rfl) rfl (lv_at hl 3 rfl) ?_
        refine lv_iconst (v := iI 2) hx hb (dk_at dkX11_lent_0 15 rfl) (by decide +kernel) ?_
        refine lv_icmp_le (tgt := 35) hx hb (dk_at dkX11_lent_1 0 rfl) (by decide) (fun c12 => ?_) (fun c12 => ?_)
        · have c12 : x3 ≤ 2 := (i_le hx3 ⟨by decide, by decide⟩).mp c12
          refine lv_aload_n hx hb (dk_at dkX11_lent_1 3 rfl) rfl (lv_at hl 0 rfl) ?_
          refine va_get (D := (dC, dI)) (ci := 11) (v := .ref (q 6)) (C := RX11) (T := TX11) (N := 11) hx hb hts hiX11 hown hK hP 0 (wkK) rfl 2 (by decide) (hts _ (List.mem_cons_of_mem _ wkq_11_13)) (fun _ h9 => h9) rfl (dk_at dkX11_lent_1 4 rfl) ?_
          refine lv_aload_n hx hb (dk_at dkX11_lent_1 5 rfl) rfl (lv_at hl 0 rfl) ?_
          refine va_get (D := (dC, dI)) (ci := 11) (v := .ref (q (51 + 31 * (A 0 9).toNat))) (C := RX11) (T := TX11) (N := 11) hx hb hts hiX11 hown hK hP 0 (wkK) rfl 9 (by decide) (hts _ (List.mem_cons_of_mem _ wkq_10_36)) (fun _ h9 => h9) rfl (dk_at dkX11_lent_1 6 rfl) ?_
          refine tp_v (y := .ref (q t2)) (by rw [et2]) ?_
          refine lv_iload_n hx hb (dk_at dkX11_lent_1 7 rfl) rfl (lv_at hl 1 rfl) ?_
          refine lv_iload_n hx hb (dk_at dkX11_lent_1 8 rfl) rfl (lv_at hl 2 rfl) ?_
          refine k_calli (As := [.ref (q t2), .int (iI x1), .int (iI x2)]) (rest := []) ⟨hx, hb, hml, hown, hts⟩ hE (kc_X0_bestLent l dC dI cB cI cJ cZ cQ aL aS q _ t2 x1 x2 hI ht2 hx1 hx2) (cwV 3 hts (goodVk wkq_12_2 wkq_12_3 wkq_12_4 wkq_0_14 wkq_2_58) rfl rfl rfl (by decide +kernel) ⟨Nat.le_of_ble_eq_true rfl, Nat.le_of_ble_eq_true rfl⟩) hK hDD hA0 hP hS 6 0 (wkAL) rfl rfl hl.1 (Nat.le_of_ble_eq_true rfl) (dk_at dkX11_lent_1 9 rfl) (fun z13 A14 H locs hw15 hP hS => ?_)
          have ghw15 : q_X0_bestLent t2 x1 x2 A z13 A14 := hw15
          obtain ⟨_, hI, hf16, hw15⟩ := hw15
          refine lv_istore (lv' := [(4, .int (iI z13)), (0, .ref (q 0)), (1, .int (iI x1)), (2, .int (iI x2)), (3, .int (iI x3))]) hx hb (dk_at dkX11_lent_1 10 rfl) hl (by decide) rfl (fun ls hl => ?_)
          refine lv_iload hx hb (dk_at dkX11_lent_1 11 rfl) (lv_at hl 0 rfl) ?_
          refine lv_iconst (v := iI (-1)) hx hb (dk_at dkX11_lent_1 12 rfl) (by decide +kernel) ?_
          refine lv_icmp_eq (tgt := 60) hx hb (dk_at dkX11_lent_1 13 rfl) (by decide) (fun c17 => ?_) (fun c17 => ?_)
          · have c17 : z13 = (-1) := (i_eq hw15 ⟨by decide, by decide⟩).mp c17
            refine lv_iload hx hb (dk_at dkX11_lent_2 0 rfl) (lv_at hl 0 rfl) ?_
            exact RET z13 _ _ _ _ _ ⟨(u_r_X11_lent ⟨t2, et2, ⟨z3, ghw5, (Or.inr ⟨c6, ⟨z7, ghw9, (Or.inr ⟨c10, (Or.inr ⟨c11, (Or.inl ⟨c12, ⟨z13, A14, ghw15, (Or.inl ⟨c17, ⟨rfl, rfl⟩⟩)⟩⟩)⟩)⟩)⟩⟩)⟩⟩), hI, fk.trans (fk.rf) hf16 rfl rfl, hw15⟩ hP hS (dk_at dkX11_lent_2 1 rfl)
          · have c17 : ¬ z13 = (-1) := mt (i_eq hw15 ⟨by decide, by decide⟩).mpr c17
            refine lv_iload_n hx hb (dk_at dkX11_lent_1 14 rfl) rfl (lv_at hl 4 rfl) ?_
            refine lv_if_ne (tgt := 63) hx hb (dk_at dkX11_lent_1 15 rfl) (by decide) (fun c18 => ?_) (fun c18 => ?_)
            · have c18 : ¬ x3 = 0 := mt (i_eq0 hx3).mpr c18
              refine lv_aload_n hx hb (dk_at dkX11_lent_2 2 rfl) rfl (lv_at hl 1 rfl) ?_
              refine va_get (D := (dC, dI)) (ci := 11) (v := .ref (q 6)) (C := RX11) (T := TX11) (N := 11) hx hb hts hiX11 hown hK hP 0 (wkK) rfl 2 (by decide) (hts _ (List.mem_cons_of_mem _ wkq_11_13)) (fun _ h9 => h9) rfl (dk_at dkX11_lent_2 3 rfl) ?_
              have r19 : (-2147483648 : Int) ≤ (A14 6 16) ∧ (A14 6 16) ≤ 2147483647 := irAL_16 hI
              refine va_get (D := (dC, dI)) (ci := 0) (v := .int (iI (A14 6 16))) (C := RX0) (T := TX0) (N := 17) hx hb hts hiX0 hown hK hP 6 (wkAL) rfl 16 (by decide) (hts _ (List.mem_cons_of_mem _ wkq_12_1)) (fun _ h9 => h9) rfl (dk_at dkX11_lent_2 4 rfl) ?_
              refine lv_istore (lv' := [(5, .int (iI (A14 6 16))), (4, .int (iI z13)), (0, .ref (q 0)), (1, .int (iI x1)), (2, .int (iI x2)), (3, .int (iI x3))]) hx hb (dk_at dkX11_lent_2 5 rfl) hl (by decide) rfl (fun ls hl => ?_)
              refine lv_iload_n hx hb (dk_at dkX11_lent_2 6 rfl) rfl (lv_at hl 5 rfl) ?_
              refine lv_iconst (v := iI 1) hx hb (dk_at dkX11_lent_2 7 rfl) (by decide +kernel) ?_
              refine lv_icmp_ne (tgt := 80) hx hb (dk_at dkX11_lent_2 8 rfl) (by decide) (fun c20 => ?_) (fun c20 => ?_)
              · have c20 : ¬ x3 = 1 := mt (i_eq hx3 ⟨by decide, by decide⟩).mpr c20
                refine lv_aload_n hx hb (dk_at dkX11_lent_2 11 rfl) rfl (lv_at hl 2 rfl) ?_
                refine va_get (D := (dC, dI)) (ci := 11) (v := .ref (q 6)) (C := RX11) (T := TX11) (N := 11) hx hb hts hiX11 hown hK hP 0 (wkK) rfl 2 (by decide) (hts _ (List.mem_cons_of_mem _ wkq_11_13)) (fun _ h9 => h9) rfl (dk_at dkX11_lent_2 12 rfl) ?_
                refine lv_aload_n hx hb (dk_at dkX11_lent_2 13 rfl) rfl (lv_at hl 2 rfl) ?_
                have e21 : A14 0 9 = (A 0 9) := (hf16 0 9 rfl rfl)
                refine va_get (D := (dC, dI)) (ci := 11) (v := .ref (q (51 + 31 * (A14 0 9).toNat))) (C := RX11) (T := TX11) (N := 11) hx hb hts hiX11 hown hK hP 0 (wkK) rfl 9 (by decide) (hts _ (List.mem_cons_of_mem _ wkq_10_36)) (fun _ h9 => h9) rfl (dk_at dkX11_lent_2 14 rfl) ?_
                refine tp_v (y := .ref (q t2)) (by rw [et2, e21]) ?_
                refine lv_iload_n hx hb (dk_at dkX11_lent_2 15 rfl) rfl (lv_at hl 3 rfl) ?_
                refine lv_aload_n hx hb (dk_at dkX11_lent_3 0 rfl) rfl (lv_at hl 2 rfl) ?_
                refine va_get (D := (dC, dI)) (ci := 11) (v := .ref (q (51 + 31 * (A14 0 9).toNat))) (C := RX11) (T := TX11) (N := 11) hx hb hts hiX11 hown hK hP 0 (wkK) rfl 9 (by decide) (hts _ (List.mem_cons_of_mem _ wkq_10_36)) (fun _ h9 => h9) rfl (dk_at dkX11_lent_3 1 rfl) ?_
                refine tp_v (y := .ref (q t2)) (by rw [et2, e21]) ?_
                refine lv_iload_n hx hb (dk_at dkX11_lent_3 2 rfl) rfl (lv_at hl 3 rfl) ?_
                refine k_calli (As := [.int (iI x1)]) (rest := [.int (iI x1), .ref (q t2), .ref (q 6)]) ⟨hx, hb, hml, hown, hts⟩ hE (kc_X9_keysOf l dC dI cB cI cJ cZ cQ aL aS q _ t2 x1 hI ht2 hx1) (cwV 1 hts (goodVk wkq_11_14 wkq_0_4 wkq_0_5 wkq_0_6 wkq_0_7) rfl rfl rfl (by decide +kernel) ⟨Nat.le_of_ble_eq_true rfl, Nat.le_of_ble_eq_true rfl⟩) hK hDD hA0 hP hS t2 9 (wkT ht2) rfl rfl hl.1 (Nat.le_of_ble_eq_true rfl) (dk_at dkX11_lent_3 3 rfl) (fun z22 A23 H locs hw24 hP hS => ?_)
                obtain ⟨rfl, hw24⟩ := hw24
                have ghw24 : q_X9_keysOf t2 x1 A14 z22 := hw24
                have hw24 := hw24.2
                refine lv_iconst (v := iI 0) hx hb (dk_at dkX11_lent_3 4 rfl) (by decide +kernel) ?_
                refine lv_iload_n hx hb (dk_at dkX11_lent_3 5 rfl) rfl (lv_at hl 4 rfl) ?_
                refine k_calli (As := [.ref (q t2), .int (iI x1), .int (iI z22), .int (iI 0), .int (iI x2)]) (rest := []) ⟨hx, hb, hml, hown, hts⟩ hE (kc_X0_search l dC dI cB cI cJ cZ cQ aL aS q _ t2 x1 z22 0 x2 hI ht2 hx1 hw24 ⟨by decide, by decide⟩ hx2) (cwV 5 hts (goodVk wkq_11_57 wkq_0_12 wkq_0_13 wkq_0_14 wkq_0_15) rfl rfl rfl (by decide +kernel) ⟨Nat.le_of_ble_eq_true rfl, Nat.le_of_ble_eq_true rfl⟩) hK hDD hA0 hP hS 6 0 (wkAL) rfl rfl hl.1 (Nat.le_of_ble_eq_true rfl) (dk_at dkX11_lent_3 6 rfl) (fun z25 A26 H locs hw27 hP hS => ?_)
                have ghw27 : q_X0_search t2 x1 z22 0 x2 A14 z25 A26 := hw27
                obtain ⟨_, hI, hf28, hw27⟩ := hw27
                refine lv_istore (lv' := [(6, .int (iI z25)), (5, .int (iI (A14 6 16))), (4, .int (iI z13)), (0, .ref (q 0)), (1, .int (iI x1)), (2, .int (iI x2)), (3, .int (iI x3))]) hx hb (dk_at dkX11_lent_3 7 rfl) hl (by decide) rfl (fun ls hl => ?_)
                refine lv_iload hx hb (dk_at dkX11_lent_3 8 rfl) (lv_at hl 0 rfl) ?_
                refine lv_iconst (v := iI (-1)) hx hb (dk_at dkX11_lent_3 9 rfl) (by decide +kernel) ?_
                refine lv_icmp_ne (tgt := 114) hx hb (dk_at dkX11_lent_3 10 rfl) (by decide) (fun c29 => ?_) (fun c29 => ?_)
                · have c29 : ¬ z25 = (-1) := mt (i_eq hw27 ⟨by decide, by decide⟩).mpr c29
                  refine lv_iload hx hb (dk_at dkX11_lent_3 13 rfl) (lv_at hl 0 rfl) ?_
                  refine lv_iload hx hb (dk_at dkX11_lent_3 14 rfl) (lv_at hl 1 rfl) ?_
                  refine x_subv (v := z25 - (A14 6 16)) hx hb (dk_at dkX11_lent_3 15 rfl) (by omega) ?_
                  refine x_absE (fun z30 gz30 hz30 => ?_)
                  exact RET z30 _ _ _ _ _ ⟨(u_r_X11_lent ⟨t2, et2, ⟨z3, ghw5, (Or.inr ⟨c6, ⟨z7, ghw9, (Or.inr ⟨c10, (Or.inr ⟨c11, (Or.inl ⟨c12, ⟨z13, A14, ghw15, (Or.inr ⟨c17, (Or.inl ⟨c18, (Or.inl ⟨c20, ⟨z22, ghw24, ⟨z25, A26, ghw27, (Or.inl ⟨c29, ⟨z30, gz30.out, ⟨rfl, rfl⟩⟩⟩)⟩⟩⟩)⟩)⟩)⟩⟩)⟩)⟩)⟩⟩)⟩⟩), hI, fk.trans (fk.trans (fk.rf) hf16 rfl rfl) hf28 rfl rfl, hz30⟩ hP hS (dk_at dkX11_lent_4 0 rfl)
                · have c29 : z25 = (-1) := (i_eq hw27 ⟨by decide, by decide⟩).mp c29
                  refine lv_iconst (v := iI (-1)) hx hb (dk_at dkX11_lent_3 11 rfl) (by decide +kernel) ?_
                  refine lv_goto (tgt := 119) hx hb (dk_at dkX11_lent_3 12 rfl) (by decide) ?_
                  exact RET (-1) _ _ _ _ _ ⟨(u_r_X11_lent ⟨t2, et2, ⟨z3, ghw5, (Or.inr ⟨c6, ⟨z7, ghw9, (Or.inr ⟨c10, (Or.inr ⟨c11, (Or.inl ⟨c12, ⟨z13, A14, ghw15, (Or.inr ⟨c17, (Or.inl ⟨c18, (Or.inl ⟨c20, ⟨z22, ghw24, ⟨z25, A26, ghw27, (Or.inr ⟨c29, ⟨rfl, rfl⟩⟩)⟩⟩⟩)⟩)⟩)⟩⟩)⟩)⟩)⟩⟩)⟩⟩), hI, fk.trans (fk.trans (fk.rf) hf16 rfl rfl) hf28 rfl rfl, ⟨by decide, by decide⟩⟩ hP hS (dk_at dkX11_lent_4 0 rfl)
              · have c20 : x3 = 1 := (i_eq hx3 ⟨by decide, by decide⟩).mp c20
                refine lv_iload hx hb (dk_at dkX11_lent_2 9 rfl) (lv_at hl 0 rfl) ?_
                exact RET (A14 6 16) _ _ _ _ _ ⟨(u_r_X11_lent ⟨t2, et2, ⟨z3, ghw5, (Or.inr ⟨c6, ⟨z7, ghw9, (Or.inr ⟨c10, (Or.inr ⟨c11, (Or.inl ⟨c12, ⟨z13, A14, ghw15, (Or.inr ⟨c17, (Or.inl ⟨c18, (Or.inr ⟨c20, ⟨rfl, rfl⟩⟩)⟩)⟩)⟩⟩)⟩)⟩)⟩⟩)⟩⟩), hI, fk.trans (fk.rf) hf16 rfl rfl, r19⟩ hP hS (dk_at dkX11_lent_2 10 rfl)
            · have c18 : x3 = 0 := (i_eq0 hx3).mp c18
              refine lv_iload hx hb (dk_at dkX11_lent_2 0 rfl) (lv_at hl 0 rfl) ?_
              exact RET z13 _ _ _ _ _ ⟨(u_r_X11_lent ⟨t2, et2, ⟨z3, ghw5, (Or.inr ⟨c6, ⟨z7, ghw9, (Or.inr ⟨c10, (Or.inr ⟨c11, (Or.inl ⟨c12, ⟨z13, A14, ghw15, (Or.inr ⟨c17, (Or.inr ⟨c18, ⟨rfl, rfl⟩⟩)⟩)⟩⟩)⟩)⟩)⟩⟩)⟩⟩), hI, fk.trans (fk.rf) hf16 rfl rfl, hw15⟩ hP hS (dk_at dkX11_lent_2 1 rfl)
        · have c12 : ¬ x3 ≤ 2 := mt (i_le hx3 ⟨by decide, by decide⟩).mpr c12
          refine lv_iconst (v := iI (-1)) hx hb (dk_at dkX11_lent_1 1 rfl) (by decide +kernel) ?_
          exact RET (-1) _ _ _ _ _ ⟨(u_r_X11_lent ⟨t2, et2, ⟨z3, ghw5, (Or.inr ⟨c6, ⟨z7, ghw9, (Or.inr ⟨c10, (Or.inr ⟨c11, (Or.inr ⟨c12, ⟨rfl, rfl⟩⟩)⟩)⟩)⟩⟩)⟩⟩), hI, fk.rf, ⟨by decide, by decide⟩⟩ hP hS (dk_at dkX11_lent_1 2 rfl)

abbrev tr_d_X11_locked_2 (K1 : Int → Int → St → Prop) (z1 : Int) (z : Int) (u : St) (z37 : Int) (A39 : St) : Prop := ((IK A39) ∧ ((-2147483648 ≤ z37 ∧ z37 ≤ 2147483647) ∧ (K1 (z1 + 1) z37 A39)))
def d_X11_locked_2 (K1 : Int → Int → St → Prop) (z1 : Int) (z : Int) (u : St) (z37 : Int) (A39 : St) : Prop := tr_d_X11_locked_2 K1 z1 z u z37 A39
theorem u_d_X11_locked_2 {K1 : Int → Int → St → Prop} {z1 : Int} {z : Int} {u : St} {z37 : Int} {A39 : St} (h : tr_d_X11_locked_2 K1 z1 z u z37 A39) : d_X11_locked_2 K1 z1 z u z37 A39 := h
abbrev tr_d_X11_locked_1 (A : St) (z : Int) (u : St) (K1 : Int → Int → St → Prop) (z1 : Int) (z2 : Int) (A4 : St) : Prop := ((IK A4) ∧ ((0 ≤ z1 ∧ z1 ≤ 2147483647) ∧ ((-2147483648 ≤ z2 ∧ z2 ≤ 2147483647) ∧ (∃ t18 : Nat, t18 = 51 + 31 * ((A 0 9)).toNat ∧ (∃ z20 : Int, z20 = A4 (t18 + 1) (3 : Int).toNat ∧ (((z20 ≤ z1) ∧ (z = z2 ∧ u = A4)) ∨ ((¬ z20 ≤ z1) ∧ (∃ z23 : Int, z23 = A4 ((t18 + 22) + 1) (z1).toNat ∧ (∃ z24 : Int, q_X9_hasDoorAt t18 z23 A4 z24 ∧ (((z24 = 0) ∧ (d_X11_locked_2 K1 z1 z u z2 A4)) ∨ ((¬ z24 = 0) ∧ (∃ z29 : Int, ∃ A30 : St, q_X0_placesOf t18 z1 A4 z29 A30 ∧ (∃ z33 : Int, z33 = oShl 1 z23 ∧ (((¬ z29 = z33) ∧ (d_X11_locked_2 K1 z1 z u z2 A30)) ∨ ((z29 = z33) ∧ (∃ z35 : Int, z35 = oShl 1 z1 ∧ (∃ z36 : Int, z36 = oOr z2 z35 ∧ (d_X11_locked_2 K1 z1 z u z36 A30))))))))))))))))))
def d_X11_locked_1 (A : St) (z : Int) (u : St) : Nat → Int → Int → St → Prop
  | 0, _, _, _ => False
  | nn9 + 1, z1, z2, A4 => tr_d_X11_locked_1 A z u (fun z1 z2 A4 => d_X11_locked_1 A z u nn9 z1 z2 A4) z1 z2 A4
theorem u_d_X11_locked_1 {A : St} {z : Int} {u : St} {nn9 : Nat} {z1 : Int} {z2 : Int} {A4 : St} (h : tr_d_X11_locked_1 A z u (fun z1 z2 A4 => d_X11_locked_1 A z u nn9 z1 z2 A4) z1 z2 A4) : d_X11_locked_1 A z u (nn9 + 1) z1 z2 A4 := h
abbrev tr_r_X11_locked (A : St) (z : Int) (u : St) : Prop := (∃ nn9 : Nat, d_X11_locked_1 A z u nn9 0 0 A)
def r_X11_locked (A : St) (z : Int) (u : St) : Prop := tr_r_X11_locked A z u
theorem u_r_X11_locked {A : St} {z : Int} {u : St} (h : tr_r_X11_locked A z u) : r_X11_locked A z u := h
def ws_kc_X11_locked : List Cond := .code yX11_locked cX11_locked 4 (some .int) :: WY
set_option maxHeartbeats 4000000 in
set_option maxRecDepth 100000 in
theorem kc_X11_locked (l : Launch) (dC : Nat → ClassId) (dI : Nat → Nat → Nat) (cB cI cJ cZ cQ : ClassId) (aL aS : Nat) (q : Nat → Nat) (A : St) (hI : IK A) : KMi l yX11_locked ws_kc_X11_locked ({ frames := 7, cells := 0, slots := 0, locals := 177 } : Room) aL aS (dC, dI) (tyA cB cI cJ cZ cQ) (WK cB cI cJ cZ cQ q) A [.ref (q 0)] (fun z u => r_X11_locked A z u ∧ IK u ∧ fk [7, 9, 10, 11, 12, 13, 14, 15, 16, 17, 18, 19, 72, 103] [(6, 7), (6, 8), (6, 9), (6, 10), (6, 11), (6, 12), (6, 13), (6, 14), (6, 15)] A u ∧ (-2147483648 ≤ z ∧ z ≤ 2147483647)) := by
  refine k_meti (cc := cX11_locked) (maxL := 4) WK_adr (plainFor_of_name (by decide +kernel)) rfl (Nat.le_of_ble_eq_true rfl) (fun p e s m below meth c Q AS ls hx hb hml hown hts hK hDD hA0 hE RET H locs hP hS hl => ?_)
  have hown : s.vm.findClass RX11 = some m.cls := hown
  have hl : lv_has ls 4 [(0, .ref (q 0))] := hl
  have hiX11 : ∀ w ∈ u_ws RX11 TX11 11, w ∈ ws_kc_X11_locked := fun w h => List.mem_cons_of_mem _ (wy_layX11 w h)
  have hiX9 : ∀ w ∈ u_ws RX9 TX9 16, w ∈ ws_kc_X11_locked := fun w h => List.mem_cons_of_mem _ (wy_layX9 w h)
  have hiX6 : ∀ w ∈ u_ws RX6 TX6 4, w ∈ ws_kc_X11_locked := fun w h => List.mem_cons_of_mem _ (wy_layX6 w h)
  refine lv_iconst (v := iI 0) hx hb (dk_at dkX11_locked_0 0 rfl) (by decide +kernel) ?_
  refine lv_istore_n (lv' := [(1, .int (iI 0)), (0, .ref (q 0))]) hx hb (dk_at dkX11_locked_0 1 rfl) rfl hl (by decide) rfl (fun ls hl => ?_)
  refine lv_iconst (v := iI 0) hx hb (dk_at dkX11_locked_0 2 rfl) (by decide +kernel) ?_
  refine lv_istore_n (lv' := [(2, .int (iI 0)), (1, .int (iI 0)), (0, .ref (q 0))]) hx hb (dk_at dkX11_locked_0 3 rfl) rfl hl (by decide) rfl (fun ls hl => ?_)
  have L4_5 : ∀ (n14 : Nat) (z1 z2 : Int) (A4 : St) (H : Heap) (locs : List Loc) (ls : Array Slot), (0 ≤ z1 ∧ z1 ≤ 2147483647) → (-2147483648 ≤ z2 ∧ z2 ≤ 2147483647) → (∀ (z : Int) (u : St), (∃ mm1 : Nat, (d_X11_locked_1 A z u mm1 z1 z2 A4)) → r_X11_locked A z u) → ((4 - z1).toNat = n14) → IK A4 → fk [7, 9, 10, 11, 12, 13, 14, 15, 16, 17, 18, 19, 72, 103] [(6, 7), (6, 8), (6, 9), (6, 10), (6, 11), (6, 12), (6, 13), (6, 14), (6, 15)] A A4 → va_P (dC, dI) vwCl (WK cB cI cJ cZ cQ q A4) H → va_S AS s.heap H locs → lv_has ls 4 [(2, .int (iI z1)), (1, .int (iI z2)), (0, .ref (q 0))] → W p l e (headSpec ws_kc_X11_locked ({ frames := 7, cells := 0, slots := 0, locals := 177 } : Room)).room s m [.ref (q 0)].toArray below meth c H locs 0 0 Q (F0 m 4 ls []) := by
    intro n14
    induction n14 using Nat.strongRecOn with
    | ind n14 ih6 =>
      intro z1 z2 A4 H locs ls f7 f8 hk1 hn14 hI hj3 hP hS hl
      have gI15 : Hd (IK A4) := Hd.mk hI
      refine lv_iload_n hx hb (dk_at dkX11_locked_0 4 rfl) rfl (lv_at hl 0 rfl) ?_
      refine lv_aload_n hx hb (dk_at dkX11_locked_0 5 rfl) rfl (lv_at hl 2 rfl) ?_
      have e16 : A4 0 9 = (A 0 9) := (hj3 0 9 rfl rfl)
      have r17 : (0 : Int) ≤ (A 0 9) ∧ (A 0 9) ≤ 1 := by rw [← e16]; exact irK_9 hI
      obtain ⟨t18, et18⟩ : ∃ t : Nat, t = 51 + 31 * ((A 0 9)).toNat := ⟨_, rfl⟩
      have ht18 : isT t18 := by rw [et18]; exact isT.b r17
      refine va_get (D := (dC, dI)) (ci := 11) (v := .ref (q (51 + 31 * (A4 0 9).toNat))) (C := RX11) (T := TX11) (N := 11) hx hb hts hiX11 hown hK hP 0 (wkK) rfl 9 (by decide) (hts _ (List.mem_cons_of_mem _ wkq_10_36)) (fun _ h9 => h9) rfl (dk_at dkX11_locked_0 6 rfl) ?_
      refine tp_v (y := .ref (q t18)) (by rw [et18, e16]) ?_
      refine va_get (D := (dC, dI)) (ci := 9) (v := .ref (q (t18 + 1))) (C := RX9) (T := TX9) (N := 16) hx hb hts hiX9 hown hK hP t18 (wkT ht18) rfl 0 (by decide) (hts _ (List.mem_cons_of_mem _ wkq_10_46)) (fun _ h9 => h9) rfl (dk_at dkX11_locked_0 7 rfl) ?_
      refine lv_iconst (v := iI 3) hx hb (dk_at dkX11_locked_0 8 rfl) (by decide +kernel) ?_
      have a19 : ∀ k, A4 (t18 + 1) k = A (t18 + 1) k := fun k => hj3 (t18 + 1) k (isT.b2 (o := fun b => List.contains [7, 9, 10, 11, 12, 13, 14, 15, 16, 17, 18, 19, 72, 103] (b + 1)) ht18 rfl rfl) (isT.b2 (o := fun b => fin2 [(6, 7), (6, 8), (6, 9), (6, 10), (6, 11), (6, 12), (6, 13), (6, 14), (6, 15)] (b + 1) k) ht18 rfl rfl)
      refine x_iald (Wf := WK cB cI cJ cZ cQ q) hx hb hK hP (t18 + 1) 1 (wkTc ht18) rfl (by decide) (by decide) (dk_at dkX11_locked_0 9 rfl) (fun z20 hz20 => ?_)
      have rz20 : (0 : Int) ≤ z20 ∧ z20 ≤ 3 := by rw [hz20]; exact irTc3 ht18 hI
      have gz20 := Hd.mk hz20
      have hz20 : z20 = A (t18 + 1) (3 : Int).toNat := hz20.trans (a19 _)
      refine lv_icmp_ge (tgt := 71) hx hb (dk_at dkX11_locked_0 10 rfl) (by decide) (fun c21 => ?_) (fun c21 => ?_)
      · have c21 : z20 ≤ z1 := (i_le (rb rz20 (by decide) (by decide)) (rb f7 (by decide) (by decide))).mp c21
        refine lv_iload_n hx hb (dk_at dkX11_locked_2 9 rfl) rfl (lv_at hl 1 rfl) ?_
        exact RET z2 _ _ _ _ _ ⟨hk1 _ _ ⟨0 + 1, (u_d_X11_locked_1 ⟨gI15.out, ⟨f7, ⟨f8, ⟨t18, et18, ⟨z20, gz20.out, (Or.inl ⟨c21, ⟨rfl, rfl⟩⟩)⟩⟩⟩⟩⟩)⟩, hI, fk.trans (fk.rf) hj3 rfl rfl, f8⟩ hP hS (dk_at dkX11_locked_2 10 rfl)
      · have c21 : ¬ z20 ≤ z1 := mt (i_le (rb rz20 (by decide) (by decide)) (rb f7 (by decide) (by decide))).mpr c21
        refine lv_aload_n hx hb (dk_at dkX11_locked_0 11 rfl) rfl (lv_at hl 2 rfl) ?_
        refine va_get (D := (dC, dI)) (ci := 11) (v := .ref (q (51 + 31 * (A4 0 9).toNat))) (C := RX11) (T := TX11) (N := 11) hx hb hts hiX11 hown hK hP 0 (wkK) rfl 9 (by decide) (hts _ (List.mem_cons_of_mem _ wkq_10_36)) (fun _ h9 => h9) rfl (dk_at dkX11_locked_0 12 rfl) ?_
        refine tp_v (y := .ref (q t18)) (by rw [et18, e16]) ?_
        refine va_get (D := (dC, dI)) (ci := 9) (v := .ref (q (t18 + 22))) (C := RX9) (T := TX9) (N := 16) hx hb hts hiX9 hown hK hP t18 (wkT ht18) rfl 14 (by decide) (hts _ (List.mem_cons_of_mem _ wkq_11_5)) (fun _ h9 => h9) rfl (dk_at dkX11_locked_0 13 rfl) ?_
        refine va_get (D := (dC, dI)) (ci := 6) (v := .ref (q ((t18 + 22) + 1))) (C := RX6) (T := TX6) (N := 4) hx hb hts hiX6 hown hK hP (t18 + 22) (wkS ht18.s) rfl 0 (by decide) (hts _ (List.mem_cons_of_mem _ wkq_11_12)) (fun _ h9 => h9) rfl (dk_at dkX11_locked_0 14 rfl) ?_
        refine lv_iload_n hx hb (dk_at dkX11_locked_0 15 rfl) rfl (lv_at hl 0 rfl) ?_
        have a22 : ∀ k, A4 ((t18 + 22) + 1) k = A ((t18 + 22) + 1) k := fun k => hj3 ((t18 + 22) + 1) k (isS.b2 (o := fun b => List.contains [7, 9, 10, 11, 12, 13, 14, 15, 16, 17, 18, 19, 72, 103] (b + 1)) ht18.s rfl rfl rfl rfl) (isS.b2 (o := fun b => fin2 [(6, 7), (6, 8), (6, 9), (6, 10), (6, 11), (6, 12), (6, 13), (6, 14), (6, 15)] (b + 1) k) ht18.s rfl rfl rfl rfl)
        refine x_iald (Wf := WK cB cI cJ cZ cQ q) hx hb hK hP ((t18 + 22) + 1) 1 (wkSs ht18.s) rfl (by omega) (by decide) (dk_at dkX11_locked_1 0 rfl) (fun z23 hz23 => ?_)
        have rz23 : (-2147483648 : Int) ≤ z23 ∧ z23 ≤ 2147483647 := by rw [hz23]; exact irSs ht18.s hI
        have gz23 := Hd.mk hz23
        have hz23 : z23 = A ((t18 + 22) + 1) (z1).toNat := hz23.trans (a22 _)
        refine lv_istore_n (lv' := [(3, .int (iI z23)), (2, .int (iI z1)), (1, .int (iI z2)), (0, .ref (q 0))]) hx hb (dk_at dkX11_locked_1 1 rfl) rfl hl (by decide) rfl (fun ls hl => ?_)
        refine lv_aload_n hx hb (dk_at dkX11_locked_1 2 rfl) rfl (lv_at hl 3 rfl) ?_
        refine va_get (D := (dC, dI)) (ci := 11) (v := .ref (q (51 + 31 * (A4 0 9).toNat))) (C := RX11) (T := TX11) (N := 11) hx hb hts hiX11 hown hK hP 0 (wkK) rfl 9 (by decide) (hts _ (List.mem_cons_of_mem _ wkq_10_36)) (fun _ h9 => h9) rfl (dk_at dkX11_locked_1 3 rfl) ?_
        refine tp_v (y := .ref (q t18)) (by rw [et18, e16]) ?_
        refine lv_iload_n hx hb (dk_at dkX11_locked_1 4 rfl) rfl (lv_at hl 0 rfl) ?_
        refine k_calli (As := [.int (iI z23)]) (rest := []) ⟨hx, hb, hml, hown, hts⟩ hE (kc_X9_hasDoorAt l dC dI cB cI cJ cZ cQ aL aS q _ t18 z23 hI ht18 rz23) (cwV 1 hts (goodVk wkq_12_6 wkq_12_7 wkq_12_8 wkq_0_6 wkq_8_47) rfl rfl rfl (by decide +kernel) ⟨Nat.le_of_ble_eq_true rfl, Nat.le_of_ble_eq_true rfl⟩) hK hDD hA0 hP hS t18 9 (wkT ht18) rfl rfl hl.1 (Nat.le_of_ble_eq_true rfl) (dk_at dkX11_locked_1 5 rfl) (fun z24 A25 H locs hw26 hP hS => ?_)
        obtain ⟨rfl, hw26⟩ := hw26
        have ghw26 : q_X9_hasDoorAt t18 z23 A4 z24 := hw26
        have hw26 := hw26.2
        have J65_28 : ∀ (z37 : Int) (A39 : St) (H : Heap) (locs : List Loc) (ls : Array Slot), (-2147483648 ≤ z37 ∧ z37 ≤ 2147483647) → (∀ (z : Int) (u : St), (∃ mm1 : Nat, (d_X11_locked_2 (fun z1' z2' A4' => d_X11_locked_1 A z u mm1 z1' z2' A4') z1 z u z37 A39)) → r_X11_locked A z u) → IK A39 → fk [7, 9, 10, 11, 12, 13, 14, 15, 16, 17, 18, 19, 72, 103] [(6, 7), (6, 8), (6, 9), (6, 10), (6, 11), (6, 12), (6, 13), (6, 14), (6, 15)] A4 A39 → va_P (dC, dI) vwCl (WK cB cI cJ cZ cQ q A39) H → va_S AS s.heap H locs → lv_has ls 4 [(3, .int (iI z23)), (2, .int (iI z1)), (1, .int (iI z37)), (0, .ref (q 0))] → W p l e (headSpec ws_kc_X11_locked ({ frames := 7, cells := 0, slots := 0, locals := 177 } : Room)).room s m [.ref (q 0)].toArray below meth c H locs 0 0 Q (F0 m 65 ls []) := by
          intro z37 A39 H locs ls f40 hk2 hI hj38 hP hS hl
          have gI41 : Hd (IK A39) := Hd.mk hI
          refine lv_iinc (v := iI (z1 + 1)) (lv' := [(2, .int (iI (z1 + 1))), (3, .int (iI z23)), (1, .int (iI z37)), (0, .ref (q 0))]) hx hb (dk_at dkX11_locked_2 7 rfl) hl (k := 1) rfl (i_inc (by omega)) (by decide) rfl (fun ls hl => ?_)
          refine lv_goto (tgt := 4) hx hb (dk_at dkX11_locked_2 8 rfl) (by decide) ?_
          exact ih6 _ (by omega) (z1 + 1) z37 _ _ _ _ (by omega) (by omega) (fun zq uq ⟨mm1, hq⟩ => hk2 _ _ ⟨mm1, (u_d_X11_locked_2 ⟨gI41.out, ⟨f40, hq⟩⟩)⟩) rfl hI (fk.trans (fk.trans (fk.rf) hj3 rfl rfl) hj38 rfl rfl) hP hS (lv_sub hl [0, 2, 3] rfl)
        refine lv_if_eq (tgt := 65) hx hb (dk_at dkX11_locked_1 6 rfl) (by decide) (fun c27 => ?_) (fun c27 => ?_)
        · have c27 : z24 = 0 := (i_eq0 (rb hw26 (by decide) (by decide))).mp c27
          exact J65_28 z2 _ _ _ _ (by omega) (fun zq uq ⟨mm1, hq⟩ => hk1 _ _ ⟨mm1 + 1, (u_d_X11_locked_1 ⟨gI15.out, ⟨f7, ⟨f8, ⟨t18, et18, ⟨z20, gz20.out, (Or.inr ⟨c21, ⟨z23, gz23.out, ⟨z24, ghw26, (Or.inl ⟨c27, hq⟩)⟩⟩⟩)⟩⟩⟩⟩⟩)⟩) hI (fk.rf) hP hS (lv_sub hl [0, 1, 2, 3] rfl)
        · have c27 : ¬ z24 = 0 := mt (i_eq0 (rb hw26 (by decide) (by decide))).mpr c27
          refine lv_aload_n hx hb (dk_at dkX11_locked_1 7 rfl) rfl (lv_at hl 3 rfl) ?_
          refine va_get (D := (dC, dI)) (ci := 11) (v := .ref (q 6)) (C := RX11) (T := TX11) (N := 11) hx hb hts hiX11 hown hK hP 0 (wkK) rfl 2 (by decide) (hts _ (List.mem_cons_of_mem _ wkq_11_13)) (fun _ h9 => h9) rfl (dk_at dkX11_locked_1 8 rfl) ?_
          refine lv_aload_n hx hb (dk_at dkX11_locked_1 9 rfl) rfl (lv_at hl 3 rfl) ?_
          refine va_get (D := (dC, dI)) (ci := 11) (v := .ref (q (51 + 31 * (A4 0 9).toNat))) (C := RX11) (T := TX11) (N := 11) hx hb hts hiX11 hown hK hP 0 (wkK) rfl 9 (by decide) (hts _ (List.mem_cons_of_mem _ wkq_10_36)) (fun _ h9 => h9) rfl (dk_at dkX11_locked_1 10 rfl) ?_
          refine tp_v (y := .ref (q t18)) (by rw [et18, e16]) ?_
          refine lv_iload_n hx hb (dk_at dkX11_locked_1 11 rfl) rfl (lv_at hl 1 rfl) ?_
          refine k_calli (As := [.ref (q t18), .int (iI z1)]) (rest := []) ⟨hx, hb, hml, hown, hts⟩ hE (kc_X0_placesOf l dC dI cB cI cJ cZ cQ aL aS q _ t18 z1 hI ht18 (rb f7 (by decide) (by decide))) (cwV 2 hts (goodVk wkq_11_15 wkq_11_16 wkq_11_17 wkq_0_14 wkq_0_0) rfl rfl rfl (by decide +kernel) ⟨Nat.le_of_ble_eq_true rfl, Nat.le_of_ble_eq_true rfl⟩) hK hDD hA0 hP hS 6 0 (wkAL) rfl rfl hl.1 (Nat.le_of_ble_eq_true rfl) (dk_at dkX11_locked_1 12 rfl) (fun z29 A30 H locs hw31 hP hS => ?_)
          have ghw31 : q_X0_placesOf t18 z1 A4 z29 A30 := hw31
          obtain ⟨_, hI, hf32, hw31⟩ := hw31
          refine lv_iconst (v := iI 1) hx hb (dk_at dkX11_locked_1 13 rfl) (by decide +kernel) ?_
          refine lv_iload_n hx hb (dk_at dkX11_locked_1 14 rfl) rfl (lv_at hl 0 rfl) ?_
          refine lv_ishl hx hb (dk_at dkX11_locked_1 15 rfl) ?_
          refine x_absE (fun z33 gz33 hz33 => ?_)
          refine lv_icmp_ne (tgt := 65) hx hb (dk_at dkX11_locked_2 0 rfl) (by decide) (fun c34 => ?_) (fun c34 => ?_)
          · have c34 : ¬ z29 = z33 := mt (i_eq hw31 hz33).mpr c34
            exact J65_28 z2 _ _ _ _ (by omega) (fun zq uq ⟨mm1, hq⟩ => hk1 _ _ ⟨mm1 + 1, (u_d_X11_locked_1 ⟨gI15.out, ⟨f7, ⟨f8, ⟨t18, et18, ⟨z20, gz20.out, (Or.inr ⟨c21, ⟨z23, gz23.out, ⟨z24, ghw26, (Or.inr ⟨c27, ⟨z29, A30, ghw31, ⟨z33, gz33.out, (Or.inl ⟨c34, hq⟩)⟩⟩⟩)⟩⟩⟩)⟩⟩⟩⟩⟩)⟩) hI (fk.trans (fk.rf) hf32 rfl rfl) hP hS (lv_sub hl [0, 1, 2, 3] rfl)
          · have c34 : z29 = z33 := (i_eq hw31 hz33).mp c34
            refine lv_iload_n hx hb (dk_at dkX11_locked_2 1 rfl) rfl (lv_at hl 2 rfl) ?_
            refine lv_iconst (v := iI 1) hx hb (dk_at dkX11_locked_2 2 rfl) (by decide +kernel) ?_
            refine lv_iload_n hx hb (dk_at dkX11_locked_2 3 rfl) rfl (lv_at hl 1 rfl) ?_
            refine lv_ishl hx hb (dk_at dkX11_locked_2 4 rfl) ?_
            refine x_absE (fun z35 gz35 hz35 => ?_)
            refine lv_ior hx hb (dk_at dkX11_locked_2 5 rfl) ?_
            refine x_absE (fun z36 gz36 hz36 => ?_)
            refine lv_istore_n (lv' := [(1, .int (iI z36)), (3, .int (iI z23)), (2, .int (iI z1)), (0, .ref (q 0))]) hx hb (dk_at dkX11_locked_2 6 rfl) rfl hl (by decide) rfl (fun ls hl => ?_)
            exact J65_28 z36 _ _ _ _ (by omega) (fun zq uq ⟨mm1, hq⟩ => hk1 _ _ ⟨mm1 + 1, (u_d_X11_locked_1 ⟨gI15.out, ⟨f7, ⟨f8, ⟨t18, et18, ⟨z20, gz20.out, (Or.inr ⟨c21, ⟨z23, gz23.out, ⟨z24, ghw26, (Or.inr ⟨c27, ⟨z29, A30, ghw31, ⟨z33, gz33.out, (Or.inr ⟨c34, ⟨z35, gz35.out, ⟨z36, gz36.out, hq⟩⟩⟩)⟩⟩⟩)⟩⟩⟩)⟩⟩⟩⟩⟩)⟩) hI (fk.trans (fk.rf) hf32 rfl rfl) hP hS (lv_sub hl [1, 2, 0, 3] rfl)
  exact L4_5 _ 0 0 _ _ _ _ (by omega) (by omega) (fun zq uq ⟨mm1, hq⟩ => (u_r_X11_locked ⟨mm1, hq⟩)) rfl hI (fk.rf) hP hS (lv_sub hl [0, 1, 2] rfl)

abbrev tr_r_X11_can (x1 : Int) (x2 : Int) (A : St) (z : Int) : Prop := (∃ t2 : Nat, t2 = 51 + 31 * ((A 0 9)).toNat ∧ (∃ z3 : Int, q_X9_isThere_1_1 t2 x2 A z3 ∧ (((z3 = 0) ∧ (z = (-1))) ∨ ((¬ z3 = 0) ∧ (((x1 < 0) ∧ (z = (-1))) ∨ ((¬ x1 < 0) ∧ (∃ z8 : Int, z8 = A (t2 + 1) (3 : Int).toNat ∧ (∃ z9 : Int, z9 = oShl 1 z8 ∧ (((x1 < z9) ∧ (∃ z11 : Int, q_X9_holdersOf t2 x2 A z11 ∧ (((z11 = (-1)) ∧ (z = 0)) ∨ ((¬ z11 = (-1)) ∧ (∃ z15 : Int, z15 = oXor x1 (-1) ∧ (∃ z16 : Int, z16 = oAnd z11 z15 ∧ (((¬ z16 = 0) ∧ (z = 0)) ∨ ((z16 = 0) ∧ (z = 1))))))))) ∨ ((¬ x1 < z9) ∧ (z = (-1))))))))))))
def r_X11_can (x1 : Int) (x2 : Int) (A : St) (z : Int) : Prop := tr_r_X11_can x1 x2 A z
theorem u_r_X11_can {x1 : Int} {x2 : Int} {A : St} {z : Int} (h : tr_r_X11_can x1 x2 A z) : r_X11_can x1 x2 A z := h
def ws_kc_X11_can : List Cond := .code yX11_can cX11_can 4 (some .int) :: WY
set_option maxHeartbeats 4000000 in
set_option maxRecDepth 100000 in
theorem kc_X11_can (l : Launch) (dC : Nat → ClassId) (dI : Nat → Nat → Nat) (cB cI cJ cZ cQ : ClassId) (aL aS : Nat) (q : Nat → Nat) (A : St) (x1 x2 : Int) (hI : IK A) (hx1 : (-2147483648 : Int) ≤ x1 ∧ x1 ≤ 2147483647) (hx2 : (-2147483648 : Int) ≤ x2 ∧ x2 ≤ 2147483647) : KMi l yX11_can ws_kc_X11_can ({ frames := 3, cells := 0, slots := 0, locals := 68 } : Room) aL aS (dC, dI) (tyA cB cI cJ cZ cQ) (WK cB cI cJ cZ cQ q) A [.ref (q 0), .int (iI x1), .int (iI x2)] (fun z u => A = u ∧ r_X11_can x1 x2 A z ∧ (-2147483648 ≤ z ∧ z ≤ 2147483647)) := by
  refine k_meti (cc := cX11_can) (maxL := 4) WK_adr (plainFor_of_name (by decide +kernel)) rfl (Nat.le_of_ble_eq_true rfl) (fun p e s m below meth c Q AS ls hx hb hml hown hts hK hDD hA0 hE RET H locs hP hS hl => ?_)
  have hown : s.vm.findClass RX11 = some m.cls := hown
  have hl : lv_has ls 4 [(0, .ref (q 0)), (1, .int (iI x1)), (2, .int (iI x2))] := hl
  have hiX11 : ∀ w ∈ u_ws RX11 TX11 11, w ∈ ws_kc_X11_can := fun w h => List.mem_cons_of_mem _ (wy_layX11 w h)
  have hiX9 : ∀ w ∈ u_ws RX9 TX9 16, w ∈ ws_kc_X11_can := fun w h => List.mem_cons_of_mem _ (wy_layX9 w h)
  refine lv_aload_n hx hb (dk_at dkX11_can_0 0 rfl) rfl (lv_at hl 0 rfl) ?_
  have r1 : (0 : Int) ≤ (A 0 9) ∧ (A 0 9) ≤ 1 := irK_9 hI
  obtain ⟨t2, et2⟩ : ∃ t : Nat, t = 51 + 31 * ((A 0 9)).toNat := ⟨_, rfl⟩
  have ht2 : isT t2 := by rw [et2]; exact isT.b r1
  refine va_get (D := (dC, dI)) (ci := 11) (v := .ref (q (51 + 31 * (A 0 9).toNat))) (C := RX11) (T := TX11) (N := 11) hx hb hts hiX11 hown hK hP 0 (wkK) rfl 9 (by decide) (hts _ (List.mem_cons_of_mem _ wkq_10_36)) (fun _ h9 => h9) rfl (dk_at dkX11_can_0 1 rfl) ?_
  refine tp_v (y := .ref (q t2)) (by rw [et2]) ?_
  refine lv_iconst (v := iI 1) hx hb (dk_at dkX11_can_0 2 rfl) (by decide +kernel) ?_
  refine lv_iload_n hx hb (dk_at dkX11_can_0 3 rfl) rfl (lv_at hl 2 rfl) ?_
  refine k_calli (As := [.int (iI 1), .int (iI x2)]) (rest := []) ⟨hx, hb, hml, hown, hts⟩ hE (kc_X9_isThere_1_1 l dC dI cB cI cJ cZ cQ aL aS q _ t2 x2 hI ht2 hx2) (cwV 2 hts (goodVk wkq_10_54 wkq_0_22 wkq_0_23 wkq_0_6 wkq_0_24) rfl rfl rfl (by decide +kernel) ⟨Nat.le_of_ble_eq_true rfl, Nat.le_of_ble_eq_true rfl⟩) hK hDD hA0 hP hS t2 9 (wkT ht2) rfl rfl hl.1 (Nat.le_of_ble_eq_true rfl) (dk_at dkX11_can_0 4 rfl) (fun z3 A4 H locs hw5 hP hS => ?_)
  obtain ⟨rfl, hw5⟩ := hw5
  have ghw5 : q_X9_isThere_1_1 t2 x2 A z3 := hw5
  have hw5 := hw5.2
  have rz3 : 0 ≤ z3 ∧ z3 ≤ 1 := hw5.1
  have hw5 := hw5.2
  refine lv_if_eq (tgt := 31) hx hb (dk_at dkX11_can_0 5 rfl) (by decide) (fun c6 => ?_) (fun c6 => ?_)
  · have c6 : z3 = 0 := (i_eq0 (rb rz3 (by decide) (by decide))).mp c6
    clear hw5
    refine lv_iconst (v := iI (-1)) hx hb (dk_at dkX11_can_1 1 rfl) (by decide +kernel) ?_
    exact RET (-1) _ _ _ _ _ ⟨rfl, (u_r_X11_can ⟨t2, et2, ⟨z3, ghw5, (Or.inl ⟨c6, rfl⟩)⟩⟩), ⟨by decide, by decide⟩⟩ hP hS (dk_at dkX11_can_1 2 rfl)
  · have c6 : ¬ z3 = 0 := mt (i_eq0 (rb rz3 (by decide) (by decide))).mpr c6
    have hw5b := hw5 (by omega)
    clear hw5
    refine lv_iload_n hx hb (dk_at dkX11_can_0 6 rfl) rfl (lv_at hl 1 rfl) ?_
    refine lv_if_lt (tgt := 31) hx hb (dk_at dkX11_can_0 7 rfl) (by decide) (fun c7 => ?_) (fun c7 => ?_)
    · have c7 : x1 < 0 := (i_lt0 hx1).mp c7
      refine lv_iconst (v := iI (-1)) hx hb (dk_at dkX11_can_1 1 rfl) (by decide +kernel) ?_
      exact RET (-1) _ _ _ _ _ ⟨rfl, (u_r_X11_can ⟨t2, et2, ⟨z3, ghw5, (Or.inr ⟨c6, (Or.inl ⟨c7, rfl⟩)⟩)⟩⟩), ⟨by decide, by decide⟩⟩ hP hS (dk_at dkX11_can_1 2 rfl)
    · have c7 : ¬ x1 < 0 := mt (i_lt0 hx1).mpr c7
      refine lv_iload_n hx hb (dk_at dkX11_can_0 8 rfl) rfl (lv_at hl 1 rfl) ?_
      refine lv_iconst (v := iI 1) hx hb (dk_at dkX11_can_0 9 rfl) (by decide +kernel) ?_
      refine lv_aload_n hx hb (dk_at dkX11_can_0 10 rfl) rfl (lv_at hl 0 rfl) ?_
      refine va_get (D := (dC, dI)) (ci := 11) (v := .ref (q (51 + 31 * (A 0 9).toNat))) (C := RX11) (T := TX11) (N := 11) hx hb hts hiX11 hown hK hP 0 (wkK) rfl 9 (by decide) (hts _ (List.mem_cons_of_mem _ wkq_10_36)) (fun _ h9 => h9) rfl (dk_at dkX11_can_0 11 rfl) ?_
      refine tp_v (y := .ref (q t2)) (by rw [et2]) ?_
      refine va_get (D := (dC, dI)) (ci := 9) (v := .ref (q (t2 + 1))) (C := RX9) (T := TX9) (N := 16) hx hb hts hiX9 hown hK hP t2 (wkT ht2) rfl 0 (by decide) (hts _ (List.mem_cons_of_mem _ wkq_10_46)) (fun _ h9 => h9) rfl (dk_at dkX11_can_0 12 rfl) ?_
      refine lv_iconst (v := iI 3) hx hb (dk_at dkX11_can_0 13 rfl) (by decide +kernel) ?_
      refine x_iald (Wf := WK cB cI cJ cZ cQ q) hx hb hK hP (t2 + 1) 1 (wkTc ht2) rfl (by decide) (by decide) (dk_at dkX11_can_0 14 rfl) (fun z8 hz8 => ?_)
      have rz8 : (0 : Int) ≤ z8 ∧ z8 ≤ 3 := by rw [hz8]; exact irTc3 ht2 hI
      have gz8 := Hd.mk hz8
      refine lv_ishl hx hb (dk_at dkX11_can_0 15 rfl) ?_
      refine x_absE (fun z9 gz9 hz9 => ?_)
      refine lv_icmp_lt (tgt := 33) hx hb (dk_at dkX11_can_1 0 rfl) (by decide) (fun c10 => ?_) (fun c10 => ?_)
      · have c10 : x1 < z9 := (i_lt hx1 hz9).mp c10
        refine lv_aload_n hx hb (dk_at dkX11_can_1 3 rfl) rfl (lv_at hl 0 rfl) ?_
        refine va_get (D := (dC, dI)) (ci := 11) (v := .ref (q (51 + 31 * (A 0 9).toNat))) (C := RX11) (T := TX11) (N := 11) hx hb hts hiX11 hown hK hP 0 (wkK) rfl 9 (by decide) (hts _ (List.mem_cons_of_mem _ wkq_10_36)) (fun _ h9 => h9) rfl (dk_at dkX11_can_1 4 rfl) ?_
        refine tp_v (y := .ref (q t2)) (by rw [et2]) ?_
        refine lv_iload_n hx hb (dk_at dkX11_can_1 5 rfl) rfl (lv_at hl 2 rfl) ?_
        refine k_calli (As := [.int (iI x2)]) (rest := []) ⟨hx, hb, hml, hown, hts⟩ hE (kc_X9_holdersOf l dC dI cB cI cJ cZ cQ aL aS q _ t2 x2 hI ht2 hx2) (cwV 1 hts (goodVk wkq_12_10 wkq_12_11 wkq_12_12 wkq_0_6 wkq_9_42) rfl rfl rfl (by decide +kernel) ⟨Nat.le_of_ble_eq_true rfl, Nat.le_of_ble_eq_true rfl⟩) hK hDD hA0 hP hS t2 9 (wkT ht2) rfl rfl hl.1 (Nat.le_of_ble_eq_true rfl) (dk_at dkX11_can_1 6 rfl) (fun z11 A12 H locs hw13 hP hS => ?_)
        obtain ⟨rfl, hw13⟩ := hw13
        have ghw13 : q_X9_holdersOf t2 x2 A z11 := hw13
        have hw13 := hw13.2
        refine lv_istore_n (lv' := [(3, .int (iI z11)), (0, .ref (q 0)), (1, .int (iI x1)), (2, .int (iI x2))]) hx hb (dk_at dkX11_can_1 7 rfl) rfl hl (by decide) rfl (fun ls hl => ?_)
        refine lv_iload_n hx hb (dk_at dkX11_can_1 8 rfl) rfl (lv_at hl 0 rfl) ?_
        refine lv_iconst (v := iI (-1)) hx hb (dk_at dkX11_can_1 9 rfl) (by decide +kernel) ?_
        refine lv_icmp_eq (tgt := 59) hx hb (dk_at dkX11_can_1 10 rfl) (by decide) (fun c14 => ?_) (fun c14 => ?_)
        · have c14 : z11 = (-1) := (i_eq hw13 ⟨by decide, by decide⟩).mp c14
          refine lv_iconst (v := iI 0) hx hb (dk_at dkX11_can_2 3 rfl) (by decide +kernel) ?_
          exact RET 0 _ _ _ _ _ ⟨rfl, (u_r_X11_can ⟨t2, et2, ⟨z3, ghw5, (Or.inr ⟨c6, (Or.inr ⟨c7, ⟨z8, gz8.out, ⟨z9, gz9.out, (Or.inl ⟨c10, ⟨z11, ghw13, (Or.inl ⟨c14, rfl⟩)⟩⟩)⟩⟩⟩)⟩)⟩⟩), ⟨by decide, by decide⟩⟩ hP hS (dk_at dkX11_can_2 4 rfl)
        · have c14 : ¬ z11 = (-1) := mt (i_eq hw13 ⟨by decide, by decide⟩).mpr c14
          refine lv_iload_n hx hb (dk_at dkX11_can_1 11 rfl) rfl (lv_at hl 0 rfl) ?_
          refine lv_iload_n hx hb (dk_at dkX11_can_1 12 rfl) rfl (lv_at hl 2 rfl) ?_
          refine lv_iconst (v := iI (-1)) hx hb (dk_at dkX11_can_1 13 rfl) (by decide +kernel) ?_
          refine lv_ixor hx hb (dk_at dkX11_can_1 14 rfl) ?_
          refine x_absE (fun z15 gz15 hz15 => ?_)
          refine lv_iand hx hb (dk_at dkX11_can_1 15 rfl) ?_
          refine x_absE (fun z16 gz16 hz16 => ?_)
          refine lv_if_ne (tgt := 59) hx hb (dk_at dkX11_can_2 0 rfl) (by decide) (fun c17 => ?_) (fun c17 => ?_)
          · have c17 : ¬ z16 = 0 := mt (i_eq0 hz16).mpr c17
            refine lv_iconst (v := iI 0) hx hb (dk_at dkX11_can_2 3 rfl) (by decide +kernel) ?_
            exact RET 0 _ _ _ _ _ ⟨rfl, (u_r_X11_can ⟨t2, et2, ⟨z3, ghw5, (Or.inr ⟨c6, (Or.inr ⟨c7, ⟨z8, gz8.out, ⟨z9, gz9.out, (Or.inl ⟨c10, ⟨z11, ghw13, (Or.inr ⟨c14, ⟨z15, gz15.out, ⟨z16, gz16.out, (Or.inl ⟨c17, rfl⟩)⟩⟩⟩)⟩⟩)⟩⟩⟩)⟩)⟩⟩), ⟨by decide, by decide⟩⟩ hP hS (dk_at dkX11_can_2 4 rfl)
          · have c17 : z16 = 0 := (i_eq0 hz16).mp c17
            refine lv_iconst (v := iI 1) hx hb (dk_at dkX11_can_2 1 rfl) (by decide +kernel) ?_
            refine lv_goto (tgt := 60) hx hb (dk_at dkX11_can_2 2 rfl) (by decide) ?_
            exact RET 1 _ _ _ _ _ ⟨rfl, (u_r_X11_can ⟨t2, et2, ⟨z3, ghw5, (Or.inr ⟨c6, (Or.inr ⟨c7, ⟨z8, gz8.out, ⟨z9, gz9.out, (Or.inl ⟨c10, ⟨z11, ghw13, (Or.inr ⟨c14, ⟨z15, gz15.out, ⟨z16, gz16.out, (Or.inr ⟨c17, rfl⟩)⟩⟩⟩)⟩⟩)⟩⟩⟩)⟩)⟩⟩), ⟨by decide, by decide⟩⟩ hP hS (dk_at dkX11_can_2 4 rfl)
      · have c10 : ¬ x1 < z9 := mt (i_lt hx1 hz9).mpr c10
        refine lv_iconst (v := iI (-1)) hx hb (dk_at dkX11_can_1 1 rfl) (by decide +kernel) ?_
        exact RET (-1) _ _ _ _ _ ⟨rfl, (u_r_X11_can ⟨t2, et2, ⟨z3, ghw5, (Or.inr ⟨c6, (Or.inr ⟨c7, ⟨z8, gz8.out, ⟨z9, gz9.out, (Or.inr ⟨c10, rfl⟩)⟩⟩⟩)⟩)⟩⟩), ⟨by decide, by decide⟩⟩ hP hS (dk_at dkX11_can_1 2 rfl)

abbrev tr_r_X11_needs (x1 : Int) (x2 : Int) (A : St) (z : Int) : Prop := (∃ t2 : Nat, t2 = 51 + 31 * ((A 0 9)).toNat ∧ (∃ z3 : Int, q_X9_isThere_1_1 t2 x1 A z3 ∧ (((z3 = 0) ∧ (z = (-1))) ∨ ((¬ z3 = 0) ∧ (((x2 < 0) ∧ (z = (-1))) ∨ ((¬ x2 < 0) ∧ (((x2 ≤ 1) ∧ (∃ z9 : Int, q_X9_holdersOf t2 x1 A z9 ∧ (((¬ z9 = (-1)) ∧ (((¬ x2 = 0) ∧ (∃ z14 : Int, q_X9_workOf t2 x1 A z14 ∧ (z = z14))) ∨ ((x2 = 0) ∧ (∃ z17 : Int, q_J6_bitCount_0f7a4 z9 A z17 ∧ (z = z17))))) ∨ ((z9 = (-1)) ∧ (z = (-1)))))) ∨ ((¬ x2 ≤ 1) ∧ (z = (-1))))))))))
def r_X11_needs (x1 : Int) (x2 : Int) (A : St) (z : Int) : Prop := tr_r_X11_needs x1 x2 A z
theorem u_r_X11_needs {x1 : Int} {x2 : Int} {A : St} {z : Int} (h : tr_r_X11_needs x1 x2 A z) : r_X11_needs x1 x2 A z := h
def ws_kc_X11_needs : List Cond := .code yX11_needs cX11_needs 4 (some .int) :: WY
set_option maxHeartbeats 4000000 in
set_option maxRecDepth 100000 in
theorem kc_X11_needs (l : Launch) (dC : Nat → ClassId) (dI : Nat → Nat → Nat) (cB cI cJ cZ cQ : ClassId) (aL aS : Nat) (q : Nat → Nat) (A : St) (x1 x2 : Int) (hI : IK A) (hx1 : (-2147483648 : Int) ≤ x1 ∧ x1 ≤ 2147483647) (hx2 : (-2147483648 : Int) ≤ x2 ∧ x2 ≤ 2147483647) : KMi l yX11_needs ws_kc_X11_needs ({ frames := 3, cells := 0, slots := 0, locals := 69 } : Room) aL aS (dC, dI) (tyA cB cI cJ cZ cQ) (WK cB cI cJ cZ cQ q) A [.ref (q 0), .int (iI x1), .int (iI x2)] (fun z u => A = u ∧ r_X11_needs x1 x2 A z ∧ (-2147483648 ≤ z ∧ z ≤ 2147483647)) := by
  refine k_meti (cc := cX11_needs) (maxL := 4) WK_adr (plainFor_of_name (by decide +kernel)) rfl (Nat.le_of_ble_eq_true rfl) (fun p e s m below meth c Q AS ls hx hb hml hown hts hK hDD hA0 hE RET H locs hP hS hl => ?_)
  have hown : s.vm.findClass RX11 = some m.cls := hown
  have hl : lv_has ls 4 [(0, .ref (q 0)), (1, .int (iI x1)), (2, .int (iI x2))] := hl
  have hiX11 : ∀ w ∈ u_ws RX11 TX11 11, w ∈ ws_kc_X11_needs := fun w h => List.mem_cons_of_mem _ (wy_layX11 w h)
  refine lv_aload_n hx hb (dk_at dkX11_needs_0 0 rfl) rfl (lv_at hl 0 rfl) ?_
  have r1 : (0 : Int) ≤ (A 0 9) ∧ (A 0 9) ≤ 1 := irK_9 hI
  obtain ⟨t2, et2⟩ : ∃ t : Nat, t = 51 + 31 * ((A 0 9)).toNat := ⟨_, rfl⟩
  have ht2 : isT t2 := by rw [et2]; exact isT.b r1
  refine va_get (D := (dC, dI)) (ci := 11) (v := .ref (q (51 + 31 * (A 0 9).toNat))) (C := RX11) (T := TX11) (N := 11) hx hb hts hiX11 hown hK hP 0 (wkK) rfl 9 (by decide) (hts _ (List.mem_cons_of_mem _ wkq_10_36)) (fun _ h9 => h9) rfl (dk_at dkX11_needs_0 1 rfl) ?_
  refine tp_v (y := .ref (q t2)) (by rw [et2]) ?_
  refine lv_iconst (v := iI 1) hx hb (dk_at dkX11_needs_0 2 rfl) (by decide +kernel) ?_
  refine lv_iload_n hx hb (dk_at dkX11_needs_0 3 rfl) rfl (lv_at hl 1 rfl) ?_
  refine k_calli (As := [.int (iI 1), .int (iI x1)]) (rest := []) ⟨hx, hb, hml, hown, hts⟩ hE (kc_X9_isThere_1_1 l dC dI cB cI cJ cZ cQ aL aS q _ t2 x1 hI ht2 hx1) (cwV 2 hts (goodVk wkq_10_54 wkq_0_22 wkq_0_23 wkq_0_6 wkq_0_24) rfl rfl rfl (by decide +kernel) ⟨Nat.le_of_ble_eq_true rfl, Nat.le_of_ble_eq_true rfl⟩) hK hDD hA0 hP hS t2 9 (wkT ht2) rfl rfl hl.1 (Nat.le_of_ble_eq_true rfl) (dk_at dkX11_needs_0 4 rfl) (fun z3 A4 H locs hw5 hP hS => ?_)
  obtain ⟨rfl, hw5⟩ := hw5
  have ghw5 : q_X9_isThere_1_1 t2 x1 A z3 := hw5
  have hw5 := hw5.2
  have rz3 : 0 ≤ z3 ∧ z3 ≤ 1 := hw5.1
  have hw5 := hw5.2
  refine lv_if_eq (tgt := 21) hx hb (dk_at dkX11_needs_0 5 rfl) (by decide) (fun c6 => ?_) (fun c6 => ?_)
  · have c6 : z3 = 0 := (i_eq0 (rb rz3 (by decide) (by decide))).mp c6
    clear hw5
    refine lv_iconst (v := iI (-1)) hx hb (dk_at dkX11_needs_0 11 rfl) (by decide +kernel) ?_
    exact RET (-1) _ _ _ _ _ ⟨rfl, (u_r_X11_needs ⟨t2, et2, ⟨z3, ghw5, (Or.inl ⟨c6, rfl⟩)⟩⟩), ⟨by decide, by decide⟩⟩ hP hS (dk_at dkX11_needs_0 12 rfl)
  · have c6 : ¬ z3 = 0 := mt (i_eq0 (rb rz3 (by decide) (by decide))).mpr c6
    have hw5b := hw5 (by omega)
    clear hw5
    refine lv_iload_n hx hb (dk_at dkX11_needs_0 6 rfl) rfl (lv_at hl 2 rfl) ?_
    refine lv_if_lt (tgt := 21) hx hb (dk_at dkX11_needs_0 7 rfl) (by decide) (fun c7 => ?_) (fun c7 => ?_)
    · have c7 : x2 < 0 := (i_lt0 hx2).mp c7
      refine lv_iconst (v := iI (-1)) hx hb (dk_at dkX11_needs_0 11 rfl) (by decide +kernel) ?_
      exact RET (-1) _ _ _ _ _ ⟨rfl, (u_r_X11_needs ⟨t2, et2, ⟨z3, ghw5, (Or.inr ⟨c6, (Or.inl ⟨c7, rfl⟩)⟩)⟩⟩), ⟨by decide, by decide⟩⟩ hP hS (dk_at dkX11_needs_0 12 rfl)
    · have c7 : ¬ x2 < 0 := mt (i_lt0 hx2).mpr c7
      refine lv_iload_n hx hb (dk_at dkX11_needs_0 8 rfl) rfl (lv_at hl 2 rfl) ?_
      refine lv_iconst (v := iI 1) hx hb (dk_at dkX11_needs_0 9 rfl) (by decide +kernel) ?_
      refine lv_icmp_le (tgt := 23) hx hb (dk_at dkX11_needs_0 10 rfl) (by decide) (fun c8 => ?_) (fun c8 => ?_)
      · have c8 : x2 ≤ 1 := (i_le hx2 ⟨by decide, by decide⟩).mp c8
        refine lv_aload_n hx hb (dk_at dkX11_needs_0 13 rfl) rfl (lv_at hl 0 rfl) ?_
        refine va_get (D := (dC, dI)) (ci := 11) (v := .ref (q (51 + 31 * (A 0 9).toNat))) (C := RX11) (T := TX11) (N := 11) hx hb hts hiX11 hown hK hP 0 (wkK) rfl 9 (by decide) (hts _ (List.mem_cons_of_mem _ wkq_10_36)) (fun _ h9 => h9) rfl (dk_at dkX11_needs_0 14 rfl) ?_
        refine tp_v (y := .ref (q t2)) (by rw [et2]) ?_
        refine lv_iload_n hx hb (dk_at dkX11_needs_0 15 rfl) rfl (lv_at hl 1 rfl) ?_
        refine k_calli (As := [.int (iI x1)]) (rest := []) ⟨hx, hb, hml, hown, hts⟩ hE (kc_X9_holdersOf l dC dI cB cI cJ cZ cQ aL aS q _ t2 x1 hI ht2 hx1) (cwV 1 hts (goodVk wkq_12_10 wkq_12_11 wkq_12_12 wkq_0_6 wkq_9_42) rfl rfl rfl (by decide +kernel) ⟨Nat.le_of_ble_eq_true rfl, Nat.le_of_ble_eq_true rfl⟩) hK hDD hA0 hP hS t2 9 (wkT ht2) rfl rfl hl.1 (Nat.le_of_ble_eq_true rfl) (dk_at dkX11_needs_1 0 rfl) (fun z9 A10 H locs hw11 hP hS => ?_)
        obtain ⟨rfl, hw11⟩ := hw11
        have ghw11 : q_X9_holdersOf t2 x1 A z9 := hw11
        have hw11 := hw11.2
        refine lv_istore_n (lv' := [(3, .int (iI z9)), (0, .ref (q 0)), (1, .int (iI x1)), (2, .int (iI x2))]) hx hb (dk_at dkX11_needs_1 1 rfl) rfl hl (by decide) rfl (fun ls hl => ?_)
        refine lv_iload_n hx hb (dk_at dkX11_needs_1 2 rfl) rfl (lv_at hl 0 rfl) ?_
        refine lv_iconst (v := iI (-1)) hx hb (dk_at dkX11_needs_1 3 rfl) (by decide +kernel) ?_
        refine lv_icmp_ne (tgt := 39) hx hb (dk_at dkX11_needs_1 4 rfl) (by decide) (fun c12 => ?_) (fun c12 => ?_)
        · have c12 : ¬ z9 = (-1) := mt (i_eq hw11 ⟨by decide, by decide⟩).mpr c12
          refine lv_iload_n hx hb (dk_at dkX11_needs_1 7 rfl) rfl (lv_at hl 3 rfl) ?_
          refine lv_if_ne (tgt := 50) hx hb (dk_at dkX11_needs_1 8 rfl) (by decide) (fun c13 => ?_) (fun c13 => ?_)
          · have c13 : ¬ x2 = 0 := mt (i_eq0 hx2).mpr c13
            refine lv_aload_n hx hb (dk_at dkX11_needs_1 12 rfl) rfl (lv_at hl 1 rfl) ?_
            refine va_get (D := (dC, dI)) (ci := 11) (v := .ref (q (51 + 31 * (A 0 9).toNat))) (C := RX11) (T := TX11) (N := 11) hx hb hts hiX11 hown hK hP 0 (wkK) rfl 9 (by decide) (hts _ (List.mem_cons_of_mem _ wkq_10_36)) (fun _ h9 => h9) rfl (dk_at dkX11_needs_1 13 rfl) ?_
            refine tp_v (y := .ref (q t2)) (by rw [et2]) ?_
            refine lv_iload_n hx hb (dk_at dkX11_needs_1 14 rfl) rfl (lv_at hl 2 rfl) ?_
            refine k_calli (As := [.int (iI x1)]) (rest := []) ⟨hx, hb, hml, hown, hts⟩ hE (kc_X9_workOf l dC dI cB cI cJ cZ cQ aL aS q _ t2 x1 hI ht2 hx1) (cwV 1 hts (goodVk wkq_12_14 wkq_12_15 wkq_12_16 wkq_0_6 wkq_9_43) rfl rfl rfl (by decide +kernel) ⟨Nat.le_of_ble_eq_true rfl, Nat.le_of_ble_eq_true rfl⟩) hK hDD hA0 hP hS t2 9 (wkT ht2) rfl rfl hl.1 (Nat.le_of_ble_eq_true rfl) (dk_at dkX11_needs_1 15 rfl) (fun z14 A15 H locs hw16 hP hS => ?_)
            obtain ⟨rfl, hw16⟩ := hw16
            have ghw16 : q_X9_workOf t2 x1 A z14 := hw16
            have hw16 := hw16.2
            exact RET z14 _ _ _ _ _ ⟨rfl, (u_r_X11_needs ⟨t2, et2, ⟨z3, ghw5, (Or.inr ⟨c6, (Or.inr ⟨c7, (Or.inl ⟨c8, ⟨z9, ghw11, (Or.inl ⟨c12, (Or.inl ⟨c13, ⟨z14, ghw16, rfl⟩⟩)⟩)⟩⟩)⟩)⟩)⟩⟩), hw16⟩ hP hS (dk_at dkX11_needs_2 0 rfl)
          · have c13 : x2 = 0 := (i_eq0 hx2).mp c13
            refine lv_iload_n hx hb (dk_at dkX11_needs_1 9 rfl) rfl (lv_at hl 0 rfl) ?_
            refine k_callSi (As := [.int (iI z9)]) (rest := []) ⟨hx, hb, hml, hown, hts⟩ hE (kc_J6_bitCount_0f7a4 l dC dI cB cI cJ cZ cQ aL aS q _ z9 hI hw11) (va_cwS 1 hts (goodSk wkq_10_48 wkq_1_17 wkq_1_18 wkq_1_19) rfl rfl rfl (by decide +kernel) ⟨Nat.le_of_ble_eq_true rfl, Nat.le_of_ble_eq_true rfl⟩) hK hDD hA0 hP hS rfl hl.1 (Nat.le_of_ble_eq_true rfl) (dk_at dkX11_needs_1 10 rfl) (fun z17 A18 H locs hw19 hP hS => ?_)
            obtain ⟨rfl, hw19⟩ := hw19
            have ghw19 : q_J6_bitCount_0f7a4 z9 A z17 := hw19
            have hw19 := hw19.2
            refine lv_goto (tgt := 58) hx hb (dk_at dkX11_needs_1 11 rfl) (by decide) ?_
            exact RET z17 _ _ _ _ _ ⟨rfl, (u_r_X11_needs ⟨t2, et2, ⟨z3, ghw5, (Or.inr ⟨c6, (Or.inr ⟨c7, (Or.inl ⟨c8, ⟨z9, ghw11, (Or.inl ⟨c12, (Or.inr ⟨c13, ⟨z17, ghw19, rfl⟩⟩)⟩)⟩⟩)⟩)⟩)⟩⟩), (rb hw19 (by decide) (by decide))⟩ hP hS (dk_at dkX11_needs_2 0 rfl)
        · have c12 : z9 = (-1) := (i_eq hw11 ⟨by decide, by decide⟩).mp c12
          refine lv_iconst (v := iI (-1)) hx hb (dk_at dkX11_needs_1 5 rfl) (by decide +kernel) ?_
          exact RET (-1) _ _ _ _ _ ⟨rfl, (u_r_X11_needs ⟨t2, et2, ⟨z3, ghw5, (Or.inr ⟨c6, (Or.inr ⟨c7, (Or.inl ⟨c8, ⟨z9, ghw11, (Or.inr ⟨c12, rfl⟩)⟩⟩)⟩)⟩)⟩⟩), ⟨by decide, by decide⟩⟩ hP hS (dk_at dkX11_needs_1 6 rfl)
      · have c8 : ¬ x2 ≤ 1 := mt (i_le hx2 ⟨by decide, by decide⟩).mpr c8
        refine lv_iconst (v := iI (-1)) hx hb (dk_at dkX11_needs_0 11 rfl) (by decide +kernel) ?_
        exact RET (-1) _ _ _ _ _ ⟨rfl, (u_r_X11_needs ⟨t2, et2, ⟨z3, ghw5, (Or.inr ⟨c6, (Or.inr ⟨c7, (Or.inr ⟨c8, rfl⟩)⟩)⟩)⟩⟩), ⟨by decide, by decide⟩⟩ hP hS (dk_at dkX11_needs_0 12 rfl)
theorem dkX11_cross_0 : dkq cX11_cross [(0, .iload_n 1, 1), (1, .ifCond .eq 8, 3), (4, .iload_n 1, 1), (5, .iconst 1, 1), (6, .if_icmp .ne 27, 3), (9, .aload_n 0, 1), (10, .getfield 35, 3), (13, .aload_n 0, 1), (14, .getfield 74, 3), (17, .iload_n 1, 1), (18, .iconst 1, 1), (19, .if_icmp .ne 7, 3), (22, .iconst 1, 1), (23, .goto 4, 3), (26, .iconst 0, 1), (27, .invokevirtual 232, 3)] = true := by decide +kernel
theorem dkX11_cross_1 : dkq cX11_cross [(30, .goto 4, 3), (33, .iconst (-1), 1), (34, .ireturn, 1)] = true := by decide +kernel
theorem dkX11_fewest_0 : dkq cX11_fewest [(0, .iload_n 1, 1), (1, .iconst (-1), 1), (2, .if_icmp .eq 18, 3), (5, .aload_n 0, 1), (6, .getfield 74, 3), (9, .bipush 6, 2), (11, .iload_n 1, 1), (12, .invokevirtual 125, 3), (15, .ifCond .ne 5, 3), (18, .iconst (-1), 1), (19, .ireturn, 1), (20, .aload_n 0, 1), (21, .getfield 35, 3), (24, .aload_n 0, 1), (25, .getfield 74, 3), (28, .invokevirtual 236, 3)] = true := by decide +kernel
theorem dkX11_fewest_1 : dkq cX11_fewest [(31, .istore_n 2, 1), (32, .iload_n 1, 1), (33, .iconst (-1), 1), (34, .if_icmp .ne 7, 3), (37, .iload_n 2, 1), (38, .goto 12, 3), (41, .aload_n 0, 1), (42, .getfield 35, 3), (45, .getfield 239, 3), (48, .iload_n 1, 1), (49, .iaload, 1), (50, .ireturn, 1)] = true := by decide +kernel
theorem dkX11_order_0 : dkq cX11_order [(0, .aload_n 0, 1), (1, .getfield 74, 3), (4, .bipush 6, 2), (6, .iload_n 1, 1), (7, .invokevirtual 125, 3), (10, .ifCond .eq 18, 3), (13, .aload_n 0, 1), (14, .getfield 35, 3), (17, .aload_n 0, 1), (18, .getfield 74, 3), (21, .iload_n 1, 1), (22, .invokevirtual 242, 3), (25, .goto 4, 3), (28, .iconst (-1), 1), (29, .ireturn, 1)] = true := by decide +kernel
theorem dkX11_trial_0 : dkq cX11_trial [(0, .aload_n 0, 1), (1, .getfield 74, 3), (4, .iconst 1, 1), (5, .iload_n 1, 1), (6, .invokevirtual 125, 3), (9, .ifCond .eq 15, 3), (12, .aload_n 0, 1), (13, .getfield 42, 3), (16, .iload_n 1, 1), (17, .iload_n 2, 1), (18, .invokevirtual 245, 3), (21, .ifCond .ne 9, 3), (24, .aload_n 0, 1), (25, .iconst 4, 1), (26, .invokevirtual 85, 3), (29, .ireturn, 1)] = true := by decide +kernel
theorem dkX11_trial_1 : dkq cX11_trial [(30, .aload_n 0, 1), (31, .getfield 42, 3), (34, .aload_n 0, 1), (35, .getfield 74, 3), (38, .iconst (-1), 1), (39, .invokevirtual 249, 3), (42, .aload_n 0, 1), (43, .getfield 42, 3), (46, .getfield 253, 3), (49, .ireturn, 1)] = true := by decide +kernel
theorem dkX11_fits_0 : dkq cX11_fits [(0, .aload_n 0, 1), (1, .getfield 42, 3), (4, .aload_n 0, 1), (5, .getfield 74, 3), (8, .iconst (-1), 1), (9, .invokevirtual 249, 3), (12, .iload_n 1, 1), (13, .iconst (-1), 1), (14, .if_icmp .ne 11, 3), (17, .aload_n 0, 1), (18, .getfield 42, 3), (21, .getfield 253, 3), (24, .ireturn, 1), (25, .iload_n 1, 1), (26, .ifCond .lt 31, 3), (29, .iload_n 1, 1)] = true := by decide +kernel
theorem dkX11_fits_1 : dkq cX11_fits [(30, .aload_n 0, 1), (31, .getfield 42, 3), (34, .getfield 256, 3), (37, .if_icmp .ge 20, 3), (40, .iload_n 1, 1), (41, .iconst 3, 1), (42, .if_icmp .ge 15, 3), (45, .aload_n 0, 1), (46, .getfield 42, 3), (49, .getfield 259, 3), (52, .iload_n 1, 1), (53, .iaload, 1), (54, .goto 4, 3), (57, .iconst (-1), 1), (58, .ireturn, 1)] = true := by decide +kernel
theorem dkX11_would_0 : dkq cX11_would [(0, .aload_n 0, 1), (1, .getfield 74, 3), (4, .iconst 1, 1), (5, .iload_n 1, 1), (6, .invokevirtual 125, 3), (9, .ifCond .ne 5, 3), (12, .iconst (-1), 1), (13, .ireturn, 1), (14, .aload_n 0, 1), (15, .getfield 42, 3), (18, .aload_n 0, 1), (19, .getfield 74, 3), (22, .iload_n 1, 1), (23, .invokevirtual 249, 3), (26, .aload_n 0, 1), (27, .getfield 42, 3)] = true := by decide +kernel
theorem dkX11_would_1 : dkq cX11_would [(30, .getfield 260, 3), (33, .ireturn, 1)] = true := by decide +kernel
theorem dkX11_unsay_0 : dkq cX11_unsay [(0, .aload_n 0, 1), (1, .getfield 42, 3), (4, .getfield 101, 3), (7, .ifCond .ne 9, 3), (10, .aload_n 0, 1), (11, .iconst 4, 1), (12, .invokevirtual 85, 3), (15, .ireturn, 1), (16, .aload_n 0, 1), (17, .getfield 42, 3), (20, .dup, 1), (21, .getfield 101, 3), (24, .iconst 1, 1), (25, .isub, 1), (26, .putfield 101, 3), (29, .aload_n 0, 1)] = true := by decide +kernel
theorem dkX11_unsay_1 : dkq cX11_unsay [(30, .getfield 42, 3), (33, .getfield 101, 3), (36, .ireturn, 1)] = true := by decide +kernel
theorem dkX11_round_0 : dkq cX11_round [(0, .aload_n 0, 1), (1, .getfield 74, 3), (4, .iconst 3, 1), (5, .iload_n 1, 1), (6, .invokevirtual 125, 3), (9, .ifCond .ne 5, 3), (12, .iconst (-1), 1), (13, .ireturn, 1), (14, .aload_n 0, 1), (15, .getfield 49, 3), (18, .aload_n 0, 1), (19, .getfield 74, 3), (22, .aload_n 0, 1), (23, .getfield 74, 3), (26, .getfield 152, 3), (29, .getfield 168, 3)] = true := by decide +kernel
theorem dkX11_round_1 : dkq cX11_round [(32, .iload_n 1, 1), (33, .iaload, 1), (34, .iload_n 2, 1), (35, .invokevirtual 263, 3), (38, .ireturn, 1)] = true := by decide +kernel
theorem dkX11_image_0 : dkq cX11_image [(0, .aload_n 0, 1), (1, .getfield 56, 3), (4, .aload_n 0, 1), (5, .getfield 74, 3), (8, .invokevirtual 266, 3), (11, .ireturn, 1)] = true := by decide +kernel
theorem dkX11_octet_0 : dkq cX11_octet [(0, .iload_n 1, 1), (1, .ifCond .lt 32, 3), (4, .iload_n 1, 1), (5, .aload_n 0, 1), (6, .getfield 56, 3), (9, .getfield 269, 3), (12, .if_icmp .ge 21, 3), (15, .iload_n 1, 1), (16, .bipush 36, 2), (18, .if_icmp .ge 15, 3), (21, .aload_n 0, 1), (22, .getfield 56, 3), (25, .getfield 270, 3), (28, .iload_n 1, 1), (29, .iaload, 1), (30, .goto 4, 3)] = true := by decide +kernel
theorem dkX11_octet_1 : dkq cX11_octet [(33, .iconst (-1), 1), (34, .ireturn, 1)] = true := by decide +kernel
theorem dkX11_on_0 : dkq cX11_on [(0, .aload_n 0, 1), (1, .getfield 56, 3), (4, .aload_n 0, 1), (5, .getfield 74, 3), (8, .aload_n 0, 1), (9, .getfield 10, 3), (12, .invokevirtual 273, 3), (15, .istore_n 1, 1), (16, .aload_n 0, 1), (17, .getfield 10, 3), (20, .iconst 0, 1), (21, .putfield 93, 3), (24, .iload_n 1, 1), (25, .ifCond .ne 9, 3), (28, .aload_n 0, 1), (29, .iconst 5, 1)] = true := by decide +kernel
theorem dkX11_on_1 : dkq cX11_on [(30, .invokevirtual 85, 3), (33, .pop, 1), (34, .iload_n 1, 1), (35, .ireturn, 1)] = true := by decide +kernel
theorem dkX11_status_0 : dkq cX11_status [(0, .iload_n 1, 1), (1, .ifCond .lt 18, 3), (4, .iload_n 1, 1), (5, .bipush 6, 2), (7, .if_icmp .ge 12, 3), (10, .aload_n 0, 1), (11, .getfield 67, 3), (14, .iload_n 1, 1), (15, .iaload, 1), (16, .goto 4, 3), (19, .iconst (-1), 1), (20, .ireturn, 1)] = true := by decide +kernel
abbrev tr_d_X11_cross_1 (x1 : Int) (A : St) (z : Int) : Prop := (∃ t6 : Nat, t6 = 51 + 31 * ((A 0 9)).toNat ∧ (((¬ x1 = 1) ∧ (∃ z8 : Int, q_X2_firstCrossing t6 0 A z8 ∧ (z = z8))) ∨ ((x1 = 1) ∧ (∃ z11 : Int, q_X2_firstCrossing t6 1 A z11 ∧ (z = z11)))))
def d_X11_cross_1 (x1 : Int) (A : St) (z : Int) : Prop := tr_d_X11_cross_1 x1 A z
theorem u_d_X11_cross_1 {x1 : Int} {A : St} {z : Int} (h : tr_d_X11_cross_1 x1 A z) : d_X11_cross_1 x1 A z := h
abbrev tr_r_X11_cross (x1 : Int) (A : St) (z : Int) : Prop := (((x1 = 0) ∧ (d_X11_cross_1 x1 A z)) ∨ ((¬ x1 = 0) ∧ (((¬ x1 = 1) ∧ (z = (-1))) ∨ ((x1 = 1) ∧ (d_X11_cross_1 x1 A z)))))
def r_X11_cross (x1 : Int) (A : St) (z : Int) : Prop := tr_r_X11_cross x1 A z
theorem u_r_X11_cross {x1 : Int} {A : St} {z : Int} (h : tr_r_X11_cross x1 A z) : r_X11_cross x1 A z := h
def ws_kc_X11_cross : List Cond := .code yX11_cross cX11_cross 2 (some .int) :: WY
set_option maxHeartbeats 4000000 in
set_option maxRecDepth 100000 in
theorem kc_X11_cross (l : Launch) (dC : Nat → ClassId) (dI : Nat → Nat → Nat) (cB cI cJ cZ cQ : ClassId) (aL aS : Nat) (q : Nat → Nat) (A : St) (x1 : Int) (hI : IK A) (hx1 : (-2147483648 : Int) ≤ x1 ∧ x1 ≤ 2147483647) : KMi l yX11_cross ws_kc_X11_cross ({ frames := 3, cells := 0, slots := 0, locals := 72 } : Room) aL aS (dC, dI) (tyA cB cI cJ cZ cQ) (WK cB cI cJ cZ cQ q) A [.ref (q 0), .int (iI x1)] (fun z u => A = u ∧ r_X11_cross x1 A z ∧ (-2147483648 ≤ z ∧ z ≤ 2147483647)) := by
  refine k_meti (cc := cX11_cross) (maxL := 2) WK_adr (plainFor_of_name (by decide +kernel)) rfl (Nat.le_of_ble_eq_true rfl) (fun p e s m below meth c Q AS ls hx hb hml hown hts hK hDD hA0 hE RET H locs hP hS hl => ?_)
  have hown : s.vm.findClass RX11 = some m.cls := hown
  have hl : lv_has ls 2 [(0, .ref (q 0)), (1, .int (iI x1))] := hl
  have hiX11 : ∀ w ∈ u_ws RX11 TX11 11, w ∈ ws_kc_X11_cross := fun w h => List.mem_cons_of_mem _ (wy_layX11 w h)
  refine lv_iload_n hx hb (dk_at dkX11_cross_0 0 rfl) rfl (lv_at hl 1 rfl) ?_
  have J9_2 : ∀ (H : Heap) (locs : List Loc) (ls : Array Slot), (∀ (z : Int), (d_X11_cross_1 x1 A z) → r_X11_cross x1 A z) → va_P (dC, dI) vwCl (WK cB cI cJ cZ cQ q A) H → va_S AS s.heap H locs → lv_has ls 2 [(0, .ref (q 0)), (1, .int (iI x1))] → W p l e (headSpec ws_kc_X11_cross ({ frames := 3, cells := 0, slots := 0, locals := 72 } : Room)).room s m [.ref (q 0), .int (iI x1)].toArray below meth c H locs 0 0 Q (F0 m 9 ls []) := by
    intro H locs ls hk1 hP hS hl
    refine lv_aload_n hx hb (dk_at dkX11_cross_0 5 rfl) rfl (lv_at hl 0 rfl) ?_
    refine va_get (D := (dC, dI)) (ci := 11) (v := .ref (q 20)) (C := RX11) (T := TX11) (N := 11) hx hb hts hiX11 hown hK hP 0 (wkK) rfl 3 (by decide) (hts _ (List.mem_cons_of_mem _ wkq_12_18)) (fun _ h9 => h9) rfl (dk_at dkX11_cross_0 6 rfl) ?_
    refine lv_aload_n hx hb (dk_at dkX11_cross_0 7 rfl) rfl (lv_at hl 0 rfl) ?_
    have r5 : (0 : Int) ≤ (A 0 9) ∧ (A 0 9) ≤ 1 := irK_9 hI
    obtain ⟨t6, et6⟩ : ∃ t : Nat, t = 51 + 31 * ((A 0 9)).toNat := ⟨_, rfl⟩
    have ht6 : isT t6 := by rw [et6]; exact isT.b r5
    refine va_get (D := (dC, dI)) (ci := 11) (v := .ref (q (51 + 31 * (A 0 9).toNat))) (C := RX11) (T := TX11) (N := 11) hx hb hts hiX11 hown hK hP 0 (wkK) rfl 9 (by decide) (hts _ (List.mem_cons_of_mem _ wkq_10_36)) (fun _ h9 => h9) rfl (dk_at dkX11_cross_0 8 rfl) ?_
    refine tp_v (y := .ref (q t6)) (by rw [et6]) ?_
    refine lv_iload_n hx hb (dk_at dkX11_cross_0 9 rfl) rfl (lv_at hl 1 rfl) ?_
    refine lv_iconst (v := iI 1) hx hb (dk_at dkX11_cross_0 10 rfl) (by decide +kernel) ?_
    refine lv_icmp_ne (tgt := 26) hx hb (dk_at dkX11_cross_0 11 rfl) (by decide) (fun c7 => ?_) (fun c7 => ?_)
    · have c7 : ¬ x1 = 1 := mt (i_eq hx1 ⟨by decide, by decide⟩).mpr c7
      refine lv_iconst (v := iI 0) hx hb (dk_at dkX11_cross_0 14 rfl) (by decide +kernel) ?_
      refine k_calli (As := [.ref (q t6), .int (iI 0)]) (rest := []) ⟨hx, hb, hml, hown, hts⟩ hE (kc_X2_firstCrossing l dC dI cB cI cJ cZ cQ aL aS q _ t6 0 hI ht6 ⟨by decide, by decide⟩) (cwV 2 hts (goodVk wkq_12_19 wkq_12_20 wkq_12_21 wkq_3_34 wkq_3_30) rfl rfl rfl (by decide +kernel) ⟨Nat.le_of_ble_eq_true rfl, Nat.le_of_ble_eq_true rfl⟩) hK hDD hA0 hP hS 20 2 (wkHR) rfl rfl hl.1 (Nat.le_of_ble_eq_true rfl) (dk_at dkX11_cross_0 15 rfl) (fun z8 A9 H locs hw10 hP hS => ?_)
      obtain ⟨rfl, hw10⟩ := hw10
      have ghw10 : q_X2_firstCrossing t6 0 A z8 := hw10
      have hw10 := hw10.2
      refine lv_goto (tgt := 34) hx hb (dk_at dkX11_cross_1 0 rfl) (by decide) ?_
      exact RET z8 _ _ _ _ _ ⟨rfl, hk1 _ (u_d_X11_cross_1 ⟨t6, et6, (Or.inl ⟨c7, ⟨z8, ghw10, rfl⟩⟩)⟩), hw10⟩ hP hS (dk_at dkX11_cross_1 2 rfl)
    · have c7 : x1 = 1 := (i_eq hx1 ⟨by decide, by decide⟩).mp c7
      refine lv_iconst (v := iI 1) hx hb (dk_at dkX11_cross_0 12 rfl) (by decide +kernel) ?_
      refine lv_goto (tgt := 27) hx hb (dk_at dkX11_cross_0 13 rfl) (by decide) ?_
      refine k_calli (As := [.ref (q t6), .int (iI 1)]) (rest := []) ⟨hx, hb, hml, hown, hts⟩ hE (kc_X2_firstCrossing l dC dI cB cI cJ cZ cQ aL aS q _ t6 1 hI ht6 ⟨by decide, by decide⟩) (cwV 2 hts (goodVk wkq_12_19 wkq_12_20 wkq_12_21 wkq_3_34 wkq_3_30) rfl rfl rfl (by decide +kernel) ⟨Nat.le_of_ble_eq_true rfl, Nat.le_of_ble_eq_true rfl⟩) hK hDD hA0 hP hS 20 2 (wkHR) rfl rfl hl.1 (Nat.le_of_ble_eq_true rfl) (dk_at dkX11_cross_0 15 rfl) (fun z11 A12 H locs hw13 hP hS => ?_)
      obtain ⟨rfl, hw13⟩ := hw13
      have ghw13 : q_X2_firstCrossing t6 1 A z11 := hw13
      have hw13 := hw13.2
      refine lv_goto (tgt := 34) hx hb (dk_at dkX11_cross_1 0 rfl) (by decide) ?_
      exact RET z11 _ _ _ _ _ ⟨rfl, hk1 _ (u_d_X11_cross_1 ⟨t6, et6, (Or.inr ⟨c7, ⟨z11, ghw13, rfl⟩⟩)⟩), hw13⟩ hP hS (dk_at dkX11_cross_1 2 rfl)
  refine lv_if_eq (tgt := 9) hx hb (dk_at dkX11_cross_0 1 rfl) (by decide) (fun c1 => ?_) (fun c1 => ?_)
  · have c1 : x1 = 0 := (i_eq0 hx1).mp c1
    exact J9_2 _ _ _ (fun zq hq => (u_r_X11_cross (Or.inl ⟨c1, hq⟩))) hP hS (lv_sub hl [0, 1] rfl)
  · have c1 : ¬ x1 = 0 := mt (i_eq0 hx1).mpr c1
    refine lv_iload_n hx hb (dk_at dkX11_cross_0 2 rfl) rfl (lv_at hl 1 rfl) ?_
    refine lv_iconst (v := iI 1) hx hb (dk_at dkX11_cross_0 3 rfl) (by decide +kernel) ?_
    refine lv_icmp_ne (tgt := 33) hx hb (dk_at dkX11_cross_0 4 rfl) (by decide) (fun c3 => ?_) (fun c3 => ?_)
    · have c3 : ¬ x1 = 1 := mt (i_eq hx1 ⟨by decide, by decide⟩).mpr c3
      refine lv_iconst (v := iI (-1)) hx hb (dk_at dkX11_cross_1 1 rfl) (by decide +kernel) ?_
      exact RET (-1) _ _ _ _ _ ⟨rfl, (u_r_X11_cross (Or.inr ⟨c1, (Or.inl ⟨c3, rfl⟩)⟩)), ⟨by decide, by decide⟩⟩ hP hS (dk_at dkX11_cross_1 2 rfl)
    · have c3 : x1 = 1 := (i_eq hx1 ⟨by decide, by decide⟩).mp c3
      exact J9_2 _ _ _ (fun zq hq => (u_r_X11_cross (Or.inr ⟨c1, (Or.inr ⟨c3, hq⟩)⟩))) hP hS (lv_sub hl [0, 1] rfl)

abbrev tr_d_X11_fewest_1 (x1 : Int) (A : St) (z : Int) (u : St) : Prop := (∃ t12 : Nat, t12 = 51 + 31 * ((A 0 9)).toNat ∧ (∃ z13 : Int, ∃ A14 : St, q_X2_fewestKeys t12 A z13 A14 ∧ (((¬ x1 = (-1)) ∧ (∃ z18 : Int, z18 = A14 21 (x1).toNat ∧ (z = z18 ∧ u = A14))) ∨ ((x1 = (-1)) ∧ (z = z13 ∧ u = A14)))))
def d_X11_fewest_1 (x1 : Int) (A : St) (z : Int) (u : St) : Prop := tr_d_X11_fewest_1 x1 A z u
theorem u_d_X11_fewest_1 {x1 : Int} {A : St} {z : Int} {u : St} (h : tr_d_X11_fewest_1 x1 A z u) : d_X11_fewest_1 x1 A z u := h
abbrev tr_r_X11_fewest (x1 : Int) (A : St) (z : Int) (u : St) : Prop := (((x1 = (-1)) ∧ (d_X11_fewest_1 x1 A z u)) ∨ ((¬ x1 = (-1)) ∧ (∃ t4 : Nat, t4 = 51 + 31 * ((A 0 9)).toNat ∧ (∃ z5 : Int, q_X9_isThere_1_6 t4 x1 A z5 ∧ (((¬ z5 = 0) ∧ (d_X11_fewest_1 x1 A z u)) ∨ ((z5 = 0) ∧ (z = (-1) ∧ u = A)))))))
def r_X11_fewest (x1 : Int) (A : St) (z : Int) (u : St) : Prop := tr_r_X11_fewest x1 A z u
theorem u_r_X11_fewest {x1 : Int} {A : St} {z : Int} {u : St} (h : tr_r_X11_fewest x1 A z u) : r_X11_fewest x1 A z u := h
def ws_kc_X11_fewest : List Cond := .code yX11_fewest cX11_fewest 3 (some .int) :: WY
set_option maxHeartbeats 4000000 in
set_option maxRecDepth 100000 in
theorem kc_X11_fewest (l : Launch) (dC : Nat → ClassId) (dI : Nat → Nat → Nat) (cB cI cJ cZ cQ : ClassId) (aL aS : Nat) (q : Nat → Nat) (A : St) (x1 : Int) (hI : IK A) (hx1 : (-2147483648 : Int) ≤ x1 ∧ x1 ≤ 2147483647) : KMi l yX11_fewest ws_kc_X11_fewest ({ frames := 10, cells := 0, slots := 0, locals := 238 } : Room) aL aS (dC, dI) (tyA cB cI cJ cZ cQ) (WK cB cI cJ cZ cQ q) A [.ref (q 0), .int (iI x1)] (fun z u => r_X11_fewest x1 A z u ∧ IK u ∧ fk [21] [] A u ∧ (-2147483648 ≤ z ∧ z ≤ 2147483647)) := by
  refine k_meti (cc := cX11_fewest) (maxL := 3) WK_adr (plainFor_of_name (by decide +kernel)) rfl (Nat.le_of_ble_eq_true rfl) (fun p e s m below meth c Q AS ls hx hb hml hown hts hK hDD hA0 hE RET H locs hP hS hl => ?_)
  have hown : s.vm.findClass RX11 = some m.cls := hown
  have hl : lv_has ls 3 [(0, .ref (q 0)), (1, .int (iI x1))] := hl
  have hiX11 : ∀ w ∈ u_ws RX11 TX11 11, w ∈ ws_kc_X11_fewest := fun w h => List.mem_cons_of_mem _ (wy_layX11 w h)
  have hiX2 : ∀ w ∈ u_ws RX2 TX2 1, w ∈ ws_kc_X11_fewest := fun w h => List.mem_cons_of_mem _ (wy_layX2 w h)
  refine lv_iload_n hx hb (dk_at dkX11_fewest_0 0 rfl) rfl (lv_at hl 1 rfl) ?_
  refine lv_iconst (v := iI (-1)) hx hb (dk_at dkX11_fewest_0 1 rfl) (by decide +kernel) ?_
  have J20_2 : ∀ (H : Heap) (locs : List Loc) (ls : Array Slot), (x1 = -1 ∨ (0 ≤ x1 ∧ x1 ≤ 5)) → (∀ (z : Int) (u : St), (d_X11_fewest_1 x1 A z u) → r_X11_fewest x1 A z u) → va_P (dC, dI) vwCl (WK cB cI cJ cZ cQ q A) H → va_S AS s.heap H locs → lv_has ls 3 [(0, .ref (q 0)), (1, .int (iI x1))] → W p l e (headSpec ws_kc_X11_fewest ({ frames := 10, cells := 0, slots := 0, locals := 238 } : Room)).room s m [.ref (q 0), .int (iI x1)].toArray below meth c H locs 0 0 Q (F0 m 20 ls []) := by
    intro H locs ls f10 hk1 hP hS hl
    refine lv_aload_n hx hb (dk_at dkX11_fewest_0 11 rfl) rfl (lv_at hl 0 rfl) ?_
    refine va_get (D := (dC, dI)) (ci := 11) (v := .ref (q 20)) (C := RX11) (T := TX11) (N := 11) hx hb hts hiX11 hown hK hP 0 (wkK) rfl 3 (by decide) (hts _ (List.mem_cons_of_mem _ wkq_12_18)) (fun _ h9 => h9) rfl (dk_at dkX11_fewest_0 12 rfl) ?_
    refine lv_aload_n hx hb (dk_at dkX11_fewest_0 13 rfl) rfl (lv_at hl 0 rfl) ?_
    have r11 : (0 : Int) ≤ (A 0 9) ∧ (A 0 9) ≤ 1 := irK_9 hI
    obtain ⟨t12, et12⟩ : ∃ t : Nat, t = 51 + 31 * ((A 0 9)).toNat := ⟨_, rfl⟩
    have ht12 : isT t12 := by rw [et12]; exact isT.b r11
    refine va_get (D := (dC, dI)) (ci := 11) (v := .ref (q (51 + 31 * (A 0 9).toNat))) (C := RX11) (T := TX11) (N := 11) hx hb hts hiX11 hown hK hP 0 (wkK) rfl 9 (by decide) (hts _ (List.mem_cons_of_mem _ wkq_10_36)) (fun _ h9 => h9) rfl (dk_at dkX11_fewest_0 14 rfl) ?_
    refine tp_v (y := .ref (q t12)) (by rw [et12]) ?_
    refine k_calli (As := [.ref (q t12)]) (rest := []) ⟨hx, hb, hml, hown, hts⟩ hE (kc_X2_fewestKeys l dC dI cB cI cJ cZ cQ aL aS q _ t12 hI ht12) (cwV 1 hts (goodVk wkq_12_24 wkq_12_25 wkq_12_26 wkq_3_34 wkq_3_40) rfl rfl rfl (by decide +kernel) ⟨Nat.le_of_ble_eq_true rfl, Nat.le_of_ble_eq_true rfl⟩) hK hDD hA0 hP hS 20 2 (wkHR) rfl rfl hl.1 (Nat.le_of_ble_eq_true rfl) (dk_at dkX11_fewest_0 15 rfl) (fun z13 A14 H locs hw15 hP hS => ?_)
    have ghw15 : q_X2_fewestKeys t12 A z13 A14 := hw15
    obtain ⟨_, hI, hf16, hw15⟩ := hw15
    refine lv_istore_n (lv' := [(2, .int (iI z13)), (0, .ref (q 0)), (1, .int (iI x1))]) hx hb (dk_at dkX11_fewest_1 0 rfl) rfl hl (by decide) rfl (fun ls hl => ?_)
    refine lv_iload_n hx hb (dk_at dkX11_fewest_1 1 rfl) rfl (lv_at hl 2 rfl) ?_
    refine lv_iconst (v := iI (-1)) hx hb (dk_at dkX11_fewest_1 2 rfl) (by decide +kernel) ?_
    refine lv_icmp_ne (tgt := 41) hx hb (dk_at dkX11_fewest_1 3 rfl) (by decide) (fun c17 => ?_) (fun c17 => ?_)
    · have c17 : ¬ x1 = (-1) := mt (i_eq hx1 ⟨by decide, by decide⟩).mpr c17
      refine lv_aload_n hx hb (dk_at dkX11_fewest_1 6 rfl) rfl (lv_at hl 1 rfl) ?_
      refine va_get (D := (dC, dI)) (ci := 11) (v := .ref (q 20)) (C := RX11) (T := TX11) (N := 11) hx hb hts hiX11 hown hK hP 0 (wkK) rfl 3 (by decide) (hts _ (List.mem_cons_of_mem _ wkq_12_18)) (fun _ h9 => h9) rfl (dk_at dkX11_fewest_1 7 rfl) ?_
      refine va_get (D := (dC, dI)) (ci := 2) (v := .ref (q 21)) (C := RX2) (T := TX2) (N := 1) hx hb hts hiX2 hown hK hP 20 (wkHR) rfl 0 (by decide) (hts _ (List.mem_cons_of_mem _ wkq_12_23)) (fun _ h9 => h9) rfl (dk_at dkX11_fewest_1 8 rfl) ?_
      refine lv_iload_n hx hb (dk_at dkX11_fewest_1 9 rfl) rfl (lv_at hl 2 rfl) ?_
      refine x_iald (Wf := WK cB cI cJ cZ cQ q) hx hb hK hP 21 1 (wkHRk) rfl (by omega) (by decide) (dk_at dkX11_fewest_1 10 rfl) (fun z18 hz18 => ?_)
      have rz18 : (-2147483648 : Int) ≤ z18 ∧ z18 ≤ 2147483647 := by rw [hz18]; exact irHRk hI
      have gz18 := Hd.mk hz18
      exact RET z18 _ _ _ _ _ ⟨hk1 _ _ (u_d_X11_fewest_1 ⟨t12, et12, ⟨z13, A14, ghw15, (Or.inl ⟨c17, ⟨z18, gz18.out, ⟨rfl, rfl⟩⟩⟩)⟩⟩), hI, fk.trans (fk.rf) hf16 rfl rfl, rz18⟩ hP hS (dk_at dkX11_fewest_1 11 rfl)
    · have c17 : x1 = (-1) := (i_eq hx1 ⟨by decide, by decide⟩).mp c17
      refine lv_iload_n hx hb (dk_at dkX11_fewest_1 4 rfl) rfl (lv_at hl 0 rfl) ?_
      refine lv_goto (tgt := 50) hx hb (dk_at dkX11_fewest_1 5 rfl) (by decide) ?_
      exact RET z13 _ _ _ _ _ ⟨hk1 _ _ (u_d_X11_fewest_1 ⟨t12, et12, ⟨z13, A14, ghw15, (Or.inr ⟨c17, ⟨rfl, rfl⟩⟩)⟩⟩), hI, fk.trans (fk.rf) hf16 rfl rfl, hw15⟩ hP hS (dk_at dkX11_fewest_1 11 rfl)
  refine lv_icmp_eq (tgt := 20) hx hb (dk_at dkX11_fewest_0 2 rfl) (by decide) (fun c1 => ?_) (fun c1 => ?_)
  · have c1 : x1 = (-1) := (i_eq hx1 ⟨by decide, by decide⟩).mp c1
    exact J20_2 _ _ _ (by omega) (fun zq uq hq => (u_r_X11_fewest (Or.inl ⟨c1, hq⟩))) hP hS (lv_sub hl [0, 1] rfl)
  · have c1 : ¬ x1 = (-1) := mt (i_eq hx1 ⟨by decide, by decide⟩).mpr c1
    refine lv_aload_n hx hb (dk_at dkX11_fewest_0 3 rfl) rfl (lv_at hl 0 rfl) ?_
    have r3 : (0 : Int) ≤ (A 0 9) ∧ (A 0 9) ≤ 1 := irK_9 hI
    obtain ⟨t4, et4⟩ : ∃ t : Nat, t = 51 + 31 * ((A 0 9)).toNat := ⟨_, rfl⟩
    have ht4 : isT t4 := by rw [et4]; exact isT.b r3
    refine va_get (D := (dC, dI)) (ci := 11) (v := .ref (q (51 + 31 * (A 0 9).toNat))) (C := RX11) (T := TX11) (N := 11) hx hb hts hiX11 hown hK hP 0 (wkK) rfl 9 (by decide) (hts _ (List.mem_cons_of_mem _ wkq_10_36)) (fun _ h9 => h9) rfl (dk_at dkX11_fewest_0 4 rfl) ?_
    refine tp_v (y := .ref (q t4)) (by rw [et4]) ?_
    refine lv_bipush (v := iI 6) hx hb (dk_at dkX11_fewest_0 5 rfl) (by decide +kernel) ?_
    refine lv_iload_n hx hb (dk_at dkX11_fewest_0 6 rfl) rfl (lv_at hl 1 rfl) ?_
    refine k_calli (As := [.int (iI 6), .int (iI x1)]) (rest := []) ⟨hx, hb, hml, hown, hts⟩ hE (kc_X9_isThere_1_6 l dC dI cB cI cJ cZ cQ aL aS q _ t4 x1 hI ht4 hx1) (cwV 2 hts (goodVk wkq_10_54 wkq_0_22 wkq_0_23 wkq_0_6 wkq_0_24) rfl rfl rfl (by decide +kernel) ⟨Nat.le_of_ble_eq_true rfl, Nat.le_of_ble_eq_true rfl⟩) hK hDD hA0 hP hS t4 9 (wkT ht4) rfl rfl hl.1 (Nat.le_of_ble_eq_true rfl) (dk_at dkX11_fewest_0 7 rfl) (fun z5 A6 H locs hw7 hP hS => ?_)
    obtain ⟨rfl, hw7⟩ := hw7
    have ghw7 : q_X9_isThere_1_6 t4 x1 A z5 := hw7
    have hw7 := hw7.2
    have rz5 : 0 ≤ z5 ∧ z5 ≤ 1 := hw7.1
    have hw7 := hw7.2
    refine lv_if_ne (tgt := 20) hx hb (dk_at dkX11_fewest_0 8 rfl) (by decide) (fun c8 => ?_) (fun c8 => ?_)
    · have c8 : ¬ z5 = 0 := mt (i_eq0 (rb rz5 (by decide) (by decide))).mpr c8
      have hw7b := hw7 (by omega)
      clear hw7
      exact J20_2 _ _ _ (by omega) (fun zq uq hq => (u_r_X11_fewest (Or.inr ⟨c1, ⟨t4, et4, ⟨z5, ghw7, (Or.inl ⟨c8, hq⟩)⟩⟩⟩))) hP hS (lv_sub hl [0, 1] rfl)
    · have c8 : z5 = 0 := (i_eq0 (rb rz5 (by decide) (by decide))).mp c8
      clear hw7
      refine lv_iconst (v := iI (-1)) hx hb (dk_at dkX11_fewest_0 9 rfl) (by decide +kernel) ?_
      exact RET (-1) _ _ _ _ _ ⟨(u_r_X11_fewest (Or.inr ⟨c1, ⟨t4, et4, ⟨z5, ghw7, (Or.inr ⟨c8, ⟨rfl, rfl⟩⟩)⟩⟩⟩)), hI, fk.rf, ⟨by decide, by decide⟩⟩ hP hS (dk_at dkX11_fewest_0 10 rfl)

abbrev tr_r_X11_order (x1 : Int) (A : St) (z : Int) : Prop := (∃ t2 : Nat, t2 = 51 + 31 * ((A 0 9)).toNat ∧ (∃ z3 : Int, q_X9_isThere_1_6 t2 x1 A z3 ∧ (((z3 = 0) ∧ (z = (-1))) ∨ ((¬ z3 = 0) ∧ (∃ z7 : Int, q_X2_inOrder t2 x1 A z7 ∧ (z = z7))))))
def r_X11_order (x1 : Int) (A : St) (z : Int) : Prop := tr_r_X11_order x1 A z
theorem u_r_X11_order {x1 : Int} {A : St} {z : Int} (h : tr_r_X11_order x1 A z) : r_X11_order x1 A z := h
def ws_kc_X11_order : List Cond := .code yX11_order cX11_order 2 (some .int) :: WY
set_option maxHeartbeats 4000000 in
set_option maxRecDepth 100000 in
theorem kc_X11_order (l : Launch) (dC : Nat → ClassId) (dI : Nat → Nat → Nat) (cB cI cJ cZ cQ : ClassId) (aL aS : Nat) (q : Nat → Nat) (A : St) (x1 : Int) (hI : IK A) (hx1 : (-2147483648 : Int) ≤ x1 ∧ x1 ≤ 2147483647) : KMi l yX11_order ws_kc_X11_order ({ frames := 2, cells := 0, slots := 0, locals := 47 } : Room) aL aS (dC, dI) (tyA cB cI cJ cZ cQ) (WK cB cI cJ cZ cQ q) A [.ref (q 0), .int (iI x1)] (fun z u => A = u ∧ r_X11_order x1 A z ∧ (-2147483648 ≤ z ∧ z ≤ 2147483647)) := by
  refine k_meti (cc := cX11_order) (maxL := 2) WK_adr (plainFor_of_name (by decide +kernel)) rfl (Nat.le_of_ble_eq_true rfl) (fun p e s m below meth c Q AS ls hx hb hml hown hts hK hDD hA0 hE RET H locs hP hS hl => ?_)
  have hown : s.vm.findClass RX11 = some m.cls := hown
  have hl : lv_has ls 2 [(0, .ref (q 0)), (1, .int (iI x1))] := hl
  have hiX11 : ∀ w ∈ u_ws RX11 TX11 11, w ∈ ws_kc_X11_order := fun w h => List.mem_cons_of_mem _ (wy_layX11 w h)
  refine lv_aload_n hx hb (dk_at dkX11_order_0 0 rfl) rfl (lv_at hl 0 rfl) ?_
  have r1 : (0 : Int) ≤ (A 0 9) ∧ (A 0 9) ≤ 1 := irK_9 hI
  obtain ⟨t2, et2⟩ : ∃ t : Nat, t = 51 + 31 * ((A 0 9)).toNat := ⟨_, rfl⟩
  have ht2 : isT t2 := by rw [et2]; exact isT.b r1
  refine va_get (D := (dC, dI)) (ci := 11) (v := .ref (q (51 + 31 * (A 0 9).toNat))) (C := RX11) (T := TX11) (N := 11) hx hb hts hiX11 hown hK hP 0 (wkK) rfl 9 (by decide) (hts _ (List.mem_cons_of_mem _ wkq_10_36)) (fun _ h9 => h9) rfl (dk_at dkX11_order_0 1 rfl) ?_
  refine tp_v (y := .ref (q t2)) (by rw [et2]) ?_
  refine lv_bipush (v := iI 6) hx hb (dk_at dkX11_order_0 2 rfl) (by decide +kernel) ?_
  refine lv_iload_n hx hb (dk_at dkX11_order_0 3 rfl) rfl (lv_at hl 1 rfl) ?_
  refine k_calli (As := [.int (iI 6), .int (iI x1)]) (rest := []) ⟨hx, hb, hml, hown, hts⟩ hE (kc_X9_isThere_1_6 l dC dI cB cI cJ cZ cQ aL aS q _ t2 x1 hI ht2 hx1) (cwV 2 hts (goodVk wkq_10_54 wkq_0_22 wkq_0_23 wkq_0_6 wkq_0_24) rfl rfl rfl (by decide +kernel) ⟨Nat.le_of_ble_eq_true rfl, Nat.le_of_ble_eq_true rfl⟩) hK hDD hA0 hP hS t2 9 (wkT ht2) rfl rfl hl.1 (Nat.le_of_ble_eq_true rfl) (dk_at dkX11_order_0 4 rfl) (fun z3 A4 H locs hw5 hP hS => ?_)
  obtain ⟨rfl, hw5⟩ := hw5
  have ghw5 : q_X9_isThere_1_6 t2 x1 A z3 := hw5
  have hw5 := hw5.2
  have rz3 : 0 ≤ z3 ∧ z3 ≤ 1 := hw5.1
  have hw5 := hw5.2
  refine lv_if_eq (tgt := 28) hx hb (dk_at dkX11_order_0 5 rfl) (by decide) (fun c6 => ?_) (fun c6 => ?_)
  · have c6 : z3 = 0 := (i_eq0 (rb rz3 (by decide) (by decide))).mp c6
    clear hw5
    refine lv_iconst (v := iI (-1)) hx hb (dk_at dkX11_order_0 13 rfl) (by decide +kernel) ?_
    exact RET (-1) _ _ _ _ _ ⟨rfl, (u_r_X11_order ⟨t2, et2, ⟨z3, ghw5, (Or.inl ⟨c6, rfl⟩)⟩⟩), ⟨by decide, by decide⟩⟩ hP hS (dk_at dkX11_order_0 14 rfl)
  · have c6 : ¬ z3 = 0 := mt (i_eq0 (rb rz3 (by decide) (by decide))).mpr c6
    have hw5b := hw5 (by omega)
    clear hw5
    refine lv_aload_n hx hb (dk_at dkX11_order_0 6 rfl) rfl (lv_at hl 0 rfl) ?_
    refine va_get (D := (dC, dI)) (ci := 11) (v := .ref (q 20)) (C := RX11) (T := TX11) (N := 11) hx hb hts hiX11 hown hK hP 0 (wkK) rfl 3 (by decide) (hts _ (List.mem_cons_of_mem _ wkq_12_18)) (fun _ h9 => h9) rfl (dk_at dkX11_order_0 7 rfl) ?_
    refine lv_aload_n hx hb (dk_at dkX11_order_0 8 rfl) rfl (lv_at hl 0 rfl) ?_
    refine va_get (D := (dC, dI)) (ci := 11) (v := .ref (q (51 + 31 * (A 0 9).toNat))) (C := RX11) (T := TX11) (N := 11) hx hb hts hiX11 hown hK hP 0 (wkK) rfl 9 (by decide) (hts _ (List.mem_cons_of_mem _ wkq_10_36)) (fun _ h9 => h9) rfl (dk_at dkX11_order_0 9 rfl) ?_
    refine tp_v (y := .ref (q t2)) (by rw [et2]) ?_
    refine lv_iload_n hx hb (dk_at dkX11_order_0 10 rfl) rfl (lv_at hl 1 rfl) ?_
    refine k_calli (As := [.ref (q t2), .int (iI x1)]) (rest := []) ⟨hx, hb, hml, hown, hts⟩ hE (kc_X2_inOrder l dC dI cB cI cJ cZ cQ aL aS q _ t2 x1 hI ht2 hx1) (cwV 2 hts (goodVk wkq_12_28 wkq_12_29 wkq_12_30 wkq_3_34 wkq_3_50) rfl rfl rfl (by decide +kernel) ⟨Nat.le_of_ble_eq_true rfl, Nat.le_of_ble_eq_true rfl⟩) hK hDD hA0 hP hS 20 2 (wkHR) rfl rfl hl.1 (Nat.le_of_ble_eq_true rfl) (dk_at dkX11_order_0 11 rfl) (fun z7 A8 H locs hw9 hP hS => ?_)
    obtain ⟨rfl, hw9⟩ := hw9
    have ghw9 : q_X2_inOrder t2 x1 A z7 := hw9
    have hw9 := hw9.2
    refine lv_goto (tgt := 29) hx hb (dk_at dkX11_order_0 12 rfl) (by decide) ?_
    exact RET z7 _ _ _ _ _ ⟨rfl, (u_r_X11_order ⟨t2, et2, ⟨z3, ghw5, (Or.inr ⟨c6, ⟨z7, ghw9, rfl⟩⟩)⟩⟩), hw9⟩ hP hS (dk_at dkX11_order_0 14 rfl)

abbrev tr_r_X11_trial (x1 : Int) (x2 : Int) (A : St) (z : Int) (u : St) : Prop := (∃ t2 : Nat, t2 = 51 + 31 * ((A 0 9)).toNat ∧ (∃ z3 : Int, q_X9_isThere_1_1 t2 x1 A z3 ∧ (((z3 = 0) ∧ (∃ z7 : Int, ∃ A8 : St, q_X11_refused 4 A z7 A8 ∧ (z = z7 ∧ u = A8))) ∨ ((¬ z3 = 0) ∧ (∃ z11 : Int, ∃ A12 : St, q_X1_add x1 x2 A z11 A12 ∧ (((¬ z11 = 0) ∧ (∃ A17 : St, q_X1_survey t2 (-1) A12 A17 ∧ (z = (A17 22 5) ∧ u = A17))) ∨ ((z11 = 0) ∧ (∃ z21 : Int, ∃ A22 : St, q_X11_refused 4 A12 z21 A22 ∧ (z = z21 ∧ u = A22)))))))))
def r_X11_trial (x1 : Int) (x2 : Int) (A : St) (z : Int) (u : St) : Prop := tr_r_X11_trial x1 x2 A z u
theorem u_r_X11_trial {x1 : Int} {x2 : Int} {A : St} {z : Int} {u : St} (h : tr_r_X11_trial x1 x2 A z u) : r_X11_trial x1 x2 A z u := h
def ws_kc_X11_trial : List Cond := .code yX11_trial cX11_trial 3 (some .int) :: WY
set_option maxHeartbeats 4000000 in
set_option maxRecDepth 100000 in
theorem kc_X11_trial (l : Launch) (dC : Nat → ClassId) (dI : Nat → Nat → Nat) (cB cI cJ cZ cQ : ClassId) (aL aS : Nat) (q : Nat → Nat) (A : St) (x1 x2 : Int) (hI : IK A) (hx1 : (-2147483648 : Int) ≤ x1 ∧ x1 ≤ 2147483647) (hx2 : (0 : Int) ≤ x2 ∧ x2 ≤ 1) : KMi l yX11_trial ws_kc_X11_trial ({ frames := 4, cells := 0, slots := 0, locals := 93 } : Room) aL aS (dC, dI) (tyA cB cI cJ cZ cQ) (WK cB cI cJ cZ cQ q) A [.ref (q 0), .int (iI x1), .int (iI x2)] (fun z u => r_X11_trial x1 x2 A z u ∧ IK u ∧ fk [23, 24, 25, 26, 50] [(22, 4), (22, 5), (22, 6), (22, 7)] A u ∧ (-2147483648 ≤ z ∧ z ≤ 2147483647)) := by
  refine k_meti (cc := cX11_trial) (maxL := 3) WK_adr (plainFor_of_name (by decide +kernel)) rfl (Nat.le_of_ble_eq_true rfl) (fun p e s m below meth c Q AS ls hx hb hml hown hts hK hDD hA0 hE RET H locs hP hS hl => ?_)
  have hown : s.vm.findClass RX11 = some m.cls := hown
  have hl : lv_has ls 3 [(0, .ref (q 0)), (1, .int (iI x1)), (2, .int (iI x2))] := hl
  have hiX11 : ∀ w ∈ u_ws RX11 TX11 11, w ∈ ws_kc_X11_trial := fun w h => List.mem_cons_of_mem _ (wy_layX11 w h)
  have hiX1 : ∀ w ∈ u_ws RX1 TX1 8, w ∈ ws_kc_X11_trial := fun w h => List.mem_cons_of_mem _ (wy_layX1 w h)
  refine lv_aload_n hx hb (dk_at dkX11_trial_0 0 rfl) rfl (lv_at hl 0 rfl) ?_
  have r1 : (0 : Int) ≤ (A 0 9) ∧ (A 0 9) ≤ 1 := irK_9 hI
  obtain ⟨t2, et2⟩ : ∃ t : Nat, t = 51 + 31 * ((A 0 9)).toNat := ⟨_, rfl⟩
  have ht2 : isT t2 := by rw [et2]; exact isT.b r1
  refine va_get (D := (dC, dI)) (ci := 11) (v := .ref (q (51 + 31 * (A 0 9).toNat))) (C := RX11) (T := TX11) (N := 11) hx hb hts hiX11 hown hK hP 0 (wkK) rfl 9 (by decide) (hts _ (List.mem_cons_of_mem _ wkq_10_36)) (fun _ h9 => h9) rfl (dk_at dkX11_trial_0 1 rfl) ?_
  refine tp_v (y := .ref (q t2)) (by rw [et2]) ?_
  refine lv_iconst (v := iI 1) hx hb (dk_at dkX11_trial_0 2 rfl) (by decide +kernel) ?_
  refine lv_iload_n hx hb (dk_at dkX11_trial_0 3 rfl) rfl (lv_at hl 1 rfl) ?_
  refine k_calli (As := [.int (iI 1), .int (iI x1)]) (rest := []) ⟨hx, hb, hml, hown, hts⟩ hE (kc_X9_isThere_1_1 l dC dI cB cI cJ cZ cQ aL aS q _ t2 x1 hI ht2 hx1) (cwV 2 hts (goodVk wkq_10_54 wkq_0_22 wkq_0_23 wkq_0_6 wkq_0_24) rfl rfl rfl (by decide +kernel) ⟨Nat.le_of_ble_eq_true rfl, Nat.le_of_ble_eq_true rfl⟩) hK hDD hA0 hP hS t2 9 (wkT ht2) rfl rfl hl.1 (Nat.le_of_ble_eq_true rfl) (dk_at dkX11_trial_0 4 rfl) (fun z3 A4 H locs hw5 hP hS => ?_)
  obtain ⟨rfl, hw5⟩ := hw5
  have ghw5 : q_X9_isThere_1_1 t2 x1 A z3 := hw5
  have hw5 := hw5.2
  have rz3 : 0 ≤ z3 ∧ z3 ≤ 1 := hw5.1
  have hw5 := hw5.2
  refine lv_if_eq (tgt := 24) hx hb (dk_at dkX11_trial_0 5 rfl) (by decide) (fun c6 => ?_) (fun c6 => ?_)
  · have c6 : z3 = 0 := (i_eq0 (rb rz3 (by decide) (by decide))).mp c6
    clear hw5
    refine lv_aload_n hx hb (dk_at dkX11_trial_0 12 rfl) rfl (lv_at hl 0 rfl) ?_
    refine lv_iconst (v := iI 4) hx hb (dk_at dkX11_trial_0 13 rfl) (by decide +kernel) ?_
    refine k_calli (As := [.int (iI 4)]) (rest := []) ⟨hx, hb, hml, hown, hts⟩ hE (kc_X11_refused l dC dI cB cI cJ cZ cQ aL aS q _ 4 hI ⟨by decide, by decide⟩) (cwV 1 hts (goodVk wkq_10_23 wkq_10_24 wkq_10_25 wkq_10_26 wkq_10_27) rfl rfl rfl (by decide +kernel) ⟨Nat.le_of_ble_eq_true rfl, Nat.le_of_ble_eq_true rfl⟩) hK hDD hA0 hP hS 0 11 (wkK) rfl rfl hl.1 (Nat.le_of_ble_eq_true rfl) (dk_at dkX11_trial_0 14 rfl) (fun z7 A8 H locs hw9 hP hS => ?_)
    have ghw9 : q_X11_refused 4 A z7 A8 := hw9
    obtain ⟨_, hI, hf10, hw9⟩ := hw9
    exact RET z7 _ _ _ _ _ ⟨(u_r_X11_trial ⟨t2, et2, ⟨z3, ghw5, (Or.inl ⟨c6, ⟨z7, A8, ghw9, ⟨rfl, rfl⟩⟩⟩)⟩⟩), hI, fk.trans (fk.rf) hf10 rfl rfl, (by omega)⟩ hP hS (dk_at dkX11_trial_0 15 rfl)
  · have c6 : ¬ z3 = 0 := mt (i_eq0 (rb rz3 (by decide) (by decide))).mpr c6
    have hw5b := hw5 (by omega)
    clear hw5
    refine lv_aload_n hx hb (dk_at dkX11_trial_0 6 rfl) rfl (lv_at hl 0 rfl) ?_
    refine va_get (D := (dC, dI)) (ci := 11) (v := .ref (q 22)) (C := RX11) (T := TX11) (N := 11) hx hb hts hiX11 hown hK hP 0 (wkK) rfl 4 (by decide) (hts _ (List.mem_cons_of_mem _ wkq_10_37)) (fun _ h9 => h9) rfl (dk_at dkX11_trial_0 7 rfl) ?_
    refine lv_iload_n hx hb (dk_at dkX11_trial_0 8 rfl) rfl (lv_at hl 1 rfl) ?_
    refine lv_iload_n hx hb (dk_at dkX11_trial_0 9 rfl) rfl (lv_at hl 2 rfl) ?_
    refine k_calli (As := [.int (iI x1), .int (iI x2)]) (rest := []) ⟨hx, hb, hml, hown, hts⟩ hE (kc_X1_add l dC dI cB cI cJ cZ cQ aL aS q _ x1 x2 hI hx1 hx2) (cwV 2 hts (goodVk wkq_12_33 wkq_12_34 wkq_12_35 wkq_3_13 wkq_3_1) rfl rfl rfl (by decide +kernel) ⟨Nat.le_of_ble_eq_true rfl, Nat.le_of_ble_eq_true rfl⟩) hK hDD hA0 hP hS 22 1 (wkFD) rfl rfl hl.1 (Nat.le_of_ble_eq_true rfl) (dk_at dkX11_trial_0 10 rfl) (fun z11 A12 H locs hw13 hP hS => ?_)
    have ghw13 : q_X1_add x1 x2 A z11 A12 := hw13
    obtain ⟨_, hI, hf14, hw13⟩ := hw13
    refine lv_if_ne (tgt := 30) hx hb (dk_at dkX11_trial_0 11 rfl) (by decide) (fun c15 => ?_) (fun c15 => ?_)
    · have c15 : ¬ z11 = 0 := mt (i_eq0 (rb hw13 (by decide) (by decide))).mpr c15
      refine lv_aload_n hx hb (dk_at dkX11_trial_1 0 rfl) rfl (lv_at hl 0 rfl) ?_
      refine va_get (D := (dC, dI)) (ci := 11) (v := .ref (q 22)) (C := RX11) (T := TX11) (N := 11) hx hb hts hiX11 hown hK hP 0 (wkK) rfl 4 (by decide) (hts _ (List.mem_cons_of_mem _ wkq_10_37)) (fun _ h9 => h9) rfl (dk_at dkX11_trial_1 1 rfl) ?_
      refine lv_aload_n hx hb (dk_at dkX11_trial_1 2 rfl) rfl (lv_at hl 0 rfl) ?_
      have e16 : A12 0 9 = (A 0 9) := (hf14 0 9 rfl rfl)
      refine va_get (D := (dC, dI)) (ci := 11) (v := .ref (q (51 + 31 * (A12 0 9).toNat))) (C := RX11) (T := TX11) (N := 11) hx hb hts hiX11 hown hK hP 0 (wkK) rfl 9 (by decide) (hts _ (List.mem_cons_of_mem _ wkq_10_36)) (fun _ h9 => h9) rfl (dk_at dkX11_trial_1 3 rfl) ?_
      refine tp_v (y := .ref (q t2)) (by rw [et2, e16]) ?_
      refine lv_iconst (v := iI (-1)) hx hb (dk_at dkX11_trial_1 4 rfl) (by decide +kernel) ?_
      refine k_callv (As := [.ref (q t2), .int (iI (-1))]) (rest := []) ⟨hx, hb, hml, hown, hts⟩ hE (kc_X1_survey l dC dI cB cI cJ cZ cQ aL aS q _ t2 (-1) hI ht2 ⟨by decide, by decide⟩) (cwV 2 hts (goodVk wkq_12_36 wkq_12_37 wkq_12_38 wkq_3_13 wkq_3_5) rfl rfl rfl (by decide +kernel) ⟨Nat.le_of_ble_eq_true rfl, Nat.le_of_ble_eq_true rfl⟩) hK hDD hA0 hP hS 22 1 (wkFD) rfl rfl hl.1 (Nat.le_of_ble_eq_true rfl) (dk_at dkX11_trial_1 5 rfl) (fun A17 H locs hw18 hP hS => ?_)
      have ghw18 : q_X1_survey t2 (-1) A12 A17 := hw18
      obtain ⟨_, hI, hf19, hw18⟩ := hw18
      clear hw18
      refine lv_aload_n hx hb (dk_at dkX11_trial_1 6 rfl) rfl (lv_at hl 0 rfl) ?_
      refine va_get (D := (dC, dI)) (ci := 11) (v := .ref (q 22)) (C := RX11) (T := TX11) (N := 11) hx hb hts hiX11 hown hK hP 0 (wkK) rfl 4 (by decide) (hts _ (List.mem_cons_of_mem _ wkq_10_37)) (fun _ h9 => h9) rfl (dk_at dkX11_trial_1 7 rfl) ?_
      have r20 : (-2147483648 : Int) ≤ (A17 22 5) ∧ (A17 22 5) ≤ 2147483647 := irFD_5 hI
      refine va_get (D := (dC, dI)) (ci := 1) (v := .int (iI (A17 22 5))) (C := RX1) (T := TX1) (N := 8) hx hb hts hiX1 hown hK hP 22 (wkFD) rfl 5 (by decide) (hts _ (List.mem_cons_of_mem _ wkq_12_32)) (fun _ h9 => h9) rfl (dk_at dkX11_trial_1 8 rfl) ?_
      exact RET (A17 22 5) _ _ _ _ _ ⟨(u_r_X11_trial ⟨t2, et2, ⟨z3, ghw5, (Or.inr ⟨c6, ⟨z11, A12, ghw13, (Or.inl ⟨c15, ⟨A17, ghw18, ⟨rfl, rfl⟩⟩⟩)⟩⟩)⟩⟩), hI, fk.trans (fk.trans (fk.rf) hf14 rfl rfl) hf19 rfl rfl, r20⟩ hP hS (dk_at dkX11_trial_1 9 rfl)
    · have c15 : z11 = 0 := (i_eq0 (rb hw13 (by decide) (by decide))).mp c15
      refine lv_aload_n hx hb (dk_at dkX11_trial_0 12 rfl) rfl (lv_at hl 0 rfl) ?_
      refine lv_iconst (v := iI 4) hx hb (dk_at dkX11_trial_0 13 rfl) (by decide +kernel) ?_
      refine k_calli (As := [.int (iI 4)]) (rest := []) ⟨hx, hb, hml, hown, hts⟩ hE (kc_X11_refused l dC dI cB cI cJ cZ cQ aL aS q _ 4 hI ⟨by decide, by decide⟩) (cwV 1 hts (goodVk wkq_10_23 wkq_10_24 wkq_10_25 wkq_10_26 wkq_10_27) rfl rfl rfl (by decide +kernel) ⟨Nat.le_of_ble_eq_true rfl, Nat.le_of_ble_eq_true rfl⟩) hK hDD hA0 hP hS 0 11 (wkK) rfl rfl hl.1 (Nat.le_of_ble_eq_true rfl) (dk_at dkX11_trial_0 14 rfl) (fun z21 A22 H locs hw23 hP hS => ?_)
      have ghw23 : q_X11_refused 4 A12 z21 A22 := hw23
      obtain ⟨_, hI, hf24, hw23⟩ := hw23
      exact RET z21 _ _ _ _ _ ⟨(u_r_X11_trial ⟨t2, et2, ⟨z3, ghw5, (Or.inr ⟨c6, ⟨z11, A12, ghw13, (Or.inr ⟨c15, ⟨z21, A22, ghw23, ⟨rfl, rfl⟩⟩⟩)⟩⟩)⟩⟩), hI, fk.trans (fk.trans (fk.rf) hf14 rfl rfl) hf24 rfl rfl, (by omega)⟩ hP hS (dk_at dkX11_trial_0 15 rfl)

abbrev tr_r_X11_fits (x1 : Int) (A : St) (z : Int) (u : St) : Prop := (∃ t2 : Nat, t2 = 51 + 31 * ((A 0 9)).toNat ∧ (∃ A3 : St, q_X1_survey t2 (-1) A A3 ∧ (((¬ x1 = (-1)) ∧ (((x1 < 0) ∧ (z = (-1) ∧ u = A3)) ∨ ((¬ x1 < 0) ∧ ((((A3 22 6) ≤ x1) ∧ (z = (-1) ∧ u = A3)) ∨ ((¬ (A3 22 6) ≤ x1) ∧ (((3 ≤ x1) ∧ (z = (-1) ∧ u = A3)) ∨ ((¬ 3 ≤ x1) ∧ (∃ z11 : Int, z11 = A3 25 (x1).toNat ∧ (z = z11 ∧ u = A3))))))))) ∨ ((x1 = (-1)) ∧ (z = (A3 22 5) ∧ u = A3)))))
def r_X11_fits (x1 : Int) (A : St) (z : Int) (u : St) : Prop := tr_r_X11_fits x1 A z u
theorem u_r_X11_fits {x1 : Int} {A : St} {z : Int} {u : St} (h : tr_r_X11_fits x1 A z u) : r_X11_fits x1 A z u := h
def ws_kc_X11_fits : List Cond := .code yX11_fits cX11_fits 2 (some .int) :: WY
set_option maxHeartbeats 4000000 in
set_option maxRecDepth 100000 in
theorem kc_X11_fits (l : Launch) (dC : Nat → ClassId) (dI : Nat → Nat → Nat) (cB cI cJ cZ cQ : ClassId) (aL aS : Nat) (q : Nat → Nat) (A : St) (x1 : Int) (hI : IK A) (hx1 : (-2147483648 : Int) ≤ x1 ∧ x1 ≤ 2147483647) : KMi l yX11_fits ws_kc_X11_fits ({ frames := 4, cells := 0, slots := 0, locals := 93 } : Room) aL aS (dC, dI) (tyA cB cI cJ cZ cQ) (WK cB cI cJ cZ cQ q) A [.ref (q 0), .int (iI x1)] (fun z u => r_X11_fits x1 A z u ∧ IK u ∧ fk [25, 26] [(22, 5), (22, 6), (22, 7)] A u ∧ (-2147483648 ≤ z ∧ z ≤ 2147483647)) := by
  refine k_meti (cc := cX11_fits) (maxL := 2) WK_adr (plainFor_of_name (by decide +kernel)) rfl (Nat.le_of_ble_eq_true rfl) (fun p e s m below meth c Q AS ls hx hb hml hown hts hK hDD hA0 hE RET H locs hP hS hl => ?_)
  have hown : s.vm.findClass RX11 = some m.cls := hown
  have hl : lv_has ls 2 [(0, .ref (q 0)), (1, .int (iI x1))] := hl
  have hiX11 : ∀ w ∈ u_ws RX11 TX11 11, w ∈ ws_kc_X11_fits := fun w h => List.mem_cons_of_mem _ (wy_layX11 w h)
  have hiX1 : ∀ w ∈ u_ws RX1 TX1 8, w ∈ ws_kc_X11_fits := fun w h => List.mem_cons_of_mem _ (wy_layX1 w h)
  refine lv_aload_n hx hb (dk_at dkX11_fits_0 0 rfl) rfl (lv_at hl 0 rfl) ?_
  refine va_get (D := (dC, dI)) (ci := 11) (v := .ref (q 22)) (C := RX11) (T := TX11) (N := 11) hx hb hts hiX11 hown hK hP 0 (wkK) rfl 4 (by decide) (hts _ (List.mem_cons_of_mem _ wkq_10_37)) (fun _ h9 => h9) rfl (dk_at dkX11_fits_0 1 rfl) ?_
  refine lv_aload_n hx hb (dk_at dkX11_fits_0 2 rfl) rfl (lv_at hl 0 rfl) ?_
  have r1 : (0 : Int) ≤ (A 0 9) ∧ (A 0 9) ≤ 1 := irK_9 hI
  obtain ⟨t2, et2⟩ : ∃ t : Nat, t = 51 + 31 * ((A 0 9)).toNat := ⟨_, rfl⟩
  have ht2 : isT t2 := by rw [et2]; exact isT.b r1
  refine va_get (D := (dC, dI)) (ci := 11) (v := .ref (q (51 + 31 * (A 0 9).toNat))) (C := RX11) (T := TX11) (N := 11) hx hb hts hiX11 hown hK hP 0 (wkK) rfl 9 (by decide) (hts _ (List.mem_cons_of_mem _ wkq_10_36)) (fun _ h9 => h9) rfl (dk_at dkX11_fits_0 3 rfl) ?_
  refine tp_v (y := .ref (q t2)) (by rw [et2]) ?_
  refine lv_iconst (v := iI (-1)) hx hb (dk_at dkX11_fits_0 4 rfl) (by decide +kernel) ?_
  refine k_callv (As := [.ref (q t2), .int (iI (-1))]) (rest := []) ⟨hx, hb, hml, hown, hts⟩ hE (kc_X1_survey l dC dI cB cI cJ cZ cQ aL aS q _ t2 (-1) hI ht2 ⟨by decide, by decide⟩) (cwV 2 hts (goodVk wkq_12_36 wkq_12_37 wkq_12_38 wkq_3_13 wkq_3_5) rfl rfl rfl (by decide +kernel) ⟨Nat.le_of_ble_eq_true rfl, Nat.le_of_ble_eq_true rfl⟩) hK hDD hA0 hP hS 22 1 (wkFD) rfl rfl hl.1 (Nat.le_of_ble_eq_true rfl) (dk_at dkX11_fits_0 5 rfl) (fun A3 H locs hw4 hP hS => ?_)
  have ghw4 : q_X1_survey t2 (-1) A A3 := hw4
  obtain ⟨_, hI, hf5, hw4⟩ := hw4
  clear hw4
  refine lv_iload_n hx hb (dk_at dkX11_fits_0 6 rfl) rfl (lv_at hl 1 rfl) ?_
  refine lv_iconst (v := iI (-1)) hx hb (dk_at dkX11_fits_0 7 rfl) (by decide +kernel) ?_
  refine lv_icmp_ne (tgt := 25) hx hb (dk_at dkX11_fits_0 8 rfl) (by decide) (fun c6 => ?_) (fun c6 => ?_)
  · have c6 : ¬ x1 = (-1) := mt (i_eq hx1 ⟨by decide, by decide⟩).mpr c6
    refine lv_iload_n hx hb (dk_at dkX11_fits_0 13 rfl) rfl (lv_at hl 1 rfl) ?_
    refine lv_if_lt (tgt := 57) hx hb (dk_at dkX11_fits_0 14 rfl) (by decide) (fun c7 => ?_) (fun c7 => ?_)
    · have c7 : x1 < 0 := (i_lt0 hx1).mp c7
      refine lv_iconst (v := iI (-1)) hx hb (dk_at dkX11_fits_1 13 rfl) (by decide +kernel) ?_
      exact RET (-1) _ _ _ _ _ ⟨(u_r_X11_fits ⟨t2, et2, ⟨A3, ghw4, (Or.inl ⟨c6, (Or.inl ⟨c7, ⟨rfl, rfl⟩⟩)⟩)⟩⟩), hI, fk.trans (fk.rf) hf5 rfl rfl, ⟨by decide, by decide⟩⟩ hP hS (dk_at dkX11_fits_1 14 rfl)
    · have c7 : ¬ x1 < 0 := mt (i_lt0 hx1).mpr c7
      refine lv_iload_n hx hb (dk_at dkX11_fits_0 15 rfl) rfl (lv_at hl 1 rfl) ?_
      refine lv_aload_n hx hb (dk_at dkX11_fits_1 0 rfl) rfl (lv_at hl 0 rfl) ?_
      refine va_get (D := (dC, dI)) (ci := 11) (v := .ref (q 22)) (C := RX11) (T := TX11) (N := 11) hx hb hts hiX11 hown hK hP 0 (wkK) rfl 4 (by decide) (hts _ (List.mem_cons_of_mem _ wkq_10_37)) (fun _ h9 => h9) rfl (dk_at dkX11_fits_1 1 rfl) ?_
      have r8 : (-2147483648 : Int) ≤ (A3 22 6) ∧ (A3 22 6) ≤ 2147483647 := irFD_6 hI
      refine va_get (D := (dC, dI)) (ci := 1) (v := .int (iI (A3 22 6))) (C := RX1) (T := TX1) (N := 8) hx hb hts hiX1 hown hK hP 22 (wkFD) rfl 6 (by decide) (hts _ (List.mem_cons_of_mem _ wkq_12_40)) (fun _ h9 => h9) rfl (dk_at dkX11_fits_1 2 rfl) ?_
      refine lv_icmp_ge (tgt := 57) hx hb (dk_at dkX11_fits_1 3 rfl) (by decide) (fun c9 => ?_) (fun c9 => ?_)
      · have c9 : (A3 22 6) ≤ x1 := (i_le r8 hx1).mp c9
        refine lv_iconst (v := iI (-1)) hx hb (dk_at dkX11_fits_1 13 rfl) (by decide +kernel) ?_
        exact RET (-1) _ _ _ _ _ ⟨(u_r_X11_fits ⟨t2, et2, ⟨A3, ghw4, (Or.inl ⟨c6, (Or.inr ⟨c7, (Or.inl ⟨c9, ⟨rfl, rfl⟩⟩)⟩)⟩)⟩⟩), hI, fk.trans (fk.rf) hf5 rfl rfl, ⟨by decide, by decide⟩⟩ hP hS (dk_at dkX11_fits_1 14 rfl)
      · have c9 : ¬ (A3 22 6) ≤ x1 := mt (i_le r8 hx1).mpr c9
        refine lv_iload_n hx hb (dk_at dkX11_fits_1 4 rfl) rfl (lv_at hl 1 rfl) ?_
        refine lv_iconst (v := iI 3) hx hb (dk_at dkX11_fits_1 5 rfl) (by decide +kernel) ?_
        refine lv_icmp_ge (tgt := 57) hx hb (dk_at dkX11_fits_1 6 rfl) (by decide) (fun c10 => ?_) (fun c10 => ?_)
        · have c10 : 3 ≤ x1 := (i_le ⟨by decide, by decide⟩ hx1).mp c10
          refine lv_iconst (v := iI (-1)) hx hb (dk_at dkX11_fits_1 13 rfl) (by decide +kernel) ?_
          exact RET (-1) _ _ _ _ _ ⟨(u_r_X11_fits ⟨t2, et2, ⟨A3, ghw4, (Or.inl ⟨c6, (Or.inr ⟨c7, (Or.inr ⟨c9, (Or.inl ⟨c10, ⟨rfl, rfl⟩⟩)⟩)⟩)⟩)⟩⟩), hI, fk.trans (fk.rf) hf5 rfl rfl, ⟨by decide, by decide⟩⟩ hP hS (dk_at dkX11_fits_1 14 rfl)
        · have c10 : ¬ 3 ≤ x1 := mt (i_le ⟨by decide, by decide⟩ hx1).mpr c10
          refine lv_aload_n hx hb (dk_at dkX11_fits_1 7 rfl) rfl (lv_at hl 0 rfl) ?_
          refine va_get (D := (dC, dI)) (ci := 11) (v := .ref (q 22)) (C := RX11) (T := TX11) (N := 11) hx hb hts hiX11 hown hK hP 0 (wkK) rfl 4 (by decide) (hts _ (List.mem_cons_of_mem _ wkq_10_37)) (fun _ h9 => h9) rfl (dk_at dkX11_fits_1 8 rfl) ?_
          refine va_get (D := (dC, dI)) (ci := 1) (v := .ref (q 25)) (C := RX1) (T := TX1) (N := 8) hx hb hts hiX1 hown hK hP 22 (wkFD) rfl 2 (by decide) (hts _ (List.mem_cons_of_mem _ wkq_12_41)) (fun _ h9 => h9) rfl (dk_at dkX11_fits_1 9 rfl) ?_
          refine lv_iload_n hx hb (dk_at dkX11_fits_1 10 rfl) rfl (lv_at hl 1 rfl) ?_
          refine x_iald (Wf := WK cB cI cJ cZ cQ q) hx hb hK hP 25 1 (wkFDf) rfl (by omega) (by decide) (dk_at dkX11_fits_1 11 rfl) (fun z11 hz11 => ?_)
          have rz11 : (-2147483648 : Int) ≤ z11 ∧ z11 ≤ 2147483647 := by rw [hz11]; exact irFDf hI
          have gz11 := Hd.mk hz11
          refine lv_goto (tgt := 58) hx hb (dk_at dkX11_fits_1 12 rfl) (by decide) ?_
          exact RET z11 _ _ _ _ _ ⟨(u_r_X11_fits ⟨t2, et2, ⟨A3, ghw4, (Or.inl ⟨c6, (Or.inr ⟨c7, (Or.inr ⟨c9, (Or.inr ⟨c10, ⟨z11, gz11.out, ⟨rfl, rfl⟩⟩⟩)⟩)⟩)⟩)⟩⟩), hI, fk.trans (fk.rf) hf5 rfl rfl, rz11⟩ hP hS (dk_at dkX11_fits_1 14 rfl)
  · have c6 : x1 = (-1) := (i_eq hx1 ⟨by decide, by decide⟩).mp c6
    refine lv_aload_n hx hb (dk_at dkX11_fits_0 9 rfl) rfl (lv_at hl 0 rfl) ?_
    refine va_get (D := (dC, dI)) (ci := 11) (v := .ref (q 22)) (C := RX11) (T := TX11) (N := 11) hx hb hts hiX11 hown hK hP 0 (wkK) rfl 4 (by decide) (hts _ (List.mem_cons_of_mem _ wkq_10_37)) (fun _ h9 => h9) rfl (dk_at dkX11_fits_0 10 rfl) ?_
    have r12 : (-2147483648 : Int) ≤ (A3 22 5) ∧ (A3 22 5) ≤ 2147483647 := irFD_5 hI
    refine va_get (D := (dC, dI)) (ci := 1) (v := .int (iI (A3 22 5))) (C := RX1) (T := TX1) (N := 8) hx hb hts hiX1 hown hK hP 22 (wkFD) rfl 5 (by decide) (hts _ (List.mem_cons_of_mem _ wkq_12_32)) (fun _ h9 => h9) rfl (dk_at dkX11_fits_0 11 rfl) ?_
    exact RET (A3 22 5) _ _ _ _ _ ⟨(u_r_X11_fits ⟨t2, et2, ⟨A3, ghw4, (Or.inr ⟨c6, ⟨rfl, rfl⟩⟩)⟩⟩), hI, fk.trans (fk.rf) hf5 rfl rfl, r12⟩ hP hS (dk_at dkX11_fits_0 12 rfl)

abbrev tr_r_X11_would (x1 : Int) (A : St) (z : Int) (u : St) : Prop := (∃ t2 : Nat, t2 = 51 + 31 * ((A 0 9)).toNat ∧ (∃ z3 : Int, q_X9_isThere_1_1 t2 x1 A z3 ∧ (((¬ z3 = 0) ∧ (∃ A7 : St, q_X1_survey t2 x1 A A7 ∧ (z = (A7 22 7) ∧ u = A7))) ∨ ((z3 = 0) ∧ (z = (-1) ∧ u = A)))))
def r_X11_would (x1 : Int) (A : St) (z : Int) (u : St) : Prop := tr_r_X11_would x1 A z u
theorem u_r_X11_would {x1 : Int} {A : St} {z : Int} {u : St} (h : tr_r_X11_would x1 A z u) : r_X11_would x1 A z u := h
def ws_kc_X11_would : List Cond := .code yX11_would cX11_would 2 (some .int) :: WY
set_option maxHeartbeats 4000000 in
set_option maxRecDepth 100000 in
theorem kc_X11_would (l : Launch) (dC : Nat → ClassId) (dI : Nat → Nat → Nat) (cB cI cJ cZ cQ : ClassId) (aL aS : Nat) (q : Nat → Nat) (A : St) (x1 : Int) (hI : IK A) (hx1 : (-2147483648 : Int) ≤ x1 ∧ x1 ≤ 2147483647) : KMi l yX11_would ws_kc_X11_would ({ frames := 4, cells := 0, slots := 0, locals := 93 } : Room) aL aS (dC, dI) (tyA cB cI cJ cZ cQ) (WK cB cI cJ cZ cQ q) A [.ref (q 0), .int (iI x1)] (fun z u => r_X11_would x1 A z u ∧ IK u ∧ fk [25, 26] [(22, 5), (22, 6), (22, 7)] A u ∧ (-2147483648 ≤ z ∧ z ≤ 2147483647)) := by
  refine k_meti (cc := cX11_would) (maxL := 2) WK_adr (plainFor_of_name (by decide +kernel)) rfl (Nat.le_of_ble_eq_true rfl) (fun p e s m below meth c Q AS ls hx hb hml hown hts hK hDD hA0 hE RET H locs hP hS hl => ?_)
  have hown : s.vm.findClass RX11 = some m.cls := hown
  have hl : lv_has ls 2 [(0, .ref (q 0)), (1, .int (iI x1))] := hl
  have hiX11 : ∀ w ∈ u_ws RX11 TX11 11, w ∈ ws_kc_X11_would := fun w h => List.mem_cons_of_mem _ (wy_layX11 w h)
  have hiX1 : ∀ w ∈ u_ws RX1 TX1 8, w ∈ ws_kc_X11_would := fun w h => List.mem_cons_of_mem _ (wy_layX1 w h)
  refine lv_aload_n hx hb (dk_at dkX11_would_0 0 rfl) rfl (lv_at hl 0 rfl) ?_
  have r1 : (0 : Int) ≤ (A 0 9) ∧ (A 0 9) ≤ 1 := irK_9 hI
  obtain ⟨t2, et2⟩ : ∃ t : Nat, t = 51 + 31 * ((A 0 9)).toNat := ⟨_, rfl⟩
  have ht2 : isT t2 := by rw [et2]; exact isT.b r1
  refine va_get (D := (dC, dI)) (ci := 11) (v := .ref (q (51 + 31 * (A 0 9).toNat))) (C := RX11) (T := TX11) (N := 11) hx hb hts hiX11 hown hK hP 0 (wkK) rfl 9 (by decide) (hts _ (List.mem_cons_of_mem _ wkq_10_36)) (fun _ h9 => h9) rfl (dk_at dkX11_would_0 1 rfl) ?_
  refine tp_v (y := .ref (q t2)) (by rw [et2]) ?_
  refine lv_iconst (v := iI 1) hx hb (dk_at dkX11_would_0 2 rfl) (by decide +kernel) ?_
  refine lv_iload_n hx hb (dk_at dkX11_would_0 3 rfl) rfl (lv_at hl 1 rfl) ?_
  refine k_calli (As := [.int (iI 1), .int (iI x1)]) (rest := []) ⟨hx, hb, hml, hown, hts⟩ hE (kc_X9_isThere_1_1 l dC dI cB cI cJ cZ cQ aL aS q _ t2 x1 hI ht2 hx1) (cwV 2 hts (goodVk wkq_10_54 wkq_0_22 wkq_0_23 wkq_0_6 wkq_0_24) rfl rfl rfl (by decide +kernel) ⟨Nat.le_of_ble_eq_true rfl, Nat.le_of_ble_eq_true rfl⟩) hK hDD hA0 hP hS t2 9 (wkT ht2) rfl rfl hl.1 (Nat.le_of_ble_eq_true rfl) (dk_at dkX11_would_0 4 rfl) (fun z3 A4 H locs hw5 hP hS => ?_)
  obtain ⟨rfl, hw5⟩ := hw5
  have ghw5 : q_X9_isThere_1_1 t2 x1 A z3 := hw5
  have hw5 := hw5.2
  have rz3 : 0 ≤ z3 ∧ z3 ≤ 1 := hw5.1
  have hw5 := hw5.2
  refine lv_if_ne (tgt := 14) hx hb (dk_at dkX11_would_0 5 rfl) (by decide) (fun c6 => ?_) (fun c6 => ?_)
  · have c6 : ¬ z3 = 0 := mt (i_eq0 (rb rz3 (by decide) (by decide))).mpr c6
    have hw5b := hw5 (by omega)
    clear hw5
    refine lv_aload_n hx hb (dk_at dkX11_would_0 8 rfl) rfl (lv_at hl 0 rfl) ?_
    refine va_get (D := (dC, dI)) (ci := 11) (v := .ref (q 22)) (C := RX11) (T := TX11) (N := 11) hx hb hts hiX11 hown hK hP 0 (wkK) rfl 4 (by decide) (hts _ (List.mem_cons_of_mem _ wkq_10_37)) (fun _ h9 => h9) rfl (dk_at dkX11_would_0 9 rfl) ?_
    refine lv_aload_n hx hb (dk_at dkX11_would_0 10 rfl) rfl (lv_at hl 0 rfl) ?_
    refine va_get (D := (dC, dI)) (ci := 11) (v := .ref (q (51 + 31 * (A 0 9).toNat))) (C := RX11) (T := TX11) (N := 11) hx hb hts hiX11 hown hK hP 0 (wkK) rfl 9 (by decide) (hts _ (List.mem_cons_of_mem _ wkq_10_36)) (fun _ h9 => h9) rfl (dk_at dkX11_would_0 11 rfl) ?_
    refine tp_v (y := .ref (q t2)) (by rw [et2]) ?_
    refine lv_iload_n hx hb (dk_at dkX11_would_0 12 rfl) rfl (lv_at hl 1 rfl) ?_
    refine k_callv (As := [.ref (q t2), .int (iI x1)]) (rest := []) ⟨hx, hb, hml, hown, hts⟩ hE (kc_X1_survey l dC dI cB cI cJ cZ cQ aL aS q _ t2 x1 hI ht2 hx1) (cwV 2 hts (goodVk wkq_12_36 wkq_12_37 wkq_12_38 wkq_3_13 wkq_3_5) rfl rfl rfl (by decide +kernel) ⟨Nat.le_of_ble_eq_true rfl, Nat.le_of_ble_eq_true rfl⟩) hK hDD hA0 hP hS 22 1 (wkFD) rfl rfl hl.1 (Nat.le_of_ble_eq_true rfl) (dk_at dkX11_would_0 13 rfl) (fun A7 H locs hw8 hP hS => ?_)
    have ghw8 : q_X1_survey t2 x1 A A7 := hw8
    obtain ⟨_, hI, hf9, hw8⟩ := hw8
    clear hw8
    refine lv_aload_n hx hb (dk_at dkX11_would_0 14 rfl) rfl (lv_at hl 0 rfl) ?_
    refine va_get (D := (dC, dI)) (ci := 11) (v := .ref (q 22)) (C := RX11) (T := TX11) (N := 11) hx hb hts hiX11 hown hK hP 0 (wkK) rfl 4 (by decide) (hts _ (List.mem_cons_of_mem _ wkq_10_37)) (fun _ h9 => h9) rfl (dk_at dkX11_would_0 15 rfl) ?_
    have r10 : (-2147483648 : Int) ≤ (A7 22 7) ∧ (A7 22 7) ≤ 2147483647 := irFD_7 hI
    refine va_get (D := (dC, dI)) (ci := 1) (v := .int (iI (A7 22 7))) (C := RX1) (T := TX1) (N := 8) hx hb hts hiX1 hown hK hP 22 (wkFD) rfl 7 (by decide) (hts _ (List.mem_cons_of_mem _ wkq_12_43)) (fun _ h9 => h9) rfl (dk_at dkX11_would_1 0 rfl) ?_
    exact RET (A7 22 7) _ _ _ _ _ ⟨(u_r_X11_would ⟨t2, et2, ⟨z3, ghw5, (Or.inl ⟨c6, ⟨A7, ghw8, ⟨rfl, rfl⟩⟩⟩)⟩⟩), hI, fk.trans (fk.rf) hf9 rfl rfl, r10⟩ hP hS (dk_at dkX11_would_1 1 rfl)
  · have c6 : z3 = 0 := (i_eq0 (rb rz3 (by decide) (by decide))).mp c6
    clear hw5
    refine lv_iconst (v := iI (-1)) hx hb (dk_at dkX11_would_0 6 rfl) (by decide +kernel) ?_
    exact RET (-1) _ _ _ _ _ ⟨(u_r_X11_would ⟨t2, et2, ⟨z3, ghw5, (Or.inr ⟨c6, ⟨rfl, rfl⟩⟩)⟩⟩), hI, fk.rf, ⟨by decide, by decide⟩⟩ hP hS (dk_at dkX11_would_0 7 rfl)

abbrev tr_r_X11_unsay (A : St) (z : Int) (u : St) : Prop := (((¬ (A 22 4) = 0) ∧ (∃ A3 : St, A3 = stA A 22 4 ((A 22 4) - 1) ∧ (z = (A 22 4) - 1 ∧ u = A3))) ∨ (((A 22 4) = 0) ∧ (∃ z5 : Int, ∃ A6 : St, q_X11_refused 4 A z5 A6 ∧ (z = z5 ∧ u = A6))))
def r_X11_unsay (A : St) (z : Int) (u : St) : Prop := tr_r_X11_unsay A z u
theorem u_r_X11_unsay {A : St} {z : Int} {u : St} (h : tr_r_X11_unsay A z u) : r_X11_unsay A z u := h
def ws_kc_X11_unsay : List Cond := .code yX11_unsay cX11_unsay 1 (some .int) :: WY
set_option maxHeartbeats 4000000 in
set_option maxRecDepth 100000 in
theorem kc_X11_unsay (l : Launch) (dC : Nat → ClassId) (dI : Nat → Nat → Nat) (cB cI cJ cZ cQ : ClassId) (aL aS : Nat) (q : Nat → Nat) (A : St) (hI : IK A) : KMi l yX11_unsay ws_kc_X11_unsay ({ frames := 1, cells := 0, slots := 0, locals := 21 } : Room) aL aS (dC, dI) (tyA cB cI cJ cZ cQ) (WK cB cI cJ cZ cQ q) A [.ref (q 0)] (fun z u => r_X11_unsay A z u ∧ IK u ∧ fk [50] [(22, 4)] A u ∧ (-2147483648 ≤ z ∧ z ≤ 2147483647)) := by
  refine k_meti (cc := cX11_unsay) (maxL := 1) WK_adr (plainFor_of_name (by decide +kernel)) rfl (Nat.le_of_ble_eq_true rfl) (fun p e s m below meth c Q AS ls hx hb hml hown hts hK hDD hA0 hE RET H locs hP hS hl => ?_)
  have hown : s.vm.findClass RX11 = some m.cls := hown
  have hl : lv_has ls 1 [(0, .ref (q 0))] := hl
  have hiX11 : ∀ w ∈ u_ws RX11 TX11 11, w ∈ ws_kc_X11_unsay := fun w h => List.mem_cons_of_mem _ (wy_layX11 w h)
  have hiX1 : ∀ w ∈ u_ws RX1 TX1 8, w ∈ ws_kc_X11_unsay := fun w h => List.mem_cons_of_mem _ (wy_layX1 w h)
  refine lv_aload_n hx hb (dk_at dkX11_unsay_0 0 rfl) rfl (lv_at hl 0 rfl) ?_
  refine va_get (D := (dC, dI)) (ci := 11) (v := .ref (q 22)) (C := RX11) (T := TX11) (N := 11) hx hb hts hiX11 hown hK hP 0 (wkK) rfl 4 (by decide) (hts _ (List.mem_cons_of_mem _ wkq_10_37)) (fun _ h9 => h9) rfl (dk_at dkX11_unsay_0 1 rfl) ?_
  have r1 : (0 : Int) ≤ (A 22 4) ∧ (A 22 4) ≤ 20 := irFD_4 hI
  refine va_get (D := (dC, dI)) (ci := 1) (v := .int (iI (A 22 4))) (C := RX1) (T := TX1) (N := 8) hx hb hts hiX1 hown hK hP 22 (wkFD) rfl 4 (by decide) (hts _ (List.mem_cons_of_mem _ wkq_10_38)) (fun _ h9 => h9) rfl (dk_at dkX11_unsay_0 2 rfl) ?_
  refine lv_if_ne (tgt := 16) hx hb (dk_at dkX11_unsay_0 3 rfl) (by decide) (fun c2 => ?_) (fun c2 => ?_)
  · have c2 : ¬ (A 22 4) = 0 := mt (i_eq0 (rb r1 (by decide) (by decide))).mpr c2
    refine lv_aload_n hx hb (dk_at dkX11_unsay_0 8 rfl) rfl (lv_at hl 0 rfl) ?_
    refine va_get (D := (dC, dI)) (ci := 11) (v := .ref (q 22)) (C := RX11) (T := TX11) (N := 11) hx hb hts hiX11 hown hK hP 0 (wkK) rfl 4 (by decide) (hts _ (List.mem_cons_of_mem _ wkq_10_37)) (fun _ h9 => h9) rfl (dk_at dkX11_unsay_0 9 rfl) ?_
    refine lv_dup hx hb (dk_at dkX11_unsay_0 10 rfl) rfl ?_
    refine va_get (D := (dC, dI)) (ci := 1) (v := .int (iI (A 22 4))) (C := RX1) (T := TX1) (N := 8) hx hb hts hiX1 hown hK hP 22 (wkFD) rfl 4 (by decide) (hts _ (List.mem_cons_of_mem _ wkq_10_38)) (fun _ h9 => h9) rfl (dk_at dkX11_unsay_0 11 rfl) ?_
    refine lv_iconst (v := iI 1) hx hb (dk_at dkX11_unsay_0 12 rfl) (by decide +kernel) ?_
    refine x_subv (v := (A 22 4) - 1) hx hb (dk_at dkX11_unsay_0 13 rfl) (by omega) ?_
    refine k_put (Wf := WK cB cI cJ cZ cQ q) (D := (dC, dI)) (ci := 1) (v := .int (iI ((A 22 4) - 1))) (ty := .int) (C := RX1) (T := TX1) (N := 8) hx hb hts hiX1 tyX1 tyX1_ok nmX1 hown hK hP hDD hS 22 (wkFD) rfl 4 (by decide) (hts _ (List.mem_cons_of_mem _ wkq_10_38)) (fun _ h9 => h9) rfl (by decide +kernel) rfl rfl (Nat.le_of_ble_eq_true rfl) (dk_at dkX11_unsay_0 14 rfl) (wfFD_4 (v := (A 22 4) - 1)) (fun H locs A3 hA3 hP hS => ?_)
    have hI := isFD_4 hA3 hI (show (0 : Int) ≤ (A 22 4) - 1 ∧ (A 22 4) - 1 ≤ 20 from (by omega))
    refine lv_aload_n hx hb (dk_at dkX11_unsay_0 15 rfl) rfl (lv_at hl 0 rfl) ?_
    refine va_get (D := (dC, dI)) (ci := 11) (v := .ref (q 22)) (C := RX11) (T := TX11) (N := 11) hx hb hts hiX11 hown hK hP 0 (wkK) rfl 4 (by decide) (hts _ (List.mem_cons_of_mem _ wkq_10_37)) (fun _ h9 => h9) rfl (dk_at dkX11_unsay_1 0 rfl) ?_
    have e4 : A3 22 4 = (A 22 4) - 1 := rd_is hA3
    refine va_get (D := (dC, dI)) (ci := 1) (v := .int (iI (A3 22 4))) (C := RX1) (T := TX1) (N := 8) hx hb hts hiX1 hown hK hP 22 (wkFD) rfl 4 (by decide) (hts _ (List.mem_cons_of_mem _ wkq_10_38)) (fun _ h9 => h9) rfl (dk_at dkX11_unsay_1 1 rfl) ?_
    refine tp_i (y := iI ((A 22 4) - 1)) (congrArg iI e4) ?_
    exact RET ((A 22 4) - 1) _ _ _ _ _ ⟨(u_r_X11_unsay (Or.inl ⟨c2, ⟨A3, hA3, ⟨rfl, rfl⟩⟩⟩)), hI, fk.df (fk.rf) hA3 rfl, (by omega)⟩ hP hS (dk_at dkX11_unsay_1 2 rfl)
  · have c2 : (A 22 4) = 0 := (i_eq0 (rb r1 (by decide) (by decide))).mp c2
    refine lv_aload_n hx hb (dk_at dkX11_unsay_0 4 rfl) rfl (lv_at hl 0 rfl) ?_
    refine lv_iconst (v := iI 4) hx hb (dk_at dkX11_unsay_0 5 rfl) (by decide +kernel) ?_
    refine k_calli (As := [.int (iI 4)]) (rest := []) ⟨hx, hb, hml, hown, hts⟩ hE (kc_X11_refused l dC dI cB cI cJ cZ cQ aL aS q _ 4 hI ⟨by decide, by decide⟩) (cwV 1 hts (goodVk wkq_10_23 wkq_10_24 wkq_10_25 wkq_10_26 wkq_10_27) rfl rfl rfl (by decide +kernel) ⟨Nat.le_of_ble_eq_true rfl, Nat.le_of_ble_eq_true rfl⟩) hK hDD hA0 hP hS 0 11 (wkK) rfl rfl hl.1 (Nat.le_of_ble_eq_true rfl) (dk_at dkX11_unsay_0 6 rfl) (fun z5 A6 H locs hw7 hP hS => ?_)
    have ghw7 : q_X11_refused 4 A z5 A6 := hw7
    obtain ⟨_, hI, hf8, hw7⟩ := hw7
    exact RET z5 _ _ _ _ _ ⟨(u_r_X11_unsay (Or.inr ⟨c2, ⟨z5, A6, ghw7, ⟨rfl, rfl⟩⟩⟩)), hI, fk.trans (fk.rf) hf8 rfl rfl, (by omega)⟩ hP hS (dk_at dkX11_unsay_0 7 rfl)

abbrev tr_r_X11_round (x1 : Int) (x2 : Int) (A : St) (z : Int) (u : St) : Prop := (∃ t2 : Nat, t2 = 51 + 31 * ((A 0 9)).toNat ∧ (∃ z3 : Int, q_X9_isThere_1_3 t2 x1 A z3 ∧ (((¬ z3 = 0) ∧ (∃ z7 : Int, z7 = A ((t2 + 22) + 1) (x1).toNat ∧ (∃ z8 : Int, ∃ A9 : St, q_X10_minutesOf t2 z7 x2 A z8 A9 ∧ (z = z8 ∧ u = A9)))) ∨ ((z3 = 0) ∧ (z = (-1) ∧ u = A)))))
def r_X11_round (x1 : Int) (x2 : Int) (A : St) (z : Int) (u : St) : Prop := tr_r_X11_round x1 x2 A z u
theorem u_r_X11_round {x1 : Int} {x2 : Int} {A : St} {z : Int} {u : St} (h : tr_r_X11_round x1 x2 A z u) : r_X11_round x1 x2 A z u := h
def ws_kc_X11_round : List Cond := .code yX11_round cX11_round 3 (some .int) :: WY
set_option maxHeartbeats 4000000 in
set_option maxRecDepth 100000 in
theorem kc_X11_round (l : Launch) (dC : Nat → ClassId) (dI : Nat → Nat → Nat) (cB cI cJ cZ cQ : ClassId) (aL aS : Nat) (q : Nat → Nat) (A : St) (x1 x2 : Int) (hI : IK A) (hx1 : (-2147483648 : Int) ≤ x1 ∧ x1 ≤ 2147483647) (hx2 : (-2147483648 : Int) ≤ x2 ∧ x2 ≤ 2147483647) : KMi l yX11_round ws_kc_X11_round ({ frames := 5, cells := 0, slots := 0, locals := 120 } : Room) aL aS (dC, dI) (tyA cB cI cJ cZ cQ) (WK cB cI cJ cZ cQ q) A [.ref (q 0), .int (iI x1), .int (iI x2)] (fun z u => r_X11_round x1 x2 A z u ∧ IK u ∧ fk [28, 29] [] A u ∧ (-2147483648 ≤ z ∧ z ≤ 2147483647)) := by
  refine k_meti (cc := cX11_round) (maxL := 3) WK_adr (plainFor_of_name (by decide +kernel)) rfl (Nat.le_of_ble_eq_true rfl) (fun p e s m below meth c Q AS ls hx hb hml hown hts hK hDD hA0 hE RET H locs hP hS hl => ?_)
  have hown : s.vm.findClass RX11 = some m.cls := hown
  have hl : lv_has ls 3 [(0, .ref (q 0)), (1, .int (iI x1)), (2, .int (iI x2))] := hl
  have hiX11 : ∀ w ∈ u_ws RX11 TX11 11, w ∈ ws_kc_X11_round := fun w h => List.mem_cons_of_mem _ (wy_layX11 w h)
  have hiX9 : ∀ w ∈ u_ws RX9 TX9 16, w ∈ ws_kc_X11_round := fun w h => List.mem_cons_of_mem _ (wy_layX9 w h)
  have hiX6 : ∀ w ∈ u_ws RX6 TX6 4, w ∈ ws_kc_X11_round := fun w h => List.mem_cons_of_mem _ (wy_layX6 w h)
  refine lv_aload_n hx hb (dk_at dkX11_round_0 0 rfl) rfl (lv_at hl 0 rfl) ?_
  have r1 : (0 : Int) ≤ (A 0 9) ∧ (A 0 9) ≤ 1 := irK_9 hI
  obtain ⟨t2, et2⟩ : ∃ t : Nat, t = 51 + 31 * ((A 0 9)).toNat := ⟨_, rfl⟩
  have ht2 : isT t2 := by rw [et2]; exact isT.b r1
  refine va_get (D := (dC, dI)) (ci := 11) (v := .ref (q (51 + 31 * (A 0 9).toNat))) (C := RX11) (T := TX11) (N := 11) hx hb hts hiX11 hown hK hP 0 (wkK) rfl 9 (by decide) (hts _ (List.mem_cons_of_mem _ wkq_10_36)) (fun _ h9 => h9) rfl (dk_at dkX11_round_0 1 rfl) ?_
  refine tp_v (y := .ref (q t2)) (by rw [et2]) ?_
  refine lv_iconst (v := iI 3) hx hb (dk_at dkX11_round_0 2 rfl) (by decide +kernel) ?_
  refine lv_iload_n hx hb (dk_at dkX11_round_0 3 rfl) rfl (lv_at hl 1 rfl) ?_
  refine k_calli (As := [.int (iI 3), .int (iI x1)]) (rest := []) ⟨hx, hb, hml, hown, hts⟩ hE (kc_X9_isThere_1_3 l dC dI cB cI cJ cZ cQ aL aS q _ t2 x1 hI ht2 hx1) (cwV 2 hts (goodVk wkq_10_54 wkq_0_22 wkq_0_23 wkq_0_6 wkq_0_24) rfl rfl rfl (by decide +kernel) ⟨Nat.le_of_ble_eq_true rfl, Nat.le_of_ble_eq_true rfl⟩) hK hDD hA0 hP hS t2 9 (wkT ht2) rfl rfl hl.1 (Nat.le_of_ble_eq_true rfl) (dk_at dkX11_round_0 4 rfl) (fun z3 A4 H locs hw5 hP hS => ?_)
  obtain ⟨rfl, hw5⟩ := hw5
  have ghw5 : q_X9_isThere_1_3 t2 x1 A z3 := hw5
  have hw5 := hw5.2
  have rz3 : 0 ≤ z3 ∧ z3 ≤ 1 := hw5.1
  have hw5 := hw5.2
  refine lv_if_ne (tgt := 14) hx hb (dk_at dkX11_round_0 5 rfl) (by decide) (fun c6 => ?_) (fun c6 => ?_)
  · have c6 : ¬ z3 = 0 := mt (i_eq0 (rb rz3 (by decide) (by decide))).mpr c6
    have hw5b := hw5 (by omega)
    clear hw5
    refine lv_aload_n hx hb (dk_at dkX11_round_0 8 rfl) rfl (lv_at hl 0 rfl) ?_
    refine va_get (D := (dC, dI)) (ci := 11) (v := .ref (q 27)) (C := RX11) (T := TX11) (N := 11) hx hb hts hiX11 hown hK hP 0 (wkK) rfl 5 (by decide) (hts _ (List.mem_cons_of_mem _ wkq_12_46)) (fun _ h9 => h9) rfl (dk_at dkX11_round_0 9 rfl) ?_
    refine lv_aload_n hx hb (dk_at dkX11_round_0 10 rfl) rfl (lv_at hl 0 rfl) ?_
    refine va_get (D := (dC, dI)) (ci := 11) (v := .ref (q (51 + 31 * (A 0 9).toNat))) (C := RX11) (T := TX11) (N := 11) hx hb hts hiX11 hown hK hP 0 (wkK) rfl 9 (by decide) (hts _ (List.mem_cons_of_mem _ wkq_10_36)) (fun _ h9 => h9) rfl (dk_at dkX11_round_0 11 rfl) ?_
    refine tp_v (y := .ref (q t2)) (by rw [et2]) ?_
    refine lv_aload_n hx hb (dk_at dkX11_round_0 12 rfl) rfl (lv_at hl 0 rfl) ?_
    refine va_get (D := (dC, dI)) (ci := 11) (v := .ref (q (51 + 31 * (A 0 9).toNat))) (C := RX11) (T := TX11) (N := 11) hx hb hts hiX11 hown hK hP 0 (wkK) rfl 9 (by decide) (hts _ (List.mem_cons_of_mem _ wkq_10_36)) (fun _ h9 => h9) rfl (dk_at dkX11_round_0 13 rfl) ?_
    refine tp_v (y := .ref (q t2)) (by rw [et2]) ?_
    refine va_get (D := (dC, dI)) (ci := 9) (v := .ref (q (t2 + 22))) (C := RX9) (T := TX9) (N := 16) hx hb hts hiX9 hown hK hP t2 (wkT ht2) rfl 14 (by decide) (hts _ (List.mem_cons_of_mem _ wkq_11_5)) (fun _ h9 => h9) rfl (dk_at dkX11_round_0 14 rfl) ?_
    refine va_get (D := (dC, dI)) (ci := 6) (v := .ref (q ((t2 + 22) + 1))) (C := RX6) (T := TX6) (N := 4) hx hb hts hiX6 hown hK hP (t2 + 22) (wkS ht2.s) rfl 0 (by decide) (hts _ (List.mem_cons_of_mem _ wkq_11_12)) (fun _ h9 => h9) rfl (dk_at dkX11_round_0 15 rfl) ?_
    refine lv_iload_n hx hb (dk_at dkX11_round_1 0 rfl) rfl (lv_at hl 1 rfl) ?_
    refine x_iald (Wf := WK cB cI cJ cZ cQ q) hx hb hK hP ((t2 + 22) + 1) 1 (wkSs ht2.s) rfl (by omega) (by decide) (dk_at dkX11_round_1 1 rfl) (fun z7 hz7 => ?_)
    have rz7 : (-2147483648 : Int) ≤ z7 ∧ z7 ≤ 2147483647 := by rw [hz7]; exact irSs ht2.s hI
    have gz7 := Hd.mk hz7
    refine lv_iload_n hx hb (dk_at dkX11_round_1 2 rfl) rfl (lv_at hl 2 rfl) ?_
    refine k_calli (As := [.ref (q t2), .int (iI z7), .int (iI x2)]) (rest := []) ⟨hx, hb, hml, hown, hts⟩ hE (kc_X10_minutesOf l dC dI cB cI cJ cZ cQ aL aS q _ t2 z7 x2 hI ht2 rz7 hx2) (cwV 3 hts (goodVk wkq_12_47 wkq_12_48 wkq_12_49 wkq_9_51 wkq_9_44) rfl rfl rfl (by decide +kernel) ⟨Nat.le_of_ble_eq_true rfl, Nat.le_of_ble_eq_true rfl⟩) hK hDD hA0 hP hS 27 10 (wkWT) rfl rfl hl.1 (Nat.le_of_ble_eq_true rfl) (dk_at dkX11_round_1 3 rfl) (fun z8 A9 H locs hw10 hP hS => ?_)
    have ghw10 : q_X10_minutesOf t2 z7 x2 A z8 A9 := hw10
    obtain ⟨_, hI, hf11, hw10⟩ := hw10
    exact RET z8 _ _ _ _ _ ⟨(u_r_X11_round ⟨t2, et2, ⟨z3, ghw5, (Or.inl ⟨c6, ⟨z7, gz7.out, ⟨z8, A9, ghw10, ⟨rfl, rfl⟩⟩⟩⟩)⟩⟩), hI, fk.trans (fk.rf) hf11 rfl rfl, hw10⟩ hP hS (dk_at dkX11_round_1 4 rfl)
  · have c6 : z3 = 0 := (i_eq0 (rb rz3 (by decide) (by decide))).mp c6
    clear hw5
    refine lv_iconst (v := iI (-1)) hx hb (dk_at dkX11_round_0 6 rfl) (by decide +kernel) ?_
    exact RET (-1) _ _ _ _ _ ⟨(u_r_X11_round ⟨t2, et2, ⟨z3, ghw5, (Or.inr ⟨c6, ⟨rfl, rfl⟩⟩)⟩⟩), hI, fk.rf, ⟨by decide, by decide⟩⟩ hP hS (dk_at dkX11_round_0 7 rfl)

abbrev tr_r_X11_image (A : St) (z : Int) (u : St) : Prop := (∃ t2 : Nat, t2 = 51 + 31 * ((A 0 9)).toNat ∧ (∃ z3 : Int, ∃ A4 : St, q_X4_write t2 A z3 A4 ∧ (z = z3 ∧ u = A4)))
def r_X11_image (A : St) (z : Int) (u : St) : Prop := tr_r_X11_image A z u
theorem u_r_X11_image {A : St} {z : Int} {u : St} (h : tr_r_X11_image A z u) : r_X11_image A z u := h
def ws_kc_X11_image : List Cond := .code yX11_image cX11_image 1 (some .int) :: WY
set_option maxHeartbeats 4000000 in
set_option maxRecDepth 100000 in
theorem kc_X11_image (l : Launch) (dC : Nat → ClassId) (dI : Nat → Nat → Nat) (cB cI cJ cZ cQ : ClassId) (aL aS : Nat) (q : Nat → Nat) (A : St) (hI : IK A) : KMi l yX11_image ws_kc_X11_image ({ frames := 2, cells := 0, slots := 0, locals := 45 } : Room) aL aS (dC, dI) (tyA cB cI cJ cZ cQ) (WK cB cI cJ cZ cQ q) A [.ref (q 0)] (fun z u => r_X11_image A z u ∧ IK u ∧ fk [31] [(30, 2)] A u ∧ (-2147483648 ≤ z ∧ z ≤ 2147483647)) := by
  refine k_meti (cc := cX11_image) (maxL := 1) WK_adr (plainFor_of_name (by decide +kernel)) rfl (Nat.le_of_ble_eq_true rfl) (fun p e s m below meth c Q AS ls hx hb hml hown hts hK hDD hA0 hE RET H locs hP hS hl => ?_)
  have hown : s.vm.findClass RX11 = some m.cls := hown
  have hl : lv_has ls 1 [(0, .ref (q 0))] := hl
  have hiX11 : ∀ w ∈ u_ws RX11 TX11 11, w ∈ ws_kc_X11_image := fun w h => List.mem_cons_of_mem _ (wy_layX11 w h)
  refine lv_aload_n hx hb (dk_at dkX11_image_0 0 rfl) rfl (lv_at hl 0 rfl) ?_
  refine va_get (D := (dC, dI)) (ci := 11) (v := .ref (q 30)) (C := RX11) (T := TX11) (N := 11) hx hb hts hiX11 hown hK hP 0 (wkK) rfl 6 (by decide) (hts _ (List.mem_cons_of_mem _ wkq_12_51)) (fun _ h9 => h9) rfl (dk_at dkX11_image_0 1 rfl) ?_
  refine lv_aload_n hx hb (dk_at dkX11_image_0 2 rfl) rfl (lv_at hl 0 rfl) ?_
  have r1 : (0 : Int) ≤ (A 0 9) ∧ (A 0 9) ≤ 1 := irK_9 hI
  obtain ⟨t2, et2⟩ : ∃ t : Nat, t = 51 + 31 * ((A 0 9)).toNat := ⟨_, rfl⟩
  have ht2 : isT t2 := by rw [et2]; exact isT.b r1
  refine va_get (D := (dC, dI)) (ci := 11) (v := .ref (q (51 + 31 * (A 0 9).toNat))) (C := RX11) (T := TX11) (N := 11) hx hb hts hiX11 hown hK hP 0 (wkK) rfl 9 (by decide) (hts _ (List.mem_cons_of_mem _ wkq_10_36)) (fun _ h9 => h9) rfl (dk_at dkX11_image_0 3 rfl) ?_
  refine tp_v (y := .ref (q t2)) (by rw [et2]) ?_
  refine k_calli (As := [.ref (q t2)]) (rest := []) ⟨hx, hb, hml, hown, hts⟩ hE (kc_X4_write l dC dI cB cI cJ cZ cQ aL aS q _ t2 hI ht2) (cwV 1 hts (goodVk wkq_12_52 wkq_12_53 wkq_12_54 wkq_4_23 wkq_4_12) rfl rfl rfl (by decide +kernel) ⟨Nat.le_of_ble_eq_true rfl, Nat.le_of_ble_eq_true rfl⟩) hK hDD hA0 hP hS 30 4 (wkPC) rfl rfl hl.1 (Nat.le_of_ble_eq_true rfl) (dk_at dkX11_image_0 4 rfl) (fun z3 A4 H locs hw5 hP hS => ?_)
  have ghw5 : q_X4_write t2 A z3 A4 := hw5
  obtain ⟨_, hI, hf6, hw5⟩ := hw5
  exact RET z3 _ _ _ _ _ ⟨(u_r_X11_image ⟨t2, et2, ⟨z3, A4, ghw5, ⟨rfl, rfl⟩⟩⟩), hI, fk.trans (fk.rf) hf6 rfl rfl, hw5⟩ hP hS (dk_at dkX11_image_0 5 rfl)

abbrev tr_r_X11_octet (x1 : Int) (A : St) (z : Int) : Prop := (((x1 < 0) ∧ (z = (-1))) ∨ ((¬ x1 < 0) ∧ ((((A 30 2) ≤ x1) ∧ (z = (-1))) ∨ ((¬ (A 30 2) ≤ x1) ∧ (∃ z5 : Int, z5 = A 31 (x1).toNat ∧ (z = z5))))))
def r_X11_octet (x1 : Int) (A : St) (z : Int) : Prop := tr_r_X11_octet x1 A z
theorem u_r_X11_octet {x1 : Int} {A : St} {z : Int} (h : tr_r_X11_octet x1 A z) : r_X11_octet x1 A z := h
def ws_kc_X11_octet : List Cond := .code yX11_octet cX11_octet 2 (some .int) :: WY
set_option maxHeartbeats 4000000 in
set_option maxRecDepth 100000 in
theorem kc_X11_octet (l : Launch) (dC : Nat → ClassId) (dI : Nat → Nat → Nat) (cB cI cJ cZ cQ : ClassId) (aL aS : Nat) (q : Nat → Nat) (A : St) (x1 : Int) (hI : IK A) (hx1 : (-2147483648 : Int) ≤ x1 ∧ x1 ≤ 2147483647) : KMi l yX11_octet ws_kc_X11_octet ({ frames := 0, cells := 0, slots := 0, locals := 0 } : Room) aL aS (dC, dI) (tyA cB cI cJ cZ cQ) (WK cB cI cJ cZ cQ q) A [.ref (q 0), .int (iI x1)] (fun z u => A = u ∧ r_X11_octet x1 A z ∧ (-2147483648 ≤ z ∧ z ≤ 2147483647)) := by
  refine k_meti (cc := cX11_octet) (maxL := 2) WK_adr (plainFor_of_name (by decide +kernel)) rfl (Nat.le_of_ble_eq_true rfl) (fun p e s m below meth c Q AS ls hx hb hml hown hts hK hDD hA0 hE RET H locs hP hS hl => ?_)
  have hown : s.vm.findClass RX11 = some m.cls := hown
  have hl : lv_has ls 2 [(0, .ref (q 0)), (1, .int (iI x1))] := hl
  have hiX11 : ∀ w ∈ u_ws RX11 TX11 11, w ∈ ws_kc_X11_octet := fun w h => List.mem_cons_of_mem _ (wy_layX11 w h)
  have hiX4 : ∀ w ∈ u_ws RX4 TX4 3, w ∈ ws_kc_X11_octet := fun w h => List.mem_cons_of_mem _ (wy_layX4 w h)
  refine lv_iload_n hx hb (dk_at dkX11_octet_0 0 rfl) rfl (lv_at hl 1 rfl) ?_
  refine lv_if_lt (tgt := 33) hx hb (dk_at dkX11_octet_0 1 rfl) (by decide) (fun c1 => ?_) (fun c1 => ?_)
  · have c1 : x1 < 0 := (i_lt0 hx1).mp c1
    refine lv_iconst (v := iI (-1)) hx hb (dk_at dkX11_octet_1 0 rfl) (by decide +kernel) ?_
    exact RET (-1) _ _ _ _ _ ⟨rfl, (u_r_X11_octet (Or.inl ⟨c1, rfl⟩)), ⟨by decide, by decide⟩⟩ hP hS (dk_at dkX11_octet_1 1 rfl)
  · have c1 : ¬ x1 < 0 := mt (i_lt0 hx1).mpr c1
    refine lv_iload_n hx hb (dk_at dkX11_octet_0 2 rfl) rfl (lv_at hl 1 rfl) ?_
    refine lv_aload_n hx hb (dk_at dkX11_octet_0 3 rfl) rfl (lv_at hl 0 rfl) ?_
    refine va_get (D := (dC, dI)) (ci := 11) (v := .ref (q 30)) (C := RX11) (T := TX11) (N := 11) hx hb hts hiX11 hown hK hP 0 (wkK) rfl 6 (by decide) (hts _ (List.mem_cons_of_mem _ wkq_12_51)) (fun _ h9 => h9) rfl (dk_at dkX11_octet_0 4 rfl) ?_
    have r2 : (0 : Int) ≤ (A 30 2) ∧ (A 30 2) ≤ 36 := irPC_2 hI
    refine va_get (D := (dC, dI)) (ci := 4) (v := .int (iI (A 30 2))) (C := RX4) (T := TX4) (N := 3) hx hb hts hiX4 hown hK hP 30 (wkPC) rfl 2 (by decide) (hts _ (List.mem_cons_of_mem _ wkq_12_56)) (fun _ h9 => h9) rfl (dk_at dkX11_octet_0 5 rfl) ?_
    refine lv_icmp_ge (tgt := 33) hx hb (dk_at dkX11_octet_0 6 rfl) (by decide) (fun c3 => ?_) (fun c3 => ?_)
    · have c3 : (A 30 2) ≤ x1 := (i_le (rb r2 (by decide) (by decide)) hx1).mp c3
      refine lv_iconst (v := iI (-1)) hx hb (dk_at dkX11_octet_1 0 rfl) (by decide +kernel) ?_
      exact RET (-1) _ _ _ _ _ ⟨rfl, (u_r_X11_octet (Or.inr ⟨c1, (Or.inl ⟨c3, rfl⟩)⟩)), ⟨by decide, by decide⟩⟩ hP hS (dk_at dkX11_octet_1 1 rfl)
    · have c3 : ¬ (A 30 2) ≤ x1 := mt (i_le (rb r2 (by decide) (by decide)) hx1).mpr c3
      refine lv_iload_n hx hb (dk_at dkX11_octet_0 7 rfl) rfl (lv_at hl 1 rfl) ?_
      refine lv_bipush (v := iI 36) hx hb (dk_at dkX11_octet_0 8 rfl) (by decide +kernel) ?_
      refine lv_icmp_ge (tgt := 33) hx hb (dk_at dkX11_octet_0 9 rfl) (by decide) (fun c4 => False.elim (by have c4 : 36 ≤ x1 := (i_le ⟨by decide, by decide⟩ hx1).mp c4; omega)) (fun _ => ?_)
      refine lv_aload_n hx hb (dk_at dkX11_octet_0 10 rfl) rfl (lv_at hl 0 rfl) ?_
      refine va_get (D := (dC, dI)) (ci := 11) (v := .ref (q 30)) (C := RX11) (T := TX11) (N := 11) hx hb hts hiX11 hown hK hP 0 (wkK) rfl 6 (by decide) (hts _ (List.mem_cons_of_mem _ wkq_12_51)) (fun _ h9 => h9) rfl (dk_at dkX11_octet_0 11 rfl) ?_
      refine va_get (D := (dC, dI)) (ci := 4) (v := .ref (q 31)) (C := RX4) (T := TX4) (N := 3) hx hb hts hiX4 hown hK hP 30 (wkPC) rfl 0 (by decide) (hts _ (List.mem_cons_of_mem _ wkq_12_57)) (fun _ h9 => h9) rfl (dk_at dkX11_octet_0 12 rfl) ?_
      refine lv_iload_n hx hb (dk_at dkX11_octet_0 13 rfl) rfl (lv_at hl 1 rfl) ?_
      refine x_iald (Wf := WK cB cI cJ cZ cQ q) hx hb hK hP 31 1 (wkPCb) rfl (by omega) (by decide) (dk_at dkX11_octet_0 14 rfl) (fun z5 hz5 => ?_)
      have rz5 : (-2147483648 : Int) ≤ z5 ∧ z5 ≤ 2147483647 := by rw [hz5]; exact irPCb hI
      have gz5 := Hd.mk hz5
      refine lv_goto (tgt := 34) hx hb (dk_at dkX11_octet_0 15 rfl) (by decide) ?_
      exact RET z5 _ _ _ _ _ ⟨rfl, (u_r_X11_octet (Or.inr ⟨c1, (Or.inr ⟨c3, ⟨z5, gz5.out, rfl⟩⟩)⟩)), rz5⟩ hP hS (dk_at dkX11_octet_1 1 rfl)

abbrev tr_r_X11_on (A : St) (z : Int) (u : St) : Prop := (∃ t2 : Nat, t2 = 51 + 31 * ((A 0 9)).toNat ∧ (∃ z3 : Int, ∃ A4 : St, q_X4_accept t2 A z3 A4 ∧ (∃ A7 : St, A7 = stA A4 1 1 0 ∧ (((¬ z3 = 0) ∧ (z = z3 ∧ u = A7)) ∨ ((z3 = 0) ∧ (∃ z10 : Int, ∃ A11 : St, q_X11_refused 5 A7 z10 A11 ∧ (z = z3 ∧ u = A11)))))))
def r_X11_on (A : St) (z : Int) (u : St) : Prop := tr_r_X11_on A z u
theorem u_r_X11_on {A : St} {z : Int} {u : St} (h : tr_r_X11_on A z u) : r_X11_on A z u := h
def ws_kc_X11_on : List Cond := .code yX11_on cX11_on 2 (some .boolean) :: WY
set_option maxHeartbeats 4000000 in
set_option maxRecDepth 100000 in
theorem kc_X11_on (l : Launch) (dC : Nat → ClassId) (dI : Nat → Nat → Nat) (cB cI cJ cZ cQ : ClassId) (aL aS : Nat) (q : Nat → Nat) (A : St) (hI : IK A) : KMi l yX11_on ws_kc_X11_on ({ frames := 5, cells := 0, slots := 0, locals := 121 } : Room) aL aS (dC, dI) (tyA cB cI cJ cZ cQ) (WK cB cI cJ cZ cQ q) A [.ref (q 0)] (fun z u => r_X11_on A z u ∧ IK u ∧ fk [33, 34, 35, 37, 38, 39, 40, 42, 43, 44, 46, 47, 48, 49, 50, 74, 75, 76, 78, 79, 80, 81, 105, 106, 107, 109, 110, 111, 112] [(1, 1)] A u ∧ ((0 ≤ z ∧ z ≤ 1) ∧ (u 1 1 = 0))) := by
  refine k_metz (cc := cX11_on) (maxL := 2) WK_adr (plainFor_of_name (by decide +kernel)) rfl (Nat.le_of_ble_eq_true rfl) (fun z u h => h.2.2.2.1) (fun p e s m below meth c Q AS ls hx hb hml hown hts hK hDD hA0 hE RET H locs hP hS hl => ?_)
  have hown : s.vm.findClass RX11 = some m.cls := hown
  have hl : lv_has ls 2 [(0, .ref (q 0))] := hl
  have hiX11 : ∀ w ∈ u_ws RX11 TX11 11, w ∈ ws_kc_X11_on := fun w h => List.mem_cons_of_mem _ (wy_layX11 w h)
  have hiX7 : ∀ w ∈ u_ws RX7 TX7 2, w ∈ ws_kc_X11_on := fun w h => List.mem_cons_of_mem _ (wy_layX7 w h)
  refine lv_aload_n hx hb (dk_at dkX11_on_0 0 rfl) rfl (lv_at hl 0 rfl) ?_
  refine va_get (D := (dC, dI)) (ci := 11) (v := .ref (q 30)) (C := RX11) (T := TX11) (N := 11) hx hb hts hiX11 hown hK hP 0 (wkK) rfl 6 (by decide) (hts _ (List.mem_cons_of_mem _ wkq_12_51)) (fun _ h9 => h9) rfl (dk_at dkX11_on_0 1 rfl) ?_
  refine lv_aload_n hx hb (dk_at dkX11_on_0 2 rfl) rfl (lv_at hl 0 rfl) ?_
  have r1 : (0 : Int) ≤ (A 0 9) ∧ (A 0 9) ≤ 1 := irK_9 hI
  obtain ⟨t2, et2⟩ : ∃ t : Nat, t = 51 + 31 * ((A 0 9)).toNat := ⟨_, rfl⟩
  have ht2 : isT t2 := by rw [et2]; exact isT.b r1
  refine va_get (D := (dC, dI)) (ci := 11) (v := .ref (q (51 + 31 * (A 0 9).toNat))) (C := RX11) (T := TX11) (N := 11) hx hb hts hiX11 hown hK hP 0 (wkK) rfl 9 (by decide) (hts _ (List.mem_cons_of_mem _ wkq_10_36)) (fun _ h9 => h9) rfl (dk_at dkX11_on_0 3 rfl) ?_
  refine tp_v (y := .ref (q t2)) (by rw [et2]) ?_
  refine lv_aload_n hx hb (dk_at dkX11_on_0 4 rfl) rfl (lv_at hl 0 rfl) ?_
  refine va_get (D := (dC, dI)) (ci := 11) (v := .ref (q 1)) (C := RX11) (T := TX11) (N := 11) hx hb hts hiX11 hown hK hP 0 (wkK) rfl 0 (by decide) (hts _ (List.mem_cons_of_mem _ wkq_10_18)) (fun _ h9 => h9) rfl (dk_at dkX11_on_0 5 rfl) ?_
  refine k_calli (As := [.ref (q t2), .ref (q 1)]) (rest := []) ⟨hx, hb, hml, hown, hts⟩ hE (kc_X4_accept l dC dI cB cI cJ cZ cQ aL aS q _ t2 hI ht2) (cwV 2 hts (goodVk wkq_12_59 wkq_13_0 wkq_13_1 wkq_4_23 wkq_4_29) rfl rfl rfl (by decide +kernel) ⟨Nat.le_of_ble_eq_true rfl, Nat.le_of_ble_eq_true rfl⟩) hK hDD hA0 hP hS 30 4 (wkPC) rfl rfl hl.1 (Nat.le_of_ble_eq_true rfl) (dk_at dkX11_on_0 6 rfl) (fun z3 A4 H locs hw5 hP hS => ?_)
  have ghw5 : q_X4_accept t2 A z3 A4 := hw5
  obtain ⟨_, hI, hf6, hw5⟩ := hw5
  refine lv_istore_n (lv' := [(1, .int (iI z3)), (0, .ref (q 0))]) hx hb (dk_at dkX11_on_0 7 rfl) rfl hl (by decide) rfl (fun ls hl => ?_)
  refine lv_aload_n hx hb (dk_at dkX11_on_0 8 rfl) rfl (lv_at hl 1 rfl) ?_
  refine va_get (D := (dC, dI)) (ci := 11) (v := .ref (q 1)) (C := RX11) (T := TX11) (N := 11) hx hb hts hiX11 hown hK hP 0 (wkK) rfl 0 (by decide) (hts _ (List.mem_cons_of_mem _ wkq_10_18)) (fun _ h9 => h9) rfl (dk_at dkX11_on_0 9 rfl) ?_
  refine lv_iconst (v := iI 0) hx hb (dk_at dkX11_on_0 10 rfl) (by decide +kernel) ?_
  refine k_put (Wf := WK cB cI cJ cZ cQ q) (D := (dC, dI)) (ci := 7) (v := .int (iI 0)) (ty := .int) (C := RX7) (T := TX7) (N := 2) hx hb hts hiX7 tyX7 tyX7_ok nmX7 hown hK hP hDD hS 1 (wkTP) rfl 1 (by decide) (hts _ (List.mem_cons_of_mem _ wkq_10_19)) (fun _ h9 => h9) rfl (by decide +kernel) rfl rfl (Nat.le_of_ble_eq_true rfl) (dk_at dkX11_on_0 11 rfl) (wfTP_1 (v := 0)) (fun H locs A7 hA7 hP hS => ?_)
  have hI := isTP_1 hA7 hI (show (0 : Int) ≤ 0 ∧ 0 ≤ 1600 from ⟨by decide, by decide⟩)
  refine lv_iload_n hx hb (dk_at dkX11_on_0 12 rfl) rfl (lv_at hl 0 rfl) ?_
  refine lv_if_ne (tgt := 34) hx hb (dk_at dkX11_on_0 13 rfl) (by decide) (fun c8 => ?_) (fun c8 => ?_)
  · have c8 : ¬ z3 = 0 := mt (i_eq0 (rb hw5 (by decide) (by decide))).mpr c8
    refine lv_iload_n hx hb (dk_at dkX11_on_1 2 rfl) rfl (lv_at hl 0 rfl) ?_
    have e9 : A7 1 1 = 0 := rd_is hA7
    exact RET z3 _ _ _ _ _ ⟨(u_r_X11_on ⟨t2, et2, ⟨z3, A4, ghw5, ⟨A7, hA7, (Or.inl ⟨c8, ⟨rfl, rfl⟩⟩)⟩⟩⟩), hI, fk.df (fk.trans (fk.rf) hf6 rfl rfl) hA7 rfl, by omega⟩ hP hS (dk_at dkX11_on_1 3 rfl)
  · have c8 : z3 = 0 := (i_eq0 (rb hw5 (by decide) (by decide))).mp c8
    refine lv_aload_n hx hb (dk_at dkX11_on_0 14 rfl) rfl (lv_at hl 1 rfl) ?_
    refine lv_iconst (v := iI 5) hx hb (dk_at dkX11_on_0 15 rfl) (by decide +kernel) ?_
    refine k_calli (As := [.int (iI 5)]) (rest := []) ⟨hx, hb, hml, hown, hts⟩ hE (kc_X11_refused l dC dI cB cI cJ cZ cQ aL aS q _ 5 hI ⟨by decide, by decide⟩) (cwV 1 hts (goodVk wkq_10_23 wkq_10_24 wkq_10_25 wkq_10_26 wkq_10_27) rfl rfl rfl (by decide +kernel) ⟨Nat.le_of_ble_eq_true rfl, Nat.le_of_ble_eq_true rfl⟩) hK hDD hA0 hP hS 0 11 (wkK) rfl rfl hl.1 (Nat.le_of_ble_eq_true rfl) (dk_at dkX11_on_1 0 rfl) (fun z10 A11 H locs hw12 hP hS => ?_)
    have ghw12 : q_X11_refused 5 A7 z10 A11 := hw12
    obtain ⟨_, hI, hf13, hw12⟩ := hw12
    refine lv_pop hx hb (dk_at dkX11_on_1 1 rfl) rfl ?_
    refine lv_iload_n hx hb (dk_at dkX11_on_1 2 rfl) rfl (lv_at hl 0 rfl) ?_
    have e15 : A7 1 1 = 0 := rd_is hA7
    have e14 : A11 1 1 = 0 := (hf13 1 1 rfl rfl).trans e15
    exact RET z3 _ _ _ _ _ ⟨(u_r_X11_on ⟨t2, et2, ⟨z3, A4, ghw5, ⟨A7, hA7, (Or.inr ⟨c8, ⟨z10, A11, ghw12, ⟨rfl, rfl⟩⟩⟩)⟩⟩⟩), hI, fk.trans (fk.df (fk.trans (fk.rf) hf6 rfl rfl) hA7 rfl) hf13 rfl rfl, by omega⟩ hP hS (dk_at dkX11_on_1 3 rfl)

abbrev tr_r_X11_status (x1 : Int) (A : St) (z : Int) : Prop := (((x1 < 0) ∧ (z = (-1))) ∨ ((¬ x1 < 0) ∧ (((6 ≤ x1) ∧ (z = (-1))) ∨ ((¬ 6 ≤ x1) ∧ (∃ z3 : Int, z3 = A 50 (x1).toNat ∧ (z = z3))))))
def r_X11_status (x1 : Int) (A : St) (z : Int) : Prop := tr_r_X11_status x1 A z
theorem u_r_X11_status {x1 : Int} {A : St} {z : Int} (h : tr_r_X11_status x1 A z) : r_X11_status x1 A z := h
def ws_kc_X11_status : List Cond := .code yX11_status cX11_status 2 (some .int) :: WY
set_option maxHeartbeats 4000000 in
set_option maxRecDepth 100000 in
theorem kc_X11_status (l : Launch) (dC : Nat → ClassId) (dI : Nat → Nat → Nat) (cB cI cJ cZ cQ : ClassId) (aL aS : Nat) (q : Nat → Nat) (A : St) (x1 : Int) (hI : IK A) (hx1 : (-2147483648 : Int) ≤ x1 ∧ x1 ≤ 2147483647) : KMi l yX11_status ws_kc_X11_status ({ frames := 0, cells := 0, slots := 0, locals := 0 } : Room) aL aS (dC, dI) (tyA cB cI cJ cZ cQ) (WK cB cI cJ cZ cQ q) A [.ref (q 0), .int (iI x1)] (fun z u => A = u ∧ r_X11_status x1 A z ∧ (-2147483648 ≤ z ∧ z ≤ 2147483647)) := by
  refine k_meti (cc := cX11_status) (maxL := 2) WK_adr (plainFor_of_name (by decide +kernel)) rfl (Nat.le_of_ble_eq_true rfl) (fun p e s m below meth c Q AS ls hx hb hml hown hts hK hDD hA0 hE RET H locs hP hS hl => ?_)
  have hown : s.vm.findClass RX11 = some m.cls := hown
  have hl : lv_has ls 2 [(0, .ref (q 0)), (1, .int (iI x1))] := hl
  have hiX11 : ∀ w ∈ u_ws RX11 TX11 11, w ∈ ws_kc_X11_status := fun w h => List.mem_cons_of_mem _ (wy_layX11 w h)
  refine lv_iload_n hx hb (dk_at dkX11_status_0 0 rfl) rfl (lv_at hl 1 rfl) ?_
  refine lv_if_lt (tgt := 19) hx hb (dk_at dkX11_status_0 1 rfl) (by decide) (fun c1 => ?_) (fun c1 => ?_)
  · have c1 : x1 < 0 := (i_lt0 hx1).mp c1
    refine lv_iconst (v := iI (-1)) hx hb (dk_at dkX11_status_0 10 rfl) (by decide +kernel) ?_
    exact RET (-1) _ _ _ _ _ ⟨rfl, (u_r_X11_status (Or.inl ⟨c1, rfl⟩)), ⟨by decide, by decide⟩⟩ hP hS (dk_at dkX11_status_0 11 rfl)
  · have c1 : ¬ x1 < 0 := mt (i_lt0 hx1).mpr c1
    refine lv_iload_n hx hb (dk_at dkX11_status_0 2 rfl) rfl (lv_at hl 1 rfl) ?_
    refine lv_bipush (v := iI 6) hx hb (dk_at dkX11_status_0 3 rfl) (by decide +kernel) ?_
    refine lv_icmp_ge (tgt := 19) hx hb (dk_at dkX11_status_0 4 rfl) (by decide) (fun c2 => ?_) (fun c2 => ?_)
    · have c2 : 6 ≤ x1 := (i_le ⟨by decide, by decide⟩ hx1).mp c2
      refine lv_iconst (v := iI (-1)) hx hb (dk_at dkX11_status_0 10 rfl) (by decide +kernel) ?_
      exact RET (-1) _ _ _ _ _ ⟨rfl, (u_r_X11_status (Or.inr ⟨c1, (Or.inl ⟨c2, rfl⟩)⟩)), ⟨by decide, by decide⟩⟩ hP hS (dk_at dkX11_status_0 11 rfl)
    · have c2 : ¬ 6 ≤ x1 := mt (i_le ⟨by decide, by decide⟩ hx1).mpr c2
      refine lv_aload_n hx hb (dk_at dkX11_status_0 5 rfl) rfl (lv_at hl 0 rfl) ?_
      refine va_get (D := (dC, dI)) (ci := 11) (v := .ref (q 50)) (C := RX11) (T := TX11) (N := 11) hx hb hts hiX11 hown hK hP 0 (wkK) rfl 8 (by decide) (hts _ (List.mem_cons_of_mem _ wkq_10_28)) (fun _ h9 => h9) rfl (dk_at dkX11_status_0 6 rfl) ?_
      refine lv_iload_n hx hb (dk_at dkX11_status_0 7 rfl) rfl (lv_at hl 1 rfl) ?_
      refine x_iald (Wf := WK cB cI cJ cZ cQ q) hx hb hK hP 50 1 (wkKr) rfl (by omega) (by decide) (dk_at dkX11_status_0 8 rfl) (fun z3 hz3 => ?_)
      have rz3 : (-2147483648 : Int) ≤ z3 ∧ z3 ≤ 2147483647 := by rw [hz3]; exact irKr hI
      have gz3 := Hd.mk hz3
      refine lv_goto (tgt := 20) hx hb (dk_at dkX11_status_0 9 rfl) (by decide) ?_
      exact RET z3 _ _ _ _ _ ⟨rfl, (u_r_X11_status (Or.inr ⟨c1, (Or.inr ⟨c2, ⟨z3, gz3.out, rfl⟩⟩)⟩)), rz3⟩ hP hS (dk_at dkX11_status_0 11 rfl)
