abbrev tr_r_X3_begin (A : St) (u : St) : Prop := (∃ A1 : St, A1 = stA A 5 1 0 ∧ (∃ A2 : St, A2 = stA A1 5 5 (-1) ∧ (∃ A3 : St, A3 = stA A2 5 6 0 ∧ (u = A3))))
def r_X3_begin (A : St) (u : St) : Prop := tr_r_X3_begin A u
theorem u_r_X3_begin {A : St} {u : St} (h : tr_r_X3_begin A u) : r_X3_begin A u := h
def q_X3_begin (A : St) (u : St) : Prop := r_X3_begin A u ∧ IK u ∧ fk [] [(5, 1), (5, 5), (5, 6)] A u ∧ (True)
def ws_kc_X3_begin : List Cond := .code yX3_begin cX3_begin 1 none :: WY
set_option maxHeartbeats 4000000 in
set_option maxRecDepth 100000 in
theorem kc_X3_begin (l : Launch) (dC : Nat → ClassId) (dI : Nat → Nat → Nat) (cB cI cJ cZ cQ : ClassId) (aL aS : Nat) (q : Nat → Nat) (A : St) (hI : IK A) : KMv l yX3_begin ws_kc_X3_begin ({ frames := 0, cells := 0, slots := 0, locals := 0 } : Room) aL aS (dC, dI) (tyA cB cI cJ cZ cQ) (WK cB cI cJ cZ cQ q) A [.ref (q 5)] (fun u => r_X3_begin A u ∧ IK u ∧ fk [] [(5, 1), (5, 5), (5, 6)] A u ∧ (True)) := by
  refine k_metv (cc := cX3_begin) (maxL := 1) WK_adr (plainFor_of_name (by decide +kernel)) rfl (Nat.le_of_ble_eq_true rfl) (fun p e s m below meth c Q AS ls hx hb hml hown hts hK hDD hA0 hE RET H locs hP hS hl => ?_)
  have hown : s.vm.findClass RX3 = some m.cls := hown
  have hl : lv_has ls 1 [(0, .ref (q 5))] := hl
  have hiX3 : ∀ w ∈ u_ws RX3 TX3 7, w ∈ ws_kc_X3_begin := fun w h => List.mem_cons_of_mem _ (wy_layX3 w h)
  refine lv_aload_n hx hb (dk_at dkX3_begin_0 0 rfl) rfl (lv_at hl 0 rfl) ?_
  refine lv_iconst (v := iI 0) hx hb (dk_at dkX3_begin_0 1 rfl) (by decide +kernel) ?_
  refine k_put (Wf := WK cB cI cJ cZ cQ q) (D := (dC, dI)) (ci := 3) (v := .int (iI 0)) (ty := .int) (C := RX3) (T := TX3) (N := 7) hx hb hts hiX3 tyX3 tyX3_ok nmX3 hown hK hP hDD hS 5 (wkLX) rfl 1 (by decide) (hts _ (List.mem_cons_of_mem _ wkq_3_55)) (fun _ h9 => h9) rfl (by decide +kernel) rfl rfl (Nat.le_of_ble_eq_true rfl) (dk_at dkX3_begin_0 2 rfl) (wfLX_1 (v := 0)) (fun H locs A1 hA1 hP hS => ?_)
  have hI := isLX_1 hA1 hI (show (0 : Int) ≤ 0 ∧ 0 ≤ 1600 from ⟨by decide, by decide⟩)
  refine lv_aload_n hx hb (dk_at dkX3_begin_0 3 rfl) rfl (lv_at hl 0 rfl) ?_
  refine lv_iconst (v := iI (-1)) hx hb (dk_at dkX3_begin_0 4 rfl) (by decide +kernel) ?_
  refine k_put (Wf := WK cB cI cJ cZ cQ q) (D := (dC, dI)) (ci := 3) (v := .int (iI (-1))) (ty := .int) (C := RX3) (T := TX3) (N := 7) hx hb hts hiX3 tyX3 tyX3_ok nmX3 hown hK hP hDD hS 5 (wkLX) rfl 5 (by decide) (hts _ (List.mem_cons_of_mem _ wkq_3_56)) (fun _ h9 => h9) rfl (by decide +kernel) rfl rfl (Nat.le_of_ble_eq_true rfl) (dk_at dkX3_begin_0 5 rfl) (wfLX_5 (v := (-1))) (fun H locs A2 hA2 hP hS => ?_)
  have hI := isLX_5 hA2 hI (show (-1 : Int) ≤ (-1) ∧ (-1) ≤ 1600 from ⟨by decide, by decide⟩)
  refine lv_aload_n hx hb (dk_at dkX3_begin_0 6 rfl) rfl (lv_at hl 0 rfl) ?_
  refine lv_iconst (v := iI 0) hx hb (dk_at dkX3_begin_0 7 rfl) (by decide +kernel) ?_
  refine k_put (Wf := WK cB cI cJ cZ cQ q) (D := (dC, dI)) (ci := 3) (v := .int (iI 0)) (ty := .boolean) (C := RX3) (T := TX3) (N := 7) hx hb hts hiX3 tyX3 tyX3_ok nmX3 hown hK hP hDD hS 5 (wkLX) rfl 6 (by decide) (hts _ (List.mem_cons_of_mem _ wkq_3_57)) (fun _ h9 => h9) rfl (by decide +kernel) (by decide +kernel) rfl (Nat.le_of_ble_eq_true rfl) (dk_at dkX3_begin_0 8 rfl) (wfLX_6 (v := 0)) (fun H locs A3 hA3 hP hS => ?_)
  have hI := isLX_6 hA3 hI (show (0 : Int) ≤ 0 ∧ 0 ≤ 1 from ⟨by decide, by decide⟩)
  exact RET _ _ _ _ _ ⟨(u_r_X3_begin ⟨A1, hA1, ⟨A2, hA2, ⟨A3, hA3, rfl⟩⟩⟩), hI, fk.df (fk.df (fk.df (fk.rf) hA1 rfl) hA2 rfl) hA3 rfl, trivial⟩ hP hS (dk_at dkX3_begin_0 9 rfl)

abbrev tr_r_X3_pass (A : St) (u : St) : Prop := (∃ A1 : St, A1 = stA A 5 6 0 ∧ (u = A1))
def r_X3_pass (A : St) (u : St) : Prop := tr_r_X3_pass A u
theorem u_r_X3_pass {A : St} {u : St} (h : tr_r_X3_pass A u) : r_X3_pass A u := h
def q_X3_pass (A : St) (u : St) : Prop := r_X3_pass A u ∧ IK u ∧ fk [] [(5, 6)] A u ∧ (True)
def ws_kc_X3_pass : List Cond := .code yX3_pass cX3_pass 1 none :: WY
set_option maxHeartbeats 4000000 in
set_option maxRecDepth 100000 in
theorem kc_X3_pass (l : Launch) (dC : Nat → ClassId) (dI : Nat → Nat → Nat) (cB cI cJ cZ cQ : ClassId) (aL aS : Nat) (q : Nat → Nat) (A : St) (hI : IK A) : KMv l yX3_pass ws_kc_X3_pass ({ frames := 0, cells := 0, slots := 0, locals := 0 } : Room) aL aS (dC, dI) (tyA cB cI cJ cZ cQ) (WK cB cI cJ cZ cQ q) A [.ref (q 5)] (fun u => r_X3_pass A u ∧ IK u ∧ fk [] [(5, 6)] A u ∧ (True)) := by
  refine k_metv (cc := cX3_pass) (maxL := 1) WK_adr (plainFor_of_name (by decide +kernel)) rfl (Nat.le_of_ble_eq_true rfl) (fun p e s m below meth c Q AS ls hx hb hml hown hts hK hDD hA0 hE RET H locs hP hS hl => ?_)
  have hown : s.vm.findClass RX3 = some m.cls := hown
  have hl : lv_has ls 1 [(0, .ref (q 5))] := hl
  have hiX3 : ∀ w ∈ u_ws RX3 TX3 7, w ∈ ws_kc_X3_pass := fun w h => List.mem_cons_of_mem _ (wy_layX3 w h)
  refine lv_aload_n hx hb (dk_at dkX3_pass_0 0 rfl) rfl (lv_at hl 0 rfl) ?_
  refine lv_iconst (v := iI 0) hx hb (dk_at dkX3_pass_0 1 rfl) (by decide +kernel) ?_
  refine k_put (Wf := WK cB cI cJ cZ cQ q) (D := (dC, dI)) (ci := 3) (v := .int (iI 0)) (ty := .boolean) (C := RX3) (T := TX3) (N := 7) hx hb hts hiX3 tyX3 tyX3_ok nmX3 hown hK hP hDD hS 5 (wkLX) rfl 6 (by decide) (hts _ (List.mem_cons_of_mem _ wkq_3_57)) (fun _ h9 => h9) rfl (by decide +kernel) (by decide +kernel) rfl (Nat.le_of_ble_eq_true rfl) (dk_at dkX3_pass_0 2 rfl) (wfLX_6 (v := 0)) (fun H locs A1 hA1 hP hS => ?_)
  have hI := isLX_6 hA1 hI (show (0 : Int) ≤ 0 ∧ 0 ≤ 1 from ⟨by decide, by decide⟩)
  exact RET _ _ _ _ _ ⟨(u_r_X3_pass ⟨A1, hA1, rfl⟩), hI, fk.df (fk.rf) hA1 rfl, trivial⟩ hP hS (dk_at dkX3_pass_0 3 rfl)

abbrev tr_r_X3_isSign (x1 : Int) (A : St) (z : Int) : Prop := (((¬ (A 5 2) = 3) ∧ (z = 0)) ∨ (((A 5 2) = 3) ∧ (((¬ (A 5 4) = x1) ∧ (z = 0)) ∨ (((A 5 4) = x1) ∧ (z = 1)))))
def r_X3_isSign (x1 : Int) (A : St) (z : Int) : Prop := tr_r_X3_isSign x1 A z
theorem u_r_X3_isSign {x1 : Int} {A : St} {z : Int} (h : tr_r_X3_isSign x1 A z) : r_X3_isSign x1 A z := h
def q_X3_isSign (x1 : Int) (A : St) (z : Int) : Prop := r_X3_isSign x1 A z ∧ (0 ≤ z ∧ z ≤ 1)
def ws_kc_X3_isSign : List Cond := .code yX3_isSign cX3_isSign 2 (some .boolean) :: WY
set_option maxHeartbeats 4000000 in
set_option maxRecDepth 100000 in
theorem kc_X3_isSign (l : Launch) (dC : Nat → ClassId) (dI : Nat → Nat → Nat) (cB cI cJ cZ cQ : ClassId) (aL aS : Nat) (q : Nat → Nat) (A : St) (x1 : Int) (hI : IK A) (hx1 : (0 : Int) ≤ x1 ∧ x1 ≤ 65535) : KMi l yX3_isSign ws_kc_X3_isSign ({ frames := 0, cells := 0, slots := 0, locals := 0 } : Room) aL aS (dC, dI) (tyA cB cI cJ cZ cQ) (WK cB cI cJ cZ cQ q) A [.ref (q 5), .int (iI x1)] (fun z u => A = u ∧ r_X3_isSign x1 A z ∧ (0 ≤ z ∧ z ≤ 1)) := by
  refine k_metz (cc := cX3_isSign) (maxL := 2) WK_adr (plainFor_of_name (by decide +kernel)) rfl (Nat.le_of_ble_eq_true rfl) (fun z u h => h.2.2) (fun p e s m below meth c Q AS ls hx hb hml hown hts hK hDD hA0 hE RET H locs hP hS hl => ?_)
  have hown : s.vm.findClass RX3 = some m.cls := hown
  have hl : lv_has ls 2 [(0, .ref (q 5)), (1, .int (iI x1))] := hl
  have hiX3 : ∀ w ∈ u_ws RX3 TX3 7, w ∈ ws_kc_X3_isSign := fun w h => List.mem_cons_of_mem _ (wy_layX3 w h)
  refine lv_aload_n hx hb (dk_at dkX3_isSign_0 0 rfl) rfl (lv_at hl 0 rfl) ?_
  have r1 : (0 : Int) ≤ (A 5 2) ∧ (A 5 2) ≤ 4 := irLX_2 hI
  refine va_get (D := (dC, dI)) (ci := 3) (v := .int (iI (A 5 2))) (C := RX3) (T := TX3) (N := 7) hx hb hts hiX3 hown hK hP 5 (wkLX) rfl 2 (by decide) (hts _ (List.mem_cons_of_mem _ wkq_4_0)) (fun _ h9 => h9) rfl (dk_at dkX3_isSign_0 1 rfl) ?_
  refine lv_iconst (v := iI 3) hx hb (dk_at dkX3_isSign_0 2 rfl) (by decide +kernel) ?_
  refine lv_icmp_ne (tgt := 20) hx hb (dk_at dkX3_isSign_0 3 rfl) (by decide) (fun c2 => ?_) (fun c2 => ?_)
  · have c2 : ¬ (A 5 2) = 3 := mt (i_eq (rb r1 (by decide) (by decide)) ⟨by decide, by decide⟩).mpr c2
    refine lv_iconst (v := iI 0) hx hb (dk_at dkX3_isSign_0 10 rfl) (by decide +kernel) ?_
    exact RET 0 _ _ _ _ _ ⟨rfl, (u_r_X3_isSign (Or.inl ⟨c2, rfl⟩)), ⟨by decide, by decide⟩⟩ hP hS (dk_at dkX3_isSign_0 11 rfl)
  · have c2 : (A 5 2) = 3 := (i_eq (rb r1 (by decide) (by decide)) ⟨by decide, by decide⟩).mp c2
    refine lv_aload_n hx hb (dk_at dkX3_isSign_0 4 rfl) rfl (lv_at hl 0 rfl) ?_
    have r3 : (-2147483648 : Int) ≤ (A 5 4) ∧ (A 5 4) ≤ 2147483647 := irLX_4 hI
    refine va_get (D := (dC, dI)) (ci := 3) (v := .int (iI (A 5 4))) (C := RX3) (T := TX3) (N := 7) hx hb hts hiX3 hown hK hP 5 (wkLX) rfl 4 (by decide) (hts _ (List.mem_cons_of_mem _ wkq_4_1)) (fun _ h9 => h9) rfl (dk_at dkX3_isSign_0 5 rfl) ?_
    refine lv_iload_n hx hb (dk_at dkX3_isSign_0 6 rfl) rfl (lv_at hl 1 rfl) ?_
    refine lv_icmp_ne (tgt := 20) hx hb (dk_at dkX3_isSign_0 7 rfl) (by decide) (fun c4 => ?_) (fun c4 => ?_)
    · have c4 : ¬ (A 5 4) = x1 := mt (i_eq r3 (rb hx1 (by decide) (by decide))).mpr c4
      refine lv_iconst (v := iI 0) hx hb (dk_at dkX3_isSign_0 10 rfl) (by decide +kernel) ?_
      exact RET 0 _ _ _ _ _ ⟨rfl, (u_r_X3_isSign (Or.inr ⟨c2, (Or.inl ⟨c4, rfl⟩)⟩)), ⟨by decide, by decide⟩⟩ hP hS (dk_at dkX3_isSign_0 11 rfl)
    · have c4 : (A 5 4) = x1 := (i_eq r3 (rb hx1 (by decide) (by decide))).mp c4
      refine lv_iconst (v := iI 1) hx hb (dk_at dkX3_isSign_0 8 rfl) (by decide +kernel) ?_
      refine lv_goto (tgt := 21) hx hb (dk_at dkX3_isSign_0 9 rfl) (by decide) ?_
      exact RET 1 _ _ _ _ _ ⟨rfl, (u_r_X3_isSign (Or.inr ⟨c2, (Or.inr ⟨c4, rfl⟩)⟩)), ⟨by decide, by decide⟩⟩ hP hS (dk_at dkX3_isSign_0 11 rfl)

abbrev tr_d_X3_cut_3 (K2 : St → Prop) (A11 : St) (u : St) (z46 : Int) : Prop := ((-2147483648 ≤ z46 ∧ z46 ≤ 2147483647) ∧ (∃ A49 : St, A49 = stA A11 5 4 z46 ∧ (∃ A51 : St, A51 = stA A49 5 1 ((A11 5 1) + 1) ∧ (K2 A51))))
def d_X3_cut_3 (K2 : St → Prop) (A11 : St) (u : St) (z46 : Int) : Prop := tr_d_X3_cut_3 K2 A11 u z46
theorem u_d_X3_cut_3 {K2 : St → Prop} {A11 : St} {u : St} {z46 : Int} (h : tr_d_X3_cut_3 K2 A11 u z46) : d_X3_cut_3 K2 A11 u z46 := h
abbrev tr_d_X3_cut_2 (x1 : Int) (x2 : Int) (x3 : Int) (x4 : Int) (A : St) (u : St) (K2 : St → Prop) (A11 : St) : Prop := ((IK A11) ∧ ((((A 1 1) ≤ (A11 5 1)) ∧ (∃ A22 : St, A22 = stA A11 5 5 (A11 5 1) ∧ (u = A22))) ∨ ((¬ (A 1 1) ≤ (A11 5 1)) ∧ (∃ z27 : Int, z27 = A11 2 ((A11 5 1)).toNat ∧ (((z27 < x2) ∧ (∃ A29 : St, A29 = stA A11 5 5 (A11 5 1) ∧ (u = A29))) ∨ ((¬ z27 < x2) ∧ (((x3 < z27) ∧ (∃ A32 : St, A32 = stA A11 5 5 (A11 5 1) ∧ (u = A32))) ∨ ((¬ x3 < z27) ∧ ((((A11 5 1) - (A 5 3) < x4) ∧ (((¬ x1 = 2) ∧ (∃ z41 : Int, z41 = oShl (z27 - x2 + 1) (5 * (A11 5 1) - 5 * (A 5 3)) ∧ (∃ z42 : Int, z42 = oOr (A11 5 4) z41 ∧ (d_X3_cut_3 K2 A11 u z42)))) ∨ ((x1 = 2) ∧ (∃ z44 : Int, z44 = oWrap (10 * (A11 5 4)) ∧ (∃ z45 : Int, z45 = oWrap (z44 + z27 - x2) ∧ (d_X3_cut_3 K2 A11 u z45)))))) ∨ ((¬ (A11 5 1) - (A 5 3) < x4) ∧ (∃ A53 : St, A53 = stA A11 5 2 4 ∧ (∃ A55 : St, A55 = stA A53 5 3 (A11 5 1) ∧ (u = A55)))))))))))))
def d_X3_cut_2 (x1 : Int) (x2 : Int) (x3 : Int) (x4 : Int) (A : St) (u : St) : Nat → St → Prop
  | 0, _ => False
  | nn9 + 1, A11 => tr_d_X3_cut_2 x1 x2 x3 x4 A u (fun A11 => d_X3_cut_2 x1 x2 x3 x4 A u nn9 A11) A11
theorem u_d_X3_cut_2 {x1 : Int} {x2 : Int} {x3 : Int} {x4 : Int} {A : St} {u : St} {nn9 : Nat} {A11 : St} (h : tr_d_X3_cut_2 x1 x2 x3 x4 A u (fun A11 => d_X3_cut_2 x1 x2 x3 x4 A u nn9 A11) A11) : d_X3_cut_2 x1 x2 x3 x4 A u (nn9 + 1) A11 := h
abbrev tr_d_X3_cut_1 (x1 : Int) (x2 : Int) (x3 : Int) (x4 : Int) (A : St) (u : St) (z5 : Int) : Prop := ((0 ≤ z5 ∧ z5 ≤ 4) ∧ (∃ A8 : St, A8 = stA A 5 2 z5 ∧ (∃ A9 : St, A9 = stA A8 5 4 0 ∧ (∃ nn9 : Nat, d_X3_cut_2 x1 x2 x3 x4 A u nn9 A9))))
def d_X3_cut_1 (x1 : Int) (x2 : Int) (x3 : Int) (x4 : Int) (A : St) (u : St) (z5 : Int) : Prop := tr_d_X3_cut_1 x1 x2 x3 x4 A u z5
theorem u_d_X3_cut_1 {x1 : Int} {x2 : Int} {x3 : Int} {x4 : Int} {A : St} {u : St} {z5 : Int} (h : tr_d_X3_cut_1 x1 x2 x3 x4 A u z5) : d_X3_cut_1 x1 x2 x3 x4 A u z5 := h
abbrev tr_r_X3_cut (x1 : Int) (x2 : Int) (x3 : Int) (x4 : Int) (A : St) (u : St) : Prop := (((¬ (A 5 3) = (A 5 5)) ∧ (d_X3_cut_1 x1 x2 x3 x4 A u x1)) ∨ (((A 5 3) = (A 5 5)) ∧ (d_X3_cut_1 x1 x2 x3 x4 A u 4)))
def r_X3_cut (x1 : Int) (x2 : Int) (x3 : Int) (x4 : Int) (A : St) (u : St) : Prop := tr_r_X3_cut x1 x2 x3 x4 A u
theorem u_r_X3_cut {x1 : Int} {x2 : Int} {x3 : Int} {x4 : Int} {A : St} {u : St} (h : tr_r_X3_cut x1 x2 x3 x4 A u) : r_X3_cut x1 x2 x3 x4 A u := h
def q_X3_cut (x1 : Int) (x2 : Int) (x3 : Int) (x4 : Int) (A : St) (u : St) : Prop := r_X3_cut x1 x2 x3 x4 A u ∧ IK u ∧ fk [] [(5, 1), (5, 2), (5, 3), (5, 4), (5, 5)] A u ∧ (True)
def ws_kc_X3_cut : List Cond := .code yX3_cut cX3_cut 6 none :: WY
set_option maxHeartbeats 4000000 in
set_option maxRecDepth 100000 in
theorem kc_X3_cut (l : Launch) (dC : Nat → ClassId) (dI : Nat → Nat → Nat) (cB cI cJ cZ cQ : ClassId) (aL aS : Nat) (q : Nat → Nat) (A : St) (x1 x2 x3 x4 : Int) (hI : IK A) (hx1 : (0 : Int) ≤ x1 ∧ x1 ≤ 4) (hx2 : (0 : Int) ≤ x2 ∧ x2 ≤ 65535) (hx3 : (0 : Int) ≤ x3 ∧ x3 ≤ 65535) (hx4 : (-2147483648 : Int) ≤ x4 ∧ x4 ≤ 2147483647) : KMv l yX3_cut ws_kc_X3_cut ({ frames := 0, cells := 0, slots := 0, locals := 0 } : Room) aL aS (dC, dI) (tyA cB cI cJ cZ cQ) (WK cB cI cJ cZ cQ q) A [.ref (q 5), .int (iI x1), .int (iI x2), .int (iI x3), .int (iI x4)] (fun u => r_X3_cut x1 x2 x3 x4 A u ∧ IK u ∧ fk [] [(5, 1), (5, 2), (5, 3), (5, 4), (5, 5)] A u ∧ (True)) := by
  refine k_metv (cc := cX3_cut) (maxL := 6) WK_adr (plainFor_of_name (by decide +kernel)) rfl (Nat.le_of_ble_eq_true rfl) (fun p e s m below meth c Q AS ls hx hb hml hown hts hK hDD hA0 hE RET H locs hP hS hl => ?_)
  have hown : s.vm.findClass RX3 = some m.cls := hown
  have hl : lv_has ls 6 [(0, .ref (q 5)), (1, .int (iI x1)), (2, .int (iI x2)), (3, .int (iI x3)), (4, .int (iI x4))] := hl
  have hiX3 : ∀ w ∈ u_ws RX3 TX3 7, w ∈ ws_kc_X3_cut := fun w h => List.mem_cons_of_mem _ (wy_layX3 w h)
  have hiX7 : ∀ w ∈ u_ws RX7 TX7 2, w ∈ ws_kc_X3_cut := fun w h => List.mem_cons_of_mem _ (wy_layX7 w h)
  refine lv_aload_n hx hb (dk_at dkX3_cut_0 0 rfl) rfl (lv_at hl 0 rfl) ?_
  refine lv_aload_n hx hb (dk_at dkX3_cut_0 1 rfl) rfl (lv_at hl 0 rfl) ?_
  have r1 : (0 : Int) ≤ (A 5 3) ∧ (A 5 3) ≤ 1600 := irLX_3 hI
  refine va_get (D := (dC, dI)) (ci := 3) (v := .int (iI (A 5 3))) (C := RX3) (T := TX3) (N := 7) hx hb hts hiX3 hown hK hP 5 (wkLX) rfl 3 (by decide) (hts _ (List.mem_cons_of_mem _ wkq_4_6)) (fun _ h9 => h9) rfl (dk_at dkX3_cut_0 2 rfl) ?_
  refine lv_aload_n hx hb (dk_at dkX3_cut_0 3 rfl) rfl (lv_at hl 0 rfl) ?_
  have r2 : (-1 : Int) ≤ (A 5 5) ∧ (A 5 5) ≤ 1600 := irLX_5 hI
  refine va_get (D := (dC, dI)) (ci := 3) (v := .int (iI (A 5 5))) (C := RX3) (T := TX3) (N := 7) hx hb hts hiX3 hown hK hP 5 (wkLX) rfl 5 (by decide) (hts _ (List.mem_cons_of_mem _ wkq_3_56)) (fun _ h9 => h9) rfl (dk_at dkX3_cut_0 4 rfl) ?_
  have J17_4 : ∀ (z5 : Int) (H : Heap) (locs : List Loc) (ls : Array Slot), (0 ≤ z5 ∧ z5 ≤ 4) → (∀ (u : St), (d_X3_cut_1 x1 x2 x3 x4 A u z5) → r_X3_cut x1 x2 x3 x4 A u) → va_P (dC, dI) vwCl (WK cB cI cJ cZ cQ q A) H → va_S AS s.heap H locs → lv_has ls 6 [(0, .ref (q 5)), (1, .int (iI x1)), (2, .int (iI x2)), (3, .int (iI x3)), (4, .int (iI x4))] → W p l e (headSpec ws_kc_X3_cut ({ frames := 0, cells := 0, slots := 0, locals := 0 } : Room)).room s m [.ref (q 5), .int (iI x1), .int (iI x2), .int (iI x3), .int (iI x4)].toArray below meth c H locs 0 0 Q (F0 m 17 ls [.int (iI z5), .ref (q 5)]) := by
    intro z5 H locs ls f7 hk1 hP hS hl
    refine k_put (Wf := WK cB cI cJ cZ cQ q) (D := (dC, dI)) (ci := 3) (v := .int (iI z5)) (ty := .int) (C := RX3) (T := TX3) (N := 7) hx hb hts hiX3 tyX3 tyX3_ok nmX3 hown hK hP hDD hS 5 (wkLX) rfl 2 (by decide) (hts _ (List.mem_cons_of_mem _ wkq_4_0)) (fun _ h9 => h9) rfl (by decide +kernel) rfl rfl (Nat.le_of_ble_eq_true rfl) (dk_at dkX3_cut_0 9 rfl) (wfLX_2 (v := z5)) (fun H locs A8 hA8 hP hS => ?_)
    have hI := isLX_2 hA8 hI (show (0 : Int) ≤ z5 ∧ z5 ≤ 4 from f7)
    refine lv_aload_n hx hb (dk_at dkX3_cut_0 10 rfl) rfl (lv_at hl 0 rfl) ?_
    refine lv_iconst (v := iI 0) hx hb (dk_at dkX3_cut_0 11 rfl) (by decide +kernel) ?_
    refine k_put (Wf := WK cB cI cJ cZ cQ q) (D := (dC, dI)) (ci := 3) (v := .int (iI 0)) (ty := .int) (C := RX3) (T := TX3) (N := 7) hx hb hts hiX3 tyX3 tyX3_ok nmX3 hown hK hP hDD hS 5 (wkLX) rfl 4 (by decide) (hts _ (List.mem_cons_of_mem _ wkq_4_1)) (fun _ h9 => h9) rfl (by decide +kernel) rfl rfl (Nat.le_of_ble_eq_true rfl) (dk_at dkX3_cut_0 12 rfl) (wfLX_4 (v := 0)) (fun H locs A9 hA9 hP hS => ?_)
    have hI := isLX_4 hA9 hI (show (-2147483648 : Int) ≤ 0 ∧ 0 ≤ 2147483647 from ⟨by decide, by decide⟩)
    have L25_12 : ∀ (n14 : Nat) (A11 : St) (H : Heap) (locs : List Loc) (ls : Array Slot), (∀ (u : St), (∃ mm2 : Nat, (d_X3_cut_2 x1 x2 x3 x4 A u mm2 A11)) → r_X3_cut x1 x2 x3 x4 A u) → ((1600 - A11 5 1).toNat = n14) → IK A11 → fk [] [(5, 1), (5, 4)] A9 A11 → va_P (dC, dI) vwCl (WK cB cI cJ cZ cQ q A11) H → va_S AS s.heap H locs → lv_has ls 6 [(0, .ref (q 5)), (1, .int (iI x1)), (2, .int (iI x2)), (3, .int (iI x3)), (4, .int (iI x4))] → W p l e (headSpec ws_kc_X3_cut ({ frames := 0, cells := 0, slots := 0, locals := 0 } : Room)).room s m [.ref (q 5), .int (iI x1), .int (iI x2), .int (iI x3), .int (iI x4)].toArray below meth c H locs 0 0 Q (F0 m 25 ls []) := by
      intro n14
      induction n14 using Nat.strongRecOn with
      | ind n14 ih13 =>
        intro A11 H locs ls hk2 hn14 hI hj10 hP hS hl
        have gI15 : Hd (IK A11) := Hd.mk hI
        have r16 : (0 : Int) ≤ (A11 5 1) ∧ (A11 5 1) ≤ 1600 := irLX_1 hI
        refine lv_aload_n hx hb (dk_at dkX3_cut_0 13 rfl) rfl (lv_at hl 0 rfl) ?_
        refine va_get (D := (dC, dI)) (ci := 3) (v := .int (iI (A11 5 1))) (C := RX3) (T := TX3) (N := 7) hx hb hts hiX3 hown hK hP 5 (wkLX) rfl 1 (by decide) (hts _ (List.mem_cons_of_mem _ wkq_3_55)) (fun _ h9 => h9) rfl (dk_at dkX3_cut_0 14 rfl) ?_
        refine lv_aload_n hx hb (dk_at dkX3_cut_0 15 rfl) rfl (lv_at hl 0 rfl) ?_
        refine va_get (D := (dC, dI)) (ci := 3) (v := .ref (q 1)) (C := RX3) (T := TX3) (N := 7) hx hb hts hiX3 hown hK hP 5 (wkLX) rfl 0 (by decide) (hts _ (List.mem_cons_of_mem _ wkq_4_3)) (fun _ h9 => h9) rfl (dk_at dkX3_cut_1 0 rfl) ?_
        have e19 : A8 1 1 = (A 1 1) := (rd_ne hA8 (by decide) 1)
        have e18 : A9 1 1 = (A 1 1) := (rd_ne hA9 (by decide) 1).trans e19
        have e17 : A11 1 1 = (A 1 1) := (hj10 1 1 rfl rfl).trans e18
        have r20 : (0 : Int) ≤ (A 1 1) ∧ (A 1 1) ≤ 1600 := by rw [← e17]; exact irTP_1 hI
        refine va_get (D := (dC, dI)) (ci := 7) (v := .int (iI (A11 1 1))) (C := RX7) (T := TX7) (N := 2) hx hb hts hiX7 hown hK hP 1 (wkTP) rfl 1 (by decide) (hts _ (List.mem_cons_of_mem _ wkq_4_4)) (fun _ h9 => h9) rfl (dk_at dkX3_cut_1 1 rfl) ?_
        refine tp_i (y := iI (A 1 1)) (congrArg iI e17) ?_
        refine lv_icmp_ge (tgt := 181) hx hb (dk_at dkX3_cut_1 2 rfl) (by decide) (fun c21 => ?_) (fun c21 => ?_)
        · have c21 : (A 1 1) ≤ (A11 5 1) := (i_le (rb r20 (by decide) (by decide)) (rb r16 (by decide) (by decide))).mp c21
          refine lv_aload_n hx hb (dk_at dkX3_cut_6 0 rfl) rfl (lv_at hl 0 rfl) ?_
          refine lv_aload_n hx hb (dk_at dkX3_cut_6 1 rfl) rfl (lv_at hl 0 rfl) ?_
          refine va_get (D := (dC, dI)) (ci := 3) (v := .int (iI (A11 5 1))) (C := RX3) (T := TX3) (N := 7) hx hb hts hiX3 hown hK hP 5 (wkLX) rfl 1 (by decide) (hts _ (List.mem_cons_of_mem _ wkq_3_55)) (fun _ h9 => h9) rfl (dk_at dkX3_cut_6 2 rfl) ?_
          refine k_put (Wf := WK cB cI cJ cZ cQ q) (D := (dC, dI)) (ci := 3) (v := .int (iI (A11 5 1))) (ty := .int) (C := RX3) (T := TX3) (N := 7) hx hb hts hiX3 tyX3 tyX3_ok nmX3 hown hK hP hDD hS 5 (wkLX) rfl 5 (by decide) (hts _ (List.mem_cons_of_mem _ wkq_3_56)) (fun _ h9 => h9) rfl (by decide +kernel) rfl rfl (Nat.le_of_ble_eq_true rfl) (dk_at dkX3_cut_6 3 rfl) (wfLX_5 (v := (A11 5 1))) (fun H locs A22 hA22 hP hS => ?_)
          have hI := isLX_5 hA22 hI (show (-1 : Int) ≤ (A11 5 1) ∧ (A11 5 1) ≤ 1600 from (rb r16 (by decide) (by decide)))
          exact RET _ _ _ _ _ ⟨hk2 _ ⟨0 + 1, (u_d_X3_cut_2 ⟨gI15.out, (Or.inl ⟨c21, ⟨A22, hA22, rfl⟩⟩)⟩)⟩, hI, fk.df (fk.trans (fk.df (fk.df (fk.rf) hA8 rfl) hA9 rfl) hj10 rfl rfl) hA22 rfl, trivial⟩ hP hS (dk_at dkX3_cut_6 4 rfl)
        · have c21 : ¬ (A 1 1) ≤ (A11 5 1) := mt (i_le (rb r20 (by decide) (by decide)) (rb r16 (by decide) (by decide))).mpr c21
          refine lv_aload_n hx hb (dk_at dkX3_cut_1 3 rfl) rfl (lv_at hl 0 rfl) ?_
          refine va_get (D := (dC, dI)) (ci := 3) (v := .int (iI (A11 5 1))) (C := RX3) (T := TX3) (N := 7) hx hb hts hiX3 hown hK hP 5 (wkLX) rfl 1 (by decide) (hts _ (List.mem_cons_of_mem _ wkq_3_55)) (fun _ h9 => h9) rfl (dk_at dkX3_cut_1 4 rfl) ?_
          refine lv_sipush (v := iI 1600) hx hb (dk_at dkX3_cut_1 5 rfl) (by decide +kernel) ?_
          refine lv_icmp_ge (tgt := 181) hx hb (dk_at dkX3_cut_1 6 rfl) (by decide) (fun c23 => False.elim (by have c23 : 1600 ≤ (A11 5 1) := (i_le ⟨by decide, by decide⟩ (rb r16 (by decide) (by decide))).mp c23; omega)) (fun _ => ?_)
          refine lv_aload_n hx hb (dk_at dkX3_cut_1 7 rfl) rfl (lv_at hl 0 rfl) ?_
          refine va_get (D := (dC, dI)) (ci := 3) (v := .ref (q 1)) (C := RX3) (T := TX3) (N := 7) hx hb hts hiX3 hown hK hP 5 (wkLX) rfl 0 (by decide) (hts _ (List.mem_cons_of_mem _ wkq_4_3)) (fun _ h9 => h9) rfl (dk_at dkX3_cut_1 8 rfl) ?_
          refine va_get (D := (dC, dI)) (ci := 7) (v := .ref (q 2)) (C := RX7) (T := TX7) (N := 2) hx hb hts hiX7 hown hK hP 1 (wkTP) rfl 0 (by decide) (hts _ (List.mem_cons_of_mem _ wkq_4_5)) (fun _ h9 => h9) rfl (dk_at dkX3_cut_1 9 rfl) ?_
          refine lv_aload_n hx hb (dk_at dkX3_cut_1 10 rfl) rfl (lv_at hl 0 rfl) ?_
          refine va_get (D := (dC, dI)) (ci := 3) (v := .int (iI (A11 5 1))) (C := RX3) (T := TX3) (N := 7) hx hb hts hiX3 hown hK hP 5 (wkLX) rfl 1 (by decide) (hts _ (List.mem_cons_of_mem _ wkq_3_55)) (fun _ h9 => h9) rfl (dk_at dkX3_cut_1 11 rfl) ?_
          have a26 : ∀ k, A8 2 k = A 2 k := fun k => rd_ne hA8 (by decide) k
          have a25 : ∀ k, A9 2 k = A 2 k := fun k => (rd_ne hA9 (by decide) k).trans (a26 k)
          have a24 : ∀ k, A11 2 k = A 2 k := fun k => (hj10 2 k rfl rfl).trans (a25 k)
          refine k_bald (Wf := WK cB cI cJ cZ cQ q) hx hb hK hP 2 0 (wkTPb) rfl (by omega) (by decide) (dk_at dkX3_cut_1 12 rfl) (fun z27 hz27 => ?_)
          have rz27 : (-128 : Int) ≤ z27 ∧ z27 ≤ 127 := by rw [hz27]; exact irTPb hI
          have gz27 := Hd.mk hz27
          have hz27 : z27 = A 2 ((A11 5 1)).toNat := hz27.trans (a24 _)
          refine lv_iload_n hx hb (dk_at dkX3_cut_1 13 rfl) rfl (lv_at hl 2 rfl) ?_
          refine lv_icmp_lt (tgt := 181) hx hb (dk_at dkX3_cut_1 14 rfl) (by decide) (fun c28 => ?_) (fun c28 => ?_)
          · have c28 : z27 < x2 := (i_lt (rb rz27 (by decide) (by decide)) (rb hx2 (by decide) (by decide))).mp c28
            refine lv_aload_n hx hb (dk_at dkX3_cut_6 0 rfl) rfl (lv_at hl 0 rfl) ?_
            refine lv_aload_n hx hb (dk_at dkX3_cut_6 1 rfl) rfl (lv_at hl 0 rfl) ?_
            refine va_get (D := (dC, dI)) (ci := 3) (v := .int (iI (A11 5 1))) (C := RX3) (T := TX3) (N := 7) hx hb hts hiX3 hown hK hP 5 (wkLX) rfl 1 (by decide) (hts _ (List.mem_cons_of_mem _ wkq_3_55)) (fun _ h9 => h9) rfl (dk_at dkX3_cut_6 2 rfl) ?_
            refine k_put (Wf := WK cB cI cJ cZ cQ q) (D := (dC, dI)) (ci := 3) (v := .int (iI (A11 5 1))) (ty := .int) (C := RX3) (T := TX3) (N := 7) hx hb hts hiX3 tyX3 tyX3_ok nmX3 hown hK hP hDD hS 5 (wkLX) rfl 5 (by decide) (hts _ (List.mem_cons_of_mem _ wkq_3_56)) (fun _ h9 => h9) rfl (by decide +kernel) rfl rfl (Nat.le_of_ble_eq_true rfl) (dk_at dkX3_cut_6 3 rfl) (wfLX_5 (v := (A11 5 1))) (fun H locs A29 hA29 hP hS => ?_)
            have hI := isLX_5 hA29 hI (show (-1 : Int) ≤ (A11 5 1) ∧ (A11 5 1) ≤ 1600 from (rb r16 (by decide) (by decide)))
            exact RET _ _ _ _ _ ⟨hk2 _ ⟨0 + 1, (u_d_X3_cut_2 ⟨gI15.out, (Or.inr ⟨c21, ⟨z27, gz27.out, (Or.inl ⟨c28, ⟨A29, hA29, rfl⟩⟩)⟩⟩)⟩)⟩, hI, fk.df (fk.trans (fk.df (fk.df (fk.rf) hA8 rfl) hA9 rfl) hj10 rfl rfl) hA29 rfl, trivial⟩ hP hS (dk_at dkX3_cut_6 4 rfl)
          · have c28 : ¬ z27 < x2 := mt (i_lt (rb rz27 (by decide) (by decide)) (rb hx2 (by decide) (by decide))).mpr c28
            refine lv_aload_n hx hb (dk_at dkX3_cut_1 15 rfl) rfl (lv_at hl 0 rfl) ?_
            refine va_get (D := (dC, dI)) (ci := 3) (v := .ref (q 1)) (C := RX3) (T := TX3) (N := 7) hx hb hts hiX3 hown hK hP 5 (wkLX) rfl 0 (by decide) (hts _ (List.mem_cons_of_mem _ wkq_4_3)) (fun _ h9 => h9) rfl (dk_at dkX3_cut_2 0 rfl) ?_
            refine va_get (D := (dC, dI)) (ci := 7) (v := .ref (q 2)) (C := RX7) (T := TX7) (N := 2) hx hb hts hiX7 hown hK hP 1 (wkTP) rfl 0 (by decide) (hts _ (List.mem_cons_of_mem _ wkq_4_5)) (fun _ h9 => h9) rfl (dk_at dkX3_cut_2 1 rfl) ?_
            refine lv_aload_n hx hb (dk_at dkX3_cut_2 2 rfl) rfl (lv_at hl 0 rfl) ?_
            refine va_get (D := (dC, dI)) (ci := 3) (v := .int (iI (A11 5 1))) (C := RX3) (T := TX3) (N := 7) hx hb hts hiX3 hown hK hP 5 (wkLX) rfl 1 (by decide) (hts _ (List.mem_cons_of_mem _ wkq_3_55)) (fun _ h9 => h9) rfl (dk_at dkX3_cut_2 3 rfl) ?_
            refine k_bald (Wf := WK cB cI cJ cZ cQ q) hx hb hK hP 2 0 (wkTPb) rfl (by omega) (by decide) (dk_at dkX3_cut_2 4 rfl) (fun z30 hz30 => ?_)
            have rz30 : (-128 : Int) ≤ z30 ∧ z30 ≤ 127 := by rw [hz30]; exact irTPb hI
            have gz30 := Hd.mk hz30
            have hz30 : z30 = A 2 ((A11 5 1)).toNat := hz30.trans (a24 _)
            have ez30 : z30 = z27 := hz30.trans hz27.symm
            refine tp_i (y := iI z27) (congrArg iI ez30) ?_
            refine lv_iload_n hx hb (dk_at dkX3_cut_2 5 rfl) rfl (lv_at hl 3 rfl) ?_
            refine lv_icmp_gt (tgt := 181) hx hb (dk_at dkX3_cut_2 6 rfl) (by decide) (fun c31 => ?_) (fun c31 => ?_)
            · have c31 : x3 < z27 := (i_lt (rb hx3 (by decide) (by decide)) (rb rz27 (by decide) (by decide))).mp c31
              refine lv_aload_n hx hb (dk_at dkX3_cut_6 0 rfl) rfl (lv_at hl 0 rfl) ?_
              refine lv_aload_n hx hb (dk_at dkX3_cut_6 1 rfl) rfl (lv_at hl 0 rfl) ?_
              refine va_get (D := (dC, dI)) (ci := 3) (v := .int (iI (A11 5 1))) (C := RX3) (T := TX3) (N := 7) hx hb hts hiX3 hown hK hP 5 (wkLX) rfl 1 (by decide) (hts _ (List.mem_cons_of_mem _ wkq_3_55)) (fun _ h9 => h9) rfl (dk_at dkX3_cut_6 2 rfl) ?_
              refine k_put (Wf := WK cB cI cJ cZ cQ q) (D := (dC, dI)) (ci := 3) (v := .int (iI (A11 5 1))) (ty := .int) (C := RX3) (T := TX3) (N := 7) hx hb hts hiX3 tyX3 tyX3_ok nmX3 hown hK hP hDD hS 5 (wkLX) rfl 5 (by decide) (hts _ (List.mem_cons_of_mem _ wkq_3_56)) (fun _ h9 => h9) rfl (by decide +kernel) rfl rfl (Nat.le_of_ble_eq_true rfl) (dk_at dkX3_cut_6 3 rfl) (wfLX_5 (v := (A11 5 1))) (fun H locs A32 hA32 hP hS => ?_)
              have hI := isLX_5 hA32 hI (show (-1 : Int) ≤ (A11 5 1) ∧ (A11 5 1) ≤ 1600 from (rb r16 (by decide) (by decide)))
              exact RET _ _ _ _ _ ⟨hk2 _ ⟨0 + 1, (u_d_X3_cut_2 ⟨gI15.out, (Or.inr ⟨c21, ⟨z27, gz27.out, (Or.inr ⟨c28, (Or.inl ⟨c31, ⟨A32, hA32, rfl⟩⟩)⟩)⟩⟩)⟩)⟩, hI, fk.df (fk.trans (fk.df (fk.df (fk.rf) hA8 rfl) hA9 rfl) hj10 rfl rfl) hA32 rfl, trivial⟩ hP hS (dk_at dkX3_cut_6 4 rfl)
            · have c31 : ¬ x3 < z27 := mt (i_lt (rb hx3 (by decide) (by decide)) (rb rz27 (by decide) (by decide))).mpr c31
              refine lv_aload_n hx hb (dk_at dkX3_cut_2 7 rfl) rfl (lv_at hl 0 rfl) ?_
              refine va_get (D := (dC, dI)) (ci := 3) (v := .int (iI (A11 5 1))) (C := RX3) (T := TX3) (N := 7) hx hb hts hiX3 hown hK hP 5 (wkLX) rfl 1 (by decide) (hts _ (List.mem_cons_of_mem _ wkq_3_55)) (fun _ h9 => h9) rfl (dk_at dkX3_cut_2 8 rfl) ?_
              refine lv_aload_n hx hb (dk_at dkX3_cut_2 9 rfl) rfl (lv_at hl 0 rfl) ?_
              have e35 : A8 5 3 = (A 5 3) := (rd_at hA8 (by decide))
              have e34 : A9 5 3 = (A 5 3) := (rd_at hA9 (by decide)).trans e35
              have e33 : A11 5 3 = (A 5 3) := (hj10 5 3 rfl rfl).trans e34
              refine va_get (D := (dC, dI)) (ci := 3) (v := .int (iI (A11 5 3))) (C := RX3) (T := TX3) (N := 7) hx hb hts hiX3 hown hK hP 5 (wkLX) rfl 3 (by decide) (hts _ (List.mem_cons_of_mem _ wkq_4_6)) (fun _ h9 => h9) rfl (dk_at dkX3_cut_2 10 rfl) ?_
              refine tp_i (y := iI (A 5 3)) (congrArg iI e33) ?_
              refine x_subv (v := (A11 5 1) - (A 5 3)) hx hb (dk_at dkX3_cut_2 11 rfl) (by omega) ?_
              refine lv_iload hx hb (dk_at dkX3_cut_2 12 rfl) (lv_at hl 4 rfl) ?_
              refine lv_icmp_lt (tgt := 109) hx hb (dk_at dkX3_cut_2 13 rfl) (by decide) (fun c36 => ?_) (fun c36 => ?_)
              · have c36 : (A11 5 1) - (A 5 3) < x4 := (i_lt (by omega) hx4).mp c36
                refine lv_aload_n hx hb (dk_at dkX3_cut_3 6 rfl) rfl (lv_at hl 0 rfl) ?_
                refine va_get (D := (dC, dI)) (ci := 3) (v := .ref (q 1)) (C := RX3) (T := TX3) (N := 7) hx hb hts hiX3 hown hK hP 5 (wkLX) rfl 0 (by decide) (hts _ (List.mem_cons_of_mem _ wkq_4_3)) (fun _ h9 => h9) rfl (dk_at dkX3_cut_3 7 rfl) ?_
                refine va_get (D := (dC, dI)) (ci := 7) (v := .ref (q 2)) (C := RX7) (T := TX7) (N := 2) hx hb hts hiX7 hown hK hP 1 (wkTP) rfl 0 (by decide) (hts _ (List.mem_cons_of_mem _ wkq_4_5)) (fun _ h9 => h9) rfl (dk_at dkX3_cut_3 8 rfl) ?_
                refine lv_aload_n hx hb (dk_at dkX3_cut_3 9 rfl) rfl (lv_at hl 0 rfl) ?_
                refine va_get (D := (dC, dI)) (ci := 3) (v := .int (iI (A11 5 1))) (C := RX3) (T := TX3) (N := 7) hx hb hts hiX3 hown hK hP 5 (wkLX) rfl 1 (by decide) (hts _ (List.mem_cons_of_mem _ wkq_3_55)) (fun _ h9 => h9) rfl (dk_at dkX3_cut_3 10 rfl) ?_
                refine k_bald (Wf := WK cB cI cJ cZ cQ q) hx hb hK hP 2 0 (wkTPb) rfl (by omega) (by decide) (dk_at dkX3_cut_3 11 rfl) (fun z37 hz37 => ?_)
                have rz37 : (-128 : Int) ≤ z37 ∧ z37 ≤ 127 := by rw [hz37]; exact irTPb hI
                have gz37 := Hd.mk hz37
                have hz37 : z37 = A 2 ((A11 5 1)).toNat := hz37.trans (a24 _)
                have ez37 : z37 = z27 := hz37.trans hz27.symm
                refine tp_i (y := iI z27) (congrArg iI ez37) ?_
                refine lv_iload_n hx hb (dk_at dkX3_cut_3 12 rfl) rfl (lv_at hl 2 rfl) ?_
                refine x_subv (v := z27 - x2) hx hb (dk_at dkX3_cut_3 13 rfl) (by omega) ?_
                refine lv_istore (lv' := [(5, .int (iI (z27 - x2))), (0, .ref (q 5)), (1, .int (iI x1)), (2, .int (iI x2)), (3, .int (iI x3)), (4, .int (iI x4))]) hx hb (dk_at dkX3_cut_3 14 rfl) hl (by decide) rfl (fun ls hl => ?_)
                refine lv_aload_n hx hb (dk_at dkX3_cut_3 15 rfl) rfl (lv_at hl 1 rfl) ?_
                refine lv_iload_n hx hb (dk_at dkX3_cut_4 0 rfl) rfl (lv_at hl 2 rfl) ?_
                refine lv_iconst (v := iI 2) hx hb (dk_at dkX3_cut_4 1 rfl) (by decide +kernel) ?_
                have J165_39 : ∀ (z46 : Int) (H : Heap) (locs : List Loc) (ls : Array Slot), (-2147483648 ≤ z46 ∧ z46 ≤ 2147483647) → (∀ (u : St), (∃ mm2 : Nat, (d_X3_cut_3 (fun A11' => d_X3_cut_2 x1 x2 x3 x4 A u mm2 A11') A11 u z46)) → r_X3_cut x1 x2 x3 x4 A u) → va_P (dC, dI) vwCl (WK cB cI cJ cZ cQ q A11) H → va_S AS s.heap H locs → lv_has ls 6 [(5, .int (iI (z27 - x2))), (0, .ref (q 5)), (1, .int (iI x1)), (2, .int (iI x2)), (3, .int (iI x3)), (4, .int (iI x4))] → W p l e (headSpec ws_kc_X3_cut ({ frames := 0, cells := 0, slots := 0, locals := 0 } : Room)).room s m [.ref (q 5), .int (iI x1), .int (iI x2), .int (iI x3), .int (iI x4)].toArray below meth c H locs 0 0 Q (F0 m 165 ls [.int (iI z46), .ref (q 5)]) := by
                  intro z46 H locs ls f48 hk3 hP hS hl
                  refine k_put (Wf := WK cB cI cJ cZ cQ q) (D := (dC, dI)) (ci := 3) (v := .int (iI z46)) (ty := .int) (C := RX3) (T := TX3) (N := 7) hx hb hts hiX3 tyX3 tyX3_ok nmX3 hown hK hP hDD hS 5 (wkLX) rfl 4 (by decide) (hts _ (List.mem_cons_of_mem _ wkq_4_1)) (fun _ h9 => h9) rfl (by decide +kernel) rfl rfl (Nat.le_of_ble_eq_true rfl) (dk_at dkX3_cut_5 8 rfl) (wfLX_4 (v := z46)) (fun H locs A49 hA49 hP hS => ?_)
                  have hI := isLX_4 hA49 hI (show (-2147483648 : Int) ≤ z46 ∧ z46 ≤ 2147483647 from f48)
                  refine lv_aload_n hx hb (dk_at dkX3_cut_5 9 rfl) rfl (lv_at hl 1 rfl) ?_
                  refine lv_dup hx hb (dk_at dkX3_cut_5 10 rfl) rfl ?_
                  have e50 : A49 5 1 = (A11 5 1) := (rd_at hA49 (by decide))
                  refine va_get (D := (dC, dI)) (ci := 3) (v := .int (iI (A49 5 1))) (C := RX3) (T := TX3) (N := 7) hx hb hts hiX3 hown hK hP 5 (wkLX) rfl 1 (by decide) (hts _ (List.mem_cons_of_mem _ wkq_3_55)) (fun _ h9 => h9) rfl (dk_at dkX3_cut_5 11 rfl) ?_
                  refine tp_i (y := iI (A11 5 1)) (congrArg iI e50) ?_
                  refine lv_iconst (v := iI 1) hx hb (dk_at dkX3_cut_5 12 rfl) (by decide +kernel) ?_
                  refine x_addv (v := (A11 5 1) + 1) hx hb (dk_at dkX3_cut_5 13 rfl) (by omega) ?_
                  refine k_put (Wf := WK cB cI cJ cZ cQ q) (D := (dC, dI)) (ci := 3) (v := .int (iI ((A11 5 1) + 1))) (ty := .int) (C := RX3) (T := TX3) (N := 7) hx hb hts hiX3 tyX3 tyX3_ok nmX3 hown hK hP hDD hS 5 (wkLX) rfl 1 (by decide) (hts _ (List.mem_cons_of_mem _ wkq_3_55)) (fun _ h9 => h9) rfl (by decide +kernel) rfl rfl (Nat.le_of_ble_eq_true rfl) (dk_at dkX3_cut_5 14 rfl) (wfLX_1 (v := (A11 5 1) + 1)) (fun H locs A51 hA51 hP hS => ?_)
                  have hI := isLX_1 hA51 hI (show (0 : Int) ≤ (A11 5 1) + 1 ∧ (A11 5 1) + 1 ≤ 1600 from (by omega))
                  refine lv_goto (tgt := 25) hx hb (dk_at dkX3_cut_5 15 rfl) (by decide) ?_
                  have e52 : A51 5 1 = (A11 5 1) + 1 := rd_is hA51
                  exact ih13 _ (by omega) _ _ _ _ (fun uq ⟨mm2, hq⟩ => hk3 _ ⟨mm2, (u_d_X3_cut_3 ⟨f48, ⟨A49, hA49, ⟨A51, hA51, hq⟩⟩⟩)⟩) rfl hI (fk.df (fk.df (fk.trans (fk.rf) hj10 rfl rfl) hA49 rfl) hA51 rfl) hP hS (lv_sub hl [1, 2, 3, 4, 5] rfl)
                refine lv_icmp_ne (tgt := 144) hx hb (dk_at dkX3_cut_4 2 rfl) (by decide) (fun c38 => ?_) (fun c38 => ?_)
                · have c38 : ¬ x1 = 2 := mt (i_eq (rb hx1 (by decide) (by decide)) ⟨by decide, by decide⟩).mpr c38
                  refine lv_aload_n hx hb (dk_at dkX3_cut_4 10 rfl) rfl (lv_at hl 1 rfl) ?_
                  have r40 : (-2147483648 : Int) ≤ (A11 5 4) ∧ (A11 5 4) ≤ 2147483647 := irLX_4 hI
                  refine va_get (D := (dC, dI)) (ci := 3) (v := .int (iI (A11 5 4))) (C := RX3) (T := TX3) (N := 7) hx hb hts hiX3 hown hK hP 5 (wkLX) rfl 4 (by decide) (hts _ (List.mem_cons_of_mem _ wkq_4_1)) (fun _ h9 => h9) rfl (dk_at dkX3_cut_4 11 rfl) ?_
                  refine lv_iload hx hb (dk_at dkX3_cut_4 12 rfl) (lv_at hl 0 rfl) ?_
                  refine lv_iconst (v := iI 1) hx hb (dk_at dkX3_cut_4 13 rfl) (by decide +kernel) ?_
                  refine x_addv (v := z27 - x2 + 1) hx hb (dk_at dkX3_cut_4 14 rfl) (by omega) ?_
                  refine lv_iconst (v := iI 5) hx hb (dk_at dkX3_cut_4 15 rfl) (by decide +kernel) ?_
                  refine lv_aload_n hx hb (dk_at dkX3_cut_5 0 rfl) rfl (lv_at hl 1 rfl) ?_
                  refine va_get (D := (dC, dI)) (ci := 3) (v := .int (iI (A11 5 1))) (C := RX3) (T := TX3) (N := 7) hx hb hts hiX3 hown hK hP 5 (wkLX) rfl 1 (by decide) (hts _ (List.mem_cons_of_mem _ wkq_3_55)) (fun _ h9 => h9) rfl (dk_at dkX3_cut_5 1 rfl) ?_
                  refine lv_aload_n hx hb (dk_at dkX3_cut_5 2 rfl) rfl (lv_at hl 1 rfl) ?_
                  refine va_get (D := (dC, dI)) (ci := 3) (v := .int (iI (A11 5 3))) (C := RX3) (T := TX3) (N := 7) hx hb hts hiX3 hown hK hP 5 (wkLX) rfl 3 (by decide) (hts _ (List.mem_cons_of_mem _ wkq_4_6)) (fun _ h9 => h9) rfl (dk_at dkX3_cut_5 3 rfl) ?_
                  refine tp_i (y := iI (A 5 3)) (congrArg iI e33) ?_
                  refine x_subv (v := (A11 5 1) - (A 5 3)) hx hb (dk_at dkX3_cut_5 4 rfl) (by omega) ?_
                  refine x_mulv (v := 5 * (A11 5 1) - 5 * (A 5 3)) hx hb (dk_at dkX3_cut_5 5 rfl) (by omega) ?_
                  refine lv_ishl hx hb (dk_at dkX3_cut_5 6 rfl) ?_
                  refine x_absE (fun z41 gz41 hz41 => ?_)
                  refine lv_ior hx hb (dk_at dkX3_cut_5 7 rfl) ?_
                  refine x_absE (fun z42 gz42 hz42 => ?_)
                  exact J165_39 z42 _ _ _ (by omega) (fun uq ⟨mm2, hq⟩ => hk2 _ ⟨mm2 + 1, (u_d_X3_cut_2 ⟨gI15.out, (Or.inr ⟨c21, ⟨z27, gz27.out, (Or.inr ⟨c28, (Or.inr ⟨c31, (Or.inl ⟨c36, (Or.inl ⟨c38, ⟨z41, gz41.out, ⟨z42, gz42.out, hq⟩⟩⟩)⟩)⟩)⟩)⟩⟩)⟩)⟩) hP hS (lv_sub hl [0, 1, 2, 3, 4, 5] rfl)
                · have c38 : x1 = 2 := (i_eq (rb hx1 (by decide) (by decide)) ⟨by decide, by decide⟩).mp c38
                  refine lv_aload_n hx hb (dk_at dkX3_cut_4 3 rfl) rfl (lv_at hl 1 rfl) ?_
                  have r43 : (-2147483648 : Int) ≤ (A11 5 4) ∧ (A11 5 4) ≤ 2147483647 := irLX_4 hI
                  refine va_get (D := (dC, dI)) (ci := 3) (v := .int (iI (A11 5 4))) (C := RX3) (T := TX3) (N := 7) hx hb hts hiX3 hown hK hP 5 (wkLX) rfl 4 (by decide) (hts _ (List.mem_cons_of_mem _ wkq_4_1)) (fun _ h9 => h9) rfl (dk_at dkX3_cut_4 4 rfl) ?_
                  refine lv_bipush (v := iI 10) hx hb (dk_at dkX3_cut_4 5 rfl) (by decide +kernel) ?_
                  refine x_mulv (v := 10 * (A11 5 4)) hx hb (dk_at dkX3_cut_4 6 rfl) (by omega) ?_
                  refine x_absE (fun z44 gz44 hz44 => ?_)
                  refine lv_iload hx hb (dk_at dkX3_cut_4 7 rfl) (lv_at hl 0 rfl) ?_
                  refine x_addv (v := z44 + z27 - x2) hx hb (dk_at dkX3_cut_4 8 rfl) (by omega) ?_
                  refine x_absE (fun z45 gz45 hz45 => ?_)
                  refine lv_goto (tgt := 165) hx hb (dk_at dkX3_cut_4 9 rfl) (by decide) ?_
                  exact J165_39 z45 _ _ _ (by omega) (fun uq ⟨mm2, hq⟩ => hk2 _ ⟨mm2 + 1, (u_d_X3_cut_2 ⟨gI15.out, (Or.inr ⟨c21, ⟨z27, gz27.out, (Or.inr ⟨c28, (Or.inr ⟨c31, (Or.inl ⟨c36, (Or.inr ⟨c38, ⟨z44, gz44.out, ⟨z45, gz45.out, hq⟩⟩⟩)⟩)⟩)⟩)⟩⟩)⟩)⟩) hP hS (lv_sub hl [0, 1, 2, 3, 4, 5] rfl)
              · have c36 : ¬ (A11 5 1) - (A 5 3) < x4 := mt (i_lt (by omega) hx4).mpr c36
                refine lv_aload_n hx hb (dk_at dkX3_cut_2 14 rfl) rfl (lv_at hl 0 rfl) ?_
                refine lv_iconst (v := iI 4) hx hb (dk_at dkX3_cut_2 15 rfl) (by decide +kernel) ?_
                refine k_put (Wf := WK cB cI cJ cZ cQ q) (D := (dC, dI)) (ci := 3) (v := .int (iI 4)) (ty := .int) (C := RX3) (T := TX3) (N := 7) hx hb hts hiX3 tyX3 tyX3_ok nmX3 hown hK hP hDD hS 5 (wkLX) rfl 2 (by decide) (hts _ (List.mem_cons_of_mem _ wkq_4_0)) (fun _ h9 => h9) rfl (by decide +kernel) rfl rfl (Nat.le_of_ble_eq_true rfl) (dk_at dkX3_cut_3 0 rfl) (wfLX_2 (v := 4)) (fun H locs A53 hA53 hP hS => ?_)
                have hI := isLX_2 hA53 hI (show (0 : Int) ≤ 4 ∧ 4 ≤ 4 from ⟨by decide, by decide⟩)
                refine lv_aload_n hx hb (dk_at dkX3_cut_3 1 rfl) rfl (lv_at hl 0 rfl) ?_
                refine lv_aload_n hx hb (dk_at dkX3_cut_3 2 rfl) rfl (lv_at hl 0 rfl) ?_
                have e54 : A53 5 1 = (A11 5 1) := (rd_at hA53 (by decide))
                refine va_get (D := (dC, dI)) (ci := 3) (v := .int (iI (A53 5 1))) (C := RX3) (T := TX3) (N := 7) hx hb hts hiX3 hown hK hP 5 (wkLX) rfl 1 (by decide) (hts _ (List.mem_cons_of_mem _ wkq_3_55)) (fun _ h9 => h9) rfl (dk_at dkX3_cut_3 3 rfl) ?_
                refine tp_i (y := iI (A11 5 1)) (congrArg iI e54) ?_
                refine k_put (Wf := WK cB cI cJ cZ cQ q) (D := (dC, dI)) (ci := 3) (v := .int (iI (A11 5 1))) (ty := .int) (C := RX3) (T := TX3) (N := 7) hx hb hts hiX3 tyX3 tyX3_ok nmX3 hown hK hP hDD hS 5 (wkLX) rfl 3 (by decide) (hts _ (List.mem_cons_of_mem _ wkq_4_6)) (fun _ h9 => h9) rfl (by decide +kernel) rfl rfl (Nat.le_of_ble_eq_true rfl) (dk_at dkX3_cut_3 4 rfl) (wfLX_3 (v := (A11 5 1))) (fun H locs A55 hA55 hP hS => ?_)
                have hI := isLX_3 hA55 hI (show (0 : Int) ≤ (A11 5 1) ∧ (A11 5 1) ≤ 1600 from r16)
                exact RET _ _ _ _ _ ⟨hk2 _ ⟨0 + 1, (u_d_X3_cut_2 ⟨gI15.out, (Or.inr ⟨c21, ⟨z27, gz27.out, (Or.inr ⟨c28, (Or.inr ⟨c31, (Or.inr ⟨c36, ⟨A53, hA53, ⟨A55, hA55, rfl⟩⟩⟩)⟩)⟩)⟩⟩)⟩)⟩, hI, fk.df (fk.df (fk.trans (fk.df (fk.df (fk.rf) hA8 rfl) hA9 rfl) hj10 rfl rfl) hA53 rfl) hA55 rfl, trivial⟩ hP hS (dk_at dkX3_cut_3 5 rfl)
    have e57 : A8 5 1 = (A 5 1) := (rd_at hA8 (by decide))
    have e56 : A9 5 1 = (A 5 1) := (rd_at hA9 (by decide)).trans e57
    have r58 : (0 : Int) ≤ (A 5 1) ∧ (A 5 1) ≤ 1600 := by rw [← e56]; exact irLX_1 hI
    exact L25_12 _ _ _ _ _ (fun uq ⟨mm2, hq⟩ => hk1 _ (u_d_X3_cut_1 ⟨f7, ⟨A8, hA8, ⟨A9, hA9, ⟨mm2, hq⟩⟩⟩⟩)) rfl hI (fk.rf) hP hS (lv_sub hl [0, 1, 2, 3, 4] rfl)
  refine lv_icmp_ne (tgt := 16) hx hb (dk_at dkX3_cut_0 5 rfl) (by decide) (fun c3 => ?_) (fun c3 => ?_)
  · have c3 : ¬ (A 5 3) = (A 5 5) := mt (i_eq (rb r1 (by decide) (by decide)) (rb r2 (by decide) (by decide))).mpr c3
    refine lv_iload_n hx hb (dk_at dkX3_cut_0 8 rfl) rfl (lv_at hl 1 rfl) ?_
    exact J17_4 x1 _ _ _ (by omega) (fun uq hq => (u_r_X3_cut (Or.inl ⟨c3, hq⟩))) hP hS (lv_sub hl [0, 1, 2, 3, 4] rfl)
  · have c3 : (A 5 3) = (A 5 5) := (i_eq (rb r1 (by decide) (by decide)) (rb r2 (by decide) (by decide))).mp c3
    refine lv_iconst (v := iI 4) hx hb (dk_at dkX3_cut_0 6 rfl) (by decide +kernel) ?_
    refine lv_goto (tgt := 17) hx hb (dk_at dkX3_cut_0 7 rfl) (by decide) ?_
    exact J17_4 4 _ _ _ (by omega) (fun uq hq => (u_r_X3_cut (Or.inr ⟨c3, hq⟩))) hP hS (lv_sub hl [0, 1, 2, 3, 4] rfl)

abbrev tr_d_X3_look_5 (A5 : St) (A38 : St) (u : St) : Prop := (∃ A54 : St, A54 = stA A38 5 2 3 ∧ (∃ A57 : St, A57 = stA A54 5 1 ((A5 5 1) + 1) ∧ (u = A57)))
def d_X3_look_5 (A5 : St) (A38 : St) (u : St) : Prop := tr_d_X3_look_5 A5 A38 u
theorem u_d_X3_look_5 {A5 : St} {A38 : St} {u : St} (h : tr_d_X3_look_5 A5 A38 u) : d_X3_look_5 A5 A38 u := h
abbrev tr_d_X3_look_4 (z37 : Int) (A5 : St) (A38 : St) (u : St) : Prop := (((z37 < 48) ∧ (d_X3_look_5 A5 A38 u)) ∨ ((¬ z37 < 48) ∧ (((57 < z37) ∧ (d_X3_look_5 A5 A38 u)) ∨ ((¬ 57 < z37) ∧ (∃ A50 : St, q_X3_cut 2 48 57 4 A38 A50 ∧ (u = A50))))))
def d_X3_look_4 (z37 : Int) (A5 : St) (A38 : St) (u : St) : Prop := tr_d_X3_look_4 z37 A5 A38 u
theorem u_d_X3_look_4 {z37 : Int} {A5 : St} {A38 : St} {u : St} (h : tr_d_X3_look_4 z37 A5 A38 u) : d_X3_look_4 z37 A5 A38 u := h
abbrev tr_d_X3_look_3 (A : St) (A5 : St) (u : St) : Prop := (∃ A28 : St, A28 = stA A5 5 3 (A5 5 1) ∧ ((((A 1 1) ≤ (A5 5 1)) ∧ (∃ A32 : St, A32 = stA A28 5 2 0 ∧ (u = A32))) ∨ ((¬ (A 1 1) ≤ (A5 5 1)) ∧ (∃ z37 : Int, z37 = A28 2 ((A5 5 1)).toNat ∧ (∃ A38 : St, A38 = stA A28 5 4 z37 ∧ (((z37 < 97) ∧ (d_X3_look_4 z37 A5 A38 u)) ∨ ((¬ z37 < 97) ∧ (((122 < z37) ∧ (d_X3_look_4 z37 A5 A38 u)) ∨ ((¬ 122 < z37) ∧ (∃ A43 : St, q_X3_cut 1 97 122 6 A38 A43 ∧ (u = A43)))))))))))
def d_X3_look_3 (A : St) (A5 : St) (u : St) : Prop := tr_d_X3_look_3 A A5 u
theorem u_d_X3_look_3 {A : St} {A5 : St} {u : St} (h : tr_d_X3_look_3 A A5 u) : d_X3_look_3 A A5 u := h
abbrev tr_d_X3_look_2 (K1 : St → Prop) (A5 : St) (u : St) : Prop := (∃ A25 : St, A25 = stA A5 5 1 ((A5 5 1) + 1) ∧ (K1 A25))
def d_X3_look_2 (K1 : St → Prop) (A5 : St) (u : St) : Prop := tr_d_X3_look_2 K1 A5 u
theorem u_d_X3_look_2 {K1 : St → Prop} {A5 : St} {u : St} (h : tr_d_X3_look_2 K1 A5 u) : d_X3_look_2 K1 A5 u := h
abbrev tr_d_X3_look_1 (A : St) (u : St) (K1 : St → Prop) (A5 : St) : Prop := ((IK A5) ∧ ((((A 1 1) ≤ (A5 5 1)) ∧ (d_X3_look_3 A A5 u)) ∨ ((¬ (A 1 1) ≤ (A5 5 1)) ∧ (∃ z19 : Int, z19 = A5 2 ((A5 5 1)).toNat ∧ (((z19 = 10) ∧ (d_X3_look_2 K1 A5 u)) ∨ ((¬ z19 = 10) ∧ (((¬ z19 = 32) ∧ (d_X3_look_3 A A5 u)) ∨ ((z19 = 32) ∧ (d_X3_look_2 K1 A5 u)))))))))
def d_X3_look_1 (A : St) (u : St) : Nat → St → Prop
  | 0, _ => False
  | nn9 + 1, A5 => tr_d_X3_look_1 A u (fun A5 => d_X3_look_1 A u nn9 A5) A5
theorem u_d_X3_look_1 {A : St} {u : St} {nn9 : Nat} {A5 : St} (h : tr_d_X3_look_1 A u (fun A5 => d_X3_look_1 A u nn9 A5) A5) : d_X3_look_1 A u (nn9 + 1) A5 := h
abbrev tr_r_X3_look (A : St) (u : St) : Prop := ((((A 5 6) = 0) ∧ (∃ A3 : St, A3 = stA A 5 6 1 ∧ (∃ nn9 : Nat, d_X3_look_1 A u nn9 A3))) ∨ ((¬ (A 5 6) = 0) ∧ (u = A)))
def r_X3_look (A : St) (u : St) : Prop := tr_r_X3_look A u
theorem u_r_X3_look {A : St} {u : St} (h : tr_r_X3_look A u) : r_X3_look A u := h
def q_X3_look (A : St) (u : St) : Prop := r_X3_look A u ∧ IK u ∧ fk [] [(5, 1), (5, 2), (5, 3), (5, 4), (5, 5), (5, 6)] A u ∧ (True)
def ws_kc_X3_look : List Cond := .code yX3_look cX3_look 1 none :: WY
set_option maxHeartbeats 4000000 in
set_option maxRecDepth 100000 in
theorem kc_X3_look (l : Launch) (dC : Nat → ClassId) (dI : Nat → Nat → Nat) (cB cI cJ cZ cQ : ClassId) (aL aS : Nat) (q : Nat → Nat) (A : St) (hI : IK A) : KMv l yX3_look ws_kc_X3_look ({ frames := 1, cells := 0, slots := 0, locals := 25 } : Room) aL aS (dC, dI) (tyA cB cI cJ cZ cQ) (WK cB cI cJ cZ cQ q) A [.ref (q 5)] (fun u => r_X3_look A u ∧ IK u ∧ fk [] [(5, 1), (5, 2), (5, 3), (5, 4), (5, 5), (5, 6)] A u ∧ (True)) := by
  refine k_metv (cc := cX3_look) (maxL := 1) WK_adr (plainFor_of_name (by decide +kernel)) rfl (Nat.le_of_ble_eq_true rfl) (fun p e s m below meth c Q AS ls hx hb hml hown hts hK hDD hA0 hE RET H locs hP hS hl => ?_)
  have hown : s.vm.findClass RX3 = some m.cls := hown
  have hl : lv_has ls 1 [(0, .ref (q 5))] := hl
  have hiX3 : ∀ w ∈ u_ws RX3 TX3 7, w ∈ ws_kc_X3_look := fun w h => List.mem_cons_of_mem _ (wy_layX3 w h)
  have hiX7 : ∀ w ∈ u_ws RX7 TX7 2, w ∈ ws_kc_X3_look := fun w h => List.mem_cons_of_mem _ (wy_layX7 w h)
  refine lv_aload_n hx hb (dk_at dkX3_look_0 0 rfl) rfl (lv_at hl 0 rfl) ?_
  have r1 : (0 : Int) ≤ (A 5 6) ∧ (A 5 6) ≤ 1 := irLX_6 hI
  refine va_get (D := (dC, dI)) (ci := 3) (v := .int (iI (A 5 6))) (C := RX3) (T := TX3) (N := 7) hx hb hts hiX3 hown hK hP 5 (wkLX) rfl 6 (by decide) (hts _ (List.mem_cons_of_mem _ wkq_3_57)) (fun _ h9 => h9) rfl (dk_at dkX3_look_0 1 rfl) ?_
  refine lv_if_eq (tgt := 8) hx hb (dk_at dkX3_look_0 2 rfl) (by decide) (fun c2 => ?_) (fun c2 => ?_)
  · have c2 : (A 5 6) = 0 := (i_eq0 (rb r1 (by decide) (by decide))).mp c2
    refine lv_aload_n hx hb (dk_at dkX3_look_0 4 rfl) rfl (lv_at hl 0 rfl) ?_
    refine lv_iconst (v := iI 1) hx hb (dk_at dkX3_look_0 5 rfl) (by decide +kernel) ?_
    refine k_put (Wf := WK cB cI cJ cZ cQ q) (D := (dC, dI)) (ci := 3) (v := .int (iI 1)) (ty := .boolean) (C := RX3) (T := TX3) (N := 7) hx hb hts hiX3 tyX3 tyX3_ok nmX3 hown hK hP hDD hS 5 (wkLX) rfl 6 (by decide) (hts _ (List.mem_cons_of_mem _ wkq_3_57)) (fun _ h9 => h9) rfl (by decide +kernel) (by decide +kernel) rfl (Nat.le_of_ble_eq_true rfl) (dk_at dkX3_look_0 6 rfl) (wfLX_6 (v := 1)) (fun H locs A3 hA3 hP hS => ?_)
    have hI := isLX_6 hA3 hI (show (0 : Int) ≤ 1 ∧ 1 ≤ 1 from ⟨by decide, by decide⟩)
    have L13_6 : ∀ (n8 : Nat) (A5 : St) (H : Heap) (locs : List Loc) (ls : Array Slot), (∀ (u : St), (∃ mm1 : Nat, (d_X3_look_1 A u mm1 A5)) → r_X3_look A u) → ((1600 - A5 5 1).toNat = n8) → IK A5 → fk [] [(5, 1)] A3 A5 → va_P (dC, dI) vwCl (WK cB cI cJ cZ cQ q A5) H → va_S AS s.heap H locs → lv_has ls 1 [(0, .ref (q 5))] → W p l e (headSpec ws_kc_X3_look ({ frames := 1, cells := 0, slots := 0, locals := 25 } : Room)).room s m [.ref (q 5)].toArray below meth c H locs 0 0 Q (F0 m 13 ls []) := by
      intro n8
      induction n8 using Nat.strongRecOn with
      | ind n8 ih7 =>
        intro A5 H locs ls hk1 hn8 hI hj4 hP hS hl
        have gI9 : Hd (IK A5) := Hd.mk hI
        have r10 : (0 : Int) ≤ (A5 5 1) ∧ (A5 5 1) ≤ 1600 := irLX_1 hI
        refine lv_aload_n hx hb (dk_at dkX3_look_0 7 rfl) rfl (lv_at hl 0 rfl) ?_
        refine va_get (D := (dC, dI)) (ci := 3) (v := .int (iI (A5 5 1))) (C := RX3) (T := TX3) (N := 7) hx hb hts hiX3 hown hK hP 5 (wkLX) rfl 1 (by decide) (hts _ (List.mem_cons_of_mem _ wkq_3_55)) (fun _ h9 => h9) rfl (dk_at dkX3_look_0 8 rfl) ?_
        refine lv_aload_n hx hb (dk_at dkX3_look_0 9 rfl) rfl (lv_at hl 0 rfl) ?_
        refine va_get (D := (dC, dI)) (ci := 3) (v := .ref (q 1)) (C := RX3) (T := TX3) (N := 7) hx hb hts hiX3 hown hK hP 5 (wkLX) rfl 0 (by decide) (hts _ (List.mem_cons_of_mem _ wkq_4_3)) (fun _ h9 => h9) rfl (dk_at dkX3_look_0 10 rfl) ?_
        have e12 : A3 1 1 = (A 1 1) := (rd_ne hA3 (by decide) 1)
        have e11 : A5 1 1 = (A 1 1) := (hj4 1 1 rfl rfl).trans e12
        have r13 : (0 : Int) ≤ (A 1 1) ∧ (A 1 1) ≤ 1600 := by rw [← e11]; exact irTP_1 hI
        refine va_get (D := (dC, dI)) (ci := 7) (v := .int (iI (A5 1 1))) (C := RX7) (T := TX7) (N := 2) hx hb hts hiX7 hown hK hP 1 (wkTP) rfl 1 (by decide) (hts _ (List.mem_cons_of_mem _ wkq_4_4)) (fun _ h9 => h9) rfl (dk_at dkX3_look_0 11 rfl) ?_
        refine tp_i (y := iI (A 1 1)) (congrArg iI e11) ?_
        have J84_15 : ∀ (H : Heap) (locs : List Loc) (ls : Array Slot), (∀ (u : St), (∃ mm1 : Nat, (d_X3_look_3 A A5 u)) → r_X3_look A u) → va_P (dC, dI) vwCl (WK cB cI cJ cZ cQ q A5) H → va_S AS s.heap H locs → lv_has ls 1 [(0, .ref (q 5))] → W p l e (headSpec ws_kc_X3_look ({ frames := 1, cells := 0, slots := 0, locals := 25 } : Room)).room s m [.ref (q 5)].toArray below meth c H locs 0 0 Q (F0 m 84 ls []) := by
          intro H locs ls hk3 hP hS hl
          refine lv_aload_n hx hb (dk_at dkX3_look_2 8 rfl) rfl (lv_at hl 0 rfl) ?_
          refine lv_aload_n hx hb (dk_at dkX3_look_2 9 rfl) rfl (lv_at hl 0 rfl) ?_
          refine va_get (D := (dC, dI)) (ci := 3) (v := .int (iI (A5 5 1))) (C := RX3) (T := TX3) (N := 7) hx hb hts hiX3 hown hK hP 5 (wkLX) rfl 1 (by decide) (hts _ (List.mem_cons_of_mem _ wkq_3_55)) (fun _ h9 => h9) rfl (dk_at dkX3_look_2 10 rfl) ?_
          refine k_put (Wf := WK cB cI cJ cZ cQ q) (D := (dC, dI)) (ci := 3) (v := .int (iI (A5 5 1))) (ty := .int) (C := RX3) (T := TX3) (N := 7) hx hb hts hiX3 tyX3 tyX3_ok nmX3 hown hK hP hDD hS 5 (wkLX) rfl 3 (by decide) (hts _ (List.mem_cons_of_mem _ wkq_4_6)) (fun _ h9 => h9) rfl (by decide +kernel) rfl rfl (Nat.le_of_ble_eq_true rfl) (dk_at dkX3_look_2 11 rfl) (wfLX_3 (v := (A5 5 1))) (fun H locs A28 hA28 hP hS => ?_)
          have hI := isLX_3 hA28 hI (show (0 : Int) ≤ (A5 5 1) ∧ (A5 5 1) ≤ 1600 from r10)
          refine lv_aload_n hx hb (dk_at dkX3_look_2 12 rfl) rfl (lv_at hl 0 rfl) ?_
          have e29 : A28 5 1 = (A5 5 1) := (rd_at hA28 (by decide))
          refine va_get (D := (dC, dI)) (ci := 3) (v := .int (iI (A28 5 1))) (C := RX3) (T := TX3) (N := 7) hx hb hts hiX3 hown hK hP 5 (wkLX) rfl 1 (by decide) (hts _ (List.mem_cons_of_mem _ wkq_3_55)) (fun _ h9 => h9) rfl (dk_at dkX3_look_2 13 rfl) ?_
          refine tp_i (y := iI (A5 5 1)) (congrArg iI e29) ?_
          refine lv_aload_n hx hb (dk_at dkX3_look_2 14 rfl) rfl (lv_at hl 0 rfl) ?_
          refine va_get (D := (dC, dI)) (ci := 3) (v := .ref (q 1)) (C := RX3) (T := TX3) (N := 7) hx hb hts hiX3 hown hK hP 5 (wkLX) rfl 0 (by decide) (hts _ (List.mem_cons_of_mem _ wkq_4_3)) (fun _ h9 => h9) rfl (dk_at dkX3_look_2 15 rfl) ?_
          have e30 : A28 1 1 = (A 1 1) := (rd_ne hA28 (by decide) 1).trans e11
          refine va_get (D := (dC, dI)) (ci := 7) (v := .int (iI (A28 1 1))) (C := RX7) (T := TX7) (N := 2) hx hb hts hiX7 hown hK hP 1 (wkTP) rfl 1 (by decide) (hts _ (List.mem_cons_of_mem _ wkq_4_4)) (fun _ h9 => h9) rfl (dk_at dkX3_look_3 0 rfl) ?_
          refine tp_i (y := iI (A 1 1)) (congrArg iI e30) ?_
          refine lv_icmp_ge (tgt := 116) hx hb (dk_at dkX3_look_3 1 rfl) (by decide) (fun c31 => ?_) (fun c31 => ?_)
          · have c31 : (A 1 1) ≤ (A5 5 1) := (i_le (rb r13 (by decide) (by decide)) (rb r10 (by decide) (by decide))).mp c31
            refine lv_aload_n hx hb (dk_at dkX3_look_3 6 rfl) rfl (lv_at hl 0 rfl) ?_
            refine lv_iconst (v := iI 0) hx hb (dk_at dkX3_look_3 7 rfl) (by decide +kernel) ?_
            refine k_put (Wf := WK cB cI cJ cZ cQ q) (D := (dC, dI)) (ci := 3) (v := .int (iI 0)) (ty := .int) (C := RX3) (T := TX3) (N := 7) hx hb hts hiX3 tyX3 tyX3_ok nmX3 hown hK hP hDD hS 5 (wkLX) rfl 2 (by decide) (hts _ (List.mem_cons_of_mem _ wkq_4_0)) (fun _ h9 => h9) rfl (by decide +kernel) rfl rfl (Nat.le_of_ble_eq_true rfl) (dk_at dkX3_look_3 8 rfl) (wfLX_2 (v := 0)) (fun H locs A32 hA32 hP hS => ?_)
            have hI := isLX_2 hA32 hI (show (0 : Int) ≤ 0 ∧ 0 ≤ 4 from ⟨by decide, by decide⟩)
            exact RET _ _ _ _ _ ⟨hk3 _ ⟨0, (u_d_X3_look_3 ⟨A28, hA28, (Or.inl ⟨c31, ⟨A32, hA32, rfl⟩⟩)⟩)⟩, hI, fk.df (fk.df (fk.trans (fk.df (fk.rf) hA3 rfl) hj4 rfl rfl) hA28 rfl) hA32 rfl, trivial⟩ hP hS (dk_at dkX3_look_3 9 rfl)
          · have c31 : ¬ (A 1 1) ≤ (A5 5 1) := mt (i_le (rb r13 (by decide) (by decide)) (rb r10 (by decide) (by decide))).mpr c31
            refine lv_aload_n hx hb (dk_at dkX3_look_3 2 rfl) rfl (lv_at hl 0 rfl) ?_
            refine va_get (D := (dC, dI)) (ci := 3) (v := .int (iI (A28 5 1))) (C := RX3) (T := TX3) (N := 7) hx hb hts hiX3 hown hK hP 5 (wkLX) rfl 1 (by decide) (hts _ (List.mem_cons_of_mem _ wkq_3_55)) (fun _ h9 => h9) rfl (dk_at dkX3_look_3 3 rfl) ?_
            refine tp_i (y := iI (A5 5 1)) (congrArg iI e29) ?_
            refine lv_sipush (v := iI 1600) hx hb (dk_at dkX3_look_3 4 rfl) (by decide +kernel) ?_
            refine lv_icmp_lt (tgt := 122) hx hb (dk_at dkX3_look_3 5 rfl) (by decide) (fun _ => ?_) (fun c33 => False.elim (by have c33 : ¬ (A5 5 1) < 1600 := mt (i_lt (rb r10 (by decide) (by decide)) ⟨by decide, by decide⟩).mpr c33; omega))
            refine lv_aload_n hx hb (dk_at dkX3_look_3 10 rfl) rfl (lv_at hl 0 rfl) ?_
            refine lv_aload_n hx hb (dk_at dkX3_look_3 11 rfl) rfl (lv_at hl 0 rfl) ?_
            refine va_get (D := (dC, dI)) (ci := 3) (v := .ref (q 1)) (C := RX3) (T := TX3) (N := 7) hx hb hts hiX3 hown hK hP 5 (wkLX) rfl 0 (by decide) (hts _ (List.mem_cons_of_mem _ wkq_4_3)) (fun _ h9 => h9) rfl (dk_at dkX3_look_3 12 rfl) ?_
            refine va_get (D := (dC, dI)) (ci := 7) (v := .ref (q 2)) (C := RX7) (T := TX7) (N := 2) hx hb hts hiX7 hown hK hP 1 (wkTP) rfl 0 (by decide) (hts _ (List.mem_cons_of_mem _ wkq_4_5)) (fun _ h9 => h9) rfl (dk_at dkX3_look_3 13 rfl) ?_
            refine lv_aload_n hx hb (dk_at dkX3_look_3 14 rfl) rfl (lv_at hl 0 rfl) ?_
            refine va_get (D := (dC, dI)) (ci := 3) (v := .int (iI (A28 5 1))) (C := RX3) (T := TX3) (N := 7) hx hb hts hiX3 hown hK hP 5 (wkLX) rfl 1 (by decide) (hts _ (List.mem_cons_of_mem _ wkq_3_55)) (fun _ h9 => h9) rfl (dk_at dkX3_look_3 15 rfl) ?_
            refine tp_i (y := iI (A5 5 1)) (congrArg iI e29) ?_
            have a36 : ∀ k, A3 2 k = A 2 k := fun k => rd_ne hA3 (by decide) k
            have a35 : ∀ k, A5 2 k = A 2 k := fun k => (hj4 2 k rfl rfl).trans (a36 k)
            have a34 : ∀ k, A28 2 k = A 2 k := fun k => (rd_ne hA28 (by decide) k).trans (a35 k)
            refine k_bald (Wf := WK cB cI cJ cZ cQ q) hx hb hK hP 2 0 (wkTPb) rfl (by omega) (by decide) (dk_at dkX3_look_4 0 rfl) (fun z37 hz37 => ?_)
            have rz37 : (-128 : Int) ≤ z37 ∧ z37 ≤ 127 := by rw [hz37]; exact irTPb hI
            have gz37 := Hd.mk hz37
            have hz37 : z37 = A 2 ((A5 5 1)).toNat := hz37.trans (a34 _)
            refine k_put (Wf := WK cB cI cJ cZ cQ q) (D := (dC, dI)) (ci := 3) (v := .int (iI z37)) (ty := .int) (C := RX3) (T := TX3) (N := 7) hx hb hts hiX3 tyX3 tyX3_ok nmX3 hown hK hP hDD hS 5 (wkLX) rfl 4 (by decide) (hts _ (List.mem_cons_of_mem _ wkq_4_1)) (fun _ h9 => h9) rfl (by decide +kernel) rfl rfl (Nat.le_of_ble_eq_true rfl) (dk_at dkX3_look_4 1 rfl) (wfLX_4 (v := z37)) (fun H locs A38 hA38 hP hS => ?_)
            have hI := isLX_4 hA38 hI (show (-2147483648 : Int) ≤ z37 ∧ z37 ≤ 2147483647 from (rb rz37 (by decide) (by decide)))
            refine lv_aload_n hx hb (dk_at dkX3_look_4 2 rfl) rfl (lv_at hl 0 rfl) ?_
            have e39 : A38 5 4 = z37 := rd_is hA38
            refine va_get (D := (dC, dI)) (ci := 3) (v := .int (iI (A38 5 4))) (C := RX3) (T := TX3) (N := 7) hx hb hts hiX3 hown hK hP 5 (wkLX) rfl 4 (by decide) (hts _ (List.mem_cons_of_mem _ wkq_4_1)) (fun _ h9 => h9) rfl (dk_at dkX3_look_4 3 rfl) ?_
            refine tp_i (y := iI z37) (congrArg iI e39) ?_
            refine lv_bipush (v := iI 97) hx hb (dk_at dkX3_look_4 4 rfl) (by decide +kernel) ?_
            have J170_41 : ∀ (H : Heap) (locs : List Loc) (ls : Array Slot), (∀ (u : St), (∃ mm1 : Nat, (d_X3_look_4 z37 A5 A38 u)) → r_X3_look A u) → va_P (dC, dI) vwCl (WK cB cI cJ cZ cQ q A38) H → va_S AS s.heap H locs → lv_has ls 1 [(0, .ref (q 5))] → W p l e (headSpec ws_kc_X3_look ({ frames := 1, cells := 0, slots := 0, locals := 25 } : Room)).room s m [.ref (q 5)].toArray below meth c H locs 0 0 Q (F0 m 170 ls []) := by
              intro H locs ls hk4 hP hS hl
              refine lv_aload_n hx hb (dk_at dkX3_look_5 1 rfl) rfl (lv_at hl 0 rfl) ?_
              refine va_get (D := (dC, dI)) (ci := 3) (v := .int (iI (A38 5 4))) (C := RX3) (T := TX3) (N := 7) hx hb hts hiX3 hown hK hP 5 (wkLX) rfl 4 (by decide) (hts _ (List.mem_cons_of_mem _ wkq_4_1)) (fun _ h9 => h9) rfl (dk_at dkX3_look_5 2 rfl) ?_
              refine tp_i (y := iI z37) (congrArg iI e39) ?_
              refine lv_bipush (v := iI 48) hx hb (dk_at dkX3_look_5 3 rfl) (by decide +kernel) ?_
              have J201_48 : ∀ (H : Heap) (locs : List Loc) (ls : Array Slot), (∀ (u : St), (∃ mm1 : Nat, (d_X3_look_5 A5 A38 u)) → r_X3_look A u) → va_P (dC, dI) vwCl (WK cB cI cJ cZ cQ q A38) H → va_S AS s.heap H locs → lv_has ls 1 [(0, .ref (q 5))] → W p l e (headSpec ws_kc_X3_look ({ frames := 1, cells := 0, slots := 0, locals := 25 } : Room)).room s m [.ref (q 5)].toArray below meth c H locs 0 0 Q (F0 m 201 ls []) := by
                intro H locs ls hk5 hP hS hl
                refine lv_aload_n hx hb (dk_at dkX3_look_6 0 rfl) rfl (lv_at hl 0 rfl) ?_
                refine lv_iconst (v := iI 3) hx hb (dk_at dkX3_look_6 1 rfl) (by decide +kernel) ?_
                refine k_put (Wf := WK cB cI cJ cZ cQ q) (D := (dC, dI)) (ci := 3) (v := .int (iI 3)) (ty := .int) (C := RX3) (T := TX3) (N := 7) hx hb hts hiX3 tyX3 tyX3_ok nmX3 hown hK hP hDD hS 5 (wkLX) rfl 2 (by decide) (hts _ (List.mem_cons_of_mem _ wkq_4_0)) (fun _ h9 => h9) rfl (by decide +kernel) rfl rfl (Nat.le_of_ble_eq_true rfl) (dk_at dkX3_look_6 2 rfl) (wfLX_2 (v := 3)) (fun H locs A54 hA54 hP hS => ?_)
                have hI := isLX_2 hA54 hI (show (0 : Int) ≤ 3 ∧ 3 ≤ 4 from ⟨by decide, by decide⟩)
                refine lv_aload_n hx hb (dk_at dkX3_look_6 3 rfl) rfl (lv_at hl 0 rfl) ?_
                refine lv_dup hx hb (dk_at dkX3_look_6 4 rfl) rfl ?_
                have e56 : A38 5 1 = (A5 5 1) := (rd_at hA38 (by decide)).trans e29
                have e55 : A54 5 1 = (A5 5 1) := (rd_at hA54 (by decide)).trans e56
                refine va_get (D := (dC, dI)) (ci := 3) (v := .int (iI (A54 5 1))) (C := RX3) (T := TX3) (N := 7) hx hb hts hiX3 hown hK hP 5 (wkLX) rfl 1 (by decide) (hts _ (List.mem_cons_of_mem _ wkq_3_55)) (fun _ h9 => h9) rfl (dk_at dkX3_look_6 5 rfl) ?_
                refine tp_i (y := iI (A5 5 1)) (congrArg iI e55) ?_
                refine lv_iconst (v := iI 1) hx hb (dk_at dkX3_look_6 6 rfl) (by decide +kernel) ?_
                refine x_addv (v := (A5 5 1) + 1) hx hb (dk_at dkX3_look_6 7 rfl) (by omega) ?_
                refine k_put (Wf := WK cB cI cJ cZ cQ q) (D := (dC, dI)) (ci := 3) (v := .int (iI ((A5 5 1) + 1))) (ty := .int) (C := RX3) (T := TX3) (N := 7) hx hb hts hiX3 tyX3 tyX3_ok nmX3 hown hK hP hDD hS 5 (wkLX) rfl 1 (by decide) (hts _ (List.mem_cons_of_mem _ wkq_3_55)) (fun _ h9 => h9) rfl (by decide +kernel) rfl rfl (Nat.le_of_ble_eq_true rfl) (dk_at dkX3_look_6 8 rfl) (wfLX_1 (v := (A5 5 1) + 1)) (fun H locs A57 hA57 hP hS => ?_)
                have hI := isLX_1 hA57 hI (show (0 : Int) ≤ (A5 5 1) + 1 ∧ (A5 5 1) + 1 ≤ 1600 from (by omega))
                exact RET _ _ _ _ _ ⟨hk5 _ ⟨0, (u_d_X3_look_5 ⟨A54, hA54, ⟨A57, hA57, rfl⟩⟩)⟩, hI, fk.df (fk.df (fk.df (fk.df (fk.trans (fk.df (fk.rf) hA3 rfl) hj4 rfl rfl) hA28 rfl) hA38 rfl) hA54 rfl) hA57 rfl, trivial⟩ hP hS (dk_at dkX3_look_6 9 rfl)
              refine lv_icmp_lt (tgt := 201) hx hb (dk_at dkX3_look_5 4 rfl) (by decide) (fun c47 => ?_) (fun c47 => ?_)
              · have c47 : z37 < 48 := (i_lt (rb rz37 (by decide) (by decide)) ⟨by decide, by decide⟩).mp c47
                exact J201_48 _ _ _ (fun uq ⟨mm1, hq⟩ => hk4 _ ⟨mm1, (u_d_X3_look_4 (Or.inl ⟨c47, hq⟩))⟩) hP hS (lv_sub hl [0] rfl)
              · have c47 : ¬ z37 < 48 := mt (i_lt (rb rz37 (by decide) (by decide)) ⟨by decide, by decide⟩).mpr c47
                refine lv_aload_n hx hb (dk_at dkX3_look_5 5 rfl) rfl (lv_at hl 0 rfl) ?_
                refine va_get (D := (dC, dI)) (ci := 3) (v := .int (iI (A38 5 4))) (C := RX3) (T := TX3) (N := 7) hx hb hts hiX3 hown hK hP 5 (wkLX) rfl 4 (by decide) (hts _ (List.mem_cons_of_mem _ wkq_4_1)) (fun _ h9 => h9) rfl (dk_at dkX3_look_5 6 rfl) ?_
                refine tp_i (y := iI z37) (congrArg iI e39) ?_
                refine lv_bipush (v := iI 57) hx hb (dk_at dkX3_look_5 7 rfl) (by decide +kernel) ?_
                refine lv_icmp_gt (tgt := 201) hx hb (dk_at dkX3_look_5 8 rfl) (by decide) (fun c49 => ?_) (fun c49 => ?_)
                · have c49 : 57 < z37 := (i_lt ⟨by decide, by decide⟩ (rb rz37 (by decide) (by decide))).mp c49
                  exact J201_48 _ _ _ (fun uq ⟨mm1, hq⟩ => hk4 _ ⟨mm1, (u_d_X3_look_4 (Or.inr ⟨c47, (Or.inl ⟨c49, hq⟩)⟩))⟩) hP hS (lv_sub hl [0] rfl)
                · have c49 : ¬ 57 < z37 := mt (i_lt ⟨by decide, by decide⟩ (rb rz37 (by decide) (by decide))).mpr c49
                  refine lv_aload_n hx hb (dk_at dkX3_look_5 9 rfl) rfl (lv_at hl 0 rfl) ?_
                  refine lv_iconst (v := iI 2) hx hb (dk_at dkX3_look_5 10 rfl) (by decide +kernel) ?_
                  refine lv_bipush (v := iI 48) hx hb (dk_at dkX3_look_5 11 rfl) (by decide +kernel) ?_
                  refine lv_bipush (v := iI 57) hx hb (dk_at dkX3_look_5 12 rfl) (by decide +kernel) ?_
                  refine lv_iconst (v := iI 4) hx hb (dk_at dkX3_look_5 13 rfl) (by decide +kernel) ?_
                  refine k_callv (As := [.int (iI 2), .int (iI 48), .int (iI 57), .int (iI 4)]) (rest := []) ⟨hx, hb, hml, hown, hts⟩ hE (kc_X3_cut l dC dI cB cI cJ cZ cQ aL aS q _ 2 48 57 4 hI ⟨by decide, by decide⟩ ⟨by decide, by decide⟩ ⟨by decide, by decide⟩ ⟨by decide, by decide⟩) (cwV 4 hts (goodVk wkq_4_7 wkq_4_8 wkq_4_9 wkq_4_10 wkq_4_11) rfl rfl rfl (by decide +kernel) ⟨Nat.le_of_ble_eq_true rfl, Nat.le_of_ble_eq_true rfl⟩) hK hDD hA0 hP hS 5 3 (wkLX) rfl rfl hl.1 (Nat.le_of_ble_eq_true rfl) (dk_at dkX3_look_5 14 rfl) (fun A50 H locs hw51 hP hS => ?_)
                  have ghw51 : q_X3_cut 2 48 57 4 A38 A50 := hw51
                  obtain ⟨_, hI, hf52, hw51⟩ := hw51
                  clear hw51
                  refine lv_goto (tgt := 216) hx hb (dk_at dkX3_look_5 15 rfl) (by decide) ?_
                  exact RET _ _ _ _ _ ⟨hk4 _ ⟨0, (u_d_X3_look_4 (Or.inr ⟨c47, (Or.inr ⟨c49, ⟨A50, ghw51, rfl⟩⟩)⟩))⟩, hI, fk.trans (fk.df (fk.df (fk.trans (fk.df (fk.rf) hA3 rfl) hj4 rfl rfl) hA28 rfl) hA38 rfl) hf52 rfl rfl, trivial⟩ hP hS (dk_at dkX3_look_6 9 rfl)
            refine lv_icmp_lt (tgt := 170) hx hb (dk_at dkX3_look_4 5 rfl) (by decide) (fun c40 => ?_) (fun c40 => ?_)
            · have c40 : z37 < 97 := (i_lt (rb rz37 (by decide) (by decide)) ⟨by decide, by decide⟩).mp c40
              exact J170_41 _ _ _ (fun uq ⟨mm1, hq⟩ => hk3 _ ⟨mm1, (u_d_X3_look_3 ⟨A28, hA28, (Or.inr ⟨c31, ⟨z37, gz37.out, ⟨A38, hA38, (Or.inl ⟨c40, hq⟩)⟩⟩⟩)⟩)⟩) hP hS (lv_sub hl [0] rfl)
            · have c40 : ¬ z37 < 97 := mt (i_lt (rb rz37 (by decide) (by decide)) ⟨by decide, by decide⟩).mpr c40
              refine lv_aload_n hx hb (dk_at dkX3_look_4 6 rfl) rfl (lv_at hl 0 rfl) ?_
              refine va_get (D := (dC, dI)) (ci := 3) (v := .int (iI (A38 5 4))) (C := RX3) (T := TX3) (N := 7) hx hb hts hiX3 hown hK hP 5 (wkLX) rfl 4 (by decide) (hts _ (List.mem_cons_of_mem _ wkq_4_1)) (fun _ h9 => h9) rfl (dk_at dkX3_look_4 7 rfl) ?_
              refine tp_i (y := iI z37) (congrArg iI e39) ?_
              refine lv_bipush (v := iI 122) hx hb (dk_at dkX3_look_4 8 rfl) (by decide +kernel) ?_
              refine lv_icmp_gt (tgt := 170) hx hb (dk_at dkX3_look_4 9 rfl) (by decide) (fun c42 => ?_) (fun c42 => ?_)
              · have c42 : 122 < z37 := (i_lt ⟨by decide, by decide⟩ (rb rz37 (by decide) (by decide))).mp c42
                exact J170_41 _ _ _ (fun uq ⟨mm1, hq⟩ => hk3 _ ⟨mm1, (u_d_X3_look_3 ⟨A28, hA28, (Or.inr ⟨c31, ⟨z37, gz37.out, ⟨A38, hA38, (Or.inr ⟨c40, (Or.inl ⟨c42, hq⟩)⟩)⟩⟩⟩)⟩)⟩) hP hS (lv_sub hl [0] rfl)
              · have c42 : ¬ 122 < z37 := mt (i_lt ⟨by decide, by decide⟩ (rb rz37 (by decide) (by decide))).mpr c42
                refine lv_aload_n hx hb (dk_at dkX3_look_4 10 rfl) rfl (lv_at hl 0 rfl) ?_
                refine lv_iconst (v := iI 1) hx hb (dk_at dkX3_look_4 11 rfl) (by decide +kernel) ?_
                refine lv_bipush (v := iI 97) hx hb (dk_at dkX3_look_4 12 rfl) (by decide +kernel) ?_
                refine lv_bipush (v := iI 122) hx hb (dk_at dkX3_look_4 13 rfl) (by decide +kernel) ?_
                refine lv_bipush (v := iI 6) hx hb (dk_at dkX3_look_4 14 rfl) (by decide +kernel) ?_
                refine k_callv (As := [.int (iI 1), .int (iI 97), .int (iI 122), .int (iI 6)]) (rest := []) ⟨hx, hb, hml, hown, hts⟩ hE (kc_X3_cut l dC dI cB cI cJ cZ cQ aL aS q _ 1 97 122 6 hI ⟨by decide, by decide⟩ ⟨by decide, by decide⟩ ⟨by decide, by decide⟩ ⟨by decide, by decide⟩) (cwV 4 hts (goodVk wkq_4_7 wkq_4_8 wkq_4_9 wkq_4_10 wkq_4_11) rfl rfl rfl (by decide +kernel) ⟨Nat.le_of_ble_eq_true rfl, Nat.le_of_ble_eq_true rfl⟩) hK hDD hA0 hP hS 5 3 (wkLX) rfl rfl hl.1 (Nat.le_of_ble_eq_true rfl) (dk_at dkX3_look_4 15 rfl) (fun A43 H locs hw44 hP hS => ?_)
                have ghw44 : q_X3_cut 1 97 122 6 A38 A43 := hw44
                obtain ⟨_, hI, hf45, hw44⟩ := hw44
                clear hw44
                refine lv_goto (tgt := 216) hx hb (dk_at dkX3_look_5 0 rfl) (by decide) ?_
                exact RET _ _ _ _ _ ⟨hk3 _ ⟨0, (u_d_X3_look_3 ⟨A28, hA28, (Or.inr ⟨c31, ⟨z37, gz37.out, ⟨A38, hA38, (Or.inr ⟨c40, (Or.inr ⟨c42, ⟨A43, ghw44, rfl⟩⟩)⟩)⟩⟩⟩)⟩)⟩, hI, fk.trans (fk.df (fk.df (fk.trans (fk.df (fk.rf) hA3 rfl) hj4 rfl rfl) hA28 rfl) hA38 rfl) hf45 rfl rfl, trivial⟩ hP hS (dk_at dkX3_look_6 9 rfl)
        refine lv_icmp_ge (tgt := 84) hx hb (dk_at dkX3_look_0 12 rfl) (by decide) (fun c14 => ?_) (fun c14 => ?_)
        · have c14 : (A 1 1) ≤ (A5 5 1) := (i_le (rb r13 (by decide) (by decide)) (rb r10 (by decide) (by decide))).mp c14
          exact J84_15 _ _ _ (fun uq ⟨mm1, hq⟩ => hk1 _ ⟨mm1 + 1, (u_d_X3_look_1 ⟨gI9.out, (Or.inl ⟨c14, hq⟩)⟩)⟩) hP hS (lv_sub hl [0] rfl)
        · have c14 : ¬ (A 1 1) ≤ (A5 5 1) := mt (i_le (rb r13 (by decide) (by decide)) (rb r10 (by decide) (by decide))).mpr c14
          refine lv_aload_n hx hb (dk_at dkX3_look_0 13 rfl) rfl (lv_at hl 0 rfl) ?_
          refine va_get (D := (dC, dI)) (ci := 3) (v := .int (iI (A5 5 1))) (C := RX3) (T := TX3) (N := 7) hx hb hts hiX3 hown hK hP 5 (wkLX) rfl 1 (by decide) (hts _ (List.mem_cons_of_mem _ wkq_3_55)) (fun _ h9 => h9) rfl (dk_at dkX3_look_0 14 rfl) ?_
          refine lv_sipush (v := iI 1600) hx hb (dk_at dkX3_look_0 15 rfl) (by decide +kernel) ?_
          refine lv_icmp_ge (tgt := 84) hx hb (dk_at dkX3_look_1 0 rfl) (by decide) (fun c16 => False.elim (by have c16 : 1600 ≤ (A5 5 1) := (i_le ⟨by decide, by decide⟩ (rb r10 (by decide) (by decide))).mp c16; omega)) (fun _ => ?_)
          refine lv_aload_n hx hb (dk_at dkX3_look_1 1 rfl) rfl (lv_at hl 0 rfl) ?_
          refine va_get (D := (dC, dI)) (ci := 3) (v := .ref (q 1)) (C := RX3) (T := TX3) (N := 7) hx hb hts hiX3 hown hK hP 5 (wkLX) rfl 0 (by decide) (hts _ (List.mem_cons_of_mem _ wkq_4_3)) (fun _ h9 => h9) rfl (dk_at dkX3_look_1 2 rfl) ?_
          refine va_get (D := (dC, dI)) (ci := 7) (v := .ref (q 2)) (C := RX7) (T := TX7) (N := 2) hx hb hts hiX7 hown hK hP 1 (wkTP) rfl 0 (by decide) (hts _ (List.mem_cons_of_mem _ wkq_4_5)) (fun _ h9 => h9) rfl (dk_at dkX3_look_1 3 rfl) ?_
          refine lv_aload_n hx hb (dk_at dkX3_look_1 4 rfl) rfl (lv_at hl 0 rfl) ?_
          refine va_get (D := (dC, dI)) (ci := 3) (v := .int (iI (A5 5 1))) (C := RX3) (T := TX3) (N := 7) hx hb hts hiX3 hown hK hP 5 (wkLX) rfl 1 (by decide) (hts _ (List.mem_cons_of_mem _ wkq_3_55)) (fun _ h9 => h9) rfl (dk_at dkX3_look_1 5 rfl) ?_
          have a18 : ∀ k, A3 2 k = A 2 k := fun k => rd_ne hA3 (by decide) k
          have a17 : ∀ k, A5 2 k = A 2 k := fun k => (hj4 2 k rfl rfl).trans (a18 k)
          refine k_bald (Wf := WK cB cI cJ cZ cQ q) hx hb hK hP 2 0 (wkTPb) rfl (by omega) (by decide) (dk_at dkX3_look_1 6 rfl) (fun z19 hz19 => ?_)
          have rz19 : (-128 : Int) ≤ z19 ∧ z19 ≤ 127 := by rw [hz19]; exact irTPb hI
          have gz19 := Hd.mk hz19
          have hz19 : z19 = A 2 ((A5 5 1)).toNat := hz19.trans (a17 _)
          refine lv_bipush (v := iI 10) hx hb (dk_at dkX3_look_1 7 rfl) (by decide +kernel) ?_
          have J71_21 : ∀ (H : Heap) (locs : List Loc) (ls : Array Slot), (∀ (u : St), (∃ mm1 : Nat, (d_X3_look_2 (fun A5' => d_X3_look_1 A u mm1 A5') A5 u)) → r_X3_look A u) → va_P (dC, dI) vwCl (WK cB cI cJ cZ cQ q A5) H → va_S AS s.heap H locs → lv_has ls 1 [(0, .ref (q 5))] → W p l e (headSpec ws_kc_X3_look ({ frames := 1, cells := 0, slots := 0, locals := 25 } : Room)).room s m [.ref (q 5)].toArray below meth c H locs 0 0 Q (F0 m 71 ls []) := by
            intro H locs ls hk2 hP hS hl
            refine lv_aload_n hx hb (dk_at dkX3_look_2 1 rfl) rfl (lv_at hl 0 rfl) ?_
            refine lv_dup hx hb (dk_at dkX3_look_2 2 rfl) rfl ?_
            refine va_get (D := (dC, dI)) (ci := 3) (v := .int (iI (A5 5 1))) (C := RX3) (T := TX3) (N := 7) hx hb hts hiX3 hown hK hP 5 (wkLX) rfl 1 (by decide) (hts _ (List.mem_cons_of_mem _ wkq_3_55)) (fun _ h9 => h9) rfl (dk_at dkX3_look_2 3 rfl) ?_
            refine lv_iconst (v := iI 1) hx hb (dk_at dkX3_look_2 4 rfl) (by decide +kernel) ?_
            refine x_addv (v := (A5 5 1) + 1) hx hb (dk_at dkX3_look_2 5 rfl) (by omega) ?_
            refine k_put (Wf := WK cB cI cJ cZ cQ q) (D := (dC, dI)) (ci := 3) (v := .int (iI ((A5 5 1) + 1))) (ty := .int) (C := RX3) (T := TX3) (N := 7) hx hb hts hiX3 tyX3 tyX3_ok nmX3 hown hK hP hDD hS 5 (wkLX) rfl 1 (by decide) (hts _ (List.mem_cons_of_mem _ wkq_3_55)) (fun _ h9 => h9) rfl (by decide +kernel) rfl rfl (Nat.le_of_ble_eq_true rfl) (dk_at dkX3_look_2 6 rfl) (wfLX_1 (v := (A5 5 1) + 1)) (fun H locs A25 hA25 hP hS => ?_)
            have hI := isLX_1 hA25 hI (show (0 : Int) ≤ (A5 5 1) + 1 ∧ (A5 5 1) + 1 ≤ 1600 from (by omega))
            refine lv_goto (tgt := 13) hx hb (dk_at dkX3_look_2 7 rfl) (by decide) ?_
            have e26 : A25 5 1 = (A5 5 1) + 1 := rd_is hA25
            exact ih7 _ (by omega) _ _ _ _ (fun uq ⟨mm1, hq⟩ => hk2 _ ⟨mm1, (u_d_X3_look_2 ⟨A25, hA25, hq⟩)⟩) rfl hI (fk.df (fk.trans (fk.rf) hj4 rfl rfl) hA25 rfl) hP hS (lv_sub hl [0] rfl)
          refine lv_icmp_eq (tgt := 71) hx hb (dk_at dkX3_look_1 8 rfl) (by decide) (fun c20 => ?_) (fun c20 => ?_)
          · have c20 : z19 = 10 := (i_eq (rb rz19 (by decide) (by decide)) ⟨by decide, by decide⟩).mp c20
            exact J71_21 _ _ _ (fun uq ⟨mm1, hq⟩ => hk1 _ ⟨mm1 + 1, (u_d_X3_look_1 ⟨gI9.out, (Or.inr ⟨c14, ⟨z19, gz19.out, (Or.inl ⟨c20, hq⟩)⟩⟩)⟩)⟩) hP hS (lv_sub hl [0] rfl)
          · have c20 : ¬ z19 = 10 := mt (i_eq (rb rz19 (by decide) (by decide)) ⟨by decide, by decide⟩).mpr c20
            refine lv_aload_n hx hb (dk_at dkX3_look_1 9 rfl) rfl (lv_at hl 0 rfl) ?_
            refine va_get (D := (dC, dI)) (ci := 3) (v := .ref (q 1)) (C := RX3) (T := TX3) (N := 7) hx hb hts hiX3 hown hK hP 5 (wkLX) rfl 0 (by decide) (hts _ (List.mem_cons_of_mem _ wkq_4_3)) (fun _ h9 => h9) rfl (dk_at dkX3_look_1 10 rfl) ?_
            refine va_get (D := (dC, dI)) (ci := 7) (v := .ref (q 2)) (C := RX7) (T := TX7) (N := 2) hx hb hts hiX7 hown hK hP 1 (wkTP) rfl 0 (by decide) (hts _ (List.mem_cons_of_mem _ wkq_4_5)) (fun _ h9 => h9) rfl (dk_at dkX3_look_1 11 rfl) ?_
            refine lv_aload_n hx hb (dk_at dkX3_look_1 12 rfl) rfl (lv_at hl 0 rfl) ?_
            refine va_get (D := (dC, dI)) (ci := 3) (v := .int (iI (A5 5 1))) (C := RX3) (T := TX3) (N := 7) hx hb hts hiX3 hown hK hP 5 (wkLX) rfl 1 (by decide) (hts _ (List.mem_cons_of_mem _ wkq_3_55)) (fun _ h9 => h9) rfl (dk_at dkX3_look_1 13 rfl) ?_
            refine k_bald (Wf := WK cB cI cJ cZ cQ q) hx hb hK hP 2 0 (wkTPb) rfl (by omega) (by decide) (dk_at dkX3_look_1 14 rfl) (fun z22 hz22 => ?_)
            have rz22 : (-128 : Int) ≤ z22 ∧ z22 ≤ 127 := by rw [hz22]; exact irTPb hI
            have gz22 := Hd.mk hz22
            have hz22 : z22 = A 2 ((A5 5 1)).toNat := hz22.trans (a17 _)
            have ez22 : z22 = z19 := hz22.trans hz19.symm
            refine tp_i (y := iI z19) (congrArg iI ez22) ?_
            refine lv_bipush (v := iI 32) hx hb (dk_at dkX3_look_1 15 rfl) (by decide +kernel) ?_
            refine lv_icmp_ne (tgt := 84) hx hb (dk_at dkX3_look_2 0 rfl) (by decide) (fun c23 => ?_) (fun c23 => ?_)
            · have c23 : ¬ z19 = 32 := mt (i_eq (rb rz19 (by decide) (by decide)) ⟨by decide, by decide⟩).mpr c23
              exact J84_15 _ _ _ (fun uq ⟨mm1, hq⟩ => hk1 _ ⟨mm1 + 1, (u_d_X3_look_1 ⟨gI9.out, (Or.inr ⟨c14, ⟨z19, gz19.out, (Or.inr ⟨c20, (Or.inl ⟨c23, hq⟩)⟩)⟩⟩)⟩)⟩) hP hS (lv_sub hl [0] rfl)
            · have c23 : z19 = 32 := (i_eq (rb rz19 (by decide) (by decide)) ⟨by decide, by decide⟩).mp c23
              exact J71_21 _ _ _ (fun uq ⟨mm1, hq⟩ => hk1 _ ⟨mm1 + 1, (u_d_X3_look_1 ⟨gI9.out, (Or.inr ⟨c14, ⟨z19, gz19.out, (Or.inr ⟨c20, (Or.inr ⟨c23, hq⟩)⟩)⟩⟩)⟩)⟩) hP hS (lv_sub hl [0] rfl)
    have e58 : A3 5 1 = (A 5 1) := (rd_at hA3 (by decide))
    have r59 : (0 : Int) ≤ (A 5 1) ∧ (A 5 1) ≤ 1600 := by rw [← e58]; exact irLX_1 hI
    exact L13_6 _ _ _ _ _ (fun uq ⟨mm1, hq⟩ => (u_r_X3_look (Or.inl ⟨c2, ⟨A3, hA3, ⟨mm1, hq⟩⟩⟩))) rfl hI (fk.rf) hP hS (lv_sub hl [0] rfl)
  · have c2 : ¬ (A 5 6) = 0 := mt (i_eq0 (rb r1 (by decide) (by decide))).mpr c2
    exact RET _ _ _ _ _ ⟨(u_r_X3_look (Or.inr ⟨c2, rfl⟩)), hI, fk.rf, trivial⟩ hP hS (dk_at dkX3_look_0 3 rfl)

abbrev tr_r_X4_put (x1 : Int) (A : St) (u : St) : Prop := (((36 ≤ (A 30 2)) ∧ (u = A)) ∨ ((¬ 36 ≤ (A 30 2)) ∧ (∃ A4 : St, A4 = stA A 31 ((A 30 2)).toNat x1 ∧ (∃ A6 : St, A6 = stA A4 30 2 ((A 30 2) + 1) ∧ (u = A6)))))
def r_X4_put (x1 : Int) (A : St) (u : St) : Prop := tr_r_X4_put x1 A u
theorem u_r_X4_put {x1 : Int} {A : St} {u : St} (h : tr_r_X4_put x1 A u) : r_X4_put x1 A u := h
def q_X4_put (x1 : Int) (A : St) (u : St) : Prop := r_X4_put x1 A u ∧ IK u ∧ fk [31] [(30, 2)] A u ∧ (True)
def ws_kc_X4_put : List Cond := .code yX4_put cX4_put 2 none :: WY
set_option maxHeartbeats 4000000 in
set_option maxRecDepth 100000 in
theorem kc_X4_put (l : Launch) (dC : Nat → ClassId) (dI : Nat → Nat → Nat) (cB cI cJ cZ cQ : ClassId) (aL aS : Nat) (q : Nat → Nat) (A : St) (x1 : Int) (hI : IK A) (hx1 : (-2147483648 : Int) ≤ x1 ∧ x1 ≤ 2147483647) : KMv l yX4_put ws_kc_X4_put ({ frames := 0, cells := 0, slots := 0, locals := 0 } : Room) aL aS (dC, dI) (tyA cB cI cJ cZ cQ) (WK cB cI cJ cZ cQ q) A [.ref (q 30), .int (iI x1)] (fun u => r_X4_put x1 A u ∧ IK u ∧ fk [31] [(30, 2)] A u ∧ (True)) := by
  refine k_metv (cc := cX4_put) (maxL := 2) WK_adr (plainFor_of_name (by decide +kernel)) rfl (Nat.le_of_ble_eq_true rfl) (fun p e s m below meth c Q AS ls hx hb hml hown hts hK hDD hA0 hE RET H locs hP hS hl => ?_)
  have hown : s.vm.findClass RX4 = some m.cls := hown
  have hl : lv_has ls 2 [(0, .ref (q 30)), (1, .int (iI x1))] := hl
  have hiX4 : ∀ w ∈ u_ws RX4 TX4 3, w ∈ ws_kc_X4_put := fun w h => List.mem_cons_of_mem _ (wy_layX4 w h)
  refine lv_aload_n hx hb (dk_at dkX4_put_0 0 rfl) rfl (lv_at hl 0 rfl) ?_
  have r1 : (0 : Int) ≤ (A 30 2) ∧ (A 30 2) ≤ 36 := irPC_2 hI
  refine va_get (D := (dC, dI)) (ci := 4) (v := .int (iI (A 30 2))) (C := RX4) (T := TX4) (N := 3) hx hb hts hiX4 hown hK hP 30 (wkPC) rfl 2 (by decide) (hts _ (List.mem_cons_of_mem _ wkq_4_13)) (fun _ h9 => h9) rfl (dk_at dkX4_put_0 1 rfl) ?_
  refine lv_if_lt (tgt := 36) hx hb (dk_at dkX4_put_0 2 rfl) (by decide) (fun c2 => False.elim (by have c2 : (A 30 2) < 0 := (i_lt0 (rb r1 (by decide) (by decide))).mp c2; omega)) (fun _ => ?_)
  refine lv_aload_n hx hb (dk_at dkX4_put_0 3 rfl) rfl (lv_at hl 0 rfl) ?_
  refine va_get (D := (dC, dI)) (ci := 4) (v := .int (iI (A 30 2))) (C := RX4) (T := TX4) (N := 3) hx hb hts hiX4 hown hK hP 30 (wkPC) rfl 2 (by decide) (hts _ (List.mem_cons_of_mem _ wkq_4_13)) (fun _ h9 => h9) rfl (dk_at dkX4_put_0 4 rfl) ?_
  refine lv_bipush (v := iI 36) hx hb (dk_at dkX4_put_0 5 rfl) (by decide +kernel) ?_
  refine lv_icmp_ge (tgt := 36) hx hb (dk_at dkX4_put_0 6 rfl) (by decide) (fun c3 => ?_) (fun c3 => ?_)
  · have c3 : 36 ≤ (A 30 2) := (i_le ⟨by decide, by decide⟩ (rb r1 (by decide) (by decide))).mp c3
    exact RET _ _ _ _ _ ⟨(u_r_X4_put (Or.inl ⟨c3, rfl⟩)), hI, fk.rf, trivial⟩ hP hS (dk_at dkX4_put_1 3 rfl)
  · have c3 : ¬ 36 ≤ (A 30 2) := mt (i_le ⟨by decide, by decide⟩ (rb r1 (by decide) (by decide))).mpr c3
    refine lv_aload_n hx hb (dk_at dkX4_put_0 7 rfl) rfl (lv_at hl 0 rfl) ?_
    refine va_get (D := (dC, dI)) (ci := 4) (v := .ref (q 31)) (C := RX4) (T := TX4) (N := 3) hx hb hts hiX4 hown hK hP 30 (wkPC) rfl 0 (by decide) (hts _ (List.mem_cons_of_mem _ wkq_4_19)) (fun _ h9 => h9) rfl (dk_at dkX4_put_0 8 rfl) ?_
    refine lv_aload_n hx hb (dk_at dkX4_put_0 9 rfl) rfl (lv_at hl 0 rfl) ?_
    refine va_get (D := (dC, dI)) (ci := 4) (v := .int (iI (A 30 2))) (C := RX4) (T := TX4) (N := 3) hx hb hts hiX4 hown hK hP 30 (wkPC) rfl 2 (by decide) (hts _ (List.mem_cons_of_mem _ wkq_4_13)) (fun _ h9 => h9) rfl (dk_at dkX4_put_0 10 rfl) ?_
    refine lv_iload_n hx hb (dk_at dkX4_put_0 11 rfl) rfl (lv_at hl 1 rfl) ?_
    refine k_iast (Wf := WK cB cI cJ cZ cQ q) hx hb hK hP hDD hS 31 1 (wkPCb) rfl (by omega) (by decide) (dk_at dkX4_put_0 12 rfl) (wsPCb) (fun H locs A4 hA4 hP hS => ?_)
    have hI := isPCb hA4 hI (show (-2147483648 : Int) ≤ x1 ∧ x1 ≤ 2147483647 from hx1)
    refine lv_aload_n hx hb (dk_at dkX4_put_0 13 rfl) rfl (lv_at hl 0 rfl) ?_
    refine lv_dup hx hb (dk_at dkX4_put_0 14 rfl) rfl ?_
    have e5 : A4 30 2 = (A 30 2) := (rd_ne hA4 (by decide) 2)
    refine va_get (D := (dC, dI)) (ci := 4) (v := .int (iI (A4 30 2))) (C := RX4) (T := TX4) (N := 3) hx hb hts hiX4 hown hK hP 30 (wkPC) rfl 2 (by decide) (hts _ (List.mem_cons_of_mem _ wkq_4_13)) (fun _ h9 => h9) rfl (dk_at dkX4_put_0 15 rfl) ?_
    refine tp_i (y := iI (A 30 2)) (congrArg iI e5) ?_
    refine lv_iconst (v := iI 1) hx hb (dk_at dkX4_put_1 0 rfl) (by decide +kernel) ?_
    refine x_addv (v := (A 30 2) + 1) hx hb (dk_at dkX4_put_1 1 rfl) (by omega) ?_
    refine k_put (Wf := WK cB cI cJ cZ cQ q) (D := (dC, dI)) (ci := 4) (v := .int (iI ((A 30 2) + 1))) (ty := .int) (C := RX4) (T := TX4) (N := 3) hx hb hts hiX4 tyX4 tyX4_ok nmX4 hown hK hP hDD hS 30 (wkPC) rfl 2 (by decide) (hts _ (List.mem_cons_of_mem _ wkq_4_13)) (fun _ h9 => h9) rfl (by decide +kernel) rfl rfl (Nat.le_of_ble_eq_true rfl) (dk_at dkX4_put_1 2 rfl) (wfPC_2 (v := (A 30 2) + 1)) (fun H locs A6 hA6 hP hS => ?_)
    have hI := isPC_2 hA6 hI (show (0 : Int) ≤ (A 30 2) + 1 ∧ (A 30 2) + 1 ≤ 36 from (by omega))
    exact RET _ _ _ _ _ ⟨(u_r_X4_put (Or.inr ⟨c3, ⟨A4, hA4, ⟨A6, hA6, rfl⟩⟩⟩)), hI, fk.df (fk.da (fk.rf) hA4 rfl) hA6 rfl, trivial⟩ hP hS (dk_at dkX4_put_1 3 rfl)

abbrev tr_r_X4_summed (x1 : Int) (x2 : Int) (A : St) (z : Int) : Prop := (∃ z1 : Int, z1 = oWrap (3 * x1) ∧ (∃ z2 : Int, z2 = oWrap (z1 + x2) ∧ (∃ z3 : Int, z3 = oRem z2 233 ∧ (z = z3))))
def r_X4_summed (x1 : Int) (x2 : Int) (A : St) (z : Int) : Prop := tr_r_X4_summed x1 x2 A z
theorem u_r_X4_summed {x1 : Int} {x2 : Int} {A : St} {z : Int} (h : tr_r_X4_summed x1 x2 A z) : r_X4_summed x1 x2 A z := h
def q_X4_summed (x1 : Int) (x2 : Int) (A : St) (z : Int) : Prop := r_X4_summed x1 x2 A z ∧ (-2147483648 ≤ z ∧ z ≤ 2147483647)
def ws_kc_X4_summed : List Cond := .code yX4_summed cX4_summed 2 (some .int) :: WY
set_option maxHeartbeats 4000000 in
set_option maxRecDepth 100000 in
theorem kc_X4_summed (l : Launch) (dC : Nat → ClassId) (dI : Nat → Nat → Nat) (cB cI cJ cZ cQ : ClassId) (aL aS : Nat) (q : Nat → Nat) (A : St) (x1 x2 : Int) (hI : IK A) (hx1 : (-2147483648 : Int) ≤ x1 ∧ x1 ≤ 2147483647) (hx2 : (-2147483648 : Int) ≤ x2 ∧ x2 ≤ 2147483647) : KMi l yX4_summed ws_kc_X4_summed ({ frames := 0, cells := 0, slots := 0, locals := 0 } : Room) aL aS (dC, dI) (tyA cB cI cJ cZ cQ) (WK cB cI cJ cZ cQ q) A [.int (iI x1), .int (iI x2)] (fun z u => A = u ∧ r_X4_summed x1 x2 A z ∧ (-2147483648 ≤ z ∧ z ≤ 2147483647)) := by
  refine k_meti (cc := cX4_summed) (maxL := 2) WK_adr (plainFor_of_name (by decide +kernel)) rfl (Nat.le_of_ble_eq_true rfl) (fun p e s m below meth c Q AS ls hx hb hml hown hts hK hDD hA0 hE RET H locs hP hS hl => ?_)
  have hown : s.vm.findClass RX4 = some m.cls := hown
  have hl : lv_has ls 2 [(0, .int (iI x1)), (1, .int (iI x2))] := hl
  refine lv_iconst (v := iI 3) hx hb (dk_at dkX4_summed_0 0 rfl) (by decide +kernel) ?_
  refine lv_iload_n hx hb (dk_at dkX4_summed_0 1 rfl) rfl (lv_at hl 0 rfl) ?_
  refine x_mulv (v := 3 * x1) hx hb (dk_at dkX4_summed_0 2 rfl) (by omega) ?_
  refine x_absE (fun z1 gz1 hz1 => ?_)
  refine lv_iload_n hx hb (dk_at dkX4_summed_0 3 rfl) rfl (lv_at hl 1 rfl) ?_
  refine x_addv (v := z1 + x2) hx hb (dk_at dkX4_summed_0 4 rfl) (by omega) ?_
  refine x_absE (fun z2 gz2 hz2 => ?_)
  refine lv_sipush (v := iI 233) hx hb (dk_at dkX4_summed_0 5 rfl) (by decide +kernel) ?_
  refine lv_irem hx hb (dk_at dkX4_summed_0 6 rfl) (by decide +kernel) ?_
  refine x_absE (fun z3 gz3 hz3 => ?_)
  exact RET z3 _ _ _ _ _ ⟨rfl, (u_r_X4_summed ⟨z1, gz1.out, ⟨z2, gz2.out, ⟨z3, gz3.out, rfl⟩⟩⟩), hz3⟩ hP hS (dk_at dkX4_summed_0 7 rfl)

abbrev tr_d_X4_write_3 (A19 : St) (z : Int) (u : St) (K3 : Int → Int → Prop) (z30 : Int) (z31 : Int) : Prop := ((0 ≤ z30 ∧ z30 ≤ 2147483647) ∧ ((-2147483648 ≤ z31 ∧ z31 ≤ 2147483647) ∧ ((((A19 30 2) ≤ z30) ∧ (∃ A47 : St, q_X4_put z31 A19 A47 ∧ (z = (A47 30 2) ∧ u = A47))) ∨ ((¬ (A19 30 2) ≤ z30) ∧ (∃ z43 : Int, z43 = A19 31 (z30).toNat ∧ (∃ z44 : Int, q_X4_summed z31 z43 A19 z44 ∧ (K3 (z30 + 1) z44)))))))
def d_X4_write_3 (A19 : St) (z : Int) (u : St) : Nat → Int → Int → Prop
  | 0, _, _ => False
  | nn9 + 1, z30, z31 => tr_d_X4_write_3 A19 z u (fun z30 z31 => d_X4_write_3 A19 z u nn9 z30 z31) z30 z31
theorem u_d_X4_write_3 {A19 : St} {z : Int} {u : St} {nn9 : Nat} {z30 : Int} {z31 : Int} (h : tr_d_X4_write_3 A19 z u (fun z30 z31 => d_X4_write_3 A19 z u nn9 z30 z31) z30 z31) : d_X4_write_3 A19 z u (nn9 + 1) z30 z31 := h
abbrev tr_d_X4_write_4 (K2 : Int → St → Prop) (ta : Nat) (z17 : Int) (z62 : Int) (z : Int) (u : St) (K4 : Int → St → Prop) (z66 : Int) (A68 : St) : Prop := ((IK A68) ∧ ((0 ≤ z66 ∧ z66 ≤ 2147483647) ∧ (((z62 ≤ z66) ∧ (K2 (z17 + 1) A68)) ∨ ((¬ z62 ≤ z66) ∧ (∃ z81 : Int, q_X6_inRow (ta + 22) z17 z66 A68 z81 ∧ (∃ A84 : St, q_X4_put z81 A68 A84 ∧ (K4 (z66 + 1) A84)))))))
def d_X4_write_4 (K2 : Int → St → Prop) (ta : Nat) (z17 : Int) (z62 : Int) (z : Int) (u : St) : Nat → Int → St → Prop
  | 0, _, _ => False
  | nn9 + 1, z66, A68 => tr_d_X4_write_4 K2 ta z17 z62 z u (fun z66 A68 => d_X4_write_4 K2 ta z17 z62 z u nn9 z66 A68) z66 A68
theorem u_d_X4_write_4 {K2 : Int → St → Prop} {ta : Nat} {z17 : Int} {z62 : Int} {z : Int} {u : St} {nn9 : Nat} {z66 : Int} {A68 : St} (h : tr_d_X4_write_4 K2 ta z17 z62 z u (fun z66 A68 => d_X4_write_4 K2 ta z17 z62 z u nn9 z66 A68) z66 A68) : d_X4_write_4 K2 ta z17 z62 z u (nn9 + 1) z66 A68 := h
abbrev tr_d_X4_write_2 (ta : Nat) (z : Int) (u : St) (K2 : Int → St → Prop) (z17 : Int) (A19 : St) : Prop := ((IK A19) ∧ ((0 ≤ z17 ∧ z17 ≤ 2147483647) ∧ (∃ z28 : Int, z28 = A19 (ta + 1) (2 : Int).toNat ∧ (((z28 ≤ z17) ∧ (∃ nn9 : Nat, d_X4_write_3 A19 z u nn9 0 19)) ∨ ((¬ z28 ≤ z17) ∧ (∃ z54 : Int, z54 = A19 ((ta + 22) + 2) (z17).toNat ∧ (∃ A55 : St, q_X4_put z54 A19 A55 ∧ (∃ z62 : Int, z62 = A55 ((ta + 22) + 3) (z17).toNat ∧ (∃ A63 : St, q_X4_put z62 A55 A63 ∧ (∃ nn9 : Nat, d_X4_write_4 K2 ta z17 z62 z u nn9 0 A63))))))))))
def d_X4_write_2 (ta : Nat) (z : Int) (u : St) : Nat → Int → St → Prop
  | 0, _, _ => False
  | nn9 + 1, z17, A19 => tr_d_X4_write_2 ta z u (fun z17 A19 => d_X4_write_2 ta z u nn9 z17 A19) z17 A19
theorem u_d_X4_write_2 {ta : Nat} {z : Int} {u : St} {nn9 : Nat} {z17 : Int} {A19 : St} (h : tr_d_X4_write_2 ta z u (fun z17 A19 => d_X4_write_2 ta z u nn9 z17 A19) z17 A19) : d_X4_write_2 ta z u (nn9 + 1) z17 A19 := h
abbrev tr_d_X4_write_1 (ta : Nat) (z : Int) (u : St) (K1 : Int → St → Prop) (z2 : Int) (A4 : St) : Prop := ((IK A4) ∧ ((0 ≤ z2 ∧ z2 ≤ 2147483647) ∧ (∃ z15 : Int, z15 = A4 (ta + 1) (3 : Int).toNat ∧ (((z15 ≤ z2) ∧ (∃ nn9 : Nat, d_X4_write_2 ta z u nn9 0 A4)) ∨ ((¬ z15 ≤ z2) ∧ (∃ z89 : Int, z89 = A4 ((ta + 22) + 1) (z2).toNat ∧ (∃ A90 : St, q_X4_put z89 A4 A90 ∧ (K1 (z2 + 1) A90))))))))
def d_X4_write_1 (ta : Nat) (z : Int) (u : St) : Nat → Int → St → Prop
  | 0, _, _ => False
  | nn9 + 1, z2, A4 => tr_d_X4_write_1 ta z u (fun z2 A4 => d_X4_write_1 ta z u nn9 z2 A4) z2 A4
theorem u_d_X4_write_1 {ta : Nat} {z : Int} {u : St} {nn9 : Nat} {z2 : Int} {A4 : St} (h : tr_d_X4_write_1 ta z u (fun z2 A4 => d_X4_write_1 ta z u nn9 z2 A4) z2 A4) : d_X4_write_1 ta z u (nn9 + 1) z2 A4 := h
abbrev tr_r_X4_write (ta : Nat) (A : St) (z : Int) (u : St) : Prop := (∃ A1 : St, A1 = stA A 30 2 0 ∧ (∃ nn9 : Nat, d_X4_write_1 ta z u nn9 0 A1))
def r_X4_write (ta : Nat) (A : St) (z : Int) (u : St) : Prop := tr_r_X4_write ta A z u
theorem u_r_X4_write {ta : Nat} {A : St} {z : Int} {u : St} (h : tr_r_X4_write ta A z u) : r_X4_write ta A z u := h
def q_X4_write (ta : Nat) (A : St) (z : Int) (u : St) : Prop := r_X4_write ta A z u ∧ IK u ∧ fk [31] [(30, 2)] A u ∧ (-2147483648 ≤ z ∧ z ≤ 2147483647)
def ws_kc_X4_write : List Cond := .code yX4_write cX4_write 4 (some .int) :: WY
set_option maxHeartbeats 4000000 in
set_option maxRecDepth 100000 in
theorem kc_X4_write (l : Launch) (dC : Nat → ClassId) (dI : Nat → Nat → Nat) (cB cI cJ cZ cQ : ClassId) (aL aS : Nat) (q : Nat → Nat) (A : St) (ta : Nat) (hI : IK A) (hta : isT ta) : KMi l yX4_write ws_kc_X4_write ({ frames := 1, cells := 0, slots := 0, locals := 22 } : Room) aL aS (dC, dI) (tyA cB cI cJ cZ cQ) (WK cB cI cJ cZ cQ q) A [.ref (q 30), .ref (q ta)] (fun z u => r_X4_write ta A z u ∧ IK u ∧ fk [31] [(30, 2)] A u ∧ (-2147483648 ≤ z ∧ z ≤ 2147483647)) := by
  refine k_meti (cc := cX4_write) (maxL := 4) WK_adr (plainFor_of_name (by decide +kernel)) rfl (Nat.le_of_ble_eq_true rfl) (fun p e s m below meth c Q AS ls hx hb hml hown hts hK hDD hA0 hE RET H locs hP hS hl => ?_)
  have hown : s.vm.findClass RX4 = some m.cls := hown
  have hl : lv_has ls 4 [(0, .ref (q 30)), (1, .ref (q ta))] := hl
  have hiX4 : ∀ w ∈ u_ws RX4 TX4 3, w ∈ ws_kc_X4_write := fun w h => List.mem_cons_of_mem _ (wy_layX4 w h)
  have hiX9 : ∀ w ∈ u_ws RX9 TX9 16, w ∈ ws_kc_X4_write := fun w h => List.mem_cons_of_mem _ (wy_layX9 w h)
  have hiX6 : ∀ w ∈ u_ws RX6 TX6 4, w ∈ ws_kc_X4_write := fun w h => List.mem_cons_of_mem _ (wy_layX6 w h)
  refine lv_aload_n hx hb (dk_at dkX4_write_0 0 rfl) rfl (lv_at hl 0 rfl) ?_
  refine lv_iconst (v := iI 0) hx hb (dk_at dkX4_write_0 1 rfl) (by decide +kernel) ?_
  refine k_put (Wf := WK cB cI cJ cZ cQ q) (D := (dC, dI)) (ci := 4) (v := .int (iI 0)) (ty := .int) (C := RX4) (T := TX4) (N := 3) hx hb hts hiX4 tyX4 tyX4_ok nmX4 hown hK hP hDD hS 30 (wkPC) rfl 2 (by decide) (hts _ (List.mem_cons_of_mem _ wkq_4_13)) (fun _ h9 => h9) rfl (by decide +kernel) rfl rfl (Nat.le_of_ble_eq_true rfl) (dk_at dkX4_write_0 2 rfl) (wfPC_2 (v := 0)) (fun H locs A1 hA1 hP hS => ?_)
  have hI := isPC_2 hA1 hI (show (0 : Int) ≤ 0 ∧ 0 ≤ 36 from ⟨by decide, by decide⟩)
  refine lv_iconst (v := iI 0) hx hb (dk_at dkX4_write_0 3 rfl) (by decide +kernel) ?_
  refine lv_istore_n (lv' := [(2, .int (iI 0)), (0, .ref (q 30)), (1, .ref (q ta))]) hx hb (dk_at dkX4_write_0 4 rfl) rfl hl (by decide) rfl (fun ls hl => ?_)
  have L7_5 : ∀ (n11 : Nat) (z2 : Int) (A4 : St) (H : Heap) (locs : List Loc) (ls : Array Slot), (0 ≤ z2 ∧ z2 ≤ 2147483647) → (∀ (z : Int) (u : St), (∃ mm1 : Nat, (d_X4_write_1 ta z u mm1 z2 A4)) → r_X4_write ta A z u) → ((4 - z2).toNat = n11) → IK A4 → fk [31] [(30, 2)] A1 A4 → va_P (dC, dI) vwCl (WK cB cI cJ cZ cQ q A4) H → va_S AS s.heap H locs → lv_has ls 4 [(2, .int (iI z2)), (0, .ref (q 30)), (1, .ref (q ta))] → W p l e (headSpec ws_kc_X4_write ({ frames := 1, cells := 0, slots := 0, locals := 22 } : Room)).room s m [.ref (q 30), .ref (q ta)].toArray below meth c H locs 0 0 Q (F0 m 7 ls []) := by
    intro n11
    induction n11 using Nat.strongRecOn with
    | ind n11 ih6 =>
      intro z2 A4 H locs ls f7 hk1 hn11 hI hj3 hP hS hl
      have gI12 : Hd (IK A4) := Hd.mk hI
      refine lv_iload_n hx hb (dk_at dkX4_write_0 5 rfl) rfl (lv_at hl 0 rfl) ?_
      refine lv_aload_n hx hb (dk_at dkX4_write_0 6 rfl) rfl (lv_at hl 2 rfl) ?_
      refine va_get (D := (dC, dI)) (ci := 9) (v := .ref (q (ta + 1))) (C := RX9) (T := TX9) (N := 16) hx hb hts hiX9 hown hK hP ta (wkT hta) rfl 0 (by decide) (hts _ (List.mem_cons_of_mem _ wkq_4_14)) (fun _ h9 => h9) rfl (dk_at dkX4_write_0 7 rfl) ?_
      refine lv_iconst (v := iI 3) hx hb (dk_at dkX4_write_0 8 rfl) (by decide +kernel) ?_
      have a14 : ∀ k, A1 (ta + 1) k = A (ta + 1) k := fun k => rd_ne hA1 (by rcases hta with h | h <;> omega) k
      have a13 : ∀ k, A4 (ta + 1) k = A (ta + 1) k := fun k => (hj3 (ta + 1) k (isT.b2 (o := fun b => List.contains [31] (b + 1)) hta rfl rfl) (isT.b2 (o := fun b => fin2 [(30, 2)] (b + 1) k) hta rfl rfl)).trans (a14 k)
      refine x_iald (Wf := WK cB cI cJ cZ cQ q) hx hb hK hP (ta + 1) 1 (wkTc hta) rfl (by decide) (by decide) (dk_at dkX4_write_0 9 rfl) (fun z15 hz15 => ?_)
      have rz15 : (0 : Int) ≤ z15 ∧ z15 ≤ 3 := by rw [hz15]; exact irTc3 hta hI
      have gz15 := Hd.mk hz15
      have hz15 : z15 = A (ta + 1) (3 : Int).toNat := hz15.trans (a13 _)
      refine lv_icmp_ge (tgt := 36) hx hb (dk_at dkX4_write_0 10 rfl) (by decide) (fun c16 => ?_) (fun c16 => ?_)
      · have c16 : z15 ≤ z2 := (i_le (rb rz15 (by decide) (by decide)) (rb f7 (by decide) (by decide))).mp c16
        refine lv_iconst (v := iI 0) hx hb (dk_at dkX4_write_1 4 rfl) (by decide +kernel) ?_
        refine lv_istore_n (lv' := [(2, .int (iI 0)), (0, .ref (q 30)), (1, .ref (q ta))]) hx hb (dk_at dkX4_write_1 5 rfl) rfl hl (by decide) rfl (fun ls hl => ?_)
        have L38_20 : ∀ (n25 : Nat) (z17 : Int) (A19 : St) (H : Heap) (locs : List Loc) (ls : Array Slot), (0 ≤ z17 ∧ z17 ≤ 2147483647) → (∀ (z : Int) (u : St), (∃ mm1 mm2 : Nat, (d_X4_write_2 ta z u mm2 z17 A19)) → r_X4_write ta A z u) → ((5 - z17).toNat = n25) → IK A19 → fk [31] [(30, 2)] A4 A19 → va_P (dC, dI) vwCl (WK cB cI cJ cZ cQ q A19) H → va_S AS s.heap H locs → lv_has ls 4 [(2, .int (iI z17)), (0, .ref (q 30)), (1, .ref (q ta))] → W p l e (headSpec ws_kc_X4_write ({ frames := 1, cells := 0, slots := 0, locals := 22 } : Room)).room s m [.ref (q 30), .ref (q ta)].toArray below meth c H locs 0 0 Q (F0 m 38 ls []) := by
          intro n25
          induction n25 using Nat.strongRecOn with
          | ind n25 ih21 =>
            intro z17 A19 H locs ls f22 hk2 hn25 hI hj18 hP hS hl
            have gI26 : Hd (IK A19) := Hd.mk hI
            refine lv_iload_n hx hb (dk_at dkX4_write_1 6 rfl) rfl (lv_at hl 0 rfl) ?_
            refine lv_aload_n hx hb (dk_at dkX4_write_1 7 rfl) rfl (lv_at hl 2 rfl) ?_
            refine va_get (D := (dC, dI)) (ci := 9) (v := .ref (q (ta + 1))) (C := RX9) (T := TX9) (N := 16) hx hb hts hiX9 hown hK hP ta (wkT hta) rfl 0 (by decide) (hts _ (List.mem_cons_of_mem _ wkq_4_14)) (fun _ h9 => h9) rfl (dk_at dkX4_write_1 8 rfl) ?_
            refine lv_iconst (v := iI 2) hx hb (dk_at dkX4_write_1 9 rfl) (by decide +kernel) ?_
            have a27 : ∀ k, A19 (ta + 1) k = A (ta + 1) k := fun k => (hj18 (ta + 1) k (isT.b2 (o := fun b => List.contains [31] (b + 1)) hta rfl rfl) (isT.b2 (o := fun b => fin2 [(30, 2)] (b + 1) k) hta rfl rfl)).trans (a13 k)
            refine x_iald (Wf := WK cB cI cJ cZ cQ q) hx hb hK hP (ta + 1) 1 (wkTc hta) rfl (by decide) (by decide) (dk_at dkX4_write_1 10 rfl) (fun z28 hz28 => ?_)
            have rz28 : (0 : Int) ≤ z28 ∧ z28 ≤ 4 := by rw [hz28]; exact irTc2 hta hI
            have gz28 := Hd.mk hz28
            have hz28 : z28 = A (ta + 1) (2 : Int).toNat := hz28.trans (a27 _)
            refine lv_icmp_ge (tgt := 114) hx hb (dk_at dkX4_write_1 11 rfl) (by decide) (fun c29 => ?_) (fun c29 => ?_)
            · have c29 : z28 ≤ z17 := (i_le (rb rz28 (by decide) (by decide)) (rb f22 (by decide) (by decide))).mp c29
              refine lv_bipush (v := iI 19) hx hb (dk_at dkX4_write_3 14 rfl) (by decide +kernel) ?_
              refine lv_istore_n (lv' := [(2, .int (iI 19)), (0, .ref (q 30)), (1, .ref (q ta))]) hx hb (dk_at dkX4_write_3 15 rfl) rfl hl (by decide) rfl (fun ls hl => ?_)
              refine lv_iconst (v := iI 0) hx hb (dk_at dkX4_write_4 0 rfl) (by decide +kernel) ?_
              refine lv_istore_n (lv' := [(3, .int (iI 0)), (2, .int (iI 19)), (0, .ref (q 30)), (1, .ref (q ta))]) hx hb (dk_at dkX4_write_4 1 rfl) rfl hl (by decide) rfl (fun ls hl => ?_)
              have L119_33 : ∀ (n38 : Nat) (z30 z31 : Int) (H : Heap) (locs : List Loc) (ls : Array Slot), (0 ≤ z30 ∧ z30 ≤ 2147483647) → (-2147483648 ≤ z31 ∧ z31 ≤ 2147483647) → (∀ (z : Int) (u : St), (∃ mm1 mm2 mm3 : Nat, (d_X4_write_3 A19 z u mm3 z30 z31)) → r_X4_write ta A z u) → ((37 - z30).toNat = n38) → va_P (dC, dI) vwCl (WK cB cI cJ cZ cQ q A19) H → va_S AS s.heap H locs → lv_has ls 4 [(3, .int (iI z30)), (2, .int (iI z31)), (0, .ref (q 30)), (1, .ref (q ta))] → W p l e (headSpec ws_kc_X4_write ({ frames := 1, cells := 0, slots := 0, locals := 22 } : Room)).room s m [.ref (q 30), .ref (q ta)].toArray below meth c H locs 0 0 Q (F0 m 119 ls []) := by
                intro n38
                induction n38 using Nat.strongRecOn with
                | ind n38 ih34 =>
                  intro z30 z31 H locs ls f35 f36 hk3 hn38 hP hS hl
                  refine lv_iload_n hx hb (dk_at dkX4_write_4 2 rfl) rfl (lv_at hl 0 rfl) ?_
                  refine lv_aload_n hx hb (dk_at dkX4_write_4 3 rfl) rfl (lv_at hl 2 rfl) ?_
                  have r39 : (0 : Int) ≤ (A19 30 2) ∧ (A19 30 2) ≤ 36 := irPC_2 hI
                  refine va_get (D := (dC, dI)) (ci := 4) (v := .int (iI (A19 30 2))) (C := RX4) (T := TX4) (N := 3) hx hb hts hiX4 hown hK hP 30 (wkPC) rfl 2 (by decide) (hts _ (List.mem_cons_of_mem _ wkq_4_13)) (fun _ h9 => h9) rfl (dk_at dkX4_write_4 4 rfl) ?_
                  refine lv_icmp_ge (tgt := 150) hx hb (dk_at dkX4_write_4 5 rfl) (by decide) (fun c40 => ?_) (fun c40 => ?_)
                  · have c40 : (A19 30 2) ≤ z30 := (i_le (rb r39 (by decide) (by decide)) (rb f35 (by decide) (by decide))).mp c40
                    refine lv_aload_n hx hb (dk_at dkX4_write_5 2 rfl) rfl (lv_at hl 2 rfl) ?_
                    refine lv_iload_n hx hb (dk_at dkX4_write_5 3 rfl) rfl (lv_at hl 1 rfl) ?_
                    refine k_callv (As := [.int (iI z31)]) (rest := []) ⟨hx, hb, hml, hown, hts⟩ hE (kc_X4_put l dC dI cB cI cJ cZ cQ aL aS q _ z31 hI f36) (cwV 1 hts (goodVk wkq_4_20 wkq_4_21 wkq_4_22 wkq_4_23 wkq_4_24) rfl rfl rfl (by decide +kernel) ⟨Nat.le_of_ble_eq_true rfl, Nat.le_of_ble_eq_true rfl⟩) hK hDD hA0 hP hS 30 4 (wkPC) rfl rfl hl.1 (Nat.le_of_ble_eq_true rfl) (dk_at dkX4_write_5 4 rfl) (fun A47 H locs hw48 hP hS => ?_)
                    have ghw48 : q_X4_put z31 A19 A47 := hw48
                    obtain ⟨_, hI, hf49, hw48⟩ := hw48
                    clear hw48
                    refine lv_aload_n hx hb (dk_at dkX4_write_5 5 rfl) rfl (lv_at hl 2 rfl) ?_
                    have r50 : (0 : Int) ≤ (A47 30 2) ∧ (A47 30 2) ≤ 36 := irPC_2 hI
                    refine va_get (D := (dC, dI)) (ci := 4) (v := .int (iI (A47 30 2))) (C := RX4) (T := TX4) (N := 3) hx hb hts hiX4 hown hK hP 30 (wkPC) rfl 2 (by decide) (hts _ (List.mem_cons_of_mem _ wkq_4_13)) (fun _ h9 => h9) rfl (dk_at dkX4_write_5 6 rfl) ?_
                    exact RET (A47 30 2) _ _ _ _ _ ⟨hk3 _ _ ⟨0, 0, 0 + 1, (u_d_X4_write_3 ⟨f35, ⟨f36, (Or.inl ⟨c40, ⟨A47, ghw48, ⟨rfl, rfl⟩⟩⟩)⟩⟩)⟩, hI, fk.trans (fk.trans (fk.trans (fk.df (fk.rf) hA1 rfl) hj3 rfl rfl) hj18 rfl rfl) hf49 rfl rfl, (rb r50 (by decide) (by decide))⟩ hP hS (dk_at dkX4_write_5 7 rfl)
                  · have c40 : ¬ (A19 30 2) ≤ z30 := mt (i_le (rb r39 (by decide) (by decide)) (rb f35 (by decide) (by decide))).mpr c40
                    refine lv_iload_n hx hb (dk_at dkX4_write_4 6 rfl) rfl (lv_at hl 0 rfl) ?_
                    refine lv_bipush (v := iI 36) hx hb (dk_at dkX4_write_4 7 rfl) (by decide +kernel) ?_
                    refine lv_icmp_ge (tgt := 150) hx hb (dk_at dkX4_write_4 8 rfl) (by decide) (fun c42 => False.elim (by have c42 : 36 ≤ z30 := (i_le ⟨by decide, by decide⟩ (rb f35 (by decide) (by decide))).mp c42; omega)) (fun _ => ?_)
                    refine lv_iload_n hx hb (dk_at dkX4_write_4 9 rfl) rfl (lv_at hl 1 rfl) ?_
                    refine lv_aload_n hx hb (dk_at dkX4_write_4 10 rfl) rfl (lv_at hl 2 rfl) ?_
                    refine va_get (D := (dC, dI)) (ci := 4) (v := .ref (q 31)) (C := RX4) (T := TX4) (N := 3) hx hb hts hiX4 hown hK hP 30 (wkPC) rfl 0 (by decide) (hts _ (List.mem_cons_of_mem _ wkq_4_19)) (fun _ h9 => h9) rfl (dk_at dkX4_write_4 11 rfl) ?_
                    refine lv_iload_n hx hb (dk_at dkX4_write_4 12 rfl) rfl (lv_at hl 0 rfl) ?_
                    refine x_iald (Wf := WK cB cI cJ cZ cQ q) hx hb hK hP 31 1 (wkPCb) rfl (by omega) (by decide) (dk_at dkX4_write_4 13 rfl) (fun z43 hz43 => ?_)
                    have rz43 : (-2147483648 : Int) ≤ z43 ∧ z43 ≤ 2147483647 := by rw [hz43]; exact irPCb hI
                    have gz43 := Hd.mk hz43
                    refine k_callSi (As := [.int (iI z31), .int (iI z43)]) (rest := []) ⟨hx, hb, hml, hown, hts⟩ hE (kc_X4_summed l dC dI cB cI cJ cZ cQ aL aS q _ z31 z43 hI f36 rz43) (va_cwS 2 hts (goodSk wkq_4_26 wkq_4_27 wkq_4_23 wkq_4_28) rfl rfl rfl (by decide +kernel) ⟨Nat.le_of_ble_eq_true rfl, Nat.le_of_ble_eq_true rfl⟩) hK hDD hA0 hP hS rfl hl.1 (Nat.le_of_ble_eq_true rfl) (dk_at dkX4_write_4 14 rfl) (fun z44 A45 H locs hw46 hP hS => ?_)
                    obtain ⟨rfl, hw46⟩ := hw46
                    have ghw46 : q_X4_summed z31 z43 A19 z44 := hw46
                    have hw46 := hw46.2
                    refine lv_istore_n (lv' := [(2, .int (iI z44)), (3, .int (iI z30)), (0, .ref (q 30)), (1, .ref (q ta))]) hx hb (dk_at dkX4_write_4 15 rfl) rfl hl (by decide) rfl (fun ls hl => ?_)
                    refine lv_iinc (v := iI (z30 + 1)) (lv' := [(3, .int (iI (z30 + 1))), (2, .int (iI z44)), (0, .ref (q 30)), (1, .ref (q ta))]) hx hb (dk_at dkX4_write_5 0 rfl) hl (k := 1) rfl (i_inc (by omega)) (by decide) rfl (fun ls hl => ?_)
                    refine lv_goto (tgt := 119) hx hb (dk_at dkX4_write_5 1 rfl) (by decide) ?_
                    exact ih34 _ (by omega) (z30 + 1) z44 _ _ _ (by omega) (by omega) (fun zq uq ⟨mm1, mm2, mm3, hq⟩ => hk3 _ _ ⟨mm1, mm2, mm3 + 1, (u_d_X4_write_3 ⟨f35, ⟨f36, (Or.inr ⟨c40, ⟨z43, gz43.out, ⟨z44, ghw46, hq⟩⟩⟩)⟩⟩)⟩) rfl hP hS (lv_sub hl [0, 1, 2, 3] rfl)
              exact L119_33 _ 0 19 _ _ _ (by omega) (by omega) (fun zq uq ⟨mm1, mm2, mm3, hq⟩ => hk2 _ _ ⟨mm1, mm2 + 1, (u_d_X4_write_2 ⟨gI26.out, ⟨f22, ⟨z28, gz28.out, (Or.inl ⟨c29, ⟨mm3, hq⟩⟩)⟩⟩⟩)⟩) rfl hP hS (lv_sub hl [0, 1, 2, 3] rfl)
            · have c29 : ¬ z28 ≤ z17 := mt (i_le (rb rz28 (by decide) (by decide)) (rb f22 (by decide) (by decide))).mpr c29
              refine lv_aload_n hx hb (dk_at dkX4_write_1 12 rfl) rfl (lv_at hl 1 rfl) ?_
              refine lv_aload_n hx hb (dk_at dkX4_write_1 13 rfl) rfl (lv_at hl 2 rfl) ?_
              refine va_get (D := (dC, dI)) (ci := 9) (v := .ref (q (ta + 22))) (C := RX9) (T := TX9) (N := 16) hx hb hts hiX9 hown hK hP ta (wkT hta) rfl 14 (by decide) (hts _ (List.mem_cons_of_mem _ wkq_4_15)) (fun _ h9 => h9) rfl (dk_at dkX4_write_1 14 rfl) ?_
              refine va_get (D := (dC, dI)) (ci := 6) (v := .ref (q ((ta + 22) + 2))) (C := RX6) (T := TX6) (N := 4) hx hb hts hiX6 hown hK hP (ta + 22) (wkS hta.s) rfl 1 (by decide) (hts _ (List.mem_cons_of_mem _ wkq_4_17)) (fun _ h9 => h9) rfl (dk_at dkX4_write_1 15 rfl) ?_
              refine lv_iload_n hx hb (dk_at dkX4_write_2 0 rfl) rfl (lv_at hl 0 rfl) ?_
              have a53 : ∀ k, A1 ((ta + 22) + 2) k = A ((ta + 22) + 2) k := fun k => rd_ne hA1 (by rcases hta.s with h | h | h | h <;> omega) k
              have a52 : ∀ k, A4 ((ta + 22) + 2) k = A ((ta + 22) + 2) k := fun k => (hj3 ((ta + 22) + 2) k (isS.b2 (o := fun b => List.contains [31] (b + 2)) hta.s rfl rfl rfl rfl) (isS.b2 (o := fun b => fin2 [(30, 2)] (b + 2) k) hta.s rfl rfl rfl rfl)).trans (a53 k)
              have a51 : ∀ k, A19 ((ta + 22) + 2) k = A ((ta + 22) + 2) k := fun k => (hj18 ((ta + 22) + 2) k (isS.b2 (o := fun b => List.contains [31] (b + 2)) hta.s rfl rfl rfl rfl) (isS.b2 (o := fun b => fin2 [(30, 2)] (b + 2) k) hta.s rfl rfl rfl rfl)).trans (a52 k)
              refine x_iald (Wf := WK cB cI cJ cZ cQ q) hx hb hK hP ((ta + 22) + 2) 1 (wkSw hta.s) rfl (by omega) (by decide) (dk_at dkX4_write_2 1 rfl) (fun z54 hz54 => ?_)
              have rz54 : (-2147483648 : Int) ≤ z54 ∧ z54 ≤ 2147483647 := by rw [hz54]; exact irSw hta.s hI
              have gz54 := Hd.mk hz54
              have hz54 : z54 = A ((ta + 22) + 2) (z17).toNat := hz54.trans (a51 _)
              refine k_callv (As := [.int (iI z54)]) (rest := []) ⟨hx, hb, hml, hown, hts⟩ hE (kc_X4_put l dC dI cB cI cJ cZ cQ aL aS q _ z54 hI rz54) (cwV 1 hts (goodVk wkq_4_20 wkq_4_21 wkq_4_22 wkq_4_23 wkq_4_24) rfl rfl rfl (by decide +kernel) ⟨Nat.le_of_ble_eq_true rfl, Nat.le_of_ble_eq_true rfl⟩) hK hDD hA0 hP hS 30 4 (wkPC) rfl rfl hl.1 (Nat.le_of_ble_eq_true rfl) (dk_at dkX4_write_2 2 rfl) (fun A55 H locs hw56 hP hS => ?_)
              have ghw56 : q_X4_put z54 A19 A55 := hw56
              obtain ⟨_, hI, hf57, hw56⟩ := hw56
              clear hw56
              refine lv_aload_n hx hb (dk_at dkX4_write_2 3 rfl) rfl (lv_at hl 1 rfl) ?_
              refine lv_aload_n hx hb (dk_at dkX4_write_2 4 rfl) rfl (lv_at hl 2 rfl) ?_
              refine va_get (D := (dC, dI)) (ci := 9) (v := .ref (q (ta + 22))) (C := RX9) (T := TX9) (N := 16) hx hb hts hiX9 hown hK hP ta (wkT hta) rfl 14 (by decide) (hts _ (List.mem_cons_of_mem _ wkq_4_15)) (fun _ h9 => h9) rfl (dk_at dkX4_write_2 5 rfl) ?_
              refine va_get (D := (dC, dI)) (ci := 6) (v := .ref (q ((ta + 22) + 3))) (C := RX6) (T := TX6) (N := 4) hx hb hts hiX6 hown hK hP (ta + 22) (wkS hta.s) rfl 2 (by decide) (hts _ (List.mem_cons_of_mem _ wkq_4_18)) (fun _ h9 => h9) rfl (dk_at dkX4_write_2 6 rfl) ?_
              refine lv_iload_n hx hb (dk_at dkX4_write_2 7 rfl) rfl (lv_at hl 0 rfl) ?_
              have a61 : ∀ k, A1 ((ta + 22) + 3) k = A ((ta + 22) + 3) k := fun k => rd_ne hA1 (by rcases hta.s with h | h | h | h <;> omega) k
              have a60 : ∀ k, A4 ((ta + 22) + 3) k = A ((ta + 22) + 3) k := fun k => (hj3 ((ta + 22) + 3) k (isS.b2 (o := fun b => List.contains [31] (b + 3)) hta.s rfl rfl rfl rfl) (isS.b2 (o := fun b => fin2 [(30, 2)] (b + 3) k) hta.s rfl rfl rfl rfl)).trans (a61 k)
              have a59 : ∀ k, A19 ((ta + 22) + 3) k = A ((ta + 22) + 3) k := fun k => (hj18 ((ta + 22) + 3) k (isS.b2 (o := fun b => List.contains [31] (b + 3)) hta.s rfl rfl rfl rfl) (isS.b2 (o := fun b => fin2 [(30, 2)] (b + 3) k) hta.s rfl rfl rfl rfl)).trans (a60 k)
              have a58 : ∀ k, A55 ((ta + 22) + 3) k = A ((ta + 22) + 3) k := fun k => (hf57 ((ta + 22) + 3) k (isS.b2 (o := fun b => List.contains [31] (b + 3)) hta.s rfl rfl rfl rfl) (isS.b2 (o := fun b => fin2 [(30, 2)] (b + 3) k) hta.s rfl rfl rfl rfl)).trans (a59 k)
              refine x_iald (Wf := WK cB cI cJ cZ cQ q) hx hb hK hP ((ta + 22) + 3) 1 (wkSz hta.s) rfl (by omega) (by decide) (dk_at dkX4_write_2 8 rfl) (fun z62 hz62 => ?_)
              have rz62 : (0 : Int) ≤ z62 ∧ z62 ≤ 6 := by rw [hz62]; exact irSz hta.s hI
              have gz62 := Hd.mk hz62
              have hz62 : z62 = A ((ta + 22) + 3) (z17).toNat := hz62.trans (a58 _)
              refine k_callv (As := [.int (iI z62)]) (rest := []) ⟨hx, hb, hml, hown, hts⟩ hE (kc_X4_put l dC dI cB cI cJ cZ cQ aL aS q _ z62 hI (rb rz62 (by decide) (by decide))) (cwV 1 hts (goodVk wkq_4_20 wkq_4_21 wkq_4_22 wkq_4_23 wkq_4_24) rfl rfl rfl (by decide +kernel) ⟨Nat.le_of_ble_eq_true rfl, Nat.le_of_ble_eq_true rfl⟩) hK hDD hA0 hP hS 30 4 (wkPC) rfl rfl hl.1 (Nat.le_of_ble_eq_true rfl) (dk_at dkX4_write_2 9 rfl) (fun A63 H locs hw64 hP hS => ?_)
              have ghw64 : q_X4_put z62 A55 A63 := hw64
              obtain ⟨_, hI, hf65, hw64⟩ := hw64
              clear hw64
              refine lv_iconst (v := iI 0) hx hb (dk_at dkX4_write_2 10 rfl) (by decide +kernel) ?_
              refine lv_istore_n (lv' := [(3, .int (iI 0)), (2, .int (iI z17)), (0, .ref (q 30)), (1, .ref (q ta))]) hx hb (dk_at dkX4_write_2 11 rfl) rfl hl (by decide) rfl (fun ls hl => ?_)
              have L76_69 : ∀ (n75 : Nat) (z66 : Int) (A68 : St) (H : Heap) (locs : List Loc) (ls : Array Slot), (0 ≤ z66 ∧ z66 ≤ 2147483647) → (∀ (z : Int) (u : St), (∃ mm1 mm2 mm4 : Nat, (d_X4_write_4 (fun z17' A19' => d_X4_write_2 ta z u mm2 z17' A19') ta z17 z62 z u mm4 z66 A68)) → r_X4_write ta A z u) → ((7 - z66).toNat = n75) → IK A68 → fk [31] [(30, 2)] A63 A68 → va_P (dC, dI) vwCl (WK cB cI cJ cZ cQ q A68) H → va_S AS s.heap H locs → lv_has ls 4 [(3, .int (iI z66)), (2, .int (iI z17)), (0, .ref (q 30)), (1, .ref (q ta))] → W p l e (headSpec ws_kc_X4_write ({ frames := 1, cells := 0, slots := 0, locals := 22 } : Room)).room s m [.ref (q 30), .ref (q ta)].toArray below meth c H locs 0 0 Q (F0 m 76 ls []) := by
                intro n75
                induction n75 using Nat.strongRecOn with
                | ind n75 ih70 =>
                  intro z66 A68 H locs ls f71 hk4 hn75 hI hj67 hP hS hl
                  have gI76 : Hd (IK A68) := Hd.mk hI
                  refine lv_iload_n hx hb (dk_at dkX4_write_2 12 rfl) rfl (lv_at hl 0 rfl) ?_
                  refine lv_aload_n hx hb (dk_at dkX4_write_2 13 rfl) rfl (lv_at hl 3 rfl) ?_
                  refine va_get (D := (dC, dI)) (ci := 9) (v := .ref (q (ta + 22))) (C := RX9) (T := TX9) (N := 16) hx hb hts hiX9 hown hK hP ta (wkT hta) rfl 14 (by decide) (hts _ (List.mem_cons_of_mem _ wkq_4_15)) (fun _ h9 => h9) rfl (dk_at dkX4_write_2 14 rfl) ?_
                  refine va_get (D := (dC, dI)) (ci := 6) (v := .ref (q ((ta + 22) + 3))) (C := RX6) (T := TX6) (N := 4) hx hb hts hiX6 hown hK hP (ta + 22) (wkS hta.s) rfl 2 (by decide) (hts _ (List.mem_cons_of_mem _ wkq_4_18)) (fun _ h9 => h9) rfl (dk_at dkX4_write_2 15 rfl) ?_
                  refine lv_iload_n hx hb (dk_at dkX4_write_3 0 rfl) rfl (lv_at hl 1 rfl) ?_
                  have a78 : ∀ k, A63 ((ta + 22) + 3) k = A ((ta + 22) + 3) k := fun k => (hf65 ((ta + 22) + 3) k (isS.b2 (o := fun b => List.contains [31] (b + 3)) hta.s rfl rfl rfl rfl) (isS.b2 (o := fun b => fin2 [(30, 2)] (b + 3) k) hta.s rfl rfl rfl rfl)).trans (a58 k)
                  have a77 : ∀ k, A68 ((ta + 22) + 3) k = A ((ta + 22) + 3) k := fun k => (hj67 ((ta + 22) + 3) k (isS.b2 (o := fun b => List.contains [31] (b + 3)) hta.s rfl rfl rfl rfl) (isS.b2 (o := fun b => fin2 [(30, 2)] (b + 3) k) hta.s rfl rfl rfl rfl)).trans (a78 k)
                  refine x_iald (Wf := WK cB cI cJ cZ cQ q) hx hb hK hP ((ta + 22) + 3) 1 (wkSz hta.s) rfl (by omega) (by decide) (dk_at dkX4_write_3 1 rfl) (fun z79 hz79 => ?_)
                  have rz79 : (0 : Int) ≤ z79 ∧ z79 ≤ 6 := by rw [hz79]; exact irSz hta.s hI
                  have gz79 := Hd.mk hz79
                  have hz79 : z79 = A ((ta + 22) + 3) (z17).toNat := hz79.trans (a77 _)
                  have ez79 : z79 = z62 := hz79.trans hz62.symm
                  refine tp_i (y := iI z62) (congrArg iI ez79) ?_
                  refine lv_icmp_ge (tgt := 108) hx hb (dk_at dkX4_write_3 2 rfl) (by decide) (fun c80 => ?_) (fun c80 => ?_)
                  · have c80 : z62 ≤ z66 := (i_le (rb rz62 (by decide) (by decide)) (rb f71 (by decide) (by decide))).mp c80
                    refine lv_iinc (v := iI (z17 + 1)) (lv' := [(2, .int (iI (z17 + 1))), (3, .int (iI z66)), (0, .ref (q 30)), (1, .ref (q ta))]) hx hb (dk_at dkX4_write_3 12 rfl) hl (k := 1) rfl (i_inc (by omega)) (by decide) rfl (fun ls hl => ?_)
                    refine lv_goto (tgt := 38) hx hb (dk_at dkX4_write_3 13 rfl) (by decide) ?_
                    exact ih21 _ (by omega) (z17 + 1) _ _ _ _ (by omega) (fun zq uq ⟨mm1, mm2, hq⟩ => hk4 _ _ ⟨mm1, mm2, 0 + 1, (u_d_X4_write_4 ⟨gI76.out, ⟨f71, (Or.inl ⟨c80, hq⟩)⟩⟩)⟩) rfl hI (fk.trans (fk.trans (fk.trans (fk.trans (fk.rf) hj18 rfl rfl) hf57 rfl rfl) hf65 rfl rfl) hj67 rfl rfl) hP hS (lv_sub hl [0, 2, 3] rfl)
                  · have c80 : ¬ z62 ≤ z66 := mt (i_le (rb rz62 (by decide) (by decide)) (rb f71 (by decide) (by decide))).mpr c80
                    refine lv_aload_n hx hb (dk_at dkX4_write_3 3 rfl) rfl (lv_at hl 2 rfl) ?_
                    refine lv_aload_n hx hb (dk_at dkX4_write_3 4 rfl) rfl (lv_at hl 3 rfl) ?_
                    refine va_get (D := (dC, dI)) (ci := 9) (v := .ref (q (ta + 22))) (C := RX9) (T := TX9) (N := 16) hx hb hts hiX9 hown hK hP ta (wkT hta) rfl 14 (by decide) (hts _ (List.mem_cons_of_mem _ wkq_4_15)) (fun _ h9 => h9) rfl (dk_at dkX4_write_3 5 rfl) ?_
                    refine lv_iload_n hx hb (dk_at dkX4_write_3 6 rfl) rfl (lv_at hl 1 rfl) ?_
                    refine lv_iload_n hx hb (dk_at dkX4_write_3 7 rfl) rfl (lv_at hl 0 rfl) ?_
                    refine k_calli (As := [.int (iI z17), .int (iI z66)]) (rest := [.ref (q 30)]) ⟨hx, hb, hml, hown, hts⟩ hE (kc_X6_inRow l dC dI cB cI cJ cZ cQ aL aS q _ (ta + 22) z17 z66 hI hta.s (rb f22 (by decide) (by decide)) (rb f71 (by decide) (by decide))) (cwV 2 hts (goodVk wkq_4_25 wkq_0_55 wkq_0_56 wkq_0_52 wkq_0_57) rfl rfl rfl (by decide +kernel) ⟨Nat.le_of_ble_eq_true rfl, Nat.le_of_ble_eq_true rfl⟩) hK hDD hA0 hP hS (ta + 22) 6 (wkS hta.s) rfl rfl hl.1 (Nat.le_of_ble_eq_true rfl) (dk_at dkX4_write_3 8 rfl) (fun z81 A82 H locs hw83 hP hS => ?_)
                    obtain ⟨rfl, hw83⟩ := hw83
                    have ghw83 : q_X6_inRow (ta + 22) z17 z66 A68 z81 := hw83
                    have hw83 := hw83.2
                    refine k_callv (As := [.int (iI z81)]) (rest := []) ⟨hx, hb, hml, hown, hts⟩ hE (kc_X4_put l dC dI cB cI cJ cZ cQ aL aS q _ z81 hI (by omega)) (cwV 1 hts (goodVk wkq_4_20 wkq_4_21 wkq_4_22 wkq_4_23 wkq_4_24) rfl rfl rfl (by decide +kernel) ⟨Nat.le_of_ble_eq_true rfl, Nat.le_of_ble_eq_true rfl⟩) hK hDD hA0 hP hS 30 4 (wkPC) rfl rfl hl.1 (Nat.le_of_ble_eq_true rfl) (dk_at dkX4_write_3 9 rfl) (fun A84 H locs hw85 hP hS => ?_)
                    have ghw85 : q_X4_put z81 A68 A84 := hw85
                    obtain ⟨_, hI, hf86, hw85⟩ := hw85
                    clear hw85
                    refine lv_iinc (v := iI (z66 + 1)) (lv' := [(3, .int (iI (z66 + 1))), (2, .int (iI z17)), (0, .ref (q 30)), (1, .ref (q ta))]) hx hb (dk_at dkX4_write_3 10 rfl) hl (k := 0) rfl (i_inc (by omega)) (by decide) rfl (fun ls hl => ?_)
                    refine lv_goto (tgt := 76) hx hb (dk_at dkX4_write_3 11 rfl) (by decide) ?_
                    exact ih70 _ (by omega) (z66 + 1) _ _ _ _ (by omega) (fun zq uq ⟨mm1, mm2, mm4, hq⟩ => hk4 _ _ ⟨mm1, mm2, mm4 + 1, (u_d_X4_write_4 ⟨gI76.out, ⟨f71, (Or.inr ⟨c80, ⟨z81, ghw83, ⟨A84, ghw85, hq⟩⟩⟩)⟩⟩)⟩) rfl hI (fk.trans (fk.trans (fk.rf) hj67 rfl rfl) hf86 rfl rfl) hP hS (lv_sub hl [0, 1, 2, 3] rfl)
              exact L76_69 _ 0 _ _ _ _ (by omega) (fun zq uq ⟨mm1, mm2, mm4, hq⟩ => hk2 _ _ ⟨mm1, mm2 + 1, (u_d_X4_write_2 ⟨gI26.out, ⟨f22, ⟨z28, gz28.out, (Or.inr ⟨c29, ⟨z54, gz54.out, ⟨A55, ghw56, ⟨z62, gz62.out, ⟨A63, ghw64, ⟨mm4, hq⟩⟩⟩⟩⟩⟩)⟩⟩⟩)⟩) rfl hI (fk.rf) hP hS (lv_sub hl [0, 1, 2, 3] rfl)
        exact L38_20 _ 0 _ _ _ _ (by omega) (fun zq uq ⟨mm1, mm2, hq⟩ => hk1 _ _ ⟨mm1 + 1, (u_d_X4_write_1 ⟨gI12.out, ⟨f7, ⟨z15, gz15.out, (Or.inl ⟨c16, ⟨mm2, hq⟩⟩)⟩⟩⟩)⟩) rfl hI (fk.rf) hP hS (lv_sub hl [0, 1, 2] rfl)
      · have c16 : ¬ z15 ≤ z2 := mt (i_le (rb rz15 (by decide) (by decide)) (rb f7 (by decide) (by decide))).mpr c16
        refine lv_aload_n hx hb (dk_at dkX4_write_0 11 rfl) rfl (lv_at hl 1 rfl) ?_
        refine lv_aload_n hx hb (dk_at dkX4_write_0 12 rfl) rfl (lv_at hl 2 rfl) ?_
        refine va_get (D := (dC, dI)) (ci := 9) (v := .ref (q (ta + 22))) (C := RX9) (T := TX9) (N := 16) hx hb hts hiX9 hown hK hP ta (wkT hta) rfl 14 (by decide) (hts _ (List.mem_cons_of_mem _ wkq_4_15)) (fun _ h9 => h9) rfl (dk_at dkX4_write_0 13 rfl) ?_
        refine va_get (D := (dC, dI)) (ci := 6) (v := .ref (q ((ta + 22) + 1))) (C := RX6) (T := TX6) (N := 4) hx hb hts hiX6 hown hK hP (ta + 22) (wkS hta.s) rfl 0 (by decide) (hts _ (List.mem_cons_of_mem _ wkq_4_16)) (fun _ h9 => h9) rfl (dk_at dkX4_write_0 14 rfl) ?_
        refine lv_iload_n hx hb (dk_at dkX4_write_0 15 rfl) rfl (lv_at hl 0 rfl) ?_
        have a88 : ∀ k, A1 ((ta + 22) + 1) k = A ((ta + 22) + 1) k := fun k => rd_ne hA1 (by rcases hta.s with h | h | h | h <;> omega) k
        have a87 : ∀ k, A4 ((ta + 22) + 1) k = A ((ta + 22) + 1) k := fun k => (hj3 ((ta + 22) + 1) k (isS.b2 (o := fun b => List.contains [31] (b + 1)) hta.s rfl rfl rfl rfl) (isS.b2 (o := fun b => fin2 [(30, 2)] (b + 1) k) hta.s rfl rfl rfl rfl)).trans (a88 k)
        refine x_iald (Wf := WK cB cI cJ cZ cQ q) hx hb hK hP ((ta + 22) + 1) 1 (wkSs hta.s) rfl (by omega) (by decide) (dk_at dkX4_write_1 0 rfl) (fun z89 hz89 => ?_)
        have rz89 : (-2147483648 : Int) ≤ z89 ∧ z89 ≤ 2147483647 := by rw [hz89]; exact irSs hta.s hI
        have gz89 := Hd.mk hz89
        have hz89 : z89 = A ((ta + 22) + 1) (z2).toNat := hz89.trans (a87 _)
        refine k_callv (As := [.int (iI z89)]) (rest := []) ⟨hx, hb, hml, hown, hts⟩ hE (kc_X4_put l dC dI cB cI cJ cZ cQ aL aS q _ z89 hI rz89) (cwV 1 hts (goodVk wkq_4_20 wkq_4_21 wkq_4_22 wkq_4_23 wkq_4_24) rfl rfl rfl (by decide +kernel) ⟨Nat.le_of_ble_eq_true rfl, Nat.le_of_ble_eq_true rfl⟩) hK hDD hA0 hP hS 30 4 (wkPC) rfl rfl hl.1 (Nat.le_of_ble_eq_true rfl) (dk_at dkX4_write_1 1 rfl) (fun A90 H locs hw91 hP hS => ?_)
        have ghw91 : q_X4_put z89 A4 A90 := hw91
        obtain ⟨_, hI, hf92, hw91⟩ := hw91
        clear hw91
        refine lv_iinc (v := iI (z2 + 1)) (lv' := [(2, .int (iI (z2 + 1))), (0, .ref (q 30)), (1, .ref (q ta))]) hx hb (dk_at dkX4_write_1 2 rfl) hl (k := 0) rfl (i_inc (by omega)) (by decide) rfl (fun ls hl => ?_)
        refine lv_goto (tgt := 7) hx hb (dk_at dkX4_write_1 3 rfl) (by decide) ?_
        exact ih6 _ (by omega) (z2 + 1) _ _ _ _ (by omega) (fun zq uq ⟨mm1, hq⟩ => hk1 _ _ ⟨mm1 + 1, (u_d_X4_write_1 ⟨gI12.out, ⟨f7, ⟨z15, gz15.out, (Or.inr ⟨c16, ⟨z89, gz89.out, ⟨A90, ghw91, hq⟩⟩⟩)⟩⟩⟩)⟩) rfl hI (fk.trans (fk.trans (fk.rf) hj3 rfl rfl) hf92 rfl rfl) hP hS (lv_sub hl [0, 1, 2] rfl)
  exact L7_5 _ 0 _ _ _ _ (by omega) (fun zq uq ⟨mm1, hq⟩ => (u_r_X4_write ⟨A1, hA1, ⟨mm1, hq⟩⟩)) rfl hI (fk.rf) hP hS (lv_sub hl [0, 1, 2] rfl)

abbrev tr_d_X6_copyFrom_3 (K2 : Int → St → Prop) (ta : Nat) (tb : Nat) (z10 : Int) (u : St) (K3 : Int → St → Prop) (z24 : Int) (A26 : St) : Prop := ((IK A26) ∧ ((0 ≤ z24 ∧ z24 ≤ 2147483647) ∧ (((6 ≤ z24) ∧ (K2 (z10 + 1) A26)) ∨ ((¬ 6 ≤ z24) ∧ (∃ z33 : Int, z33 = A26 (tb + 5 + (z10).toNat) (z24).toNat ∧ (∃ A34 : St, A34 = stA A26 (ta + 5 + (z10).toNat) (z24).toNat z33 ∧ (K3 (z24 + 1) A34)))))))
def d_X6_copyFrom_3 (K2 : Int → St → Prop) (ta : Nat) (tb : Nat) (z10 : Int) (u : St) : Nat → Int → St → Prop
  | 0, _, _ => False
  | nn9 + 1, z24, A26 => tr_d_X6_copyFrom_3 K2 ta tb z10 u (fun z24 A26 => d_X6_copyFrom_3 K2 ta tb z10 u nn9 z24 A26) z24 A26
theorem u_d_X6_copyFrom_3 {K2 : Int → St → Prop} {ta : Nat} {tb : Nat} {z10 : Int} {u : St} {nn9 : Nat} {z24 : Int} {A26 : St} (h : tr_d_X6_copyFrom_3 K2 ta tb z10 u (fun z24 A26 => d_X6_copyFrom_3 K2 ta tb z10 u nn9 z24 A26) z24 A26) : d_X6_copyFrom_3 K2 ta tb z10 u (nn9 + 1) z24 A26 := h
abbrev tr_d_X6_copyFrom_2 (ta : Nat) (tb : Nat) (u : St) (K2 : Int → St → Prop) (z10 : Int) (A12 : St) : Prop := ((IK A12) ∧ ((0 ≤ z10 ∧ z10 ≤ 2147483647) ∧ (((4 ≤ z10) ∧ (u = A12)) ∨ ((¬ 4 ≤ z10) ∧ (∃ z19 : Int, z19 = A12 (tb + 2) (z10).toNat ∧ (∃ A20 : St, A20 = stA A12 (ta + 2) (z10).toNat z19 ∧ (∃ z22 : Int, z22 = A20 (tb + 3) (z10).toNat ∧ (∃ A23 : St, A23 = stA A20 (ta + 3) (z10).toNat z22 ∧ (∃ nn9 : Nat, d_X6_copyFrom_3 K2 ta tb z10 u nn9 0 A23)))))))))
def d_X6_copyFrom_2 (ta : Nat) (tb : Nat) (u : St) : Nat → Int → St → Prop
  | 0, _, _ => False
  | nn9 + 1, z10, A12 => tr_d_X6_copyFrom_2 ta tb u (fun z10 A12 => d_X6_copyFrom_2 ta tb u nn9 z10 A12) z10 A12
theorem u_d_X6_copyFrom_2 {ta : Nat} {tb : Nat} {u : St} {nn9 : Nat} {z10 : Int} {A12 : St} (h : tr_d_X6_copyFrom_2 ta tb u (fun z10 A12 => d_X6_copyFrom_2 ta tb u nn9 z10 A12) z10 A12) : d_X6_copyFrom_2 ta tb u (nn9 + 1) z10 A12 := h
abbrev tr_d_X6_copyFrom_1 (ta : Nat) (tb : Nat) (u : St) (K1 : Int → St → Prop) (z1 : Int) (A3 : St) : Prop := ((IK A3) ∧ ((0 ≤ z1 ∧ z1 ≤ 2147483647) ∧ (((3 ≤ z1) ∧ (∃ nn9 : Nat, d_X6_copyFrom_2 ta tb u nn9 0 A3)) ∨ ((¬ 3 ≤ z1) ∧ (∃ z35 : Int, z35 = A3 (tb + 1) (z1).toNat ∧ (∃ A36 : St, A36 = stA A3 (ta + 1) (z1).toNat z35 ∧ (K1 (z1 + 1) A36)))))))
def d_X6_copyFrom_1 (ta : Nat) (tb : Nat) (u : St) : Nat → Int → St → Prop
  | 0, _, _ => False
  | nn9 + 1, z1, A3 => tr_d_X6_copyFrom_1 ta tb u (fun z1 A3 => d_X6_copyFrom_1 ta tb u nn9 z1 A3) z1 A3
theorem u_d_X6_copyFrom_1 {ta : Nat} {tb : Nat} {u : St} {nn9 : Nat} {z1 : Int} {A3 : St} (h : tr_d_X6_copyFrom_1 ta tb u (fun z1 A3 => d_X6_copyFrom_1 ta tb u nn9 z1 A3) z1 A3) : d_X6_copyFrom_1 ta tb u (nn9 + 1) z1 A3 := h
abbrev tr_r_X6_copyFrom (ta : Nat) (tb : Nat) (A : St) (u : St) : Prop := (∃ nn9 : Nat, d_X6_copyFrom_1 ta tb u nn9 0 A)
def r_X6_copyFrom (ta : Nat) (tb : Nat) (A : St) (u : St) : Prop := tr_r_X6_copyFrom ta tb A u
theorem u_r_X6_copyFrom {ta : Nat} {tb : Nat} {A : St} {u : St} (h : tr_r_X6_copyFrom ta tb A u) : r_X6_copyFrom ta tb A u := h
def q_X6_copyFrom (ta : Nat) (tb : Nat) (A : St) (u : St) : Prop := r_X6_copyFrom ta tb A u ∧ IK u ∧ fk [33, 34, 35, 37, 38, 39, 40, 42, 43, 44, 46, 47, 48, 49, 74, 75, 76, 78, 79, 80, 81, 105, 106, 107, 109, 110, 111, 112] [] A u ∧ (True)
def ws_kc_X6_copyFrom : List Cond := .code yX6_copyFrom cX6_copyFrom 4 none :: WY
set_option maxHeartbeats 4000000 in
set_option maxRecDepth 100000 in
theorem kc_X6_copyFrom (l : Launch) (dC : Nat → ClassId) (dI : Nat → Nat → Nat) (cB cI cJ cZ cQ : ClassId) (aL aS : Nat) (q : Nat → Nat) (A : St) (ta tb : Nat) (hI : IK A) (hta : isS ta) (htb : isS tb) : KMv l yX6_copyFrom ws_kc_X6_copyFrom ({ frames := 0, cells := 0, slots := 0, locals := 0 } : Room) aL aS (dC, dI) (tyA cB cI cJ cZ cQ) (WK cB cI cJ cZ cQ q) A [.ref (q ta), .ref (q tb)] (fun u => r_X6_copyFrom ta tb A u ∧ IK u ∧ fk [33, 34, 35, 37, 38, 39, 40, 42, 43, 44, 46, 47, 48, 49, 74, 75, 76, 78, 79, 80, 81, 105, 106, 107, 109, 110, 111, 112] [] A u ∧ (True)) := by
  refine k_metv (cc := cX6_copyFrom) (maxL := 4) WK_adr (plainFor_of_name (by decide +kernel)) rfl (Nat.le_of_ble_eq_true rfl) (fun p e s m below meth c Q AS ls hx hb hml hown hts hK hDD hA0 hE RET H locs hP hS hl => ?_)
  have hown : s.vm.findClass RX6 = some m.cls := hown
  have hl : lv_has ls 4 [(0, .ref (q ta)), (1, .ref (q tb))] := hl
  have hiX6 : ∀ w ∈ u_ws RX6 TX6 4, w ∈ ws_kc_X6_copyFrom := fun w h => List.mem_cons_of_mem _ (wy_layX6 w h)
  refine lv_iconst (v := iI 0) hx hb (dk_at dkX6_copyFrom_0 0 rfl) (by decide +kernel) ?_
  refine lv_istore_n (lv' := [(2, .int (iI 0)), (0, .ref (q ta)), (1, .ref (q tb))]) hx hb (dk_at dkX6_copyFrom_0 1 rfl) rfl hl (by decide) rfl (fun ls hl => ?_)
  have L2_4 : ∀ (n7 : Nat) (z1 : Int) (A3 : St) (H : Heap) (locs : List Loc) (ls : Array Slot), (0 ≤ z1 ∧ z1 ≤ 2147483647) → (∀ (u : St), (∃ mm1 : Nat, (d_X6_copyFrom_1 ta tb u mm1 z1 A3)) → r_X6_copyFrom ta tb A u) → ((4 - z1).toNat = n7) → IK A3 → fk [33, 42, 74, 105] [] A A3 → va_P (dC, dI) vwCl (WK cB cI cJ cZ cQ q A3) H → va_S AS s.heap H locs → lv_has ls 4 [(2, .int (iI z1)), (0, .ref (q ta)), (1, .ref (q tb))] → W p l e (headSpec ws_kc_X6_copyFrom ({ frames := 0, cells := 0, slots := 0, locals := 0 } : Room)).room s m [.ref (q ta), .ref (q tb)].toArray below meth c H locs 0 0 Q (F0 m 2 ls []) := by
    intro n7
    induction n7 using Nat.strongRecOn with
    | ind n7 ih5 =>
      intro z1 A3 H locs ls f6 hk1 hn7 hI hj2 hP hS hl
      have gI8 : Hd (IK A3) := Hd.mk hI
      refine lv_iload_n hx hb (dk_at dkX6_copyFrom_0 2 rfl) rfl (lv_at hl 0 rfl) ?_
      refine lv_iconst (v := iI 3) hx hb (dk_at dkX6_copyFrom_0 3 rfl) (by decide +kernel) ?_
      refine lv_icmp_ge (tgt := 25) hx hb (dk_at dkX6_copyFrom_0 4 rfl) (by decide) (fun c9 => ?_) (fun c9 => ?_)
      · have c9 : 3 ≤ z1 := (i_le ⟨by decide, by decide⟩ (rb f6 (by decide) (by decide))).mp c9
        refine lv_iconst (v := iI 0) hx hb (dk_at dkX6_copyFrom_0 15 rfl) (by decide +kernel) ?_
        refine lv_istore_n (lv' := [(2, .int (iI 0)), (0, .ref (q ta)), (1, .ref (q tb))]) hx hb (dk_at dkX6_copyFrom_1 0 rfl) rfl hl (by decide) rfl (fun ls hl => ?_)
        have L27_13 : ∀ (n16 : Nat) (z10 : Int) (A12 : St) (H : Heap) (locs : List Loc) (ls : Array Slot), (0 ≤ z10 ∧ z10 ≤ 2147483647) → (∀ (u : St), (∃ mm1 mm2 : Nat, (d_X6_copyFrom_2 ta tb u mm2 z10 A12)) → r_X6_copyFrom ta tb A u) → ((5 - z10).toNat = n16) → IK A12 → fk [34, 35, 37, 38, 39, 40, 43, 44, 46, 47, 48, 49, 75, 76, 78, 79, 80, 81, 106, 107, 109, 110, 111, 112] [] A3 A12 → va_P (dC, dI) vwCl (WK cB cI cJ cZ cQ q A12) H → va_S AS s.heap H locs → lv_has ls 4 [(2, .int (iI z10)), (0, .ref (q ta)), (1, .ref (q tb))] → W p l e (headSpec ws_kc_X6_copyFrom ({ frames := 0, cells := 0, slots := 0, locals := 0 } : Room)).room s m [.ref (q ta), .ref (q tb)].toArray below meth c H locs 0 0 Q (F0 m 27 ls []) := by
          intro n16
          induction n16 using Nat.strongRecOn with
          | ind n16 ih14 =>
            intro z10 A12 H locs ls f15 hk2 hn16 hI hj11 hP hS hl
            have gI17 : Hd (IK A12) := Hd.mk hI
            refine lv_iload_n hx hb (dk_at dkX6_copyFrom_1 1 rfl) rfl (lv_at hl 0 rfl) ?_
            refine lv_iconst (v := iI 4) hx hb (dk_at dkX6_copyFrom_1 2 rfl) (by decide +kernel) ?_
            refine lv_icmp_ge (tgt := 92) hx hb (dk_at dkX6_copyFrom_1 3 rfl) (by decide) (fun c18 => ?_) (fun c18 => ?_)
            · have c18 : 4 ≤ z10 := (i_le ⟨by decide, by decide⟩ (rb f15 (by decide) (by decide))).mp c18
              exact RET _ _ _ _ _ ⟨hk2 _ ⟨0, 0 + 1, (u_d_X6_copyFrom_2 ⟨gI17.out, ⟨f15, (Or.inl ⟨c18, rfl⟩)⟩⟩)⟩, hI, fk.trans (fk.trans (fk.rf) hj2 rfl rfl) hj11 rfl rfl, trivial⟩ hP hS (dk_at dkX6_copyFrom_3 9 rfl)
            · have c18 : ¬ 4 ≤ z10 := mt (i_le ⟨by decide, by decide⟩ (rb f15 (by decide) (by decide))).mpr c18
              refine lv_aload_n hx hb (dk_at dkX6_copyFrom_1 4 rfl) rfl (lv_at hl 1 rfl) ?_
              refine va_get (D := (dC, dI)) (ci := 6) (v := .ref (q (ta + 2))) (C := RX6) (T := TX6) (N := 4) hx hb hts hiX6 hown hK hP ta (wkS hta) rfl 1 (by decide) (hts _ (List.mem_cons_of_mem _ wkq_4_37)) (fun _ h9 => h9) rfl (dk_at dkX6_copyFrom_1 5 rfl) ?_
              refine lv_iload_n hx hb (dk_at dkX6_copyFrom_1 6 rfl) rfl (lv_at hl 0 rfl) ?_
              refine lv_aload_n hx hb (dk_at dkX6_copyFrom_1 7 rfl) rfl (lv_at hl 2 rfl) ?_
              refine va_get (D := (dC, dI)) (ci := 6) (v := .ref (q (tb + 2))) (C := RX6) (T := TX6) (N := 4) hx hb hts hiX6 hown hK hP tb (wkS htb) rfl 1 (by decide) (hts _ (List.mem_cons_of_mem _ wkq_4_37)) (fun _ h9 => h9) rfl (dk_at dkX6_copyFrom_1 8 rfl) ?_
              refine lv_iload_n hx hb (dk_at dkX6_copyFrom_1 9 rfl) rfl (lv_at hl 0 rfl) ?_
              refine x_iald (Wf := WK cB cI cJ cZ cQ q) hx hb hK hP (tb + 2) 1 (wkSw htb) rfl (by omega) (by decide) (dk_at dkX6_copyFrom_1 10 rfl) (fun z19 hz19 => ?_)
              have rz19 : (-2147483648 : Int) ≤ z19 ∧ z19 ≤ 2147483647 := by rw [hz19]; exact irSw htb hI
              have gz19 := Hd.mk hz19
              refine k_iast (Wf := WK cB cI cJ cZ cQ q) hx hb hK hP hDD hS (ta + 2) 1 (wkSw hta) rfl (by omega) (by decide) (dk_at dkX6_copyFrom_1 11 rfl) (wsSw hta) (fun H locs A20 hA20 hP hS => ?_)
              have hI := isSw hta hA20 hI (show (-2147483648 : Int) ≤ z19 ∧ z19 ≤ 2147483647 from rz19)
              refine lv_aload_n hx hb (dk_at dkX6_copyFrom_1 12 rfl) rfl (lv_at hl 1 rfl) ?_
              refine va_get (D := (dC, dI)) (ci := 6) (v := .ref (q (ta + 3))) (C := RX6) (T := TX6) (N := 4) hx hb hts hiX6 hown hK hP ta (wkS hta) rfl 2 (by decide) (hts _ (List.mem_cons_of_mem _ wkq_0_58)) (fun _ h9 => h9) rfl (dk_at dkX6_copyFrom_1 13 rfl) ?_
              refine lv_iload_n hx hb (dk_at dkX6_copyFrom_1 14 rfl) rfl (lv_at hl 0 rfl) ?_
              refine lv_aload_n hx hb (dk_at dkX6_copyFrom_1 15 rfl) rfl (lv_at hl 2 rfl) ?_
              refine va_get (D := (dC, dI)) (ci := 6) (v := .ref (q (tb + 3))) (C := RX6) (T := TX6) (N := 4) hx hb hts hiX6 hown hK hP tb (wkS htb) rfl 2 (by decide) (hts _ (List.mem_cons_of_mem _ wkq_0_58)) (fun _ h9 => h9) rfl (dk_at dkX6_copyFrom_2 0 rfl) ?_
              refine lv_iload_n hx hb (dk_at dkX6_copyFrom_2 1 rfl) rfl (lv_at hl 0 rfl) ?_
              have a21 : ∀ k, A20 (tb + 3) k = A12 (tb + 3) k := fun k => rd_ne hA20 (by rcases htb with h | h | h | h <;> rcases hta with h | h | h | h <;> omega) k
              refine x_iald (Wf := WK cB cI cJ cZ cQ q) hx hb hK hP (tb + 3) 1 (wkSz htb) rfl (by omega) (by decide) (dk_at dkX6_copyFrom_2 2 rfl) (fun z22 hz22 => ?_)
              have rz22 : (0 : Int) ≤ z22 ∧ z22 ≤ 6 := by rw [hz22]; exact irSz htb hI
              have gz22 := Hd.mk hz22
              have hz22 : z22 = A12 (tb + 3) (z10).toNat := hz22.trans (a21 _)
              refine k_iast (Wf := WK cB cI cJ cZ cQ q) hx hb hK hP hDD hS (ta + 3) 1 (wkSz hta) rfl (by omega) (by decide) (dk_at dkX6_copyFrom_2 3 rfl) (wsSz hta) (fun H locs A23 hA23 hP hS => ?_)
              have hI := isSz hta hA23 hI (show (0 : Int) ≤ z22 ∧ z22 ≤ 6 from rz22)
              refine lv_iconst (v := iI 0) hx hb (dk_at dkX6_copyFrom_2 4 rfl) (by decide +kernel) ?_
              refine lv_istore_n (lv' := [(3, .int (iI 0)), (2, .int (iI z10)), (0, .ref (q ta)), (1, .ref (q tb))]) hx hb (dk_at dkX6_copyFrom_2 5 rfl) rfl hl (by decide) rfl (fun ls hl => ?_)
              have L58_27 : ∀ (n30 : Nat) (z24 : Int) (A26 : St) (H : Heap) (locs : List Loc) (ls : Array Slot), (0 ≤ z24 ∧ z24 ≤ 2147483647) → (∀ (u : St), (∃ mm1 mm2 mm3 : Nat, (d_X6_copyFrom_3 (fun z10' A12' => d_X6_copyFrom_2 ta tb u mm2 z10' A12') ta tb z10 u mm3 z24 A26)) → r_X6_copyFrom ta tb A u) → ((7 - z24).toNat = n30) → IK A26 → fk [37, 38, 39, 40, 46, 47, 48, 49, 78, 79, 80, 81, 109, 110, 111, 112] [] A23 A26 → va_P (dC, dI) vwCl (WK cB cI cJ cZ cQ q A26) H → va_S AS s.heap H locs → lv_has ls 4 [(3, .int (iI z24)), (2, .int (iI z10)), (0, .ref (q ta)), (1, .ref (q tb))] → W p l e (headSpec ws_kc_X6_copyFrom ({ frames := 0, cells := 0, slots := 0, locals := 0 } : Room)).room s m [.ref (q ta), .ref (q tb)].toArray below meth c H locs 0 0 Q (F0 m 58 ls []) := by
                intro n30
                induction n30 using Nat.strongRecOn with
                | ind n30 ih28 =>
                  intro z24 A26 H locs ls f29 hk3 hn30 hI hj25 hP hS hl
                  have gI31 : Hd (IK A26) := Hd.mk hI
                  refine lv_iload_n hx hb (dk_at dkX6_copyFrom_2 6 rfl) rfl (lv_at hl 0 rfl) ?_
                  refine lv_bipush (v := iI 6) hx hb (dk_at dkX6_copyFrom_2 7 rfl) (by decide +kernel) ?_
                  refine lv_icmp_ge (tgt := 86) hx hb (dk_at dkX6_copyFrom_2 8 rfl) (by decide) (fun c32 => ?_) (fun c32 => ?_)
                  · have c32 : 6 ≤ z24 := (i_le ⟨by decide, by decide⟩ (rb f29 (by decide) (by decide))).mp c32
                    refine lv_iinc (v := iI (z10 + 1)) (lv' := [(2, .int (iI (z10 + 1))), (3, .int (iI z24)), (0, .ref (q ta)), (1, .ref (q tb))]) hx hb (dk_at dkX6_copyFrom_3 7 rfl) hl (k := 1) rfl (i_inc (by omega)) (by decide) rfl (fun ls hl => ?_)
                    refine lv_goto (tgt := 27) hx hb (dk_at dkX6_copyFrom_3 8 rfl) (by decide) ?_
                    exact ih14 _ (by omega) (z10 + 1) _ _ _ _ (by omega) (fun uq ⟨mm1, mm2, hq⟩ => hk3 _ ⟨mm1, mm2, 0 + 1, (u_d_X6_copyFrom_3 ⟨gI31.out, ⟨f29, (Or.inl ⟨c32, hq⟩)⟩⟩)⟩) rfl hI (fk.trans (fk.da (fk.da (fk.trans (fk.rf) hj11 rfl rfl) hA20 (isS.b2 (o := fun b => List.contains [34, 35, 37, 38, 39, 40, 43, 44, 46, 47, 48, 49, 75, 76, 78, 79, 80, 81, 106, 107, 109, 110, 111, 112] (b + 2)) hta rfl rfl rfl rfl)) hA23 (isS.b2 (o := fun b => List.contains [34, 35, 37, 38, 39, 40, 43, 44, 46, 47, 48, 49, 75, 76, 78, 79, 80, 81, 106, 107, 109, 110, 111, 112] (b + 3)) hta rfl rfl rfl rfl)) hj25 rfl rfl) hP hS (lv_sub hl [0, 2, 3] rfl)
                  · have c32 : ¬ 6 ≤ z24 := mt (i_le ⟨by decide, by decide⟩ (rb f29 (by decide) (by decide))).mpr c32
                    refine lv_aload_n hx hb (dk_at dkX6_copyFrom_2 9 rfl) rfl (lv_at hl 2 rfl) ?_
                    refine va_get (D := (dC, dI)) (ci := 6) (v := .ref (q (ta + 4))) (C := RX6) (T := TX6) (N := 4) hx hb hts hiX6 hown hK hP ta (wkS hta) rfl 3 (by decide) (hts _ (List.mem_cons_of_mem _ wkq_0_59)) (fun _ h9 => h9) rfl (dk_at dkX6_copyFrom_2 10 rfl) ?_
                    refine lv_iload_n hx hb (dk_at dkX6_copyFrom_2 11 rfl) rfl (lv_at hl 1 rfl) ?_
                    refine k_aald (Wf := WK cB cI cJ cZ cQ q) hx hb hK hP (ta + 4) 4 (wkSq hta) rfl (by omega) (by decide) (b := q (ta + 5 + (z10).toNat)) (by rcases (show z10 = 0 ∨ z10 = 1 ∨ z10 = 2 ∨ z10 = 3 by omega) with h | h | h | h <;> rw [h] <;> rfl) (dk_at dkX6_copyFrom_2 12 rfl) ?_
                    refine lv_iload_n hx hb (dk_at dkX6_copyFrom_2 13 rfl) rfl (lv_at hl 0 rfl) ?_
                    refine lv_aload_n hx hb (dk_at dkX6_copyFrom_2 14 rfl) rfl (lv_at hl 3 rfl) ?_
                    refine va_get (D := (dC, dI)) (ci := 6) (v := .ref (q (tb + 4))) (C := RX6) (T := TX6) (N := 4) hx hb hts hiX6 hown hK hP tb (wkS htb) rfl 3 (by decide) (hts _ (List.mem_cons_of_mem _ wkq_0_59)) (fun _ h9 => h9) rfl (dk_at dkX6_copyFrom_2 15 rfl) ?_
                    refine lv_iload_n hx hb (dk_at dkX6_copyFrom_3 0 rfl) rfl (lv_at hl 1 rfl) ?_
                    refine k_aald (Wf := WK cB cI cJ cZ cQ q) hx hb hK hP (tb + 4) 4 (wkSq htb) rfl (by omega) (by decide) (b := q (tb + 5 + (z10).toNat)) (by rcases (show z10 = 0 ∨ z10 = 1 ∨ z10 = 2 ∨ z10 = 3 by omega) with h | h | h | h <;> rw [h] <;> rfl) (dk_at dkX6_copyFrom_3 1 rfl) ?_
                    refine lv_iload_n hx hb (dk_at dkX6_copyFrom_3 2 rfl) rfl (lv_at hl 0 rfl) ?_
                    refine x_iald (Wf := WK cB cI cJ cZ cQ q) hx hb hK hP (tb + 5 + (z10).toNat) 1 (wkSr htb (i := z10) (by omega)) rfl (by omega) (by decide) (dk_at dkX6_copyFrom_3 3 rfl) (fun z33 hz33 => ?_)
                    have rz33 : (-2147483648 : Int) ≤ z33 ∧ z33 ≤ 2147483647 := by rw [hz33]; exact irSr htb (i := z10) (by omega) hI
                    have gz33 := Hd.mk hz33
                    refine k_iast (Wf := WK cB cI cJ cZ cQ q) hx hb hK hP hDD hS (ta + 5 + (z10).toNat) 1 (wkSr hta (i := z10) (by omega)) rfl (by omega) (by decide) (dk_at dkX6_copyFrom_3 4 rfl) (wsSr hta (i := z10) (by omega)) (fun H locs A34 hA34 hP hS => ?_)
                    have hI := isSr hta (i := z10) (by omega) hA34 hI (show (-2147483648 : Int) ≤ z33 ∧ z33 ≤ 2147483647 from rz33)
                    refine lv_iinc (v := iI (z24 + 1)) (lv' := [(3, .int (iI (z24 + 1))), (2, .int (iI z10)), (0, .ref (q ta)), (1, .ref (q tb))]) hx hb (dk_at dkX6_copyFrom_3 5 rfl) hl (k := 0) rfl (i_inc (by omega)) (by decide) rfl (fun ls hl => ?_)
                    refine lv_goto (tgt := 58) hx hb (dk_at dkX6_copyFrom_3 6 rfl) (by decide) ?_
                    exact ih28 _ (by omega) (z24 + 1) _ _ _ _ (by omega) (fun uq ⟨mm1, mm2, mm3, hq⟩ => hk3 _ ⟨mm1, mm2, mm3 + 1, (u_d_X6_copyFrom_3 ⟨gI31.out, ⟨f29, (Or.inr ⟨c32, ⟨z33, gz33.out, ⟨A34, hA34, hq⟩⟩⟩)⟩⟩)⟩) rfl hI (fk.da (fk.trans (fk.rf) hj25 rfl rfl) hA34 (by rcases hta with h | h | h | h <;> rw [h] <;> rcases (show z10 = 0 ∨ z10 = 1 ∨ z10 = 2 ∨ z10 = 3 by omega) with g | g | g | g <;> rw [g] <;> rfl)) hP hS (lv_sub hl [0, 1, 2, 3] rfl)
              exact L58_27 _ 0 _ _ _ _ (by omega) (fun uq ⟨mm1, mm2, mm3, hq⟩ => hk2 _ ⟨mm1, mm2 + 1, (u_d_X6_copyFrom_2 ⟨gI17.out, ⟨f15, (Or.inr ⟨c18, ⟨z19, gz19.out, ⟨A20, hA20, ⟨z22, gz22.out, ⟨A23, hA23, ⟨mm3, hq⟩⟩⟩⟩⟩⟩)⟩⟩)⟩) rfl hI (fk.rf) hP hS (lv_sub hl [0, 1, 2, 3] rfl)
        exact L27_13 _ 0 _ _ _ _ (by omega) (fun uq ⟨mm1, mm2, hq⟩ => hk1 _ ⟨mm1 + 1, (u_d_X6_copyFrom_1 ⟨gI8.out, ⟨f6, (Or.inl ⟨c9, ⟨mm2, hq⟩⟩)⟩⟩)⟩) rfl hI (fk.rf) hP hS (lv_sub hl [0, 1, 2] rfl)
      · have c9 : ¬ 3 ≤ z1 := mt (i_le ⟨by decide, by decide⟩ (rb f6 (by decide) (by decide))).mpr c9
        refine lv_aload_n hx hb (dk_at dkX6_copyFrom_0 5 rfl) rfl (lv_at hl 1 rfl) ?_
        refine va_get (D := (dC, dI)) (ci := 6) (v := .ref (q (ta + 1))) (C := RX6) (T := TX6) (N := 4) hx hb hts hiX6 hown hK hP ta (wkS hta) rfl 0 (by decide) (hts _ (List.mem_cons_of_mem _ wkq_4_36)) (fun _ h9 => h9) rfl (dk_at dkX6_copyFrom_0 6 rfl) ?_
        refine lv_iload_n hx hb (dk_at dkX6_copyFrom_0 7 rfl) rfl (lv_at hl 0 rfl) ?_
        refine lv_aload_n hx hb (dk_at dkX6_copyFrom_0 8 rfl) rfl (lv_at hl 2 rfl) ?_
        refine va_get (D := (dC, dI)) (ci := 6) (v := .ref (q (tb + 1))) (C := RX6) (T := TX6) (N := 4) hx hb hts hiX6 hown hK hP tb (wkS htb) rfl 0 (by decide) (hts _ (List.mem_cons_of_mem _ wkq_4_36)) (fun _ h9 => h9) rfl (dk_at dkX6_copyFrom_0 9 rfl) ?_
        refine lv_iload_n hx hb (dk_at dkX6_copyFrom_0 10 rfl) rfl (lv_at hl 0 rfl) ?_
        refine x_iald (Wf := WK cB cI cJ cZ cQ q) hx hb hK hP (tb + 1) 1 (wkSs htb) rfl (by omega) (by decide) (dk_at dkX6_copyFrom_0 11 rfl) (fun z35 hz35 => ?_)
        have rz35 : (-2147483648 : Int) ≤ z35 ∧ z35 ≤ 2147483647 := by rw [hz35]; exact irSs htb hI
        have gz35 := Hd.mk hz35
        refine k_iast (Wf := WK cB cI cJ cZ cQ q) hx hb hK hP hDD hS (ta + 1) 1 (wkSs hta) rfl (by omega) (by decide) (dk_at dkX6_copyFrom_0 12 rfl) (wsSs hta) (fun H locs A36 hA36 hP hS => ?_)
        have hI := isSs hta hA36 hI (show (-2147483648 : Int) ≤ z35 ∧ z35 ≤ 2147483647 from rz35)
        refine lv_iinc (v := iI (z1 + 1)) (lv' := [(2, .int (iI (z1 + 1))), (0, .ref (q ta)), (1, .ref (q tb))]) hx hb (dk_at dkX6_copyFrom_0 13 rfl) hl (k := 0) rfl (i_inc (by omega)) (by decide) rfl (fun ls hl => ?_)
        refine lv_goto (tgt := 2) hx hb (dk_at dkX6_copyFrom_0 14 rfl) (by decide) ?_
        exact ih5 _ (by omega) (z1 + 1) _ _ _ _ (by omega) (fun uq ⟨mm1, hq⟩ => hk1 _ ⟨mm1 + 1, (u_d_X6_copyFrom_1 ⟨gI8.out, ⟨f6, (Or.inr ⟨c9, ⟨z35, gz35.out, ⟨A36, hA36, hq⟩⟩⟩)⟩⟩)⟩) rfl hI (fk.da (fk.trans (fk.rf) hj2 rfl rfl) hA36 (isS.b2 (o := fun b => List.contains [33, 42, 74, 105] (b + 1)) hta rfl rfl rfl rfl)) hP hS (lv_sub hl [0, 1, 2] rfl)
  exact L2_4 _ 0 _ _ _ _ (by omega) (fun uq ⟨mm1, hq⟩ => (u_r_X6_copyFrom ⟨mm1, hq⟩)) rfl hI (fk.rf) hP hS (lv_sub hl [0, 1, 2] rfl)
theorem dkX4_accept_0 : dkq cX4_accept [(0, .aload_n 0, 1), (1, .getfield 18, 3), (4, .aload_n 1, 1), (5, .getfield 31, 3), (8, .invokevirtual 54, 3), (11, .iconst 0, 1), (12, .istore_n 3, 1), (13, .iconst 0, 1), (14, .istore 4, 2), (16, .iload 4, 2), (18, .aload_n 1, 1), (19, .getfield 26, 3), (22, .iconst 3, 1), (23, .iaload, 1), (24, .if_icmp .ge 43, 3), (27, .aload_n 2, 1)] = true := by decide +kernel
theorem dkX4_accept_1 : dkq cX4_accept [(28, .iload_n 3, 1), (29, .invokevirtual 58, 3), (32, .istore 5, 2), (34, .aload_n 1, 1), (35, .iconst 0, 1), (36, .iload 5, 2), (38, .invokevirtual 64, 3), (41, .ifCond .ne 5, 3), (44, .iconst 0, 1), (45, .ireturn, 1), (46, .aload_n 0, 1), (47, .getfield 18, 3), (50, .getfield 34, 3), (53, .iload 4, 2), (55, .iload 5, 2), (57, .iastore, 1)] = true := by decide +kernel
theorem dkX4_accept_2 : dkq cX4_accept [(58, .iinc 3 1, 3), (61, .iinc 4 1, 3), (64, .goto (-48), 3), (67, .iconst 0, 1), (68, .istore 4, 2), (70, .iload 4, 2), (72, .aload_n 1, 1), (73, .getfield 26, 3), (76, .iconst 2, 1), (77, .iaload, 1), (78, .if_icmp .ge 38, 3), (81, .aload_n 0, 1), (82, .aload_n 1, 1), (83, .aload_n 2, 1), (84, .iload 4, 2), (86, .iload_n 3, 1)] = true := by decide +kernel
theorem dkX4_accept_3 : dkq cX4_accept [(87, .invokevirtual 68, 3), (90, .ifCond .ne 5, 3), (93, .iconst 0, 1), (94, .ireturn, 1), (95, .iload_n 3, 1), (96, .iconst 2, 1), (97, .aload_n 0, 1), (98, .getfield 18, 3), (101, .getfield 44, 3), (104, .iload 4, 2), (106, .iaload, 1), (107, .iadd, 1), (108, .iadd, 1), (109, .istore_n 3, 1), (110, .iinc 4 1, 3), (113, .goto (-43), 3)] = true := by decide +kernel
theorem dkX4_accept_4 : dkq cX4_accept [(116, .aload_n 2, 1), (117, .getfield 72, 3), (120, .iload_n 3, 1), (121, .iconst 1, 1), (122, .iadd, 1), (123, .if_icmp .ne 16, 3), (126, .aload_n 2, 1), (127, .iload_n 3, 1), (128, .invokevirtual 58, 3), (131, .aload_n 2, 1), (132, .iload_n 3, 1), (133, .invokestatic 73, 3), (136, .if_icmp .eq 5, 3), (139, .iconst 0, 1), (140, .ireturn, 1), (141, .aload_n 1, 1)] = true := by decide +kernel
theorem dkX4_accept_5 : dkq cX4_accept [(142, .getfield 31, 3), (145, .aload_n 0, 1), (146, .getfield 18, 3), (149, .invokevirtual 54, 3), (152, .iconst 1, 1), (153, .ireturn, 1)] = true := by decide +kernel
theorem dkX4_acceptKey_0 : dkq cX4_acceptKey [(0, .aload_n 2, 1), (1, .iload 4, 2), (3, .invokevirtual 58, 3), (6, .istore 5, 2), (8, .aload_n 2, 1), (9, .iload 4, 2), (11, .iconst 1, 1), (12, .iadd, 1), (13, .invokevirtual 58, 3), (16, .istore 6, 2), (18, .aload_n 1, 1), (19, .iload 5, 2), (21, .invokestatic 77, 3), (24, .ifCond .eq 15, 3), (27, .iload 6, 2), (29, .ifCond .lt 10, 3)] = true := by decide +kernel
theorem dkX4_acceptKey_1 : dkq cX4_acceptKey [(32, .iload 6, 2), (34, .bipush 6, 2), (36, .if_icmp .le 5, 3), (39, .iconst 0, 1), (40, .ireturn, 1), (41, .aload_n 0, 1), (42, .getfield 18, 3), (45, .getfield 41, 3), (48, .iload_n 3, 1), (49, .iload 5, 2), (51, .iastore, 1), (52, .aload_n 0, 1), (53, .getfield 18, 3), (56, .getfield 44, 3), (59, .iload_n 3, 1), (60, .iconst 0, 1)] = true := by decide +kernel
theorem dkX4_acceptKey_2 : dkq cX4_acceptKey [(61, .iastore, 1), (62, .iconst 0, 1), (63, .istore 7, 2), (65, .iload 7, 2), (67, .iload 6, 2), (69, .if_icmp .ge 47, 3), (72, .aload_n 2, 1), (73, .iload 4, 2), (75, .iconst 2, 1), (76, .iadd, 1), (77, .iload 7, 2), (79, .iadd, 1), (80, .invokevirtual 58, 3), (83, .istore 8, 2), (85, .aload_n 1, 1), (86, .iconst 1, 1)] = true := by decide +kernel
theorem dkX4_acceptKey_3 : dkq cX4_acceptKey [(87, .iload 8, 2), (89, .invokevirtual 64, 3), (92, .ifCond .eq 16, 3), (95, .aload_n 0, 1), (96, .getfield 18, 3), (99, .iload_n 3, 1), (100, .iload 8, 2), (102, .invokevirtual 81, 3), (105, .ifCond .ne 5, 3), (108, .iconst 0, 1), (109, .ireturn, 1), (110, .iinc 7 1, 3), (113, .goto (-48), 3), (116, .iconst 1, 1), (117, .ireturn, 1)] = true := by decide +kernel
theorem dkX4_isWhere_0 : dkq cX4_isWhere [(0, .aload_n 0, 1), (1, .iconst 3, 1), (2, .iload_n 1, 1), (3, .invokevirtual 64, 3), (6, .ifCond .ne 32, 3), (9, .aload_n 0, 1), (10, .iconst 0, 1), (11, .iload_n 1, 1), (12, .bipush 10, 2), (14, .isub, 1), (15, .invokevirtual 64, 3), (18, .ifCond .ne 20, 3), (21, .aload_n 0, 1), (22, .iload_n 1, 1), (23, .bipush 20, 2), (25, .isub, 1)] = true := by decide +kernel
theorem dkX4_isWhere_1 : dkq cX4_isWhere [(26, .invokevirtual 84, 3), (29, .ifCond .ne 9, 3), (32, .iload_n 1, 1), (33, .bipush 40, 2), (35, .if_icmp .ne 7, 3), (38, .iconst 1, 1), (39, .goto 4, 3), (42, .iconst 0, 1), (43, .ireturn, 1)] = true := by decide +kernel
theorem dkX4_sumOf_0 : dkq cX4_sumOf [(0, .bipush 19, 2), (2, .istore_n 2, 1), (3, .iconst 0, 1), (4, .istore_n 3, 1), (5, .iload_n 3, 1), (6, .iload_n 1, 1), (7, .if_icmp .ge 26, 3), (10, .iload_n 3, 1), (11, .sipush 1600, 3), (14, .if_icmp .ge 19, 3), (17, .iload_n 2, 1), (18, .aload_n 0, 1), (19, .iload_n 3, 1), (20, .invokevirtual 58, 3), (23, .invokestatic 51, 3), (26, .istore_n 2, 1)] = true := by decide +kernel
theorem dkX4_sumOf_1 : dkq cX4_sumOf [(27, .iinc 3 1, 3), (30, .goto (-25), 3), (33, .iload_n 2, 1), (34, .ireturn, 1)] = true := by decide +kernel
theorem dkX5_statementWord_0 : dkq cX5_statementWord [(0, .iconst 0, 1), (1, .istore_n 2, 1), (2, .iload_n 2, 1), (3, .getstatic 109, 3), (6, .arraylength, 1), (7, .if_icmp .ge 76, 3), (10, .aload_n 0, 1), (11, .getfield 30, 3), (14, .getfield 57, 3), (17, .iconst 1, 1), (18, .if_icmp .ne 59, 3), (21, .aload_n 0, 1), (22, .getfield 30, 3), (25, .getfield 112, 3), (28, .aload_n 0, 1), (29, .getfield 9, 3)] = true := by decide +kernel
theorem dkX5_statementWord_1 : dkq cX5_statementWord [(32, .iload_n 2, 1), (33, .iaload, 1), (34, .if_icmp .ne 43, 3), (37, .getstatic 109, 3), (40, .iload_n 2, 1), (41, .iaload, 1), (42, .istore_n 3, 1), (43, .iload_n 3, 1), (44, .iconst (-1), 1), (45, .if_icmp .eq 23, 3), (48, .aload_n 1, 1), (49, .getfield 115, 3), (52, .iload_n 3, 1), (53, .iaload, 1), (54, .getstatic 118, 3), (57, .iload_n 3, 1)] = true := by decide +kernel
theorem dkX5_statementWord_2 : dkq cX5_statementWord [(58, .iaload, 1), (59, .if_icmp .lt 9, 3), (62, .aload_n 0, 1), (63, .iconst 5, 1), (64, .invokevirtual 121, 3), (67, .ireturn, 1), (68, .aload_n 0, 1), (69, .getfield 30, 3), (72, .invokevirtual 125, 3), (75, .iload_n 2, 1), (76, .ireturn, 1), (77, .iinc 2 1, 3), (80, .goto (-78), 3), (83, .aload_n 0, 1), (84, .iconst 1, 1), (85, .invokevirtual 121, 3)] = true := by decide +kernel
theorem dkX5_statementWord_3 : dkq cX5_statementWord [(88, .ireturn, 1)] = true := by decide +kernel
theorem dkX5_sign_0 : dkq cX5_sign [(0, .aload_n 0, 1), (1, .getfield 30, 3), (4, .invokevirtual 54, 3), (7, .aload_n 0, 1), (8, .getfield 30, 3), (11, .iload_n 1, 1), (12, .invokevirtual 241, 3), (15, .ifCond .ne 9, 3), (18, .aload_n 0, 1), (19, .iconst 1, 1), (20, .invokevirtual 132, 3), (23, .ireturn, 1), (24, .aload_n 0, 1), (25, .getfield 30, 3), (28, .invokevirtual 125, 3), (31, .iconst 1, 1)] = true := by decide +kernel
theorem dkX5_sign_1 : dkq cX5_sign [(32, .ireturn, 1)] = true := by decide +kernel
theorem dkX5_bad_0 : dkq cX5_bad [(0, .aload_n 0, 1), (1, .iload_n 1, 1), (2, .putfield 15, 3), (5, .aload_n 0, 1), (6, .aload_n 0, 1), (7, .getfield 30, 3), (10, .getfield 250, 3), (13, .putfield 19, 3), (16, .iconst 0, 1), (17, .ireturn, 1)] = true := by decide +kernel
theorem dkX5_none_0 : dkq cX5_none [(0, .aload_n 0, 1), (1, .iload_n 1, 1), (2, .invokevirtual 132, 3), (5, .pop, 1), (6, .iconst (-1), 1), (7, .ireturn, 1)] = true := by decide +kernel
theorem dkX6_placeInRow_0 : dkq cX6_placeInRow [(0, .iconst 0, 1), (1, .istore_n 3, 1), (2, .iload_n 3, 1), (3, .bipush 6, 2), (5, .if_icmp .ge 26, 3), (8, .iload_n 2, 1), (9, .iconst (-1), 1), (10, .if_icmp .eq 15, 3), (13, .aload_n 0, 1), (14, .iload_n 1, 1), (15, .iload_n 3, 1), (16, .invokevirtual 26, 3), (19, .iload_n 2, 1), (20, .if_icmp .ne 5, 3), (23, .iload_n 3, 1), (24, .ireturn, 1)] = true := by decide +kernel
theorem dkX6_placeInRow_1 : dkq cX6_placeInRow [(25, .iinc 3 1, 3), (28, .goto (-26), 3), (31, .iconst (-1), 1), (32, .ireturn, 1)] = true := by decide +kernel
theorem dkX6_push_0 : dkq cX6_push [(0, .iload_n 1, 1), (1, .ifCond .lt 18, 3), (4, .iload_n 1, 1), (5, .iconst 4, 1), (6, .if_icmp .ge 13, 3), (9, .aload_n 0, 1), (10, .iload_n 1, 1), (11, .iload_n 2, 1), (12, .invokevirtual 30, 3), (15, .iconst (-1), 1), (16, .if_icmp .eq 5, 3), (19, .iconst 0, 1), (20, .ireturn, 1), (21, .aload_n 0, 1), (22, .getfield 18, 3), (25, .iload_n 1, 1)] = true := by decide +kernel
theorem dkX6_push_1 : dkq cX6_push [(26, .iaload, 1), (27, .istore_n 3, 1), (28, .iload_n 3, 1), (29, .ifCond .lt 9, 3), (32, .iload_n 3, 1), (33, .bipush 6, 2), (35, .if_icmp .lt 5, 3), (38, .iconst 0, 1), (39, .ireturn, 1), (40, .aload_n 0, 1), (41, .getfield 23, 3), (44, .iload_n 1, 1), (45, .aaload, 1), (46, .iload_n 3, 1), (47, .iload_n 2, 1), (48, .iastore, 1)] = true := by decide +kernel
theorem dkX6_push_2 : dkq cX6_push [(49, .aload_n 0, 1), (50, .getfield 18, 3), (53, .iload_n 1, 1), (54, .iload_n 3, 1), (55, .iconst 1, 1), (56, .iadd, 1), (57, .iastore, 1), (58, .iconst 1, 1), (59, .ireturn, 1)] = true := by decide +kernel
theorem dkX7_at_0 : dkq cX7_at [(0, .iload_n 1, 1), (1, .ifCond .lt 31, 3), (4, .iload_n 1, 1), (5, .aload_n 0, 1), (6, .getfield 15, 3), (9, .if_icmp .ge 23, 3), (12, .iload_n 1, 1), (13, .sipush 1600, 3), (16, .if_icmp .ge 16, 3), (19, .aload_n 0, 1), (20, .getfield 9, 3), (23, .iload_n 1, 1), (24, .baload, 1), (25, .sipush 255, 3), (28, .iand, 1), (29, .goto 4, 3)] = true := by decide +kernel
theorem dkX7_at_1 : dkq cX7_at [(32, .iconst (-1), 1), (33, .ireturn, 1)] = true := by decide +kernel
theorem dkX9_clear_0 : dkq cX9_clear [(0, .iconst 0, 1), (1, .istore_n 1, 1), (2, .iload_n 1, 1), (3, .bipush 8, 2), (5, .if_icmp .ge 16, 3), (8, .aload_n 0, 1), (9, .getfield 9, 3), (12, .iload_n 1, 1), (13, .iconst 0, 1), (14, .iastore, 1), (15, .iinc 1 1, 3), (18, .goto (-16), 3), (21, .iconst 0, 1), (22, .istore_n 1, 1), (23, .iload_n 1, 1), (24, .iconst 3, 1)] = true := by decide +kernel
theorem dkX9_clear_1 : dkq cX9_clear [(25, .if_icmp .ge 16, 3), (28, .aload_n 0, 1), (29, .getfield 32, 3), (32, .iload_n 1, 1), (33, .iconst 0, 1), (34, .iastore, 1), (35, .iinc 1 1, 3), (38, .goto (-15), 3), (41, .iconst 0, 1), (42, .istore_n 1, 1), (43, .iload_n 1, 1), (44, .iconst 4, 1), (45, .if_icmp .ge 19, 3), (48, .aload_n 0, 1), (49, .getfield 63, 3), (52, .getfield 71, 3)] = true := by decide +kernel
theorem dkX9_clear_2 : dkq cX9_clear [(55, .iload_n 1, 1), (56, .iconst 0, 1), (57, .iastore, 1), (58, .iinc 1 1, 3), (61, .goto (-18), 3), (64, .aload_n 0, 1), (65, .getfield 56, 3), (68, .iconst 0, 1), (69, .putfield 74, 3), (72, .aload_n 0, 1), (73, .iconst 0, 1), (74, .putfield 67, 3), (77, .return_, 1)] = true := by decide +kernel
