abbrev tr_d_X5_isNameAhead_1 (A1 : St) (z : Int) (u : St) (K1 : Int → Prop) (z6 : Int) : Prop := ((0 ≤ z6 ∧ z6 ≤ 2147483647) ∧ (((26 ≤ z6) ∧ (z = 1 ∧ u = A1)) ∨ ((¬ 26 ≤ z6) ∧ (∃ z15 : Int, z15 = A1 4 (z6).toNat ∧ (((¬ (A1 5 4) = z15) ∧ (K1 (z6 + 1))) ∨ (((A1 5 4) = z15) ∧ (z = 0 ∧ u = A1)))))))
def d_X5_isNameAhead_1 (A1 : St) (z : Int) (u : St) : Nat → Int → Prop
  | 0, _ => False
  | nn9 + 1, z6 => tr_d_X5_isNameAhead_1 A1 z u (fun z6 => d_X5_isNameAhead_1 A1 z u nn9 z6) z6
theorem u_d_X5_isNameAhead_1 {A1 : St} {z : Int} {u : St} {nn9 : Nat} {z6 : Int} (h : tr_d_X5_isNameAhead_1 A1 z u (fun z6 => d_X5_isNameAhead_1 A1 z u nn9 z6) z6) : d_X5_isNameAhead_1 A1 z u (nn9 + 1) z6 := h
abbrev tr_r_X5_isNameAhead (A : St) (z : Int) (u : St) : Prop := (∃ A1 : St, q_X3_look A A1 ∧ ((((A1 5 2) = 1) ∧ (∃ nn9 : Nat, d_X5_isNameAhead_1 A1 z u nn9 0)) ∨ ((¬ (A1 5 2) = 1) ∧ (z = 0 ∧ u = A1))))
def r_X5_isNameAhead (A : St) (z : Int) (u : St) : Prop := tr_r_X5_isNameAhead A z u
theorem u_r_X5_isNameAhead {A : St} {z : Int} {u : St} (h : tr_r_X5_isNameAhead A z u) : r_X5_isNameAhead A z u := h
def q_X5_isNameAhead (A : St) (z : Int) (u : St) : Prop := r_X5_isNameAhead A z u ∧ IK u ∧ fk [] [(5, 1), (5, 2), (5, 3), (5, 4), (5, 5), (5, 6)] A u ∧ (0 ≤ z ∧ z ≤ 1)
def ws_kc_X5_isNameAhead : List Cond := .code yX5_isNameAhead cX5_isNameAhead 2 (some .boolean) :: WY
set_option maxHeartbeats 4000000 in
set_option maxRecDepth 100000 in
theorem kc_X5_isNameAhead (l : Launch) (dC : Nat → ClassId) (dI : Nat → Nat → Nat) (cB cI cJ cZ cQ : ClassId) (aL aS : Nat) (q : Nat → Nat) (A : St) (hI : IK A) : KMi l yX5_isNameAhead ws_kc_X5_isNameAhead ({ frames := 2, cells := 0, slots := 0, locals := 45 } : Room) aL aS (dC, dI) (tyA cB cI cJ cZ cQ) (WK cB cI cJ cZ cQ q) A [.ref (q 3)] (fun z u => r_X5_isNameAhead A z u ∧ IK u ∧ fk [] [(5, 1), (5, 2), (5, 3), (5, 4), (5, 5), (5, 6)] A u ∧ (0 ≤ z ∧ z ≤ 1)) := by
  refine k_metz (cc := cX5_isNameAhead) (maxL := 2) WK_adr (plainFor_of_name (by decide +kernel)) rfl (Nat.le_of_ble_eq_true rfl) (fun z u h => h.2.2.2) (fun p e s m below meth c Q AS ls hx hb hml hown hts hK hDD hA0 hE RET H locs hP hS hl => ?_)
  have hown : s.vm.findClass RX5 = some m.cls := hown
  have hl : lv_has ls 2 [(0, .ref (q 3))] := hl
  have hiX5 : ∀ w ∈ u_ws RX5 TX5 5, w ∈ ws_kc_X5_isNameAhead := fun w h => List.mem_cons_of_mem _ (wy_layX5 w h)
  have hiX3 : ∀ w ∈ u_ws RX3 TX3 7, w ∈ ws_kc_X5_isNameAhead := fun w h => List.mem_cons_of_mem _ (wy_layX3 w h)
  refine lv_aload_n hx hb (dk_at dkX5_isNameAhead_0 0 rfl) rfl (lv_at hl 0 rfl) ?_
  refine va_get (D := (dC, dI)) (ci := 5) (v := .ref (q 5)) (C := RX5) (T := TX5) (N := 5) hx hb hts hiX5 hown hK hP 3 (wkRD) rfl 0 (by decide) (hts _ (List.mem_cons_of_mem _ wkq_5_6)) (fun _ h9 => h9) rfl (dk_at dkX5_isNameAhead_0 1 rfl) ?_
  refine k_callv (As := []) (rest := []) ⟨hx, hb, hml, hown, hts⟩ hE (kc_X3_look l dC dI cB cI cJ cZ cQ aL aS q _ hI) (cwV 0 hts (goodVk wkq_5_22 wkq_5_23 wkq_5_24 wkq_4_10 wkq_4_2) rfl rfl rfl (by decide +kernel) ⟨Nat.le_of_ble_eq_true rfl, Nat.le_of_ble_eq_true rfl⟩) hK hDD hA0 hP hS 5 3 (wkLX) rfl rfl hl.1 (Nat.le_of_ble_eq_true rfl) (dk_at dkX5_isNameAhead_0 2 rfl) (fun A1 H locs hw2 hP hS => ?_)
  have ghw2 : q_X3_look A A1 := hw2
  obtain ⟨_, hI, hf3, hw2⟩ := hw2
  clear hw2
  refine lv_aload_n hx hb (dk_at dkX5_isNameAhead_0 3 rfl) rfl (lv_at hl 0 rfl) ?_
  refine va_get (D := (dC, dI)) (ci := 5) (v := .ref (q 5)) (C := RX5) (T := TX5) (N := 5) hx hb hts hiX5 hown hK hP 3 (wkRD) rfl 0 (by decide) (hts _ (List.mem_cons_of_mem _ wkq_5_6)) (fun _ h9 => h9) rfl (dk_at dkX5_isNameAhead_0 4 rfl) ?_
  have r4 : (0 : Int) ≤ (A1 5 2) ∧ (A1 5 2) ≤ 4 := irLX_2 hI
  refine va_get (D := (dC, dI)) (ci := 3) (v := .int (iI (A1 5 2))) (C := RX3) (T := TX3) (N := 7) hx hb hts hiX3 hown hK hP 5 (wkLX) rfl 2 (by decide) (hts _ (List.mem_cons_of_mem _ wkq_5_9)) (fun _ h9 => h9) rfl (dk_at dkX5_isNameAhead_0 5 rfl) ?_
  refine lv_iconst (v := iI 1) hx hb (dk_at dkX5_isNameAhead_0 6 rfl) (by decide +kernel) ?_
  refine lv_icmp_eq (tgt := 20) hx hb (dk_at dkX5_isNameAhead_0 7 rfl) (by decide) (fun c5 => ?_) (fun c5 => ?_)
  · have c5 : (A1 5 2) = 1 := (i_eq (rb r4 (by decide) (by decide)) ⟨by decide, by decide⟩).mp c5
    refine lv_iconst (v := iI 0) hx hb (dk_at dkX5_isNameAhead_0 10 rfl) (by decide +kernel) ?_
    refine lv_istore_n (lv' := [(1, .int (iI 0)), (0, .ref (q 3))]) hx hb (dk_at dkX5_isNameAhead_0 11 rfl) rfl hl (by decide) rfl (fun ls hl => ?_)
    have L22_8 : ∀ (n11 : Nat) (z6 : Int) (H : Heap) (locs : List Loc) (ls : Array Slot), (0 ≤ z6 ∧ z6 ≤ 2147483647) → (∀ (z : Int) (u : St), (∃ mm1 : Nat, (d_X5_isNameAhead_1 A1 z u mm1 z6)) → r_X5_isNameAhead A z u) → ((27 - z6).toNat = n11) → va_P (dC, dI) vwCl (WK cB cI cJ cZ cQ q A1) H → va_S AS s.heap H locs → lv_has ls 2 [(1, .int (iI z6)), (0, .ref (q 3))] → W p l e (headSpec ws_kc_X5_isNameAhead ({ frames := 2, cells := 0, slots := 0, locals := 45 } : Room)).room s m [.ref (q 3)].toArray below meth c H locs 0 0 Q (F0 m 22 ls []) := by
      intro n11
      induction n11 using Nat.strongRecOn with
      | ind n11 ih9 =>
        intro z6 H locs ls f10 hk1 hn11 hP hS hl
        refine lv_iload_n hx hb (dk_at dkX5_isNameAhead_0 12 rfl) rfl (lv_at hl 0 rfl) ?_
        refine lv_bipush (v := iI 26) hx hb (dk_at dkX5_isNameAhead_0 13 rfl) (by decide +kernel) ?_
        refine lv_icmp_ge (tgt := 52) hx hb (dk_at dkX5_isNameAhead_0 14 rfl) (by decide) (fun c12 => ?_) (fun c12 => ?_)
        · have c12 : 26 ≤ z6 := (i_le ⟨by decide, by decide⟩ (rb f10 (by decide) (by decide))).mp c12
          refine lv_iconst (v := iI 1) hx hb (dk_at dkX5_isNameAhead_1 11 rfl) (by decide +kernel) ?_
          exact RET 1 _ _ _ _ _ ⟨hk1 _ _ ⟨0 + 1, (u_d_X5_isNameAhead_1 ⟨f10, (Or.inl ⟨c12, ⟨rfl, rfl⟩⟩)⟩)⟩, hI, fk.trans (fk.rf) hf3 rfl rfl, ⟨by decide, by decide⟩⟩ hP hS (dk_at dkX5_isNameAhead_1 12 rfl)
        · have c12 : ¬ 26 ≤ z6 := mt (i_le ⟨by decide, by decide⟩ (rb f10 (by decide) (by decide))).mpr c12
          refine lv_aload_n hx hb (dk_at dkX5_isNameAhead_0 15 rfl) rfl (lv_at hl 1 rfl) ?_
          refine va_get (D := (dC, dI)) (ci := 5) (v := .ref (q 5)) (C := RX5) (T := TX5) (N := 5) hx hb hts hiX5 hown hK hP 3 (wkRD) rfl 0 (by decide) (hts _ (List.mem_cons_of_mem _ wkq_5_6)) (fun _ h9 => h9) rfl (dk_at dkX5_isNameAhead_1 0 rfl) ?_
          have r13 : (-2147483648 : Int) ≤ (A1 5 4) ∧ (A1 5 4) ≤ 2147483647 := irLX_4 hI
          refine va_get (D := (dC, dI)) (ci := 3) (v := .int (iI (A1 5 4))) (C := RX3) (T := TX3) (N := 7) hx hb hts hiX3 hown hK hP 5 (wkLX) rfl 4 (by decide) (hts _ (List.mem_cons_of_mem _ wkq_5_30)) (fun _ h9 => h9) rfl (dk_at dkX5_isNameAhead_1 1 rfl) ?_
          refine lv_aload_n hx hb (dk_at dkX5_isNameAhead_1 2 rfl) rfl (lv_at hl 1 rfl) ?_
          refine va_get (D := (dC, dI)) (ci := 5) (v := .ref (q 4)) (C := RX5) (T := TX5) (N := 5) hx hb hts hiX5 hown hK hP 3 (wkRD) rfl 1 (by decide) (hts _ (List.mem_cons_of_mem _ wkq_5_31)) (fun _ h9 => h9) rfl (dk_at dkX5_isNameAhead_1 3 rfl) ?_
          refine lv_iload_n hx hb (dk_at dkX5_isNameAhead_1 4 rfl) rfl (lv_at hl 0 rfl) ?_
          have a14 : ∀ k, A1 4 k = A 4 k := fun k => hf3 4 k rfl rfl
          refine x_iald (Wf := WK cB cI cJ cZ cQ q) hx hb hK hP 4 1 (wkRDo) rfl (by omega) (by decide) (dk_at dkX5_isNameAhead_1 5 rfl) (fun z15 hz15 => ?_)
          have rz15 : (-2147483648 : Int) ≤ z15 ∧ z15 ≤ 2147483647 := by rw [hz15]; exact irRDo hI
          have gz15 := Hd.mk hz15
          have hz15 : z15 = A 4 (z6).toNat := hz15.trans (a14 _)
          refine lv_icmp_ne (tgt := 46) hx hb (dk_at dkX5_isNameAhead_1 6 rfl) (by decide) (fun c16 => ?_) (fun c16 => ?_)
          · have c16 : ¬ (A1 5 4) = z15 := mt (i_eq r13 rz15).mpr c16
            refine lv_iinc (v := iI (z6 + 1)) (lv' := [(1, .int (iI (z6 + 1))), (0, .ref (q 3))]) hx hb (dk_at dkX5_isNameAhead_1 9 rfl) hl (k := 0) rfl (i_inc (by omega)) (by decide) rfl (fun ls hl => ?_)
            refine lv_goto (tgt := 22) hx hb (dk_at dkX5_isNameAhead_1 10 rfl) (by decide) ?_
            exact ih9 _ (by omega) (z6 + 1) _ _ _ (by omega) (fun zq uq ⟨mm1, hq⟩ => hk1 _ _ ⟨mm1 + 1, (u_d_X5_isNameAhead_1 ⟨f10, (Or.inr ⟨c12, ⟨z15, gz15.out, (Or.inl ⟨c16, hq⟩)⟩⟩)⟩)⟩) rfl hP hS (lv_sub hl [0, 1] rfl)
          · have c16 : (A1 5 4) = z15 := (i_eq r13 rz15).mp c16
            refine lv_iconst (v := iI 0) hx hb (dk_at dkX5_isNameAhead_1 7 rfl) (by decide +kernel) ?_
            exact RET 0 _ _ _ _ _ ⟨hk1 _ _ ⟨0 + 1, (u_d_X5_isNameAhead_1 ⟨f10, (Or.inr ⟨c12, ⟨z15, gz15.out, (Or.inr ⟨c16, ⟨rfl, rfl⟩⟩)⟩⟩)⟩)⟩, hI, fk.trans (fk.rf) hf3 rfl rfl, ⟨by decide, by decide⟩⟩ hP hS (dk_at dkX5_isNameAhead_1 8 rfl)
    exact L22_8 _ 0 _ _ _ (by omega) (fun zq uq ⟨mm1, hq⟩ => (u_r_X5_isNameAhead ⟨A1, ghw2, (Or.inl ⟨c5, ⟨mm1, hq⟩⟩)⟩)) rfl hP hS (lv_sub hl [0, 1] rfl)
  · have c5 : ¬ (A1 5 2) = 1 := mt (i_eq (rb r4 (by decide) (by decide)) ⟨by decide, by decide⟩).mpr c5
    refine lv_iconst (v := iI 0) hx hb (dk_at dkX5_isNameAhead_0 8 rfl) (by decide +kernel) ?_
    exact RET 0 _ _ _ _ _ ⟨(u_r_X5_isNameAhead ⟨A1, ghw2, (Or.inr ⟨c5, ⟨rfl, rfl⟩⟩)⟩), hI, fk.trans (fk.rf) hf3 rfl rfl, ⟨by decide, by decide⟩⟩ hP hS (dk_at dkX5_isNameAhead_0 9 rfl)

abbrev tr_d_X9_find_1_0_1 (ta : Nat) (x2 : Int) (A : St) (z : Int) (K1 : Int → Prop) (z3 : Int) : Prop := ((0 ≤ z3 ∧ z3 ≤ 2147483647) ∧ (∃ z10 : Int, z10 = A (ta + 1) (0 : Int).toNat ∧ (((z10 ≤ z3) ∧ (z = (-1))) ∨ ((¬ z10 ≤ z3) ∧ (∃ z13 : Int, z13 = A (ta + 3 + (0 : Int).toNat) (z3).toNat ∧ (((¬ z13 = x2) ∧ (K1 (z3 + 1))) ∨ ((z13 = x2) ∧ (z = z3))))))))
def d_X9_find_1_0_1 (ta : Nat) (x2 : Int) (A : St) (z : Int) : Nat → Int → Prop
  | 0, _ => False
  | nn9 + 1, z3 => tr_d_X9_find_1_0_1 ta x2 A z (fun z3 => d_X9_find_1_0_1 ta x2 A z nn9 z3) z3
theorem u_d_X9_find_1_0_1 {ta : Nat} {x2 : Int} {A : St} {z : Int} {nn9 : Nat} {z3 : Int} (h : tr_d_X9_find_1_0_1 ta x2 A z (fun z3 => d_X9_find_1_0_1 ta x2 A z nn9 z3) z3) : d_X9_find_1_0_1 ta x2 A z (nn9 + 1) z3 := h
abbrev tr_r_X9_find_1_0 (ta : Nat) (x2 : Int) (A : St) (z : Int) : Prop := (∃ nn9 : Nat, d_X9_find_1_0_1 ta x2 A z nn9 0)
def r_X9_find_1_0 (ta : Nat) (x2 : Int) (A : St) (z : Int) : Prop := tr_r_X9_find_1_0 ta x2 A z
theorem u_r_X9_find_1_0 {ta : Nat} {x2 : Int} {A : St} {z : Int} (h : tr_r_X9_find_1_0 ta x2 A z) : r_X9_find_1_0 ta x2 A z := h
def q_X9_find_1_0 (ta : Nat) (x2 : Int) (A : St) (z : Int) : Prop := r_X9_find_1_0 ta x2 A z ∧ (-1 ≤ z ∧ z ≤ 7)
def ws_kc_X9_find_1_0 : List Cond := .code yX9_find cX9_find 4 (some .int) :: WY
set_option maxHeartbeats 4000000 in
set_option maxRecDepth 100000 in
theorem kc_X9_find_1_0 (l : Launch) (dC : Nat → ClassId) (dI : Nat → Nat → Nat) (cB cI cJ cZ cQ : ClassId) (aL aS : Nat) (q : Nat → Nat) (A : St) (ta : Nat) (x2 : Int) (hI : IK A) (hta : isT ta) (hx2 : (-2147483648 : Int) ≤ x2 ∧ x2 ≤ 2147483647) : KMi l yX9_find ws_kc_X9_find_1_0 ({ frames := 0, cells := 0, slots := 0, locals := 0 } : Room) aL aS (dC, dI) (tyA cB cI cJ cZ cQ) (WK cB cI cJ cZ cQ q) A [.ref (q ta), .int (iI 0), .int (iI x2)] (fun z u => A = u ∧ r_X9_find_1_0 ta x2 A z ∧ (-1 ≤ z ∧ z ≤ 7)) := by
  refine k_meti (cc := cX9_find) (maxL := 4) WK_adr (plainFor_of_name (by decide +kernel)) rfl (Nat.le_of_ble_eq_true rfl) (fun p e s m below meth c Q AS ls hx hb hml hown hts hK hDD hA0 hE RET H locs hP hS hl => ?_)
  have hown : s.vm.findClass RX9 = some m.cls := hown
  have hl : lv_has ls 4 [(0, .ref (q ta)), (1, .int (iI 0)), (2, .int (iI x2))] := hl
  have hiX9 : ∀ w ∈ u_ws RX9 TX9 16, w ∈ ws_kc_X9_find_1_0 := fun w h => List.mem_cons_of_mem _ (wy_layX9 w h)
  refine lv_iload_n hx hb (dk_at dkX9_find_0 0 rfl) rfl (lv_at hl 1 rfl) ?_
  refine lv_if_lt (tgt := 9) hx hb (dk_at dkX9_find_0 1 rfl) (by decide) (fun c1 => absurd c1 (by decide +kernel)) (fun _ => ?_)
  refine lv_iload_n hx hb (dk_at dkX9_find_0 2 rfl) rfl (lv_at hl 1 rfl) ?_
  refine lv_iconst (v := iI 5) hx hb (dk_at dkX9_find_0 3 rfl) (by decide +kernel) ?_
  refine lv_icmp_lt (tgt := 11) hx hb (dk_at dkX9_find_0 4 rfl) (by decide) (fun _ => ?_) (fun c2 => absurd c2 (by decide +kernel))
  refine lv_iconst (v := iI 0) hx hb (dk_at dkX9_find_0 7 rfl) (by decide +kernel) ?_
  refine lv_istore_n (lv' := [(3, .int (iI 0)), (0, .ref (q ta)), (1, .int (iI 0)), (2, .int (iI x2))]) hx hb (dk_at dkX9_find_0 8 rfl) rfl hl (by decide) rfl (fun ls hl => ?_)
  have L13_5 : ∀ (n9 : Nat) (z3 : Int) (H : Heap) (locs : List Loc) (ls : Array Slot), (0 ≤ z3 ∧ z3 ≤ 2147483647) → (∀ (z : Int), (∃ mm1 : Nat, (d_X9_find_1_0_1 ta x2 A z mm1 z3)) → r_X9_find_1_0 ta x2 A z) → ((9 - z3).toNat = n9) → va_P (dC, dI) vwCl (WK cB cI cJ cZ cQ q A) H → va_S AS s.heap H locs → lv_has ls 4 [(3, .int (iI z3)), (0, .ref (q ta)), (1, .int (iI 0)), (2, .int (iI x2))] → W p l e (headSpec ws_kc_X9_find_1_0 ({ frames := 0, cells := 0, slots := 0, locals := 0 } : Room)).room s m [.ref (q ta), .int (iI 0), .int (iI x2)].toArray below meth c H locs 0 0 Q (F0 m 13 ls []) := by
    intro n9
    induction n9 using Nat.strongRecOn with
    | ind n9 ih6 =>
      intro z3 H locs ls f7 hk1 hn9 hP hS hl
      refine lv_iload_n hx hb (dk_at dkX9_find_0 9 rfl) rfl (lv_at hl 0 rfl) ?_
      refine lv_aload_n hx hb (dk_at dkX9_find_0 10 rfl) rfl (lv_at hl 1 rfl) ?_
      refine va_get (D := (dC, dI)) (ci := 9) (v := .ref (q (ta + 1))) (C := RX9) (T := TX9) (N := 16) hx hb hts hiX9 hown hK hP ta (wkT hta) rfl 0 (by decide) (hts _ (List.mem_cons_of_mem _ wkq_0_8)) (fun _ h9 => h9) rfl (dk_at dkX9_find_0 11 rfl) ?_
      refine lv_iload_n hx hb (dk_at dkX9_find_0 12 rfl) rfl (lv_at hl 2 rfl) ?_
      refine x_iald (Wf := WK cB cI cJ cZ cQ q) hx hb hK hP (ta + 1) 1 (wkTc hta) rfl (by decide) (by decide) (dk_at dkX9_find_0 13 rfl) (fun z10 hz10 => ?_)
      have rz10 : (0 : Int) ≤ z10 ∧ z10 ≤ 8 := by rw [hz10]; exact irTc0 hta hI
      have gz10 := Hd.mk hz10
      refine lv_icmp_ge (tgt := 49) hx hb (dk_at dkX9_find_0 14 rfl) (by decide) (fun c11 => ?_) (fun c11 => ?_)
      · have c11 : z10 ≤ z3 := (i_le (rb rz10 (by decide) (by decide)) (rb f7 (by decide) (by decide))).mp c11
        refine lv_iconst (v := iI (-1)) hx hb (dk_at dkX9_find_1 14 rfl) (by decide +kernel) ?_
        exact RET (-1) _ _ _ _ _ ⟨rfl, hk1 _ ⟨0 + 1, (u_d_X9_find_1_0_1 ⟨f7, ⟨z10, gz10.out, (Or.inl ⟨c11, rfl⟩)⟩⟩)⟩, by omega⟩ hP hS (dk_at dkX9_find_1 15 rfl)
      · have c11 : ¬ z10 ≤ z3 := mt (i_le (rb rz10 (by decide) (by decide)) (rb f7 (by decide) (by decide))).mpr c11
        refine lv_iload_n hx hb (dk_at dkX9_find_0 15 rfl) rfl (lv_at hl 0 rfl) ?_
        refine lv_bipush (v := iI 10) hx hb (dk_at dkX9_find_1 0 rfl) (by decide +kernel) ?_
        refine lv_icmp_ge (tgt := 49) hx hb (dk_at dkX9_find_1 1 rfl) (by decide) (fun c12 => False.elim (by have c12 : 10 ≤ z3 := (i_le ⟨by decide, by decide⟩ (rb f7 (by decide) (by decide))).mp c12; omega)) (fun _ => ?_)
        refine lv_aload_n hx hb (dk_at dkX9_find_1 2 rfl) rfl (lv_at hl 1 rfl) ?_
        refine va_get (D := (dC, dI)) (ci := 9) (v := .ref (q (ta + 2))) (C := RX9) (T := TX9) (N := 16) hx hb hts hiX9 hown hK hP ta (wkT hta) rfl 1 (by decide) (hts _ (List.mem_cons_of_mem _ wkq_5_57)) (fun _ h9 => h9) rfl (dk_at dkX9_find_1 3 rfl) ?_
        refine lv_iload_n hx hb (dk_at dkX9_find_1 4 rfl) rfl (lv_at hl 2 rfl) ?_
        refine k_aald (Wf := WK cB cI cJ cZ cQ q) hx hb hK hP (ta + 2) 4 (wkTq hta) rfl (by omega) (by decide) (b := q (ta + 3 + (0 : Int).toNat)) rfl (dk_at dkX9_find_1 5 rfl) ?_
        refine lv_iload_n hx hb (dk_at dkX9_find_1 6 rfl) rfl (lv_at hl 0 rfl) ?_
        refine x_iald (Wf := WK cB cI cJ cZ cQ q) hx hb hK hP (ta + 3 + (0 : Int).toNat) 1 (wkTn hta (i := 0) (by decide)) rfl (by omega) (by decide) (dk_at dkX9_find_1 7 rfl) (fun z13 hz13 => ?_)
        have rz13 : (-2147483648 : Int) ≤ z13 ∧ z13 ≤ 2147483647 := by rw [hz13]; exact irTn hta (i := 0) (by decide) hI
        have gz13 := Hd.mk hz13
        refine lv_iload_n hx hb (dk_at dkX9_find_1 8 rfl) rfl (lv_at hl 3 rfl) ?_
        refine lv_icmp_ne (tgt := 43) hx hb (dk_at dkX9_find_1 9 rfl) (by decide) (fun c14 => ?_) (fun c14 => ?_)
        · have c14 : ¬ z13 = x2 := mt (i_eq rz13 hx2).mpr c14
          refine lv_iinc (v := iI (z3 + 1)) (lv' := [(3, .int (iI (z3 + 1))), (0, .ref (q ta)), (1, .int (iI 0)), (2, .int (iI x2))]) hx hb (dk_at dkX9_find_1 12 rfl) hl (k := 0) rfl (i_inc (by omega)) (by decide) rfl (fun ls hl => ?_)
          refine lv_goto (tgt := 13) hx hb (dk_at dkX9_find_1 13 rfl) (by decide) ?_
          exact ih6 _ (by omega) (z3 + 1) _ _ _ (by omega) (fun zq ⟨mm1, hq⟩ => hk1 _ ⟨mm1 + 1, (u_d_X9_find_1_0_1 ⟨f7, ⟨z10, gz10.out, (Or.inr ⟨c11, ⟨z13, gz13.out, (Or.inl ⟨c14, hq⟩)⟩⟩)⟩⟩)⟩) rfl hP hS (lv_sub hl [0, 1, 2, 3] rfl)
        · have c14 : z13 = x2 := (i_eq rz13 hx2).mp c14
          refine lv_iload_n hx hb (dk_at dkX9_find_1 10 rfl) rfl (lv_at hl 0 rfl) ?_
          exact RET z3 _ _ _ _ _ ⟨rfl, hk1 _ ⟨0 + 1, (u_d_X9_find_1_0_1 ⟨f7, ⟨z10, gz10.out, (Or.inr ⟨c11, ⟨z13, gz13.out, (Or.inr ⟨c14, rfl⟩)⟩⟩)⟩⟩)⟩, by omega⟩ hP hS (dk_at dkX9_find_1 11 rfl)
  exact L13_5 _ 0 _ _ _ (by omega) (fun zq ⟨mm1, hq⟩ => (u_r_X9_find_1_0 ⟨mm1, hq⟩)) rfl hP hS (lv_sub hl [0, 1, 2, 3] rfl)

abbrev tr_d_X9_find_1_1_1 (ta : Nat) (x2 : Int) (A : St) (z : Int) (K1 : Int → Prop) (z3 : Int) : Prop := ((0 ≤ z3 ∧ z3 ≤ 2147483647) ∧ (∃ z10 : Int, z10 = A (ta + 1) (1 : Int).toNat ∧ (((z10 ≤ z3) ∧ (z = (-1))) ∨ ((¬ z10 ≤ z3) ∧ (∃ z13 : Int, z13 = A (ta + 3 + (1 : Int).toNat) (z3).toNat ∧ (((¬ z13 = x2) ∧ (K1 (z3 + 1))) ∨ ((z13 = x2) ∧ (z = z3))))))))
def d_X9_find_1_1_1 (ta : Nat) (x2 : Int) (A : St) (z : Int) : Nat → Int → Prop
  | 0, _ => False
  | nn9 + 1, z3 => tr_d_X9_find_1_1_1 ta x2 A z (fun z3 => d_X9_find_1_1_1 ta x2 A z nn9 z3) z3
theorem u_d_X9_find_1_1_1 {ta : Nat} {x2 : Int} {A : St} {z : Int} {nn9 : Nat} {z3 : Int} (h : tr_d_X9_find_1_1_1 ta x2 A z (fun z3 => d_X9_find_1_1_1 ta x2 A z nn9 z3) z3) : d_X9_find_1_1_1 ta x2 A z (nn9 + 1) z3 := h
abbrev tr_r_X9_find_1_1 (ta : Nat) (x2 : Int) (A : St) (z : Int) : Prop := (∃ nn9 : Nat, d_X9_find_1_1_1 ta x2 A z nn9 0)
def r_X9_find_1_1 (ta : Nat) (x2 : Int) (A : St) (z : Int) : Prop := tr_r_X9_find_1_1 ta x2 A z
theorem u_r_X9_find_1_1 {ta : Nat} {x2 : Int} {A : St} {z : Int} (h : tr_r_X9_find_1_1 ta x2 A z) : r_X9_find_1_1 ta x2 A z := h
def q_X9_find_1_1 (ta : Nat) (x2 : Int) (A : St) (z : Int) : Prop := r_X9_find_1_1 ta x2 A z ∧ (-1 ≤ z ∧ z ≤ 9)
def ws_kc_X9_find_1_1 : List Cond := .code yX9_find cX9_find 4 (some .int) :: WY
set_option maxHeartbeats 4000000 in
set_option maxRecDepth 100000 in
theorem kc_X9_find_1_1 (l : Launch) (dC : Nat → ClassId) (dI : Nat → Nat → Nat) (cB cI cJ cZ cQ : ClassId) (aL aS : Nat) (q : Nat → Nat) (A : St) (ta : Nat) (x2 : Int) (hI : IK A) (hta : isT ta) (hx2 : (-2147483648 : Int) ≤ x2 ∧ x2 ≤ 2147483647) : KMi l yX9_find ws_kc_X9_find_1_1 ({ frames := 0, cells := 0, slots := 0, locals := 0 } : Room) aL aS (dC, dI) (tyA cB cI cJ cZ cQ) (WK cB cI cJ cZ cQ q) A [.ref (q ta), .int (iI 1), .int (iI x2)] (fun z u => A = u ∧ r_X9_find_1_1 ta x2 A z ∧ (-1 ≤ z ∧ z ≤ 9)) := by
  refine k_meti (cc := cX9_find) (maxL := 4) WK_adr (plainFor_of_name (by decide +kernel)) rfl (Nat.le_of_ble_eq_true rfl) (fun p e s m below meth c Q AS ls hx hb hml hown hts hK hDD hA0 hE RET H locs hP hS hl => ?_)
  have hown : s.vm.findClass RX9 = some m.cls := hown
  have hl : lv_has ls 4 [(0, .ref (q ta)), (1, .int (iI 1)), (2, .int (iI x2))] := hl
  have hiX9 : ∀ w ∈ u_ws RX9 TX9 16, w ∈ ws_kc_X9_find_1_1 := fun w h => List.mem_cons_of_mem _ (wy_layX9 w h)
  refine lv_iload_n hx hb (dk_at dkX9_find_0 0 rfl) rfl (lv_at hl 1 rfl) ?_
  refine lv_if_lt (tgt := 9) hx hb (dk_at dkX9_find_0 1 rfl) (by decide) (fun c1 => absurd c1 (by decide +kernel)) (fun _ => ?_)
  refine lv_iload_n hx hb (dk_at dkX9_find_0 2 rfl) rfl (lv_at hl 1 rfl) ?_
  refine lv_iconst (v := iI 5) hx hb (dk_at dkX9_find_0 3 rfl) (by decide +kernel) ?_
  refine lv_icmp_lt (tgt := 11) hx hb (dk_at dkX9_find_0 4 rfl) (by decide) (fun _ => ?_) (fun c2 => absurd c2 (by decide +kernel))
  refine lv_iconst (v := iI 0) hx hb (dk_at dkX9_find_0 7 rfl) (by decide +kernel) ?_
  refine lv_istore_n (lv' := [(3, .int (iI 0)), (0, .ref (q ta)), (1, .int (iI 1)), (2, .int (iI x2))]) hx hb (dk_at dkX9_find_0 8 rfl) rfl hl (by decide) rfl (fun ls hl => ?_)
  have L13_5 : ∀ (n9 : Nat) (z3 : Int) (H : Heap) (locs : List Loc) (ls : Array Slot), (0 ≤ z3 ∧ z3 ≤ 2147483647) → (∀ (z : Int), (∃ mm1 : Nat, (d_X9_find_1_1_1 ta x2 A z mm1 z3)) → r_X9_find_1_1 ta x2 A z) → ((11 - z3).toNat = n9) → va_P (dC, dI) vwCl (WK cB cI cJ cZ cQ q A) H → va_S AS s.heap H locs → lv_has ls 4 [(3, .int (iI z3)), (0, .ref (q ta)), (1, .int (iI 1)), (2, .int (iI x2))] → W p l e (headSpec ws_kc_X9_find_1_1 ({ frames := 0, cells := 0, slots := 0, locals := 0 } : Room)).room s m [.ref (q ta), .int (iI 1), .int (iI x2)].toArray below meth c H locs 0 0 Q (F0 m 13 ls []) := by
    intro n9
    induction n9 using Nat.strongRecOn with
    | ind n9 ih6 =>
      intro z3 H locs ls f7 hk1 hn9 hP hS hl
      refine lv_iload_n hx hb (dk_at dkX9_find_0 9 rfl) rfl (lv_at hl 0 rfl) ?_
      refine lv_aload_n hx hb (dk_at dkX9_find_0 10 rfl) rfl (lv_at hl 1 rfl) ?_
      refine va_get (D := (dC, dI)) (ci := 9) (v := .ref (q (ta + 1))) (C := RX9) (T := TX9) (N := 16) hx hb hts hiX9 hown hK hP ta (wkT hta) rfl 0 (by decide) (hts _ (List.mem_cons_of_mem _ wkq_0_8)) (fun _ h9 => h9) rfl (dk_at dkX9_find_0 11 rfl) ?_
      refine lv_iload_n hx hb (dk_at dkX9_find_0 12 rfl) rfl (lv_at hl 2 rfl) ?_
      refine x_iald (Wf := WK cB cI cJ cZ cQ q) hx hb hK hP (ta + 1) 1 (wkTc hta) rfl (by decide) (by decide) (dk_at dkX9_find_0 13 rfl) (fun z10 hz10 => ?_)
      have rz10 : (0 : Int) ≤ z10 ∧ z10 ≤ 10 := by rw [hz10]; exact irTc1 hta hI
      have gz10 := Hd.mk hz10
      refine lv_icmp_ge (tgt := 49) hx hb (dk_at dkX9_find_0 14 rfl) (by decide) (fun c11 => ?_) (fun c11 => ?_)
      · have c11 : z10 ≤ z3 := (i_le (rb rz10 (by decide) (by decide)) (rb f7 (by decide) (by decide))).mp c11
        refine lv_iconst (v := iI (-1)) hx hb (dk_at dkX9_find_1 14 rfl) (by decide +kernel) ?_
        exact RET (-1) _ _ _ _ _ ⟨rfl, hk1 _ ⟨0 + 1, (u_d_X9_find_1_1_1 ⟨f7, ⟨z10, gz10.out, (Or.inl ⟨c11, rfl⟩)⟩⟩)⟩, by omega⟩ hP hS (dk_at dkX9_find_1 15 rfl)
      · have c11 : ¬ z10 ≤ z3 := mt (i_le (rb rz10 (by decide) (by decide)) (rb f7 (by decide) (by decide))).mpr c11
        refine lv_iload_n hx hb (dk_at dkX9_find_0 15 rfl) rfl (lv_at hl 0 rfl) ?_
        refine lv_bipush (v := iI 10) hx hb (dk_at dkX9_find_1 0 rfl) (by decide +kernel) ?_
        refine lv_icmp_ge (tgt := 49) hx hb (dk_at dkX9_find_1 1 rfl) (by decide) (fun c12 => False.elim (by have c12 : 10 ≤ z3 := (i_le ⟨by decide, by decide⟩ (rb f7 (by decide) (by decide))).mp c12; omega)) (fun _ => ?_)
        refine lv_aload_n hx hb (dk_at dkX9_find_1 2 rfl) rfl (lv_at hl 1 rfl) ?_
        refine va_get (D := (dC, dI)) (ci := 9) (v := .ref (q (ta + 2))) (C := RX9) (T := TX9) (N := 16) hx hb hts hiX9 hown hK hP ta (wkT hta) rfl 1 (by decide) (hts _ (List.mem_cons_of_mem _ wkq_5_57)) (fun _ h9 => h9) rfl (dk_at dkX9_find_1 3 rfl) ?_
        refine lv_iload_n hx hb (dk_at dkX9_find_1 4 rfl) rfl (lv_at hl 2 rfl) ?_
        refine k_aald (Wf := WK cB cI cJ cZ cQ q) hx hb hK hP (ta + 2) 4 (wkTq hta) rfl (by omega) (by decide) (b := q (ta + 3 + (1 : Int).toNat)) rfl (dk_at dkX9_find_1 5 rfl) ?_
        refine lv_iload_n hx hb (dk_at dkX9_find_1 6 rfl) rfl (lv_at hl 0 rfl) ?_
        refine x_iald (Wf := WK cB cI cJ cZ cQ q) hx hb hK hP (ta + 3 + (1 : Int).toNat) 1 (wkTn hta (i := 1) (by decide)) rfl (by omega) (by decide) (dk_at dkX9_find_1 7 rfl) (fun z13 hz13 => ?_)
        have rz13 : (-2147483648 : Int) ≤ z13 ∧ z13 ≤ 2147483647 := by rw [hz13]; exact irTn hta (i := 1) (by decide) hI
        have gz13 := Hd.mk hz13
        refine lv_iload_n hx hb (dk_at dkX9_find_1 8 rfl) rfl (lv_at hl 3 rfl) ?_
        refine lv_icmp_ne (tgt := 43) hx hb (dk_at dkX9_find_1 9 rfl) (by decide) (fun c14 => ?_) (fun c14 => ?_)
        · have c14 : ¬ z13 = x2 := mt (i_eq rz13 hx2).mpr c14
          refine lv_iinc (v := iI (z3 + 1)) (lv' := [(3, .int (iI (z3 + 1))), (0, .ref (q ta)), (1, .int (iI 1)), (2, .int (iI x2))]) hx hb (dk_at dkX9_find_1 12 rfl) hl (k := 0) rfl (i_inc (by omega)) (by decide) rfl (fun ls hl => ?_)
          refine lv_goto (tgt := 13) hx hb (dk_at dkX9_find_1 13 rfl) (by decide) ?_
          exact ih6 _ (by omega) (z3 + 1) _ _ _ (by omega) (fun zq ⟨mm1, hq⟩ => hk1 _ ⟨mm1 + 1, (u_d_X9_find_1_1_1 ⟨f7, ⟨z10, gz10.out, (Or.inr ⟨c11, ⟨z13, gz13.out, (Or.inl ⟨c14, hq⟩)⟩⟩)⟩⟩)⟩) rfl hP hS (lv_sub hl [0, 1, 2, 3] rfl)
        · have c14 : z13 = x2 := (i_eq rz13 hx2).mp c14
          refine lv_iload_n hx hb (dk_at dkX9_find_1 10 rfl) rfl (lv_at hl 0 rfl) ?_
          exact RET z3 _ _ _ _ _ ⟨rfl, hk1 _ ⟨0 + 1, (u_d_X9_find_1_1_1 ⟨f7, ⟨z10, gz10.out, (Or.inr ⟨c11, ⟨z13, gz13.out, (Or.inr ⟨c14, rfl⟩)⟩⟩)⟩⟩)⟩, by omega⟩ hP hS (dk_at dkX9_find_1 11 rfl)
  exact L13_5 _ 0 _ _ _ (by omega) (fun zq ⟨mm1, hq⟩ => (u_r_X9_find_1_1 ⟨mm1, hq⟩)) rfl hP hS (lv_sub hl [0, 1, 2, 3] rfl)

abbrev tr_d_X9_find_1_2_1 (ta : Nat) (x2 : Int) (A : St) (z : Int) (K1 : Int → Prop) (z3 : Int) : Prop := ((0 ≤ z3 ∧ z3 ≤ 2147483647) ∧ (∃ z10 : Int, z10 = A (ta + 1) (2 : Int).toNat ∧ (((z10 ≤ z3) ∧ (z = (-1))) ∨ ((¬ z10 ≤ z3) ∧ (∃ z13 : Int, z13 = A (ta + 3 + (2 : Int).toNat) (z3).toNat ∧ (((¬ z13 = x2) ∧ (K1 (z3 + 1))) ∨ ((z13 = x2) ∧ (z = z3))))))))
def d_X9_find_1_2_1 (ta : Nat) (x2 : Int) (A : St) (z : Int) : Nat → Int → Prop
  | 0, _ => False
  | nn9 + 1, z3 => tr_d_X9_find_1_2_1 ta x2 A z (fun z3 => d_X9_find_1_2_1 ta x2 A z nn9 z3) z3
theorem u_d_X9_find_1_2_1 {ta : Nat} {x2 : Int} {A : St} {z : Int} {nn9 : Nat} {z3 : Int} (h : tr_d_X9_find_1_2_1 ta x2 A z (fun z3 => d_X9_find_1_2_1 ta x2 A z nn9 z3) z3) : d_X9_find_1_2_1 ta x2 A z (nn9 + 1) z3 := h
abbrev tr_r_X9_find_1_2 (ta : Nat) (x2 : Int) (A : St) (z : Int) : Prop := (∃ nn9 : Nat, d_X9_find_1_2_1 ta x2 A z nn9 0)
def r_X9_find_1_2 (ta : Nat) (x2 : Int) (A : St) (z : Int) : Prop := tr_r_X9_find_1_2 ta x2 A z
theorem u_r_X9_find_1_2 {ta : Nat} {x2 : Int} {A : St} {z : Int} (h : tr_r_X9_find_1_2 ta x2 A z) : r_X9_find_1_2 ta x2 A z := h
def q_X9_find_1_2 (ta : Nat) (x2 : Int) (A : St) (z : Int) : Prop := r_X9_find_1_2 ta x2 A z ∧ (-1 ≤ z ∧ z ≤ 3)
def ws_kc_X9_find_1_2 : List Cond := .code yX9_find cX9_find 4 (some .int) :: WY
set_option maxHeartbeats 4000000 in
set_option maxRecDepth 100000 in
theorem kc_X9_find_1_2 (l : Launch) (dC : Nat → ClassId) (dI : Nat → Nat → Nat) (cB cI cJ cZ cQ : ClassId) (aL aS : Nat) (q : Nat → Nat) (A : St) (ta : Nat) (x2 : Int) (hI : IK A) (hta : isT ta) (hx2 : (-2147483648 : Int) ≤ x2 ∧ x2 ≤ 2147483647) : KMi l yX9_find ws_kc_X9_find_1_2 ({ frames := 0, cells := 0, slots := 0, locals := 0 } : Room) aL aS (dC, dI) (tyA cB cI cJ cZ cQ) (WK cB cI cJ cZ cQ q) A [.ref (q ta), .int (iI 2), .int (iI x2)] (fun z u => A = u ∧ r_X9_find_1_2 ta x2 A z ∧ (-1 ≤ z ∧ z ≤ 3)) := by
  refine k_meti (cc := cX9_find) (maxL := 4) WK_adr (plainFor_of_name (by decide +kernel)) rfl (Nat.le_of_ble_eq_true rfl) (fun p e s m below meth c Q AS ls hx hb hml hown hts hK hDD hA0 hE RET H locs hP hS hl => ?_)
  have hown : s.vm.findClass RX9 = some m.cls := hown
  have hl : lv_has ls 4 [(0, .ref (q ta)), (1, .int (iI 2)), (2, .int (iI x2))] := hl
  have hiX9 : ∀ w ∈ u_ws RX9 TX9 16, w ∈ ws_kc_X9_find_1_2 := fun w h => List.mem_cons_of_mem _ (wy_layX9 w h)
  refine lv_iload_n hx hb (dk_at dkX9_find_0 0 rfl) rfl (lv_at hl 1 rfl) ?_
  refine lv_if_lt (tgt := 9) hx hb (dk_at dkX9_find_0 1 rfl) (by decide) (fun c1 => absurd c1 (by decide +kernel)) (fun _ => ?_)
  refine lv_iload_n hx hb (dk_at dkX9_find_0 2 rfl) rfl (lv_at hl 1 rfl) ?_
  refine lv_iconst (v := iI 5) hx hb (dk_at dkX9_find_0 3 rfl) (by decide +kernel) ?_
  refine lv_icmp_lt (tgt := 11) hx hb (dk_at dkX9_find_0 4 rfl) (by decide) (fun _ => ?_) (fun c2 => absurd c2 (by decide +kernel))
  refine lv_iconst (v := iI 0) hx hb (dk_at dkX9_find_0 7 rfl) (by decide +kernel) ?_
  refine lv_istore_n (lv' := [(3, .int (iI 0)), (0, .ref (q ta)), (1, .int (iI 2)), (2, .int (iI x2))]) hx hb (dk_at dkX9_find_0 8 rfl) rfl hl (by decide) rfl (fun ls hl => ?_)
  have L13_5 : ∀ (n9 : Nat) (z3 : Int) (H : Heap) (locs : List Loc) (ls : Array Slot), (0 ≤ z3 ∧ z3 ≤ 2147483647) → (∀ (z : Int), (∃ mm1 : Nat, (d_X9_find_1_2_1 ta x2 A z mm1 z3)) → r_X9_find_1_2 ta x2 A z) → ((5 - z3).toNat = n9) → va_P (dC, dI) vwCl (WK cB cI cJ cZ cQ q A) H → va_S AS s.heap H locs → lv_has ls 4 [(3, .int (iI z3)), (0, .ref (q ta)), (1, .int (iI 2)), (2, .int (iI x2))] → W p l e (headSpec ws_kc_X9_find_1_2 ({ frames := 0, cells := 0, slots := 0, locals := 0 } : Room)).room s m [.ref (q ta), .int (iI 2), .int (iI x2)].toArray below meth c H locs 0 0 Q (F0 m 13 ls []) := by
    intro n9
    induction n9 using Nat.strongRecOn with
    | ind n9 ih6 =>
      intro z3 H locs ls f7 hk1 hn9 hP hS hl
      refine lv_iload_n hx hb (dk_at dkX9_find_0 9 rfl) rfl (lv_at hl 0 rfl) ?_
      refine lv_aload_n hx hb (dk_at dkX9_find_0 10 rfl) rfl (lv_at hl 1 rfl) ?_
      refine va_get (D := (dC, dI)) (ci := 9) (v := .ref (q (ta + 1))) (C := RX9) (T := TX9) (N := 16) hx hb hts hiX9 hown hK hP ta (wkT hta) rfl 0 (by decide) (hts _ (List.mem_cons_of_mem _ wkq_0_8)) (fun _ h9 => h9) rfl (dk_at dkX9_find_0 11 rfl) ?_
      refine lv_iload_n hx hb (dk_at dkX9_find_0 12 rfl) rfl (lv_at hl 2 rfl) ?_
      refine x_iald (Wf := WK cB cI cJ cZ cQ q) hx hb hK hP (ta + 1) 1 (wkTc hta) rfl (by decide) (by decide) (dk_at dkX9_find_0 13 rfl) (fun z10 hz10 => ?_)
      have rz10 : (0 : Int) ≤ z10 ∧ z10 ≤ 4 := by rw [hz10]; exact irTc2 hta hI
      have gz10 := Hd.mk hz10
      refine lv_icmp_ge (tgt := 49) hx hb (dk_at dkX9_find_0 14 rfl) (by decide) (fun c11 => ?_) (fun c11 => ?_)
      · have c11 : z10 ≤ z3 := (i_le (rb rz10 (by decide) (by decide)) (rb f7 (by decide) (by decide))).mp c11
        refine lv_iconst (v := iI (-1)) hx hb (dk_at dkX9_find_1 14 rfl) (by decide +kernel) ?_
        exact RET (-1) _ _ _ _ _ ⟨rfl, hk1 _ ⟨0 + 1, (u_d_X9_find_1_2_1 ⟨f7, ⟨z10, gz10.out, (Or.inl ⟨c11, rfl⟩)⟩⟩)⟩, by omega⟩ hP hS (dk_at dkX9_find_1 15 rfl)
      · have c11 : ¬ z10 ≤ z3 := mt (i_le (rb rz10 (by decide) (by decide)) (rb f7 (by decide) (by decide))).mpr c11
        refine lv_iload_n hx hb (dk_at dkX9_find_0 15 rfl) rfl (lv_at hl 0 rfl) ?_
        refine lv_bipush (v := iI 10) hx hb (dk_at dkX9_find_1 0 rfl) (by decide +kernel) ?_
        refine lv_icmp_ge (tgt := 49) hx hb (dk_at dkX9_find_1 1 rfl) (by decide) (fun c12 => False.elim (by have c12 : 10 ≤ z3 := (i_le ⟨by decide, by decide⟩ (rb f7 (by decide) (by decide))).mp c12; omega)) (fun _ => ?_)
        refine lv_aload_n hx hb (dk_at dkX9_find_1 2 rfl) rfl (lv_at hl 1 rfl) ?_
        refine va_get (D := (dC, dI)) (ci := 9) (v := .ref (q (ta + 2))) (C := RX9) (T := TX9) (N := 16) hx hb hts hiX9 hown hK hP ta (wkT hta) rfl 1 (by decide) (hts _ (List.mem_cons_of_mem _ wkq_5_57)) (fun _ h9 => h9) rfl (dk_at dkX9_find_1 3 rfl) ?_
        refine lv_iload_n hx hb (dk_at dkX9_find_1 4 rfl) rfl (lv_at hl 2 rfl) ?_
        refine k_aald (Wf := WK cB cI cJ cZ cQ q) hx hb hK hP (ta + 2) 4 (wkTq hta) rfl (by omega) (by decide) (b := q (ta + 3 + (2 : Int).toNat)) rfl (dk_at dkX9_find_1 5 rfl) ?_
        refine lv_iload_n hx hb (dk_at dkX9_find_1 6 rfl) rfl (lv_at hl 0 rfl) ?_
        refine x_iald (Wf := WK cB cI cJ cZ cQ q) hx hb hK hP (ta + 3 + (2 : Int).toNat) 1 (wkTn hta (i := 2) (by decide)) rfl (by omega) (by decide) (dk_at dkX9_find_1 7 rfl) (fun z13 hz13 => ?_)
        have rz13 : (-2147483648 : Int) ≤ z13 ∧ z13 ≤ 2147483647 := by rw [hz13]; exact irTn hta (i := 2) (by decide) hI
        have gz13 := Hd.mk hz13
        refine lv_iload_n hx hb (dk_at dkX9_find_1 8 rfl) rfl (lv_at hl 3 rfl) ?_
        refine lv_icmp_ne (tgt := 43) hx hb (dk_at dkX9_find_1 9 rfl) (by decide) (fun c14 => ?_) (fun c14 => ?_)
        · have c14 : ¬ z13 = x2 := mt (i_eq rz13 hx2).mpr c14
          refine lv_iinc (v := iI (z3 + 1)) (lv' := [(3, .int (iI (z3 + 1))), (0, .ref (q ta)), (1, .int (iI 2)), (2, .int (iI x2))]) hx hb (dk_at dkX9_find_1 12 rfl) hl (k := 0) rfl (i_inc (by omega)) (by decide) rfl (fun ls hl => ?_)
          refine lv_goto (tgt := 13) hx hb (dk_at dkX9_find_1 13 rfl) (by decide) ?_
          exact ih6 _ (by omega) (z3 + 1) _ _ _ (by omega) (fun zq ⟨mm1, hq⟩ => hk1 _ ⟨mm1 + 1, (u_d_X9_find_1_2_1 ⟨f7, ⟨z10, gz10.out, (Or.inr ⟨c11, ⟨z13, gz13.out, (Or.inl ⟨c14, hq⟩)⟩⟩)⟩⟩)⟩) rfl hP hS (lv_sub hl [0, 1, 2, 3] rfl)
        · have c14 : z13 = x2 := (i_eq rz13 hx2).mp c14
          refine lv_iload_n hx hb (dk_at dkX9_find_1 10 rfl) rfl (lv_at hl 0 rfl) ?_
          exact RET z3 _ _ _ _ _ ⟨rfl, hk1 _ ⟨0 + 1, (u_d_X9_find_1_2_1 ⟨f7, ⟨z10, gz10.out, (Or.inr ⟨c11, ⟨z13, gz13.out, (Or.inr ⟨c14, rfl⟩)⟩⟩)⟩⟩)⟩, by omega⟩ hP hS (dk_at dkX9_find_1 11 rfl)
  exact L13_5 _ 0 _ _ _ (by omega) (fun zq ⟨mm1, hq⟩ => (u_r_X9_find_1_2 ⟨mm1, hq⟩)) rfl hP hS (lv_sub hl [0, 1, 2, 3] rfl)

abbrev tr_d_X9_find_1_3_1 (ta : Nat) (x2 : Int) (A : St) (z : Int) (K1 : Int → Prop) (z3 : Int) : Prop := ((0 ≤ z3 ∧ z3 ≤ 2147483647) ∧ (∃ z10 : Int, z10 = A (ta + 1) (3 : Int).toNat ∧ (((z10 ≤ z3) ∧ (z = (-1))) ∨ ((¬ z10 ≤ z3) ∧ (∃ z13 : Int, z13 = A (ta + 3 + (3 : Int).toNat) (z3).toNat ∧ (((¬ z13 = x2) ∧ (K1 (z3 + 1))) ∨ ((z13 = x2) ∧ (z = z3))))))))
def d_X9_find_1_3_1 (ta : Nat) (x2 : Int) (A : St) (z : Int) : Nat → Int → Prop
  | 0, _ => False
  | nn9 + 1, z3 => tr_d_X9_find_1_3_1 ta x2 A z (fun z3 => d_X9_find_1_3_1 ta x2 A z nn9 z3) z3
theorem u_d_X9_find_1_3_1 {ta : Nat} {x2 : Int} {A : St} {z : Int} {nn9 : Nat} {z3 : Int} (h : tr_d_X9_find_1_3_1 ta x2 A z (fun z3 => d_X9_find_1_3_1 ta x2 A z nn9 z3) z3) : d_X9_find_1_3_1 ta x2 A z (nn9 + 1) z3 := h
abbrev tr_r_X9_find_1_3 (ta : Nat) (x2 : Int) (A : St) (z : Int) : Prop := (∃ nn9 : Nat, d_X9_find_1_3_1 ta x2 A z nn9 0)
def r_X9_find_1_3 (ta : Nat) (x2 : Int) (A : St) (z : Int) : Prop := tr_r_X9_find_1_3 ta x2 A z
theorem u_r_X9_find_1_3 {ta : Nat} {x2 : Int} {A : St} {z : Int} (h : tr_r_X9_find_1_3 ta x2 A z) : r_X9_find_1_3 ta x2 A z := h
def q_X9_find_1_3 (ta : Nat) (x2 : Int) (A : St) (z : Int) : Prop := r_X9_find_1_3 ta x2 A z ∧ (-1 ≤ z ∧ z ≤ 2)
def ws_kc_X9_find_1_3 : List Cond := .code yX9_find cX9_find 4 (some .int) :: WY
set_option maxHeartbeats 4000000 in
set_option maxRecDepth 100000 in
theorem kc_X9_find_1_3 (l : Launch) (dC : Nat → ClassId) (dI : Nat → Nat → Nat) (cB cI cJ cZ cQ : ClassId) (aL aS : Nat) (q : Nat → Nat) (A : St) (ta : Nat) (x2 : Int) (hI : IK A) (hta : isT ta) (hx2 : (-2147483648 : Int) ≤ x2 ∧ x2 ≤ 2147483647) : KMi l yX9_find ws_kc_X9_find_1_3 ({ frames := 0, cells := 0, slots := 0, locals := 0 } : Room) aL aS (dC, dI) (tyA cB cI cJ cZ cQ) (WK cB cI cJ cZ cQ q) A [.ref (q ta), .int (iI 3), .int (iI x2)] (fun z u => A = u ∧ r_X9_find_1_3 ta x2 A z ∧ (-1 ≤ z ∧ z ≤ 2)) := by
  refine k_meti (cc := cX9_find) (maxL := 4) WK_adr (plainFor_of_name (by decide +kernel)) rfl (Nat.le_of_ble_eq_true rfl) (fun p e s m below meth c Q AS ls hx hb hml hown hts hK hDD hA0 hE RET H locs hP hS hl => ?_)
  have hown : s.vm.findClass RX9 = some m.cls := hown
  have hl : lv_has ls 4 [(0, .ref (q ta)), (1, .int (iI 3)), (2, .int (iI x2))] := hl
  have hiX9 : ∀ w ∈ u_ws RX9 TX9 16, w ∈ ws_kc_X9_find_1_3 := fun w h => List.mem_cons_of_mem _ (wy_layX9 w h)
  refine lv_iload_n hx hb (dk_at dkX9_find_0 0 rfl) rfl (lv_at hl 1 rfl) ?_
  refine lv_if_lt (tgt := 9) hx hb (dk_at dkX9_find_0 1 rfl) (by decide) (fun c1 => absurd c1 (by decide +kernel)) (fun _ => ?_)
  refine lv_iload_n hx hb (dk_at dkX9_find_0 2 rfl) rfl (lv_at hl 1 rfl) ?_
  refine lv_iconst (v := iI 5) hx hb (dk_at dkX9_find_0 3 rfl) (by decide +kernel) ?_
  refine lv_icmp_lt (tgt := 11) hx hb (dk_at dkX9_find_0 4 rfl) (by decide) (fun _ => ?_) (fun c2 => absurd c2 (by decide +kernel))
  refine lv_iconst (v := iI 0) hx hb (dk_at dkX9_find_0 7 rfl) (by decide +kernel) ?_
  refine lv_istore_n (lv' := [(3, .int (iI 0)), (0, .ref (q ta)), (1, .int (iI 3)), (2, .int (iI x2))]) hx hb (dk_at dkX9_find_0 8 rfl) rfl hl (by decide) rfl (fun ls hl => ?_)
  have L13_5 : ∀ (n9 : Nat) (z3 : Int) (H : Heap) (locs : List Loc) (ls : Array Slot), (0 ≤ z3 ∧ z3 ≤ 2147483647) → (∀ (z : Int), (∃ mm1 : Nat, (d_X9_find_1_3_1 ta x2 A z mm1 z3)) → r_X9_find_1_3 ta x2 A z) → ((4 - z3).toNat = n9) → va_P (dC, dI) vwCl (WK cB cI cJ cZ cQ q A) H → va_S AS s.heap H locs → lv_has ls 4 [(3, .int (iI z3)), (0, .ref (q ta)), (1, .int (iI 3)), (2, .int (iI x2))] → W p l e (headSpec ws_kc_X9_find_1_3 ({ frames := 0, cells := 0, slots := 0, locals := 0 } : Room)).room s m [.ref (q ta), .int (iI 3), .int (iI x2)].toArray below meth c H locs 0 0 Q (F0 m 13 ls []) := by
    intro n9
    induction n9 using Nat.strongRecOn with
    | ind n9 ih6 =>
      intro z3 H locs ls f7 hk1 hn9 hP hS hl
      refine lv_iload_n hx hb (dk_at dkX9_find_0 9 rfl) rfl (lv_at hl 0 rfl) ?_
      refine lv_aload_n hx hb (dk_at dkX9_find_0 10 rfl) rfl (lv_at hl 1 rfl) ?_
      refine va_get (D := (dC, dI)) (ci := 9) (v := .ref (q (ta + 1))) (C := RX9) (T := TX9) (N := 16) hx hb hts hiX9 hown hK hP ta (wkT hta) rfl 0 (by decide) (hts _ (List.mem_cons_of_mem _ wkq_0_8)) (fun _ h9 => h9) rfl (dk_at dkX9_find_0 11 rfl) ?_
      refine lv_iload_n hx hb (dk_at dkX9_find_0 12 rfl) rfl (lv_at hl 2 rfl) ?_
      refine x_iald (Wf := WK cB cI cJ cZ cQ q) hx hb hK hP (ta + 1) 1 (wkTc hta) rfl (by decide) (by decide) (dk_at dkX9_find_0 13 rfl) (fun z10 hz10 => ?_)
      have rz10 : (0 : Int) ≤ z10 ∧ z10 ≤ 3 := by rw [hz10]; exact irTc3 hta hI
      have gz10 := Hd.mk hz10
      refine lv_icmp_ge (tgt := 49) hx hb (dk_at dkX9_find_0 14 rfl) (by decide) (fun c11 => ?_) (fun c11 => ?_)
      · have c11 : z10 ≤ z3 := (i_le (rb rz10 (by decide) (by decide)) (rb f7 (by decide) (by decide))).mp c11
        refine lv_iconst (v := iI (-1)) hx hb (dk_at dkX9_find_1 14 rfl) (by decide +kernel) ?_
        exact RET (-1) _ _ _ _ _ ⟨rfl, hk1 _ ⟨0 + 1, (u_d_X9_find_1_3_1 ⟨f7, ⟨z10, gz10.out, (Or.inl ⟨c11, rfl⟩)⟩⟩)⟩, by omega⟩ hP hS (dk_at dkX9_find_1 15 rfl)
      · have c11 : ¬ z10 ≤ z3 := mt (i_le (rb rz10 (by decide) (by decide)) (rb f7 (by decide) (by decide))).mpr c11
        refine lv_iload_n hx hb (dk_at dkX9_find_0 15 rfl) rfl (lv_at hl 0 rfl) ?_
        refine lv_bipush (v := iI 10) hx hb (dk_at dkX9_find_1 0 rfl) (by decide +kernel) ?_
        refine lv_icmp_ge (tgt := 49) hx hb (dk_at dkX9_find_1 1 rfl) (by decide) (fun c12 => False.elim (by have c12 : 10 ≤ z3 := (i_le ⟨by decide, by decide⟩ (rb f7 (by decide) (by decide))).mp c12; omega)) (fun _ => ?_)
        refine lv_aload_n hx hb (dk_at dkX9_find_1 2 rfl) rfl (lv_at hl 1 rfl) ?_
        refine va_get (D := (dC, dI)) (ci := 9) (v := .ref (q (ta + 2))) (C := RX9) (T := TX9) (N := 16) hx hb hts hiX9 hown hK hP ta (wkT hta) rfl 1 (by decide) (hts _ (List.mem_cons_of_mem _ wkq_5_57)) (fun _ h9 => h9) rfl (dk_at dkX9_find_1 3 rfl) ?_
        refine lv_iload_n hx hb (dk_at dkX9_find_1 4 rfl) rfl (lv_at hl 2 rfl) ?_
        refine k_aald (Wf := WK cB cI cJ cZ cQ q) hx hb hK hP (ta + 2) 4 (wkTq hta) rfl (by omega) (by decide) (b := q (ta + 3 + (3 : Int).toNat)) rfl (dk_at dkX9_find_1 5 rfl) ?_
        refine lv_iload_n hx hb (dk_at dkX9_find_1 6 rfl) rfl (lv_at hl 0 rfl) ?_
        refine x_iald (Wf := WK cB cI cJ cZ cQ q) hx hb hK hP (ta + 3 + (3 : Int).toNat) 1 (wkTn hta (i := 3) (by decide)) rfl (by omega) (by decide) (dk_at dkX9_find_1 7 rfl) (fun z13 hz13 => ?_)
        have rz13 : (-2147483648 : Int) ≤ z13 ∧ z13 ≤ 2147483647 := by rw [hz13]; exact irTn hta (i := 3) (by decide) hI
        have gz13 := Hd.mk hz13
        refine lv_iload_n hx hb (dk_at dkX9_find_1 8 rfl) rfl (lv_at hl 3 rfl) ?_
        refine lv_icmp_ne (tgt := 43) hx hb (dk_at dkX9_find_1 9 rfl) (by decide) (fun c14 => ?_) (fun c14 => ?_)
        · have c14 : ¬ z13 = x2 := mt (i_eq rz13 hx2).mpr c14
          refine lv_iinc (v := iI (z3 + 1)) (lv' := [(3, .int (iI (z3 + 1))), (0, .ref (q ta)), (1, .int (iI 3)), (2, .int (iI x2))]) hx hb (dk_at dkX9_find_1 12 rfl) hl (k := 0) rfl (i_inc (by omega)) (by decide) rfl (fun ls hl => ?_)
          refine lv_goto (tgt := 13) hx hb (dk_at dkX9_find_1 13 rfl) (by decide) ?_
          exact ih6 _ (by omega) (z3 + 1) _ _ _ (by omega) (fun zq ⟨mm1, hq⟩ => hk1 _ ⟨mm1 + 1, (u_d_X9_find_1_3_1 ⟨f7, ⟨z10, gz10.out, (Or.inr ⟨c11, ⟨z13, gz13.out, (Or.inl ⟨c14, hq⟩)⟩⟩)⟩⟩)⟩) rfl hP hS (lv_sub hl [0, 1, 2, 3] rfl)
        · have c14 : z13 = x2 := (i_eq rz13 hx2).mp c14
          refine lv_iload_n hx hb (dk_at dkX9_find_1 10 rfl) rfl (lv_at hl 0 rfl) ?_
          exact RET z3 _ _ _ _ _ ⟨rfl, hk1 _ ⟨0 + 1, (u_d_X9_find_1_3_1 ⟨f7, ⟨z10, gz10.out, (Or.inr ⟨c11, ⟨z13, gz13.out, (Or.inr ⟨c14, rfl⟩)⟩⟩)⟩⟩)⟩, by omega⟩ hP hS (dk_at dkX9_find_1 11 rfl)
  exact L13_5 _ 0 _ _ _ (by omega) (fun zq ⟨mm1, hq⟩ => (u_r_X9_find_1_3 ⟨mm1, hq⟩)) rfl hP hS (lv_sub hl [0, 1, 2, 3] rfl)

abbrev tr_d_X9_find_1_4_1 (ta : Nat) (x2 : Int) (A : St) (z : Int) (K1 : Int → Prop) (z3 : Int) : Prop := ((0 ≤ z3 ∧ z3 ≤ 2147483647) ∧ (∃ z10 : Int, z10 = A (ta + 1) (4 : Int).toNat ∧ (((z10 ≤ z3) ∧ (z = (-1))) ∨ ((¬ z10 ≤ z3) ∧ (∃ z13 : Int, z13 = A (ta + 3 + (4 : Int).toNat) (z3).toNat ∧ (((¬ z13 = x2) ∧ (K1 (z3 + 1))) ∨ ((z13 = x2) ∧ (z = z3))))))))
def d_X9_find_1_4_1 (ta : Nat) (x2 : Int) (A : St) (z : Int) : Nat → Int → Prop
  | 0, _ => False
  | nn9 + 1, z3 => tr_d_X9_find_1_4_1 ta x2 A z (fun z3 => d_X9_find_1_4_1 ta x2 A z nn9 z3) z3
theorem u_d_X9_find_1_4_1 {ta : Nat} {x2 : Int} {A : St} {z : Int} {nn9 : Nat} {z3 : Int} (h : tr_d_X9_find_1_4_1 ta x2 A z (fun z3 => d_X9_find_1_4_1 ta x2 A z nn9 z3) z3) : d_X9_find_1_4_1 ta x2 A z (nn9 + 1) z3 := h
abbrev tr_r_X9_find_1_4 (ta : Nat) (x2 : Int) (A : St) (z : Int) : Prop := (∃ nn9 : Nat, d_X9_find_1_4_1 ta x2 A z nn9 0)
def r_X9_find_1_4 (ta : Nat) (x2 : Int) (A : St) (z : Int) : Prop := tr_r_X9_find_1_4 ta x2 A z
theorem u_r_X9_find_1_4 {ta : Nat} {x2 : Int} {A : St} {z : Int} (h : tr_r_X9_find_1_4 ta x2 A z) : r_X9_find_1_4 ta x2 A z := h
def q_X9_find_1_4 (ta : Nat) (x2 : Int) (A : St) (z : Int) : Prop := r_X9_find_1_4 ta x2 A z ∧ (-1 ≤ z ∧ z ≤ 3)
def ws_kc_X9_find_1_4 : List Cond := .code yX9_find cX9_find 4 (some .int) :: WY
set_option maxHeartbeats 4000000 in
set_option maxRecDepth 100000 in
theorem kc_X9_find_1_4 (l : Launch) (dC : Nat → ClassId) (dI : Nat → Nat → Nat) (cB cI cJ cZ cQ : ClassId) (aL aS : Nat) (q : Nat → Nat) (A : St) (ta : Nat) (x2 : Int) (hI : IK A) (hta : isT ta) (hx2 : (-2147483648 : Int) ≤ x2 ∧ x2 ≤ 2147483647) : KMi l yX9_find ws_kc_X9_find_1_4 ({ frames := 0, cells := 0, slots := 0, locals := 0 } : Room) aL aS (dC, dI) (tyA cB cI cJ cZ cQ) (WK cB cI cJ cZ cQ q) A [.ref (q ta), .int (iI 4), .int (iI x2)] (fun z u => A = u ∧ r_X9_find_1_4 ta x2 A z ∧ (-1 ≤ z ∧ z ≤ 3)) := by
  refine k_meti (cc := cX9_find) (maxL := 4) WK_adr (plainFor_of_name (by decide +kernel)) rfl (Nat.le_of_ble_eq_true rfl) (fun p e s m below meth c Q AS ls hx hb hml hown hts hK hDD hA0 hE RET H locs hP hS hl => ?_)
  have hown : s.vm.findClass RX9 = some m.cls := hown
  have hl : lv_has ls 4 [(0, .ref (q ta)), (1, .int (iI 4)), (2, .int (iI x2))] := hl
  have hiX9 : ∀ w ∈ u_ws RX9 TX9 16, w ∈ ws_kc_X9_find_1_4 := fun w h => List.mem_cons_of_mem _ (wy_layX9 w h)
  refine lv_iload_n hx hb (dk_at dkX9_find_0 0 rfl) rfl (lv_at hl 1 rfl) ?_
  refine lv_if_lt (tgt := 9) hx hb (dk_at dkX9_find_0 1 rfl) (by decide) (fun c1 => absurd c1 (by decide +kernel)) (fun _ => ?_)
  refine lv_iload_n hx hb (dk_at dkX9_find_0 2 rfl) rfl (lv_at hl 1 rfl) ?_
  refine lv_iconst (v := iI 5) hx hb (dk_at dkX9_find_0 3 rfl) (by decide +kernel) ?_
  refine lv_icmp_lt (tgt := 11) hx hb (dk_at dkX9_find_0 4 rfl) (by decide) (fun _ => ?_) (fun c2 => absurd c2 (by decide +kernel))
  refine lv_iconst (v := iI 0) hx hb (dk_at dkX9_find_0 7 rfl) (by decide +kernel) ?_
  refine lv_istore_n (lv' := [(3, .int (iI 0)), (0, .ref (q ta)), (1, .int (iI 4)), (2, .int (iI x2))]) hx hb (dk_at dkX9_find_0 8 rfl) rfl hl (by decide) rfl (fun ls hl => ?_)
  have L13_5 : ∀ (n9 : Nat) (z3 : Int) (H : Heap) (locs : List Loc) (ls : Array Slot), (0 ≤ z3 ∧ z3 ≤ 2147483647) → (∀ (z : Int), (∃ mm1 : Nat, (d_X9_find_1_4_1 ta x2 A z mm1 z3)) → r_X9_find_1_4 ta x2 A z) → ((5 - z3).toNat = n9) → va_P (dC, dI) vwCl (WK cB cI cJ cZ cQ q A) H → va_S AS s.heap H locs → lv_has ls 4 [(3, .int (iI z3)), (0, .ref (q ta)), (1, .int (iI 4)), (2, .int (iI x2))] → W p l e (headSpec ws_kc_X9_find_1_4 ({ frames := 0, cells := 0, slots := 0, locals := 0 } : Room)).room s m [.ref (q ta), .int (iI 4), .int (iI x2)].toArray below meth c H locs 0 0 Q (F0 m 13 ls []) := by
    intro n9
    induction n9 using Nat.strongRecOn with
    | ind n9 ih6 =>
      intro z3 H locs ls f7 hk1 hn9 hP hS hl
      refine lv_iload_n hx hb (dk_at dkX9_find_0 9 rfl) rfl (lv_at hl 0 rfl) ?_
      refine lv_aload_n hx hb (dk_at dkX9_find_0 10 rfl) rfl (lv_at hl 1 rfl) ?_
      refine va_get (D := (dC, dI)) (ci := 9) (v := .ref (q (ta + 1))) (C := RX9) (T := TX9) (N := 16) hx hb hts hiX9 hown hK hP ta (wkT hta) rfl 0 (by decide) (hts _ (List.mem_cons_of_mem _ wkq_0_8)) (fun _ h9 => h9) rfl (dk_at dkX9_find_0 11 rfl) ?_
      refine lv_iload_n hx hb (dk_at dkX9_find_0 12 rfl) rfl (lv_at hl 2 rfl) ?_
      refine x_iald (Wf := WK cB cI cJ cZ cQ q) hx hb hK hP (ta + 1) 1 (wkTc hta) rfl (by decide) (by decide) (dk_at dkX9_find_0 13 rfl) (fun z10 hz10 => ?_)
      have rz10 : (0 : Int) ≤ z10 ∧ z10 ≤ 4 := by rw [hz10]; exact irTc4 hta hI
      have gz10 := Hd.mk hz10
      refine lv_icmp_ge (tgt := 49) hx hb (dk_at dkX9_find_0 14 rfl) (by decide) (fun c11 => ?_) (fun c11 => ?_)
      · have c11 : z10 ≤ z3 := (i_le (rb rz10 (by decide) (by decide)) (rb f7 (by decide) (by decide))).mp c11
        refine lv_iconst (v := iI (-1)) hx hb (dk_at dkX9_find_1 14 rfl) (by decide +kernel) ?_
        exact RET (-1) _ _ _ _ _ ⟨rfl, hk1 _ ⟨0 + 1, (u_d_X9_find_1_4_1 ⟨f7, ⟨z10, gz10.out, (Or.inl ⟨c11, rfl⟩)⟩⟩)⟩, by omega⟩ hP hS (dk_at dkX9_find_1 15 rfl)
      · have c11 : ¬ z10 ≤ z3 := mt (i_le (rb rz10 (by decide) (by decide)) (rb f7 (by decide) (by decide))).mpr c11
        refine lv_iload_n hx hb (dk_at dkX9_find_0 15 rfl) rfl (lv_at hl 0 rfl) ?_
        refine lv_bipush (v := iI 10) hx hb (dk_at dkX9_find_1 0 rfl) (by decide +kernel) ?_
        refine lv_icmp_ge (tgt := 49) hx hb (dk_at dkX9_find_1 1 rfl) (by decide) (fun c12 => False.elim (by have c12 : 10 ≤ z3 := (i_le ⟨by decide, by decide⟩ (rb f7 (by decide) (by decide))).mp c12; omega)) (fun _ => ?_)
        refine lv_aload_n hx hb (dk_at dkX9_find_1 2 rfl) rfl (lv_at hl 1 rfl) ?_
        refine va_get (D := (dC, dI)) (ci := 9) (v := .ref (q (ta + 2))) (C := RX9) (T := TX9) (N := 16) hx hb hts hiX9 hown hK hP ta (wkT hta) rfl 1 (by decide) (hts _ (List.mem_cons_of_mem _ wkq_5_57)) (fun _ h9 => h9) rfl (dk_at dkX9_find_1 3 rfl) ?_
        refine lv_iload_n hx hb (dk_at dkX9_find_1 4 rfl) rfl (lv_at hl 2 rfl) ?_
        refine k_aald (Wf := WK cB cI cJ cZ cQ q) hx hb hK hP (ta + 2) 4 (wkTq hta) rfl (by omega) (by decide) (b := q (ta + 3 + (4 : Int).toNat)) rfl (dk_at dkX9_find_1 5 rfl) ?_
        refine lv_iload_n hx hb (dk_at dkX9_find_1 6 rfl) rfl (lv_at hl 0 rfl) ?_
        refine x_iald (Wf := WK cB cI cJ cZ cQ q) hx hb hK hP (ta + 3 + (4 : Int).toNat) 1 (wkTn hta (i := 4) (by decide)) rfl (by omega) (by decide) (dk_at dkX9_find_1 7 rfl) (fun z13 hz13 => ?_)
        have rz13 : (-2147483648 : Int) ≤ z13 ∧ z13 ≤ 2147483647 := by rw [hz13]; exact irTn hta (i := 4) (by decide) hI
        have gz13 := Hd.mk hz13
        refine lv_iload_n hx hb (dk_at dkX9_find_1 8 rfl) rfl (lv_at hl 3 rfl) ?_
        refine lv_icmp_ne (tgt := 43) hx hb (dk_at dkX9_find_1 9 rfl) (by decide) (fun c14 => ?_) (fun c14 => ?_)
        · have c14 : ¬ z13 = x2 := mt (i_eq rz13 hx2).mpr c14
          refine lv_iinc (v := iI (z3 + 1)) (lv' := [(3, .int (iI (z3 + 1))), (0, .ref (q ta)), (1, .int (iI 4)), (2, .int (iI x2))]) hx hb (dk_at dkX9_find_1 12 rfl) hl (k := 0) rfl (i_inc (by omega)) (by decide) rfl (fun ls hl => ?_)
          refine lv_goto (tgt := 13) hx hb (dk_at dkX9_find_1 13 rfl) (by decide) ?_
          exact ih6 _ (by omega) (z3 + 1) _ _ _ (by omega) (fun zq ⟨mm1, hq⟩ => hk1 _ ⟨mm1 + 1, (u_d_X9_find_1_4_1 ⟨f7, ⟨z10, gz10.out, (Or.inr ⟨c11, ⟨z13, gz13.out, (Or.inl ⟨c14, hq⟩)⟩⟩)⟩⟩)⟩) rfl hP hS (lv_sub hl [0, 1, 2, 3] rfl)
        · have c14 : z13 = x2 := (i_eq rz13 hx2).mp c14
          refine lv_iload_n hx hb (dk_at dkX9_find_1 10 rfl) rfl (lv_at hl 0 rfl) ?_
          exact RET z3 _ _ _ _ _ ⟨rfl, hk1 _ ⟨0 + 1, (u_d_X9_find_1_4_1 ⟨f7, ⟨z10, gz10.out, (Or.inr ⟨c11, ⟨z13, gz13.out, (Or.inr ⟨c14, rfl⟩)⟩⟩)⟩⟩)⟩, by omega⟩ hP hS (dk_at dkX9_find_1 11 rfl)
  exact L13_5 _ 0 _ _ _ (by omega) (fun zq ⟨mm1, hq⟩ => (u_r_X9_find_1_4 ⟨mm1, hq⟩)) rfl hP hS (lv_sub hl [0, 1, 2, 3] rfl)

abbrev tr_d_X9_find_1 (ta : Nat) (x1 : Int) (x2 : Int) (A : St) (z : Int) (K1 : Int → Prop) (z3 : Int) : Prop := ((0 ≤ z3 ∧ z3 ≤ 2147483647) ∧ (∃ z10 : Int, z10 = A (ta + 1) (x1).toNat ∧ (((z10 ≤ z3) ∧ (z = (-1))) ∨ ((¬ z10 ≤ z3) ∧ (∃ z13 : Int, z13 = A (ta + 3 + (x1).toNat) (z3).toNat ∧ (((¬ z13 = x2) ∧ (K1 (z3 + 1))) ∨ ((z13 = x2) ∧ (z = z3))))))))
def d_X9_find_1 (ta : Nat) (x1 : Int) (x2 : Int) (A : St) (z : Int) : Nat → Int → Prop
  | 0, _ => False
  | nn9 + 1, z3 => tr_d_X9_find_1 ta x1 x2 A z (fun z3 => d_X9_find_1 ta x1 x2 A z nn9 z3) z3
theorem u_d_X9_find_1 {ta : Nat} {x1 : Int} {x2 : Int} {A : St} {z : Int} {nn9 : Nat} {z3 : Int} (h : tr_d_X9_find_1 ta x1 x2 A z (fun z3 => d_X9_find_1 ta x1 x2 A z nn9 z3) z3) : d_X9_find_1 ta x1 x2 A z (nn9 + 1) z3 := h
abbrev tr_r_X9_find (ta : Nat) (x1 : Int) (x2 : Int) (A : St) (z : Int) : Prop := (((x1 < 0) ∧ (z = (-1))) ∨ ((¬ x1 < 0) ∧ (((x1 < 5) ∧ (∃ nn9 : Nat, d_X9_find_1 ta x1 x2 A z nn9 0)) ∨ ((¬ x1 < 5) ∧ (z = (-1))))))
def r_X9_find (ta : Nat) (x1 : Int) (x2 : Int) (A : St) (z : Int) : Prop := tr_r_X9_find ta x1 x2 A z
theorem u_r_X9_find {ta : Nat} {x1 : Int} {x2 : Int} {A : St} {z : Int} (h : tr_r_X9_find ta x1 x2 A z) : r_X9_find ta x1 x2 A z := h
def q_X9_find (ta : Nat) (x1 : Int) (x2 : Int) (A : St) (z : Int) : Prop := r_X9_find ta x1 x2 A z ∧ (-1 ≤ z ∧ z ≤ 9)
def ws_kc_X9_find : List Cond := .code yX9_find cX9_find 4 (some .int) :: WY
set_option maxHeartbeats 4000000 in
set_option maxRecDepth 100000 in
theorem kc_X9_find (l : Launch) (dC : Nat → ClassId) (dI : Nat → Nat → Nat) (cB cI cJ cZ cQ : ClassId) (aL aS : Nat) (q : Nat → Nat) (A : St) (ta : Nat) (x1 x2 : Int) (hI : IK A) (hta : isT ta) (hx1 : (-2147483648 : Int) ≤ x1 ∧ x1 ≤ 2147483647) (hx2 : (-2147483648 : Int) ≤ x2 ∧ x2 ≤ 2147483647) : KMi l yX9_find ws_kc_X9_find ({ frames := 0, cells := 0, slots := 0, locals := 0 } : Room) aL aS (dC, dI) (tyA cB cI cJ cZ cQ) (WK cB cI cJ cZ cQ q) A [.ref (q ta), .int (iI x1), .int (iI x2)] (fun z u => A = u ∧ r_X9_find ta x1 x2 A z ∧ (-1 ≤ z ∧ z ≤ 9)) := by
  refine k_meti (cc := cX9_find) (maxL := 4) WK_adr (plainFor_of_name (by decide +kernel)) rfl (Nat.le_of_ble_eq_true rfl) (fun p e s m below meth c Q AS ls hx hb hml hown hts hK hDD hA0 hE RET H locs hP hS hl => ?_)
  have hown : s.vm.findClass RX9 = some m.cls := hown
  have hl : lv_has ls 4 [(0, .ref (q ta)), (1, .int (iI x1)), (2, .int (iI x2))] := hl
  have hiX9 : ∀ w ∈ u_ws RX9 TX9 16, w ∈ ws_kc_X9_find := fun w h => List.mem_cons_of_mem _ (wy_layX9 w h)
  refine lv_iload_n hx hb (dk_at dkX9_find_0 0 rfl) rfl (lv_at hl 1 rfl) ?_
  refine lv_if_lt (tgt := 9) hx hb (dk_at dkX9_find_0 1 rfl) (by decide) (fun c1 => ?_) (fun c1 => ?_)
  · have c1 : x1 < 0 := (i_lt0 hx1).mp c1
    refine lv_iconst (v := iI (-1)) hx hb (dk_at dkX9_find_0 5 rfl) (by decide +kernel) ?_
    exact RET (-1) _ _ _ _ _ ⟨rfl, (u_r_X9_find (Or.inl ⟨c1, rfl⟩)), by omega⟩ hP hS (dk_at dkX9_find_0 6 rfl)
  · have c1 : ¬ x1 < 0 := mt (i_lt0 hx1).mpr c1
    refine lv_iload_n hx hb (dk_at dkX9_find_0 2 rfl) rfl (lv_at hl 1 rfl) ?_
    refine lv_iconst (v := iI 5) hx hb (dk_at dkX9_find_0 3 rfl) (by decide +kernel) ?_
    refine lv_icmp_lt (tgt := 11) hx hb (dk_at dkX9_find_0 4 rfl) (by decide) (fun c2 => ?_) (fun c2 => ?_)
    · have c2 : x1 < 5 := (i_lt hx1 ⟨by decide, by decide⟩).mp c2
      refine lv_iconst (v := iI 0) hx hb (dk_at dkX9_find_0 7 rfl) (by decide +kernel) ?_
      refine lv_istore_n (lv' := [(3, .int (iI 0)), (0, .ref (q ta)), (1, .int (iI x1)), (2, .int (iI x2))]) hx hb (dk_at dkX9_find_0 8 rfl) rfl hl (by decide) rfl (fun ls hl => ?_)
      have L13_5 : ∀ (n9 : Nat) (z3 : Int) (H : Heap) (locs : List Loc) (ls : Array Slot), (0 ≤ z3 ∧ z3 ≤ 2147483647) → (∀ (z : Int), (∃ mm1 : Nat, (d_X9_find_1 ta x1 x2 A z mm1 z3)) → r_X9_find ta x1 x2 A z) → ((11 - z3).toNat = n9) → va_P (dC, dI) vwCl (WK cB cI cJ cZ cQ q A) H → va_S AS s.heap H locs → lv_has ls 4 [(3, .int (iI z3)), (0, .ref (q ta)), (1, .int (iI x1)), (2, .int (iI x2))] → W p l e (headSpec ws_kc_X9_find ({ frames := 0, cells := 0, slots := 0, locals := 0 } : Room)).room s m [.ref (q ta), .int (iI x1), .int (iI x2)].toArray below meth c H locs 0 0 Q (F0 m 13 ls []) := by
        intro n9
        induction n9 using Nat.strongRecOn with
        | ind n9 ih6 =>
          intro z3 H locs ls f7 hk1 hn9 hP hS hl
          refine lv_iload_n hx hb (dk_at dkX9_find_0 9 rfl) rfl (lv_at hl 0 rfl) ?_
          refine lv_aload_n hx hb (dk_at dkX9_find_0 10 rfl) rfl (lv_at hl 1 rfl) ?_
          refine va_get (D := (dC, dI)) (ci := 9) (v := .ref (q (ta + 1))) (C := RX9) (T := TX9) (N := 16) hx hb hts hiX9 hown hK hP ta (wkT hta) rfl 0 (by decide) (hts _ (List.mem_cons_of_mem _ wkq_0_8)) (fun _ h9 => h9) rfl (dk_at dkX9_find_0 11 rfl) ?_
          refine lv_iload_n hx hb (dk_at dkX9_find_0 12 rfl) rfl (lv_at hl 2 rfl) ?_
          refine x_iald (Wf := WK cB cI cJ cZ cQ q) hx hb hK hP (ta + 1) 1 (wkTc hta) rfl (by omega) (by decide) (dk_at dkX9_find_0 13 rfl) (fun z10 hz10 => ?_)
          have rz10 : (0 : Int) ≤ z10 ∧ z10 ≤ 10 := by rw [hz10]; exact irTc hta hI
          have gz10 := Hd.mk hz10
          refine lv_icmp_ge (tgt := 49) hx hb (dk_at dkX9_find_0 14 rfl) (by decide) (fun c11 => ?_) (fun c11 => ?_)
          · have c11 : z10 ≤ z3 := (i_le (rb rz10 (by decide) (by decide)) (rb f7 (by decide) (by decide))).mp c11
            refine lv_iconst (v := iI (-1)) hx hb (dk_at dkX9_find_1 14 rfl) (by decide +kernel) ?_
            exact RET (-1) _ _ _ _ _ ⟨rfl, hk1 _ ⟨0 + 1, (u_d_X9_find_1 ⟨f7, ⟨z10, gz10.out, (Or.inl ⟨c11, rfl⟩)⟩⟩)⟩, by omega⟩ hP hS (dk_at dkX9_find_1 15 rfl)
          · have c11 : ¬ z10 ≤ z3 := mt (i_le (rb rz10 (by decide) (by decide)) (rb f7 (by decide) (by decide))).mpr c11
            refine lv_iload_n hx hb (dk_at dkX9_find_0 15 rfl) rfl (lv_at hl 0 rfl) ?_
            refine lv_bipush (v := iI 10) hx hb (dk_at dkX9_find_1 0 rfl) (by decide +kernel) ?_
            refine lv_icmp_ge (tgt := 49) hx hb (dk_at dkX9_find_1 1 rfl) (by decide) (fun c12 => False.elim (by have c12 : 10 ≤ z3 := (i_le ⟨by decide, by decide⟩ (rb f7 (by decide) (by decide))).mp c12; omega)) (fun _ => ?_)
            refine lv_aload_n hx hb (dk_at dkX9_find_1 2 rfl) rfl (lv_at hl 1 rfl) ?_
            refine va_get (D := (dC, dI)) (ci := 9) (v := .ref (q (ta + 2))) (C := RX9) (T := TX9) (N := 16) hx hb hts hiX9 hown hK hP ta (wkT hta) rfl 1 (by decide) (hts _ (List.mem_cons_of_mem _ wkq_5_57)) (fun _ h9 => h9) rfl (dk_at dkX9_find_1 3 rfl) ?_
            refine lv_iload_n hx hb (dk_at dkX9_find_1 4 rfl) rfl (lv_at hl 2 rfl) ?_
            refine k_aald (Wf := WK cB cI cJ cZ cQ q) hx hb hK hP (ta + 2) 4 (wkTq hta) rfl (by omega) (by decide) (b := q (ta + 3 + (x1).toNat)) (by rcases (show x1 = 0 ∨ x1 = 1 ∨ x1 = 2 ∨ x1 = 3 ∨ x1 = 4 by omega) with h | h | h | h | h <;> rw [h] <;> rfl) (dk_at dkX9_find_1 5 rfl) ?_
            refine lv_iload_n hx hb (dk_at dkX9_find_1 6 rfl) rfl (lv_at hl 0 rfl) ?_
            refine x_iald (Wf := WK cB cI cJ cZ cQ q) hx hb hK hP (ta + 3 + (x1).toNat) 1 (wkTn hta (i := x1) (by omega)) rfl (by omega) (by decide) (dk_at dkX9_find_1 7 rfl) (fun z13 hz13 => ?_)
            have rz13 : (-2147483648 : Int) ≤ z13 ∧ z13 ≤ 2147483647 := by rw [hz13]; exact irTn hta (i := x1) (by omega) hI
            have gz13 := Hd.mk hz13
            refine lv_iload_n hx hb (dk_at dkX9_find_1 8 rfl) rfl (lv_at hl 3 rfl) ?_
            refine lv_icmp_ne (tgt := 43) hx hb (dk_at dkX9_find_1 9 rfl) (by decide) (fun c14 => ?_) (fun c14 => ?_)
            · have c14 : ¬ z13 = x2 := mt (i_eq rz13 hx2).mpr c14
              refine lv_iinc (v := iI (z3 + 1)) (lv' := [(3, .int (iI (z3 + 1))), (0, .ref (q ta)), (1, .int (iI x1)), (2, .int (iI x2))]) hx hb (dk_at dkX9_find_1 12 rfl) hl (k := 0) rfl (i_inc (by omega)) (by decide) rfl (fun ls hl => ?_)
              refine lv_goto (tgt := 13) hx hb (dk_at dkX9_find_1 13 rfl) (by decide) ?_
              exact ih6 _ (by omega) (z3 + 1) _ _ _ (by omega) (fun zq ⟨mm1, hq⟩ => hk1 _ ⟨mm1 + 1, (u_d_X9_find_1 ⟨f7, ⟨z10, gz10.out, (Or.inr ⟨c11, ⟨z13, gz13.out, (Or.inl ⟨c14, hq⟩)⟩⟩)⟩⟩)⟩) rfl hP hS (lv_sub hl [0, 1, 2, 3] rfl)
            · have c14 : z13 = x2 := (i_eq rz13 hx2).mp c14
              refine lv_iload_n hx hb (dk_at dkX9_find_1 10 rfl) rfl (lv_at hl 0 rfl) ?_
              exact RET z3 _ _ _ _ _ ⟨rfl, hk1 _ ⟨0 + 1, (u_d_X9_find_1 ⟨f7, ⟨z10, gz10.out, (Or.inr ⟨c11, ⟨z13, gz13.out, (Or.inr ⟨c14, rfl⟩)⟩⟩)⟩⟩)⟩, by omega⟩ hP hS (dk_at dkX9_find_1 11 rfl)
      exact L13_5 _ 0 _ _ _ (by omega) (fun zq ⟨mm1, hq⟩ => (u_r_X9_find (Or.inr ⟨c1, (Or.inl ⟨c2, ⟨mm1, hq⟩⟩)⟩))) rfl hP hS (lv_sub hl [0, 1, 2, 3] rfl)
    · have c2 : ¬ x1 < 5 := mt (i_lt hx1 ⟨by decide, by decide⟩).mpr c2
      refine lv_iconst (v := iI (-1)) hx hb (dk_at dkX9_find_0 5 rfl) (by decide +kernel) ?_
      exact RET (-1) _ _ _ _ _ ⟨rfl, (u_r_X9_find (Or.inr ⟨c1, (Or.inr ⟨c2, rfl⟩)⟩)), by omega⟩ hP hS (dk_at dkX9_find_0 6 rfl)

abbrev tr_r_X5_asked_2_0 (ta : Nat) (A : St) (z : Int) (u : St) : Prop := (∃ z1 : Int, ∃ A2 : St, q_X5_isNameAhead A z1 A2 ∧ (((¬ z1 = 0) ∧ (∃ A6 : St, q_X3_pass A2 A6 ∧ (∃ z11 : Int, q_X9_find_1_0 ta (A2 5 4) A6 z11 ∧ (((¬ z11 = (-1)) ∧ (z = z11 ∧ u = A6)) ∨ ((z11 = (-1)) ∧ (∃ z15 : Int, ∃ A16 : St, q_X5_none 3 A6 z15 A16 ∧ (z = z15 ∧ u = A16))))))) ∨ ((z1 = 0) ∧ (∃ z19 : Int, ∃ A20 : St, q_X5_none 1 A2 z19 A20 ∧ (z = z19 ∧ u = A20)))))
def r_X5_asked_2_0 (ta : Nat) (A : St) (z : Int) (u : St) : Prop := tr_r_X5_asked_2_0 ta A z u
theorem u_r_X5_asked_2_0 {ta : Nat} {A : St} {z : Int} {u : St} (h : tr_r_X5_asked_2_0 ta A z u) : r_X5_asked_2_0 ta A z u := h
def q_X5_asked_2_0 (ta : Nat) (A : St) (z : Int) (u : St) : Prop := r_X5_asked_2_0 ta A z u ∧ IK u ∧ fk [] [(3, 2), (3, 3), (5, 1), (5, 2), (5, 3), (5, 4), (5, 5), (5, 6)] A u ∧ (-1 ≤ z ∧ z ≤ 7)
def ws_kc_X5_asked_2_0 : List Cond := .code yX5_asked cX5_asked 4 (some .int) :: WY
set_option maxHeartbeats 4000000 in
set_option maxRecDepth 100000 in
theorem kc_X5_asked_2_0 (l : Launch) (dC : Nat → ClassId) (dI : Nat → Nat → Nat) (cB cI cJ cZ cQ : ClassId) (aL aS : Nat) (q : Nat → Nat) (A : St) (ta : Nat) (hI : IK A) (hta : isT ta) : KMi l yX5_asked ws_kc_X5_asked_2_0 ({ frames := 3, cells := 0, slots := 0, locals := 66 } : Room) aL aS (dC, dI) (tyA cB cI cJ cZ cQ) (WK cB cI cJ cZ cQ q) A [.ref (q 3), .ref (q ta), .int (iI 0)] (fun z u => r_X5_asked_2_0 ta A z u ∧ IK u ∧ fk [] [(3, 2), (3, 3), (5, 1), (5, 2), (5, 3), (5, 4), (5, 5), (5, 6)] A u ∧ (-1 ≤ z ∧ z ≤ 7)) := by
  refine k_meti (cc := cX5_asked) (maxL := 4) WK_adr (plainFor_of_name (by decide +kernel)) rfl (Nat.le_of_ble_eq_true rfl) (fun p e s m below meth c Q AS ls hx hb hml hown hts hK hDD hA0 hE RET H locs hP hS hl => ?_)
  have hown : s.vm.findClass RX5 = some m.cls := hown
  have hl : lv_has ls 4 [(0, .ref (q 3)), (1, .ref (q ta)), (2, .int (iI 0))] := hl
  have hiX5 : ∀ w ∈ u_ws RX5 TX5 5, w ∈ ws_kc_X5_asked_2_0 := fun w h => List.mem_cons_of_mem _ (wy_layX5 w h)
  have hiX3 : ∀ w ∈ u_ws RX3 TX3 7, w ∈ ws_kc_X5_asked_2_0 := fun w h => List.mem_cons_of_mem _ (wy_layX3 w h)
  refine lv_aload_n hx hb (dk_at dkX5_asked_0 0 rfl) rfl (lv_at hl 0 rfl) ?_
  refine k_calli (As := []) (rest := []) ⟨hx, hb, hml, hown, hts⟩ hE (kc_X5_isNameAhead l dC dI cB cI cJ cZ cQ aL aS q _ hI) (cwV 0 hts (goodVk wkq_5_49 wkq_5_50 wkq_5_51 wkq_5_28 wkq_5_52) rfl rfl rfl (by decide +kernel) ⟨Nat.le_of_ble_eq_true rfl, Nat.le_of_ble_eq_true rfl⟩) hK hDD hA0 hP hS 3 5 (wkRD) rfl rfl hl.1 (Nat.le_of_ble_eq_true rfl) (dk_at dkX5_asked_0 1 rfl) (fun z1 A2 H locs hw3 hP hS => ?_)
  have ghw3 : q_X5_isNameAhead A z1 A2 := hw3
  obtain ⟨_, hI, hf4, hw3⟩ := hw3
  refine lv_if_ne (tgt := 13) hx hb (dk_at dkX5_asked_0 2 rfl) (by decide) (fun c5 => ?_) (fun c5 => ?_)
  · have c5 : ¬ z1 = 0 := mt (i_eq0 (rb hw3 (by decide) (by decide))).mpr c5
    refine lv_aload_n hx hb (dk_at dkX5_asked_0 7 rfl) rfl (lv_at hl 0 rfl) ?_
    refine va_get (D := (dC, dI)) (ci := 5) (v := .ref (q 5)) (C := RX5) (T := TX5) (N := 5) hx hb hts hiX5 hown hK hP 3 (wkRD) rfl 0 (by decide) (hts _ (List.mem_cons_of_mem _ wkq_5_6)) (fun _ h9 => h9) rfl (dk_at dkX5_asked_0 8 rfl) ?_
    refine k_callv (As := []) (rest := []) ⟨hx, hb, hml, hown, hts⟩ hE (kc_X3_pass l dC dI cB cI cJ cZ cQ aL aS q _ hI) (cwV 0 hts (goodVk wkq_5_42 wkq_5_43 wkq_5_44 wkq_4_10 wkq_3_58) rfl rfl rfl (by decide +kernel) ⟨Nat.le_of_ble_eq_true rfl, Nat.le_of_ble_eq_true rfl⟩) hK hDD hA0 hP hS 5 3 (wkLX) rfl rfl hl.1 (Nat.le_of_ble_eq_true rfl) (dk_at dkX5_asked_0 9 rfl) (fun A6 H locs hw7 hP hS => ?_)
    have ghw7 : q_X3_pass A2 A6 := hw7
    obtain ⟨_, hI, hf8, hw7⟩ := hw7
    clear hw7
    refine lv_aload_n hx hb (dk_at dkX5_asked_0 10 rfl) rfl (lv_at hl 1 rfl) ?_
    refine lv_iload_n hx hb (dk_at dkX5_asked_0 11 rfl) rfl (lv_at hl 2 rfl) ?_
    refine lv_aload_n hx hb (dk_at dkX5_asked_0 12 rfl) rfl (lv_at hl 0 rfl) ?_
    refine va_get (D := (dC, dI)) (ci := 5) (v := .ref (q 5)) (C := RX5) (T := TX5) (N := 5) hx hb hts hiX5 hown hK hP 3 (wkRD) rfl 0 (by decide) (hts _ (List.mem_cons_of_mem _ wkq_5_6)) (fun _ h9 => h9) rfl (dk_at dkX5_asked_0 13 rfl) ?_
    have e9 : A6 5 4 = (A2 5 4) := (hf8 5 4 rfl rfl)
    have r10 : (-2147483648 : Int) ≤ (A2 5 4) ∧ (A2 5 4) ≤ 2147483647 := by rw [← e9]; exact irLX_4 hI
    refine va_get (D := (dC, dI)) (ci := 3) (v := .int (iI (A6 5 4))) (C := RX3) (T := TX3) (N := 7) hx hb hts hiX3 hown hK hP 5 (wkLX) rfl 4 (by decide) (hts _ (List.mem_cons_of_mem _ wkq_5_30)) (fun _ h9 => h9) rfl (dk_at dkX5_asked_0 14 rfl) ?_
    refine tp_i (y := iI (A2 5 4)) (congrArg iI e9) ?_
    refine k_calli (As := [.int (iI 0), .int (iI (A2 5 4))]) (rest := []) ⟨hx, hb, hml, hown, hts⟩ hE (kc_X9_find_1_0 l dC dI cB cI cJ cZ cQ aL aS q _ ta (A2 5 4) hI hta r10) (cwV 2 hts (goodVk wkq_5_53 wkq_5_54 wkq_5_55 wkq_0_6 wkq_5_56) rfl rfl rfl (by decide +kernel) ⟨Nat.le_of_ble_eq_true rfl, Nat.le_of_ble_eq_true rfl⟩) hK hDD hA0 hP hS ta 9 (wkT hta) rfl rfl hl.1 (Nat.le_of_ble_eq_true rfl) (dk_at dkX5_asked_0 15 rfl) (fun z11 A12 H locs hw13 hP hS => ?_)
    obtain ⟨rfl, hw13⟩ := hw13
    have ghw13 : q_X9_find_1_0 ta (A2 5 4) A6 z11 := hw13
    have hw13 := hw13.2
    refine lv_istore_n (lv' := [(3, .int (iI z11)), (0, .ref (q 3)), (1, .ref (q ta)), (2, .int (iI 0))]) hx hb (dk_at dkX5_asked_1 0 rfl) rfl hl (by decide) rfl (fun ls hl => ?_)
    refine lv_iload_n hx hb (dk_at dkX5_asked_1 1 rfl) rfl (lv_at hl 0 rfl) ?_
    refine lv_iconst (v := iI (-1)) hx hb (dk_at dkX5_asked_1 2 rfl) (by decide +kernel) ?_
    refine lv_icmp_ne (tgt := 46) hx hb (dk_at dkX5_asked_1 3 rfl) (by decide) (fun c14 => ?_) (fun c14 => ?_)
    · have c14 : ¬ z11 = (-1) := mt (i_eq (rb hw13 (by decide) (by decide)) ⟨by decide, by decide⟩).mpr c14
      refine lv_iload_n hx hb (dk_at dkX5_asked_1 8 rfl) rfl (lv_at hl 0 rfl) ?_
      exact RET z11 _ _ _ _ _ ⟨(u_r_X5_asked_2_0 ⟨z1, A2, ghw3, (Or.inl ⟨c5, ⟨A6, ghw7, ⟨z11, ghw13, (Or.inl ⟨c14, ⟨rfl, rfl⟩⟩)⟩⟩⟩)⟩), hI, fk.trans (fk.trans (fk.rf) hf4 rfl rfl) hf8 rfl rfl, by omega⟩ hP hS (dk_at dkX5_asked_1 9 rfl)
    · have c14 : z11 = (-1) := (i_eq (rb hw13 (by decide) (by decide)) ⟨by decide, by decide⟩).mp c14
      refine lv_aload_n hx hb (dk_at dkX5_asked_1 4 rfl) rfl (lv_at hl 1 rfl) ?_
      refine lv_iconst (v := iI 3) hx hb (dk_at dkX5_asked_1 5 rfl) (by decide +kernel) ?_
      refine k_calli (As := [.int (iI 3)]) (rest := []) ⟨hx, hb, hml, hown, hts⟩ hE (kc_X5_none l dC dI cB cI cJ cZ cQ aL aS q _ 3 hI ⟨by decide, by decide⟩) (cwV 1 hts (goodVk wkq_5_33 wkq_5_34 wkq_5_35 wkq_5_28 wkq_5_36) rfl rfl rfl (by decide +kernel) ⟨Nat.le_of_ble_eq_true rfl, Nat.le_of_ble_eq_true rfl⟩) hK hDD hA0 hP hS 3 5 (wkRD) rfl rfl hl.1 (Nat.le_of_ble_eq_true rfl) (dk_at dkX5_asked_1 6 rfl) (fun z15 A16 H locs hw17 hP hS => ?_)
      have ghw17 : q_X5_none 3 A6 z15 A16 := hw17
      obtain ⟨_, hI, hf18, hw17⟩ := hw17
      refine lv_goto (tgt := 47) hx hb (dk_at dkX5_asked_1 7 rfl) (by decide) ?_
      exact RET z15 _ _ _ _ _ ⟨(u_r_X5_asked_2_0 ⟨z1, A2, ghw3, (Or.inl ⟨c5, ⟨A6, ghw7, ⟨z11, ghw13, (Or.inr ⟨c14, ⟨z15, A16, ghw17, ⟨rfl, rfl⟩⟩⟩)⟩⟩⟩)⟩), hI, fk.trans (fk.trans (fk.trans (fk.rf) hf4 rfl rfl) hf8 rfl rfl) hf18 rfl rfl, by omega⟩ hP hS (dk_at dkX5_asked_1 9 rfl)
  · have c5 : z1 = 0 := (i_eq0 (rb hw3 (by decide) (by decide))).mp c5
    refine lv_aload_n hx hb (dk_at dkX5_asked_0 3 rfl) rfl (lv_at hl 0 rfl) ?_
    refine lv_iconst (v := iI 1) hx hb (dk_at dkX5_asked_0 4 rfl) (by decide +kernel) ?_
    refine k_calli (As := [.int (iI 1)]) (rest := []) ⟨hx, hb, hml, hown, hts⟩ hE (kc_X5_none l dC dI cB cI cJ cZ cQ aL aS q _ 1 hI ⟨by decide, by decide⟩) (cwV 1 hts (goodVk wkq_5_33 wkq_5_34 wkq_5_35 wkq_5_28 wkq_5_36) rfl rfl rfl (by decide +kernel) ⟨Nat.le_of_ble_eq_true rfl, Nat.le_of_ble_eq_true rfl⟩) hK hDD hA0 hP hS 3 5 (wkRD) rfl rfl hl.1 (Nat.le_of_ble_eq_true rfl) (dk_at dkX5_asked_0 5 rfl) (fun z19 A20 H locs hw21 hP hS => ?_)
    have ghw21 : q_X5_none 1 A2 z19 A20 := hw21
    obtain ⟨_, hI, hf22, hw21⟩ := hw21
    exact RET z19 _ _ _ _ _ ⟨(u_r_X5_asked_2_0 ⟨z1, A2, ghw3, (Or.inr ⟨c5, ⟨z19, A20, ghw21, ⟨rfl, rfl⟩⟩⟩)⟩), hI, fk.trans (fk.trans (fk.rf) hf4 rfl rfl) hf22 rfl rfl, by omega⟩ hP hS (dk_at dkX5_asked_0 6 rfl)

abbrev tr_r_X5_asked_2_1 (ta : Nat) (A : St) (z : Int) (u : St) : Prop := (∃ z1 : Int, ∃ A2 : St, q_X5_isNameAhead A z1 A2 ∧ (((¬ z1 = 0) ∧ (∃ A6 : St, q_X3_pass A2 A6 ∧ (∃ z11 : Int, q_X9_find_1_1 ta (A2 5 4) A6 z11 ∧ (((¬ z11 = (-1)) ∧ (z = z11 ∧ u = A6)) ∨ ((z11 = (-1)) ∧ (∃ z15 : Int, ∃ A16 : St, q_X5_none 3 A6 z15 A16 ∧ (z = z15 ∧ u = A16))))))) ∨ ((z1 = 0) ∧ (∃ z19 : Int, ∃ A20 : St, q_X5_none 1 A2 z19 A20 ∧ (z = z19 ∧ u = A20)))))
def r_X5_asked_2_1 (ta : Nat) (A : St) (z : Int) (u : St) : Prop := tr_r_X5_asked_2_1 ta A z u
theorem u_r_X5_asked_2_1 {ta : Nat} {A : St} {z : Int} {u : St} (h : tr_r_X5_asked_2_1 ta A z u) : r_X5_asked_2_1 ta A z u := h
def q_X5_asked_2_1 (ta : Nat) (A : St) (z : Int) (u : St) : Prop := r_X5_asked_2_1 ta A z u ∧ IK u ∧ fk [] [(3, 2), (3, 3), (5, 1), (5, 2), (5, 3), (5, 4), (5, 5), (5, 6)] A u ∧ (-1 ≤ z ∧ z ≤ 9)
def ws_kc_X5_asked_2_1 : List Cond := .code yX5_asked cX5_asked 4 (some .int) :: WY
set_option maxHeartbeats 4000000 in
set_option maxRecDepth 100000 in
theorem kc_X5_asked_2_1 (l : Launch) (dC : Nat → ClassId) (dI : Nat → Nat → Nat) (cB cI cJ cZ cQ : ClassId) (aL aS : Nat) (q : Nat → Nat) (A : St) (ta : Nat) (hI : IK A) (hta : isT ta) : KMi l yX5_asked ws_kc_X5_asked_2_1 ({ frames := 3, cells := 0, slots := 0, locals := 66 } : Room) aL aS (dC, dI) (tyA cB cI cJ cZ cQ) (WK cB cI cJ cZ cQ q) A [.ref (q 3), .ref (q ta), .int (iI 1)] (fun z u => r_X5_asked_2_1 ta A z u ∧ IK u ∧ fk [] [(3, 2), (3, 3), (5, 1), (5, 2), (5, 3), (5, 4), (5, 5), (5, 6)] A u ∧ (-1 ≤ z ∧ z ≤ 9)) := by
  refine k_meti (cc := cX5_asked) (maxL := 4) WK_adr (plainFor_of_name (by decide +kernel)) rfl (Nat.le_of_ble_eq_true rfl) (fun p e s m below meth c Q AS ls hx hb hml hown hts hK hDD hA0 hE RET H locs hP hS hl => ?_)
  have hown : s.vm.findClass RX5 = some m.cls := hown
  have hl : lv_has ls 4 [(0, .ref (q 3)), (1, .ref (q ta)), (2, .int (iI 1))] := hl
  have hiX5 : ∀ w ∈ u_ws RX5 TX5 5, w ∈ ws_kc_X5_asked_2_1 := fun w h => List.mem_cons_of_mem _ (wy_layX5 w h)
  have hiX3 : ∀ w ∈ u_ws RX3 TX3 7, w ∈ ws_kc_X5_asked_2_1 := fun w h => List.mem_cons_of_mem _ (wy_layX3 w h)
  refine lv_aload_n hx hb (dk_at dkX5_asked_0 0 rfl) rfl (lv_at hl 0 rfl) ?_
  refine k_calli (As := []) (rest := []) ⟨hx, hb, hml, hown, hts⟩ hE (kc_X5_isNameAhead l dC dI cB cI cJ cZ cQ aL aS q _ hI) (cwV 0 hts (goodVk wkq_5_49 wkq_5_50 wkq_5_51 wkq_5_28 wkq_5_52) rfl rfl rfl (by decide +kernel) ⟨Nat.le_of_ble_eq_true rfl, Nat.le_of_ble_eq_true rfl⟩) hK hDD hA0 hP hS 3 5 (wkRD) rfl rfl hl.1 (Nat.le_of_ble_eq_true rfl) (dk_at dkX5_asked_0 1 rfl) (fun z1 A2 H locs hw3 hP hS => ?_)
  have ghw3 : q_X5_isNameAhead A z1 A2 := hw3
  obtain ⟨_, hI, hf4, hw3⟩ := hw3
  refine lv_if_ne (tgt := 13) hx hb (dk_at dkX5_asked_0 2 rfl) (by decide) (fun c5 => ?_) (fun c5 => ?_)
  · have c5 : ¬ z1 = 0 := mt (i_eq0 (rb hw3 (by decide) (by decide))).mpr c5
    refine lv_aload_n hx hb (dk_at dkX5_asked_0 7 rfl) rfl (lv_at hl 0 rfl) ?_
    refine va_get (D := (dC, dI)) (ci := 5) (v := .ref (q 5)) (C := RX5) (T := TX5) (N := 5) hx hb hts hiX5 hown hK hP 3 (wkRD) rfl 0 (by decide) (hts _ (List.mem_cons_of_mem _ wkq_5_6)) (fun _ h9 => h9) rfl (dk_at dkX5_asked_0 8 rfl) ?_
    refine k_callv (As := []) (rest := []) ⟨hx, hb, hml, hown, hts⟩ hE (kc_X3_pass l dC dI cB cI cJ cZ cQ aL aS q _ hI) (cwV 0 hts (goodVk wkq_5_42 wkq_5_43 wkq_5_44 wkq_4_10 wkq_3_58) rfl rfl rfl (by decide +kernel) ⟨Nat.le_of_ble_eq_true rfl, Nat.le_of_ble_eq_true rfl⟩) hK hDD hA0 hP hS 5 3 (wkLX) rfl rfl hl.1 (Nat.le_of_ble_eq_true rfl) (dk_at dkX5_asked_0 9 rfl) (fun A6 H locs hw7 hP hS => ?_)
    have ghw7 : q_X3_pass A2 A6 := hw7
    obtain ⟨_, hI, hf8, hw7⟩ := hw7
    clear hw7
    refine lv_aload_n hx hb (dk_at dkX5_asked_0 10 rfl) rfl (lv_at hl 1 rfl) ?_
    refine lv_iload_n hx hb (dk_at dkX5_asked_0 11 rfl) rfl (lv_at hl 2 rfl) ?_
    refine lv_aload_n hx hb (dk_at dkX5_asked_0 12 rfl) rfl (lv_at hl 0 rfl) ?_
    refine va_get (D := (dC, dI)) (ci := 5) (v := .ref (q 5)) (C := RX5) (T := TX5) (N := 5) hx hb hts hiX5 hown hK hP 3 (wkRD) rfl 0 (by decide) (hts _ (List.mem_cons_of_mem _ wkq_5_6)) (fun _ h9 => h9) rfl (dk_at dkX5_asked_0 13 rfl) ?_
    have e9 : A6 5 4 = (A2 5 4) := (hf8 5 4 rfl rfl)
    have r10 : (-2147483648 : Int) ≤ (A2 5 4) ∧ (A2 5 4) ≤ 2147483647 := by rw [← e9]; exact irLX_4 hI
    refine va_get (D := (dC, dI)) (ci := 3) (v := .int (iI (A6 5 4))) (C := RX3) (T := TX3) (N := 7) hx hb hts hiX3 hown hK hP 5 (wkLX) rfl 4 (by decide) (hts _ (List.mem_cons_of_mem _ wkq_5_30)) (fun _ h9 => h9) rfl (dk_at dkX5_asked_0 14 rfl) ?_
    refine tp_i (y := iI (A2 5 4)) (congrArg iI e9) ?_
    refine k_calli (As := [.int (iI 1), .int (iI (A2 5 4))]) (rest := []) ⟨hx, hb, hml, hown, hts⟩ hE (kc_X9_find_1_1 l dC dI cB cI cJ cZ cQ aL aS q _ ta (A2 5 4) hI hta r10) (cwV 2 hts (goodVk wkq_5_53 wkq_5_54 wkq_5_55 wkq_0_6 wkq_5_56) rfl rfl rfl (by decide +kernel) ⟨Nat.le_of_ble_eq_true rfl, Nat.le_of_ble_eq_true rfl⟩) hK hDD hA0 hP hS ta 9 (wkT hta) rfl rfl hl.1 (Nat.le_of_ble_eq_true rfl) (dk_at dkX5_asked_0 15 rfl) (fun z11 A12 H locs hw13 hP hS => ?_)
    obtain ⟨rfl, hw13⟩ := hw13
    have ghw13 : q_X9_find_1_1 ta (A2 5 4) A6 z11 := hw13
    have hw13 := hw13.2
    refine lv_istore_n (lv' := [(3, .int (iI z11)), (0, .ref (q 3)), (1, .ref (q ta)), (2, .int (iI 1))]) hx hb (dk_at dkX5_asked_1 0 rfl) rfl hl (by decide) rfl (fun ls hl => ?_)
    refine lv_iload_n hx hb (dk_at dkX5_asked_1 1 rfl) rfl (lv_at hl 0 rfl) ?_
    refine lv_iconst (v := iI (-1)) hx hb (dk_at dkX5_asked_1 2 rfl) (by decide +kernel) ?_
    refine lv_icmp_ne (tgt := 46) hx hb (dk_at dkX5_asked_1 3 rfl) (by decide) (fun c14 => ?_) (fun c14 => ?_)
    · have c14 : ¬ z11 = (-1) := mt (i_eq (rb hw13 (by decide) (by decide)) ⟨by decide, by decide⟩).mpr c14
      refine lv_iload_n hx hb (dk_at dkX5_asked_1 8 rfl) rfl (lv_at hl 0 rfl) ?_
      exact RET z11 _ _ _ _ _ ⟨(u_r_X5_asked_2_1 ⟨z1, A2, ghw3, (Or.inl ⟨c5, ⟨A6, ghw7, ⟨z11, ghw13, (Or.inl ⟨c14, ⟨rfl, rfl⟩⟩)⟩⟩⟩)⟩), hI, fk.trans (fk.trans (fk.rf) hf4 rfl rfl) hf8 rfl rfl, by omega⟩ hP hS (dk_at dkX5_asked_1 9 rfl)
    · have c14 : z11 = (-1) := (i_eq (rb hw13 (by decide) (by decide)) ⟨by decide, by decide⟩).mp c14
      refine lv_aload_n hx hb (dk_at dkX5_asked_1 4 rfl) rfl (lv_at hl 1 rfl) ?_
      refine lv_iconst (v := iI 3) hx hb (dk_at dkX5_asked_1 5 rfl) (by decide +kernel) ?_
      refine k_calli (As := [.int (iI 3)]) (rest := []) ⟨hx, hb, hml, hown, hts⟩ hE (kc_X5_none l dC dI cB cI cJ cZ cQ aL aS q _ 3 hI ⟨by decide, by decide⟩) (cwV 1 hts (goodVk wkq_5_33 wkq_5_34 wkq_5_35 wkq_5_28 wkq_5_36) rfl rfl rfl (by decide +kernel) ⟨Nat.le_of_ble_eq_true rfl, Nat.le_of_ble_eq_true rfl⟩) hK hDD hA0 hP hS 3 5 (wkRD) rfl rfl hl.1 (Nat.le_of_ble_eq_true rfl) (dk_at dkX5_asked_1 6 rfl) (fun z15 A16 H locs hw17 hP hS => ?_)
      have ghw17 : q_X5_none 3 A6 z15 A16 := hw17
      obtain ⟨_, hI, hf18, hw17⟩ := hw17
      refine lv_goto (tgt := 47) hx hb (dk_at dkX5_asked_1 7 rfl) (by decide) ?_
      exact RET z15 _ _ _ _ _ ⟨(u_r_X5_asked_2_1 ⟨z1, A2, ghw3, (Or.inl ⟨c5, ⟨A6, ghw7, ⟨z11, ghw13, (Or.inr ⟨c14, ⟨z15, A16, ghw17, ⟨rfl, rfl⟩⟩⟩)⟩⟩⟩)⟩), hI, fk.trans (fk.trans (fk.trans (fk.rf) hf4 rfl rfl) hf8 rfl rfl) hf18 rfl rfl, by omega⟩ hP hS (dk_at dkX5_asked_1 9 rfl)
  · have c5 : z1 = 0 := (i_eq0 (rb hw3 (by decide) (by decide))).mp c5
    refine lv_aload_n hx hb (dk_at dkX5_asked_0 3 rfl) rfl (lv_at hl 0 rfl) ?_
    refine lv_iconst (v := iI 1) hx hb (dk_at dkX5_asked_0 4 rfl) (by decide +kernel) ?_
    refine k_calli (As := [.int (iI 1)]) (rest := []) ⟨hx, hb, hml, hown, hts⟩ hE (kc_X5_none l dC dI cB cI cJ cZ cQ aL aS q _ 1 hI ⟨by decide, by decide⟩) (cwV 1 hts (goodVk wkq_5_33 wkq_5_34 wkq_5_35 wkq_5_28 wkq_5_36) rfl rfl rfl (by decide +kernel) ⟨Nat.le_of_ble_eq_true rfl, Nat.le_of_ble_eq_true rfl⟩) hK hDD hA0 hP hS 3 5 (wkRD) rfl rfl hl.1 (Nat.le_of_ble_eq_true rfl) (dk_at dkX5_asked_0 5 rfl) (fun z19 A20 H locs hw21 hP hS => ?_)
    have ghw21 : q_X5_none 1 A2 z19 A20 := hw21
    obtain ⟨_, hI, hf22, hw21⟩ := hw21
    exact RET z19 _ _ _ _ _ ⟨(u_r_X5_asked_2_1 ⟨z1, A2, ghw3, (Or.inr ⟨c5, ⟨z19, A20, ghw21, ⟨rfl, rfl⟩⟩⟩)⟩), hI, fk.trans (fk.trans (fk.rf) hf4 rfl rfl) hf22 rfl rfl, by omega⟩ hP hS (dk_at dkX5_asked_0 6 rfl)

abbrev tr_r_X5_asked_2_2 (ta : Nat) (A : St) (z : Int) (u : St) : Prop := (∃ z1 : Int, ∃ A2 : St, q_X5_isNameAhead A z1 A2 ∧ (((¬ z1 = 0) ∧ (∃ A6 : St, q_X3_pass A2 A6 ∧ (∃ z11 : Int, q_X9_find_1_2 ta (A2 5 4) A6 z11 ∧ (((¬ z11 = (-1)) ∧ (z = z11 ∧ u = A6)) ∨ ((z11 = (-1)) ∧ (∃ z15 : Int, ∃ A16 : St, q_X5_none 3 A6 z15 A16 ∧ (z = z15 ∧ u = A16))))))) ∨ ((z1 = 0) ∧ (∃ z19 : Int, ∃ A20 : St, q_X5_none 1 A2 z19 A20 ∧ (z = z19 ∧ u = A20)))))
def r_X5_asked_2_2 (ta : Nat) (A : St) (z : Int) (u : St) : Prop := tr_r_X5_asked_2_2 ta A z u
theorem u_r_X5_asked_2_2 {ta : Nat} {A : St} {z : Int} {u : St} (h : tr_r_X5_asked_2_2 ta A z u) : r_X5_asked_2_2 ta A z u := h
def q_X5_asked_2_2 (ta : Nat) (A : St) (z : Int) (u : St) : Prop := r_X5_asked_2_2 ta A z u ∧ IK u ∧ fk [] [(3, 2), (3, 3), (5, 1), (5, 2), (5, 3), (5, 4), (5, 5), (5, 6)] A u ∧ (-1 ≤ z ∧ z ≤ 3)
def ws_kc_X5_asked_2_2 : List Cond := .code yX5_asked cX5_asked 4 (some .int) :: WY
set_option maxHeartbeats 4000000 in
set_option maxRecDepth 100000 in
theorem kc_X5_asked_2_2 (l : Launch) (dC : Nat → ClassId) (dI : Nat → Nat → Nat) (cB cI cJ cZ cQ : ClassId) (aL aS : Nat) (q : Nat → Nat) (A : St) (ta : Nat) (hI : IK A) (hta : isT ta) : KMi l yX5_asked ws_kc_X5_asked_2_2 ({ frames := 3, cells := 0, slots := 0, locals := 66 } : Room) aL aS (dC, dI) (tyA cB cI cJ cZ cQ) (WK cB cI cJ cZ cQ q) A [.ref (q 3), .ref (q ta), .int (iI 2)] (fun z u => r_X5_asked_2_2 ta A z u ∧ IK u ∧ fk [] [(3, 2), (3, 3), (5, 1), (5, 2), (5, 3), (5, 4), (5, 5), (5, 6)] A u ∧ (-1 ≤ z ∧ z ≤ 3)) := by
  refine k_meti (cc := cX5_asked) (maxL := 4) WK_adr (plainFor_of_name (by decide +kernel)) rfl (Nat.le_of_ble_eq_true rfl) (fun p e s m below meth c Q AS ls hx hb hml hown hts hK hDD hA0 hE RET H locs hP hS hl => ?_)
  have hown : s.vm.findClass RX5 = some m.cls := hown
  have hl : lv_has ls 4 [(0, .ref (q 3)), (1, .ref (q ta)), (2, .int (iI 2))] := hl
  have hiX5 : ∀ w ∈ u_ws RX5 TX5 5, w ∈ ws_kc_X5_asked_2_2 := fun w h => List.mem_cons_of_mem _ (wy_layX5 w h)
  have hiX3 : ∀ w ∈ u_ws RX3 TX3 7, w ∈ ws_kc_X5_asked_2_2 := fun w h => List.mem_cons_of_mem _ (wy_layX3 w h)
  refine lv_aload_n hx hb (dk_at dkX5_asked_0 0 rfl) rfl (lv_at hl 0 rfl) ?_
  refine k_calli (As := []) (rest := []) ⟨hx, hb, hml, hown, hts⟩ hE (kc_X5_isNameAhead l dC dI cB cI cJ cZ cQ aL aS q _ hI) (cwV 0 hts (goodVk wkq_5_49 wkq_5_50 wkq_5_51 wkq_5_28 wkq_5_52) rfl rfl rfl (by decide +kernel) ⟨Nat.le_of_ble_eq_true rfl, Nat.le_of_ble_eq_true rfl⟩) hK hDD hA0 hP hS 3 5 (wkRD) rfl rfl hl.1 (Nat.le_of_ble_eq_true rfl) (dk_at dkX5_asked_0 1 rfl) (fun z1 A2 H locs hw3 hP hS => ?_)
  have ghw3 : q_X5_isNameAhead A z1 A2 := hw3
  obtain ⟨_, hI, hf4, hw3⟩ := hw3
  refine lv_if_ne (tgt := 13) hx hb (dk_at dkX5_asked_0 2 rfl) (by decide) (fun c5 => ?_) (fun c5 => ?_)
  · have c5 : ¬ z1 = 0 := mt (i_eq0 (rb hw3 (by decide) (by decide))).mpr c5
    refine lv_aload_n hx hb (dk_at dkX5_asked_0 7 rfl) rfl (lv_at hl 0 rfl) ?_
    refine va_get (D := (dC, dI)) (ci := 5) (v := .ref (q 5)) (C := RX5) (T := TX5) (N := 5) hx hb hts hiX5 hown hK hP 3 (wkRD) rfl 0 (by decide) (hts _ (List.mem_cons_of_mem _ wkq_5_6)) (fun _ h9 => h9) rfl (dk_at dkX5_asked_0 8 rfl) ?_
    refine k_callv (As := []) (rest := []) ⟨hx, hb, hml, hown, hts⟩ hE (kc_X3_pass l dC dI cB cI cJ cZ cQ aL aS q _ hI) (cwV 0 hts (goodVk wkq_5_42 wkq_5_43 wkq_5_44 wkq_4_10 wkq_3_58) rfl rfl rfl (by decide +kernel) ⟨Nat.le_of_ble_eq_true rfl, Nat.le_of_ble_eq_true rfl⟩) hK hDD hA0 hP hS 5 3 (wkLX) rfl rfl hl.1 (Nat.le_of_ble_eq_true rfl) (dk_at dkX5_asked_0 9 rfl) (fun A6 H locs hw7 hP hS => ?_)
    have ghw7 : q_X3_pass A2 A6 := hw7
    obtain ⟨_, hI, hf8, hw7⟩ := hw7
    clear hw7
    refine lv_aload_n hx hb (dk_at dkX5_asked_0 10 rfl) rfl (lv_at hl 1 rfl) ?_
    refine lv_iload_n hx hb (dk_at dkX5_asked_0 11 rfl) rfl (lv_at hl 2 rfl) ?_
    refine lv_aload_n hx hb (dk_at dkX5_asked_0 12 rfl) rfl (lv_at hl 0 rfl) ?_
    refine va_get (D := (dC, dI)) (ci := 5) (v := .ref (q 5)) (C := RX5) (T := TX5) (N := 5) hx hb hts hiX5 hown hK hP 3 (wkRD) rfl 0 (by decide) (hts _ (List.mem_cons_of_mem _ wkq_5_6)) (fun _ h9 => h9) rfl (dk_at dkX5_asked_0 13 rfl) ?_
    have e9 : A6 5 4 = (A2 5 4) := (hf8 5 4 rfl rfl)
    have r10 : (-2147483648 : Int) ≤ (A2 5 4) ∧ (A2 5 4) ≤ 2147483647 := by rw [← e9]; exact irLX_4 hI
    refine va_get (D := (dC, dI)) (ci := 3) (v := .int (iI (A6 5 4))) (C := RX3) (T := TX3) (N := 7) hx hb hts hiX3 hown hK hP 5 (wkLX) rfl 4 (by decide) (hts _ (List.mem_cons_of_mem _ wkq_5_30)) (fun _ h9 => h9) rfl (dk_at dkX5_asked_0 14 rfl) ?_
    refine tp_i (y := iI (A2 5 4)) (congrArg iI e9) ?_
    refine k_calli (As := [.int (iI 2), .int (iI (A2 5 4))]) (rest := []) ⟨hx, hb, hml, hown, hts⟩ hE (kc_X9_find_1_2 l dC dI cB cI cJ cZ cQ aL aS q _ ta (A2 5 4) hI hta r10) (cwV 2 hts (goodVk wkq_5_53 wkq_5_54 wkq_5_55 wkq_0_6 wkq_5_56) rfl rfl rfl (by decide +kernel) ⟨Nat.le_of_ble_eq_true rfl, Nat.le_of_ble_eq_true rfl⟩) hK hDD hA0 hP hS ta 9 (wkT hta) rfl rfl hl.1 (Nat.le_of_ble_eq_true rfl) (dk_at dkX5_asked_0 15 rfl) (fun z11 A12 H locs hw13 hP hS => ?_)
    obtain ⟨rfl, hw13⟩ := hw13
    have ghw13 : q_X9_find_1_2 ta (A2 5 4) A6 z11 := hw13
    have hw13 := hw13.2
    refine lv_istore_n (lv' := [(3, .int (iI z11)), (0, .ref (q 3)), (1, .ref (q ta)), (2, .int (iI 2))]) hx hb (dk_at dkX5_asked_1 0 rfl) rfl hl (by decide) rfl (fun ls hl => ?_)
    refine lv_iload_n hx hb (dk_at dkX5_asked_1 1 rfl) rfl (lv_at hl 0 rfl) ?_
    refine lv_iconst (v := iI (-1)) hx hb (dk_at dkX5_asked_1 2 rfl) (by decide +kernel) ?_
    refine lv_icmp_ne (tgt := 46) hx hb (dk_at dkX5_asked_1 3 rfl) (by decide) (fun c14 => ?_) (fun c14 => ?_)
    · have c14 : ¬ z11 = (-1) := mt (i_eq (rb hw13 (by decide) (by decide)) ⟨by decide, by decide⟩).mpr c14
      refine lv_iload_n hx hb (dk_at dkX5_asked_1 8 rfl) rfl (lv_at hl 0 rfl) ?_
      exact RET z11 _ _ _ _ _ ⟨(u_r_X5_asked_2_2 ⟨z1, A2, ghw3, (Or.inl ⟨c5, ⟨A6, ghw7, ⟨z11, ghw13, (Or.inl ⟨c14, ⟨rfl, rfl⟩⟩)⟩⟩⟩)⟩), hI, fk.trans (fk.trans (fk.rf) hf4 rfl rfl) hf8 rfl rfl, by omega⟩ hP hS (dk_at dkX5_asked_1 9 rfl)
    · have c14 : z11 = (-1) := (i_eq (rb hw13 (by decide) (by decide)) ⟨by decide, by decide⟩).mp c14
      refine lv_aload_n hx hb (dk_at dkX5_asked_1 4 rfl) rfl (lv_at hl 1 rfl) ?_
      refine lv_iconst (v := iI 3) hx hb (dk_at dkX5_asked_1 5 rfl) (by decide +kernel) ?_
      refine k_calli (As := [.int (iI 3)]) (rest := []) ⟨hx, hb, hml, hown, hts⟩ hE (kc_X5_none l dC dI cB cI cJ cZ cQ aL aS q _ 3 hI ⟨by decide, by decide⟩) (cwV 1 hts (goodVk wkq_5_33 wkq_5_34 wkq_5_35 wkq_5_28 wkq_5_36) rfl rfl rfl (by decide +kernel) ⟨Nat.le_of_ble_eq_true rfl, Nat.le_of_ble_eq_true rfl⟩) hK hDD hA0 hP hS 3 5 (wkRD) rfl rfl hl.1 (Nat.le_of_ble_eq_true rfl) (dk_at dkX5_asked_1 6 rfl) (fun z15 A16 H locs hw17 hP hS => ?_)
      have ghw17 : q_X5_none 3 A6 z15 A16 := hw17
      obtain ⟨_, hI, hf18, hw17⟩ := hw17
      refine lv_goto (tgt := 47) hx hb (dk_at dkX5_asked_1 7 rfl) (by decide) ?_
      exact RET z15 _ _ _ _ _ ⟨(u_r_X5_asked_2_2 ⟨z1, A2, ghw3, (Or.inl ⟨c5, ⟨A6, ghw7, ⟨z11, ghw13, (Or.inr ⟨c14, ⟨z15, A16, ghw17, ⟨rfl, rfl⟩⟩⟩)⟩⟩⟩)⟩), hI, fk.trans (fk.trans (fk.trans (fk.rf) hf4 rfl rfl) hf8 rfl rfl) hf18 rfl rfl, by omega⟩ hP hS (dk_at dkX5_asked_1 9 rfl)
  · have c5 : z1 = 0 := (i_eq0 (rb hw3 (by decide) (by decide))).mp c5
    refine lv_aload_n hx hb (dk_at dkX5_asked_0 3 rfl) rfl (lv_at hl 0 rfl) ?_
    refine lv_iconst (v := iI 1) hx hb (dk_at dkX5_asked_0 4 rfl) (by decide +kernel) ?_
    refine k_calli (As := [.int (iI 1)]) (rest := []) ⟨hx, hb, hml, hown, hts⟩ hE (kc_X5_none l dC dI cB cI cJ cZ cQ aL aS q _ 1 hI ⟨by decide, by decide⟩) (cwV 1 hts (goodVk wkq_5_33 wkq_5_34 wkq_5_35 wkq_5_28 wkq_5_36) rfl rfl rfl (by decide +kernel) ⟨Nat.le_of_ble_eq_true rfl, Nat.le_of_ble_eq_true rfl⟩) hK hDD hA0 hP hS 3 5 (wkRD) rfl rfl hl.1 (Nat.le_of_ble_eq_true rfl) (dk_at dkX5_asked_0 5 rfl) (fun z19 A20 H locs hw21 hP hS => ?_)
    have ghw21 : q_X5_none 1 A2 z19 A20 := hw21
    obtain ⟨_, hI, hf22, hw21⟩ := hw21
    exact RET z19 _ _ _ _ _ ⟨(u_r_X5_asked_2_2 ⟨z1, A2, ghw3, (Or.inr ⟨c5, ⟨z19, A20, ghw21, ⟨rfl, rfl⟩⟩⟩)⟩), hI, fk.trans (fk.trans (fk.rf) hf4 rfl rfl) hf22 rfl rfl, by omega⟩ hP hS (dk_at dkX5_asked_0 6 rfl)

abbrev tr_r_X5_asked_2_3 (ta : Nat) (A : St) (z : Int) (u : St) : Prop := (∃ z1 : Int, ∃ A2 : St, q_X5_isNameAhead A z1 A2 ∧ (((¬ z1 = 0) ∧ (∃ A6 : St, q_X3_pass A2 A6 ∧ (∃ z11 : Int, q_X9_find_1_3 ta (A2 5 4) A6 z11 ∧ (((¬ z11 = (-1)) ∧ (z = z11 ∧ u = A6)) ∨ ((z11 = (-1)) ∧ (∃ z15 : Int, ∃ A16 : St, q_X5_none 3 A6 z15 A16 ∧ (z = z15 ∧ u = A16))))))) ∨ ((z1 = 0) ∧ (∃ z19 : Int, ∃ A20 : St, q_X5_none 1 A2 z19 A20 ∧ (z = z19 ∧ u = A20)))))
def r_X5_asked_2_3 (ta : Nat) (A : St) (z : Int) (u : St) : Prop := tr_r_X5_asked_2_3 ta A z u
theorem u_r_X5_asked_2_3 {ta : Nat} {A : St} {z : Int} {u : St} (h : tr_r_X5_asked_2_3 ta A z u) : r_X5_asked_2_3 ta A z u := h
def q_X5_asked_2_3 (ta : Nat) (A : St) (z : Int) (u : St) : Prop := r_X5_asked_2_3 ta A z u ∧ IK u ∧ fk [] [(3, 2), (3, 3), (5, 1), (5, 2), (5, 3), (5, 4), (5, 5), (5, 6)] A u ∧ (-1 ≤ z ∧ z ≤ 2)
def ws_kc_X5_asked_2_3 : List Cond := .code yX5_asked cX5_asked 4 (some .int) :: WY
set_option maxHeartbeats 4000000 in
set_option maxRecDepth 100000 in
theorem kc_X5_asked_2_3 (l : Launch) (dC : Nat → ClassId) (dI : Nat → Nat → Nat) (cB cI cJ cZ cQ : ClassId) (aL aS : Nat) (q : Nat → Nat) (A : St) (ta : Nat) (hI : IK A) (hta : isT ta) : KMi l yX5_asked ws_kc_X5_asked_2_3 ({ frames := 3, cells := 0, slots := 0, locals := 66 } : Room) aL aS (dC, dI) (tyA cB cI cJ cZ cQ) (WK cB cI cJ cZ cQ q) A [.ref (q 3), .ref (q ta), .int (iI 3)] (fun z u => r_X5_asked_2_3 ta A z u ∧ IK u ∧ fk [] [(3, 2), (3, 3), (5, 1), (5, 2), (5, 3), (5, 4), (5, 5), (5, 6)] A u ∧ (-1 ≤ z ∧ z ≤ 2)) := by
  refine k_meti (cc := cX5_asked) (maxL := 4) WK_adr (plainFor_of_name (by decide +kernel)) rfl (Nat.le_of_ble_eq_true rfl) (fun p e s m below meth c Q AS ls hx hb hml hown hts hK hDD hA0 hE RET H locs hP hS hl => ?_)
  have hown : s.vm.findClass RX5 = some m.cls := hown
  have hl : lv_has ls 4 [(0, .ref (q 3)), (1, .ref (q ta)), (2, .int (iI 3))] := hl
  have hiX5 : ∀ w ∈ u_ws RX5 TX5 5, w ∈ ws_kc_X5_asked_2_3 := fun w h => List.mem_cons_of_mem _ (wy_layX5 w h)
  have hiX3 : ∀ w ∈ u_ws RX3 TX3 7, w ∈ ws_kc_X5_asked_2_3 := fun w h => List.mem_cons_of_mem _ (wy_layX3 w h)
  refine lv_aload_n hx hb (dk_at dkX5_asked_0 0 rfl) rfl (lv_at hl 0 rfl) ?_
  refine k_calli (As := []) (rest := []) ⟨hx, hb, hml, hown, hts⟩ hE (kc_X5_isNameAhead l dC dI cB cI cJ cZ cQ aL aS q _ hI) (cwV 0 hts (goodVk wkq_5_49 wkq_5_50 wkq_5_51 wkq_5_28 wkq_5_52) rfl rfl rfl (by decide +kernel) ⟨Nat.le_of_ble_eq_true rfl, Nat.le_of_ble_eq_true rfl⟩) hK hDD hA0 hP hS 3 5 (wkRD) rfl rfl hl.1 (Nat.le_of_ble_eq_true rfl) (dk_at dkX5_asked_0 1 rfl) (fun z1 A2 H locs hw3 hP hS => ?_)
  have ghw3 : q_X5_isNameAhead A z1 A2 := hw3
  obtain ⟨_, hI, hf4, hw3⟩ := hw3
  refine lv_if_ne (tgt := 13) hx hb (dk_at dkX5_asked_0 2 rfl) (by decide) (fun c5 => ?_) (fun c5 => ?_)
  · have c5 : ¬ z1 = 0 := mt (i_eq0 (rb hw3 (by decide) (by decide))).mpr c5
    refine lv_aload_n hx hb (dk_at dkX5_asked_0 7 rfl) rfl (lv_at hl 0 rfl) ?_
    refine va_get (D := (dC, dI)) (ci := 5) (v := .ref (q 5)) (C := RX5) (T := TX5) (N := 5) hx hb hts hiX5 hown hK hP 3 (wkRD) rfl 0 (by decide) (hts _ (List.mem_cons_of_mem _ wkq_5_6)) (fun _ h9 => h9) rfl (dk_at dkX5_asked_0 8 rfl) ?_
    refine k_callv (As := []) (rest := []) ⟨hx, hb, hml, hown, hts⟩ hE (kc_X3_pass l dC dI cB cI cJ cZ cQ aL aS q _ hI) (cwV 0 hts (goodVk wkq_5_42 wkq_5_43 wkq_5_44 wkq_4_10 wkq_3_58) rfl rfl rfl (by decide +kernel) ⟨Nat.le_of_ble_eq_true rfl, Nat.le_of_ble_eq_true rfl⟩) hK hDD hA0 hP hS 5 3 (wkLX) rfl rfl hl.1 (Nat.le_of_ble_eq_true rfl) (dk_at dkX5_asked_0 9 rfl) (fun A6 H locs hw7 hP hS => ?_)
    have ghw7 : q_X3_pass A2 A6 := hw7
    obtain ⟨_, hI, hf8, hw7⟩ := hw7
    clear hw7
    refine lv_aload_n hx hb (dk_at dkX5_asked_0 10 rfl) rfl (lv_at hl 1 rfl) ?_
    refine lv_iload_n hx hb (dk_at dkX5_asked_0 11 rfl) rfl (lv_at hl 2 rfl) ?_
    refine lv_aload_n hx hb (dk_at dkX5_asked_0 12 rfl) rfl (lv_at hl 0 rfl) ?_
    refine va_get (D := (dC, dI)) (ci := 5) (v := .ref (q 5)) (C := RX5) (T := TX5) (N := 5) hx hb hts hiX5 hown hK hP 3 (wkRD) rfl 0 (by decide) (hts _ (List.mem_cons_of_mem _ wkq_5_6)) (fun _ h9 => h9) rfl (dk_at dkX5_asked_0 13 rfl) ?_
    have e9 : A6 5 4 = (A2 5 4) := (hf8 5 4 rfl rfl)
    have r10 : (-2147483648 : Int) ≤ (A2 5 4) ∧ (A2 5 4) ≤ 2147483647 := by rw [← e9]; exact irLX_4 hI
    refine va_get (D := (dC, dI)) (ci := 3) (v := .int (iI (A6 5 4))) (C := RX3) (T := TX3) (N := 7) hx hb hts hiX3 hown hK hP 5 (wkLX) rfl 4 (by decide) (hts _ (List.mem_cons_of_mem _ wkq_5_30)) (fun _ h9 => h9) rfl (dk_at dkX5_asked_0 14 rfl) ?_
    refine tp_i (y := iI (A2 5 4)) (congrArg iI e9) ?_
    refine k_calli (As := [.int (iI 3), .int (iI (A2 5 4))]) (rest := []) ⟨hx, hb, hml, hown, hts⟩ hE (kc_X9_find_1_3 l dC dI cB cI cJ cZ cQ aL aS q _ ta (A2 5 4) hI hta r10) (cwV 2 hts (goodVk wkq_5_53 wkq_5_54 wkq_5_55 wkq_0_6 wkq_5_56) rfl rfl rfl (by decide +kernel) ⟨Nat.le_of_ble_eq_true rfl, Nat.le_of_ble_eq_true rfl⟩) hK hDD hA0 hP hS ta 9 (wkT hta) rfl rfl hl.1 (Nat.le_of_ble_eq_true rfl) (dk_at dkX5_asked_0 15 rfl) (fun z11 A12 H locs hw13 hP hS => ?_)
    obtain ⟨rfl, hw13⟩ := hw13
    have ghw13 : q_X9_find_1_3 ta (A2 5 4) A6 z11 := hw13
    have hw13 := hw13.2
    refine lv_istore_n (lv' := [(3, .int (iI z11)), (0, .ref (q 3)), (1, .ref (q ta)), (2, .int (iI 3))]) hx hb (dk_at dkX5_asked_1 0 rfl) rfl hl (by decide) rfl (fun ls hl => ?_)
    refine lv_iload_n hx hb (dk_at dkX5_asked_1 1 rfl) rfl (lv_at hl 0 rfl) ?_
    refine lv_iconst (v := iI (-1)) hx hb (dk_at dkX5_asked_1 2 rfl) (by decide +kernel) ?_
    refine lv_icmp_ne (tgt := 46) hx hb (dk_at dkX5_asked_1 3 rfl) (by decide) (fun c14 => ?_) (fun c14 => ?_)
    · have c14 : ¬ z11 = (-1) := mt (i_eq (rb hw13 (by decide) (by decide)) ⟨by decide, by decide⟩).mpr c14
      refine lv_iload_n hx hb (dk_at dkX5_asked_1 8 rfl) rfl (lv_at hl 0 rfl) ?_
      exact RET z11 _ _ _ _ _ ⟨(u_r_X5_asked_2_3 ⟨z1, A2, ghw3, (Or.inl ⟨c5, ⟨A6, ghw7, ⟨z11, ghw13, (Or.inl ⟨c14, ⟨rfl, rfl⟩⟩)⟩⟩⟩)⟩), hI, fk.trans (fk.trans (fk.rf) hf4 rfl rfl) hf8 rfl rfl, by omega⟩ hP hS (dk_at dkX5_asked_1 9 rfl)
    · have c14 : z11 = (-1) := (i_eq (rb hw13 (by decide) (by decide)) ⟨by decide, by decide⟩).mp c14
      refine lv_aload_n hx hb (dk_at dkX5_asked_1 4 rfl) rfl (lv_at hl 1 rfl) ?_
      refine lv_iconst (v := iI 3) hx hb (dk_at dkX5_asked_1 5 rfl) (by decide +kernel) ?_
      refine k_calli (As := [.int (iI 3)]) (rest := []) ⟨hx, hb, hml, hown, hts⟩ hE (kc_X5_none l dC dI cB cI cJ cZ cQ aL aS q _ 3 hI ⟨by decide, by decide⟩) (cwV 1 hts (goodVk wkq_5_33 wkq_5_34 wkq_5_35 wkq_5_28 wkq_5_36) rfl rfl rfl (by decide +kernel) ⟨Nat.le_of_ble_eq_true rfl, Nat.le_of_ble_eq_true rfl⟩) hK hDD hA0 hP hS 3 5 (wkRD) rfl rfl hl.1 (Nat.le_of_ble_eq_true rfl) (dk_at dkX5_asked_1 6 rfl) (fun z15 A16 H locs hw17 hP hS => ?_)
      have ghw17 : q_X5_none 3 A6 z15 A16 := hw17
      obtain ⟨_, hI, hf18, hw17⟩ := hw17
      refine lv_goto (tgt := 47) hx hb (dk_at dkX5_asked_1 7 rfl) (by decide) ?_
      exact RET z15 _ _ _ _ _ ⟨(u_r_X5_asked_2_3 ⟨z1, A2, ghw3, (Or.inl ⟨c5, ⟨A6, ghw7, ⟨z11, ghw13, (Or.inr ⟨c14, ⟨z15, A16, ghw17, ⟨rfl, rfl⟩⟩⟩)⟩⟩⟩)⟩), hI, fk.trans (fk.trans (fk.trans (fk.rf) hf4 rfl rfl) hf8 rfl rfl) hf18 rfl rfl, by omega⟩ hP hS (dk_at dkX5_asked_1 9 rfl)
  · have c5 : z1 = 0 := (i_eq0 (rb hw3 (by decide) (by decide))).mp c5
    refine lv_aload_n hx hb (dk_at dkX5_asked_0 3 rfl) rfl (lv_at hl 0 rfl) ?_
    refine lv_iconst (v := iI 1) hx hb (dk_at dkX5_asked_0 4 rfl) (by decide +kernel) ?_
    refine k_calli (As := [.int (iI 1)]) (rest := []) ⟨hx, hb, hml, hown, hts⟩ hE (kc_X5_none l dC dI cB cI cJ cZ cQ aL aS q _ 1 hI ⟨by decide, by decide⟩) (cwV 1 hts (goodVk wkq_5_33 wkq_5_34 wkq_5_35 wkq_5_28 wkq_5_36) rfl rfl rfl (by decide +kernel) ⟨Nat.le_of_ble_eq_true rfl, Nat.le_of_ble_eq_true rfl⟩) hK hDD hA0 hP hS 3 5 (wkRD) rfl rfl hl.1 (Nat.le_of_ble_eq_true rfl) (dk_at dkX5_asked_0 5 rfl) (fun z19 A20 H locs hw21 hP hS => ?_)
    have ghw21 : q_X5_none 1 A2 z19 A20 := hw21
    obtain ⟨_, hI, hf22, hw21⟩ := hw21
    exact RET z19 _ _ _ _ _ ⟨(u_r_X5_asked_2_3 ⟨z1, A2, ghw3, (Or.inr ⟨c5, ⟨z19, A20, ghw21, ⟨rfl, rfl⟩⟩⟩)⟩), hI, fk.trans (fk.trans (fk.rf) hf4 rfl rfl) hf22 rfl rfl, by omega⟩ hP hS (dk_at dkX5_asked_0 6 rfl)

abbrev tr_r_X5_asked_2_4 (ta : Nat) (A : St) (z : Int) (u : St) : Prop := (∃ z1 : Int, ∃ A2 : St, q_X5_isNameAhead A z1 A2 ∧ (((¬ z1 = 0) ∧ (∃ A6 : St, q_X3_pass A2 A6 ∧ (∃ z11 : Int, q_X9_find_1_4 ta (A2 5 4) A6 z11 ∧ (((¬ z11 = (-1)) ∧ (z = z11 ∧ u = A6)) ∨ ((z11 = (-1)) ∧ (∃ z15 : Int, ∃ A16 : St, q_X5_none 3 A6 z15 A16 ∧ (z = z15 ∧ u = A16))))))) ∨ ((z1 = 0) ∧ (∃ z19 : Int, ∃ A20 : St, q_X5_none 1 A2 z19 A20 ∧ (z = z19 ∧ u = A20)))))
def r_X5_asked_2_4 (ta : Nat) (A : St) (z : Int) (u : St) : Prop := tr_r_X5_asked_2_4 ta A z u
theorem u_r_X5_asked_2_4 {ta : Nat} {A : St} {z : Int} {u : St} (h : tr_r_X5_asked_2_4 ta A z u) : r_X5_asked_2_4 ta A z u := h
def q_X5_asked_2_4 (ta : Nat) (A : St) (z : Int) (u : St) : Prop := r_X5_asked_2_4 ta A z u ∧ IK u ∧ fk [] [(3, 2), (3, 3), (5, 1), (5, 2), (5, 3), (5, 4), (5, 5), (5, 6)] A u ∧ (-1 ≤ z ∧ z ≤ 3)
def ws_kc_X5_asked_2_4 : List Cond := .code yX5_asked cX5_asked 4 (some .int) :: WY
set_option maxHeartbeats 4000000 in
set_option maxRecDepth 100000 in
theorem kc_X5_asked_2_4 (l : Launch) (dC : Nat → ClassId) (dI : Nat → Nat → Nat) (cB cI cJ cZ cQ : ClassId) (aL aS : Nat) (q : Nat → Nat) (A : St) (ta : Nat) (hI : IK A) (hta : isT ta) : KMi l yX5_asked ws_kc_X5_asked_2_4 ({ frames := 3, cells := 0, slots := 0, locals := 66 } : Room) aL aS (dC, dI) (tyA cB cI cJ cZ cQ) (WK cB cI cJ cZ cQ q) A [.ref (q 3), .ref (q ta), .int (iI 4)] (fun z u => r_X5_asked_2_4 ta A z u ∧ IK u ∧ fk [] [(3, 2), (3, 3), (5, 1), (5, 2), (5, 3), (5, 4), (5, 5), (5, 6)] A u ∧ (-1 ≤ z ∧ z ≤ 3)) := by
  refine k_meti (cc := cX5_asked) (maxL := 4) WK_adr (plainFor_of_name (by decide +kernel)) rfl (Nat.le_of_ble_eq_true rfl) (fun p e s m below meth c Q AS ls hx hb hml hown hts hK hDD hA0 hE RET H locs hP hS hl => ?_)
  have hown : s.vm.findClass RX5 = some m.cls := hown
  have hl : lv_has ls 4 [(0, .ref (q 3)), (1, .ref (q ta)), (2, .int (iI 4))] := hl
  have hiX5 : ∀ w ∈ u_ws RX5 TX5 5, w ∈ ws_kc_X5_asked_2_4 := fun w h => List.mem_cons_of_mem _ (wy_layX5 w h)
  have hiX3 : ∀ w ∈ u_ws RX3 TX3 7, w ∈ ws_kc_X5_asked_2_4 := fun w h => List.mem_cons_of_mem _ (wy_layX3 w h)
  refine lv_aload_n hx hb (dk_at dkX5_asked_0 0 rfl) rfl (lv_at hl 0 rfl) ?_
  refine k_calli (As := []) (rest := []) ⟨hx, hb, hml, hown, hts⟩ hE (kc_X5_isNameAhead l dC dI cB cI cJ cZ cQ aL aS q _ hI) (cwV 0 hts (goodVk wkq_5_49 wkq_5_50 wkq_5_51 wkq_5_28 wkq_5_52) rfl rfl rfl (by decide +kernel) ⟨Nat.le_of_ble_eq_true rfl, Nat.le_of_ble_eq_true rfl⟩) hK hDD hA0 hP hS 3 5 (wkRD) rfl rfl hl.1 (Nat.le_of_ble_eq_true rfl) (dk_at dkX5_asked_0 1 rfl) (fun z1 A2 H locs hw3 hP hS => ?_)
  have ghw3 : q_X5_isNameAhead A z1 A2 := hw3
  obtain ⟨_, hI, hf4, hw3⟩ := hw3
  refine lv_if_ne (tgt := 13) hx hb (dk_at dkX5_asked_0 2 rfl) (by decide) (fun c5 => ?_) (fun c5 => ?_)
  · have c5 : ¬ z1 = 0 := mt (i_eq0 (rb hw3 (by decide) (by decide))).mpr c5
    refine lv_aload_n hx hb (dk_at dkX5_asked_0 7 rfl) rfl (lv_at hl 0 rfl) ?_
    refine va_get (D := (dC, dI)) (ci := 5) (v := .ref (q 5)) (C := RX5) (T := TX5) (N := 5) hx hb hts hiX5 hown hK hP 3 (wkRD) rfl 0 (by decide) (hts _ (List.mem_cons_of_mem _ wkq_5_6)) (fun _ h9 => h9) rfl (dk_at dkX5_asked_0 8 rfl) ?_
    refine k_callv (As := []) (rest := []) ⟨hx, hb, hml, hown, hts⟩ hE (kc_X3_pass l dC dI cB cI cJ cZ cQ aL aS q _ hI) (cwV 0 hts (goodVk wkq_5_42 wkq_5_43 wkq_5_44 wkq_4_10 wkq_3_58) rfl rfl rfl (by decide +kernel) ⟨Nat.le_of_ble_eq_true rfl, Nat.le_of_ble_eq_true rfl⟩) hK hDD hA0 hP hS 5 3 (wkLX) rfl rfl hl.1 (Nat.le_of_ble_eq_true rfl) (dk_at dkX5_asked_0 9 rfl) (fun A6 H locs hw7 hP hS => ?_)
    have ghw7 : q_X3_pass A2 A6 := hw7
    obtain ⟨_, hI, hf8, hw7⟩ := hw7
    clear hw7
    refine lv_aload_n hx hb (dk_at dkX5_asked_0 10 rfl) rfl (lv_at hl 1 rfl) ?_
    refine lv_iload_n hx hb (dk_at dkX5_asked_0 11 rfl) rfl (lv_at hl 2 rfl) ?_
    refine lv_aload_n hx hb (dk_at dkX5_asked_0 12 rfl) rfl (lv_at hl 0 rfl) ?_
    refine va_get (D := (dC, dI)) (ci := 5) (v := .ref (q 5)) (C := RX5) (T := TX5) (N := 5) hx hb hts hiX5 hown hK hP 3 (wkRD) rfl 0 (by decide) (hts _ (List.mem_cons_of_mem _ wkq_5_6)) (fun _ h9 => h9) rfl (dk_at dkX5_asked_0 13 rfl) ?_
    have e9 : A6 5 4 = (A2 5 4) := (hf8 5 4 rfl rfl)
    have r10 : (-2147483648 : Int) ≤ (A2 5 4) ∧ (A2 5 4) ≤ 2147483647 := by rw [← e9]; exact irLX_4 hI
    refine va_get (D := (dC, dI)) (ci := 3) (v := .int (iI (A6 5 4))) (C := RX3) (T := TX3) (N := 7) hx hb hts hiX3 hown hK hP 5 (wkLX) rfl 4 (by decide) (hts _ (List.mem_cons_of_mem _ wkq_5_30)) (fun _ h9 => h9) rfl (dk_at dkX5_asked_0 14 rfl) ?_
    refine tp_i (y := iI (A2 5 4)) (congrArg iI e9) ?_
    refine k_calli (As := [.int (iI 4), .int (iI (A2 5 4))]) (rest := []) ⟨hx, hb, hml, hown, hts⟩ hE (kc_X9_find_1_4 l dC dI cB cI cJ cZ cQ aL aS q _ ta (A2 5 4) hI hta r10) (cwV 2 hts (goodVk wkq_5_53 wkq_5_54 wkq_5_55 wkq_0_6 wkq_5_56) rfl rfl rfl (by decide +kernel) ⟨Nat.le_of_ble_eq_true rfl, Nat.le_of_ble_eq_true rfl⟩) hK hDD hA0 hP hS ta 9 (wkT hta) rfl rfl hl.1 (Nat.le_of_ble_eq_true rfl) (dk_at dkX5_asked_0 15 rfl) (fun z11 A12 H locs hw13 hP hS => ?_)
    obtain ⟨rfl, hw13⟩ := hw13
    have ghw13 : q_X9_find_1_4 ta (A2 5 4) A6 z11 := hw13
    have hw13 := hw13.2
    refine lv_istore_n (lv' := [(3, .int (iI z11)), (0, .ref (q 3)), (1, .ref (q ta)), (2, .int (iI 4))]) hx hb (dk_at dkX5_asked_1 0 rfl) rfl hl (by decide) rfl (fun ls hl => ?_)
    refine lv_iload_n hx hb (dk_at dkX5_asked_1 1 rfl) rfl (lv_at hl 0 rfl) ?_
    refine lv_iconst (v := iI (-1)) hx hb (dk_at dkX5_asked_1 2 rfl) (by decide +kernel) ?_
    refine lv_icmp_ne (tgt := 46) hx hb (dk_at dkX5_asked_1 3 rfl) (by decide) (fun c14 => ?_) (fun c14 => ?_)
    · have c14 : ¬ z11 = (-1) := mt (i_eq (rb hw13 (by decide) (by decide)) ⟨by decide, by decide⟩).mpr c14
      refine lv_iload_n hx hb (dk_at dkX5_asked_1 8 rfl) rfl (lv_at hl 0 rfl) ?_
      exact RET z11 _ _ _ _ _ ⟨(u_r_X5_asked_2_4 ⟨z1, A2, ghw3, (Or.inl ⟨c5, ⟨A6, ghw7, ⟨z11, ghw13, (Or.inl ⟨c14, ⟨rfl, rfl⟩⟩)⟩⟩⟩)⟩), hI, fk.trans (fk.trans (fk.rf) hf4 rfl rfl) hf8 rfl rfl, by omega⟩ hP hS (dk_at dkX5_asked_1 9 rfl)
    · have c14 : z11 = (-1) := (i_eq (rb hw13 (by decide) (by decide)) ⟨by decide, by decide⟩).mp c14
      refine lv_aload_n hx hb (dk_at dkX5_asked_1 4 rfl) rfl (lv_at hl 1 rfl) ?_
      refine lv_iconst (v := iI 3) hx hb (dk_at dkX5_asked_1 5 rfl) (by decide +kernel) ?_
      refine k_calli (As := [.int (iI 3)]) (rest := []) ⟨hx, hb, hml, hown, hts⟩ hE (kc_X5_none l dC dI cB cI cJ cZ cQ aL aS q _ 3 hI ⟨by decide, by decide⟩) (cwV 1 hts (goodVk wkq_5_33 wkq_5_34 wkq_5_35 wkq_5_28 wkq_5_36) rfl rfl rfl (by decide +kernel) ⟨Nat.le_of_ble_eq_true rfl, Nat.le_of_ble_eq_true rfl⟩) hK hDD hA0 hP hS 3 5 (wkRD) rfl rfl hl.1 (Nat.le_of_ble_eq_true rfl) (dk_at dkX5_asked_1 6 rfl) (fun z15 A16 H locs hw17 hP hS => ?_)
      have ghw17 : q_X5_none 3 A6 z15 A16 := hw17
      obtain ⟨_, hI, hf18, hw17⟩ := hw17
      refine lv_goto (tgt := 47) hx hb (dk_at dkX5_asked_1 7 rfl) (by decide) ?_
      exact RET z15 _ _ _ _ _ ⟨(u_r_X5_asked_2_4 ⟨z1, A2, ghw3, (Or.inl ⟨c5, ⟨A6, ghw7, ⟨z11, ghw13, (Or.inr ⟨c14, ⟨z15, A16, ghw17, ⟨rfl, rfl⟩⟩⟩)⟩⟩⟩)⟩), hI, fk.trans (fk.trans (fk.trans (fk.rf) hf4 rfl rfl) hf8 rfl rfl) hf18 rfl rfl, by omega⟩ hP hS (dk_at dkX5_asked_1 9 rfl)
  · have c5 : z1 = 0 := (i_eq0 (rb hw3 (by decide) (by decide))).mp c5
    refine lv_aload_n hx hb (dk_at dkX5_asked_0 3 rfl) rfl (lv_at hl 0 rfl) ?_
    refine lv_iconst (v := iI 1) hx hb (dk_at dkX5_asked_0 4 rfl) (by decide +kernel) ?_
    refine k_calli (As := [.int (iI 1)]) (rest := []) ⟨hx, hb, hml, hown, hts⟩ hE (kc_X5_none l dC dI cB cI cJ cZ cQ aL aS q _ 1 hI ⟨by decide, by decide⟩) (cwV 1 hts (goodVk wkq_5_33 wkq_5_34 wkq_5_35 wkq_5_28 wkq_5_36) rfl rfl rfl (by decide +kernel) ⟨Nat.le_of_ble_eq_true rfl, Nat.le_of_ble_eq_true rfl⟩) hK hDD hA0 hP hS 3 5 (wkRD) rfl rfl hl.1 (Nat.le_of_ble_eq_true rfl) (dk_at dkX5_asked_0 5 rfl) (fun z19 A20 H locs hw21 hP hS => ?_)
    have ghw21 : q_X5_none 1 A2 z19 A20 := hw21
    obtain ⟨_, hI, hf22, hw21⟩ := hw21
    exact RET z19 _ _ _ _ _ ⟨(u_r_X5_asked_2_4 ⟨z1, A2, ghw3, (Or.inr ⟨c5, ⟨z19, A20, ghw21, ⟨rfl, rfl⟩⟩⟩)⟩), hI, fk.trans (fk.trans (fk.rf) hf4 rfl rfl) hf22 rfl rfl, by omega⟩ hP hS (dk_at dkX5_asked_0 6 rfl)

abbrev tr_r_X5_readLost (ta : Nat) (A : St) (z : Int) (u : St) : Prop := (∃ z1 : Int, ∃ A2 : St, q_X5_asked_2_1 ta A z1 A2 ∧ (((¬ z1 = (-1)) ∧ (∃ z8 : Int, z8 = oShr (A ta 15) z1 ∧ (∃ z9 : Int, z9 = oAnd z8 1 ∧ (((z9 = 0) ∧ (∃ z11 : Int, z11 = oShl 1 z1 ∧ (∃ z12 : Int, z12 = oOr (A ta 15) z11 ∧ (∃ A13 : St, A13 = stA A2 ta 15 z12 ∧ (z = 1 ∧ u = A13))))) ∨ ((¬ z9 = 0) ∧ (∃ z14 : Int, ∃ A15 : St, q_X5_bad 3 A2 z14 A15 ∧ (z = z14 ∧ u = A15))))))) ∨ ((z1 = (-1)) ∧ (z = 0 ∧ u = A2))))
def r_X5_readLost (ta : Nat) (A : St) (z : Int) (u : St) : Prop := tr_r_X5_readLost ta A z u
theorem u_r_X5_readLost {ta : Nat} {A : St} {z : Int} {u : St} (h : tr_r_X5_readLost ta A z u) : r_X5_readLost ta A z u := h
def q_X5_readLost (ta : Nat) (A : St) (z : Int) (u : St) : Prop := r_X5_readLost ta A z u ∧ IK u ∧ fk [] [(3, 2), (3, 3), (5, 1), (5, 2), (5, 3), (5, 4), (5, 5), (5, 6), (51, 15), (82, 15)] A u ∧ (0 ≤ z ∧ z ≤ 1)
def ws_kc_X5_readLost : List Cond := .code yX5_readLost cX5_readLost 3 (some .boolean) :: WY
set_option maxHeartbeats 4000000 in
set_option maxRecDepth 100000 in
theorem kc_X5_readLost (l : Launch) (dC : Nat → ClassId) (dI : Nat → Nat → Nat) (cB cI cJ cZ cQ : ClassId) (aL aS : Nat) (q : Nat → Nat) (A : St) (ta : Nat) (hI : IK A) (hta : isT ta) : KMi l yX5_readLost ws_kc_X5_readLost ({ frames := 4, cells := 0, slots := 0, locals := 89 } : Room) aL aS (dC, dI) (tyA cB cI cJ cZ cQ) (WK cB cI cJ cZ cQ q) A [.ref (q 3), .ref (q ta)] (fun z u => r_X5_readLost ta A z u ∧ IK u ∧ fk [] [(3, 2), (3, 3), (5, 1), (5, 2), (5, 3), (5, 4), (5, 5), (5, 6), (51, 15), (82, 15)] A u ∧ (0 ≤ z ∧ z ≤ 1)) := by
  refine k_metz (cc := cX5_readLost) (maxL := 3) WK_adr (plainFor_of_name (by decide +kernel)) rfl (Nat.le_of_ble_eq_true rfl) (fun z u h => h.2.2.2) (fun p e s m below meth c Q AS ls hx hb hml hown hts hK hDD hA0 hE RET H locs hP hS hl => ?_)
  have hown : s.vm.findClass RX5 = some m.cls := hown
  have hl : lv_has ls 3 [(0, .ref (q 3)), (1, .ref (q ta))] := hl
  have hiX9 : ∀ w ∈ u_ws RX9 TX9 16, w ∈ ws_kc_X5_readLost := fun w h => List.mem_cons_of_mem _ (wy_layX9 w h)
  refine lv_aload_n hx hb (dk_at dkX5_readLost_0 0 rfl) rfl (lv_at hl 0 rfl) ?_
  refine lv_aload_n hx hb (dk_at dkX5_readLost_0 1 rfl) rfl (lv_at hl 1 rfl) ?_
  refine lv_iconst (v := iI 1) hx hb (dk_at dkX5_readLost_0 2 rfl) (by decide +kernel) ?_
  refine k_calli (As := [.ref (q ta), .int (iI 1)]) (rest := []) ⟨hx, hb, hml, hown, hts⟩ hE (kc_X5_asked_2_1 l dC dI cB cI cJ cZ cQ aL aS q _ ta hI hta) (cwV 2 hts (goodVk wkq_6_6 wkq_6_7 wkq_6_8 wkq_5_28 wkq_6_9) rfl rfl rfl (by decide +kernel) ⟨Nat.le_of_ble_eq_true rfl, Nat.le_of_ble_eq_true rfl⟩) hK hDD hA0 hP hS 3 5 (wkRD) rfl rfl hl.1 (Nat.le_of_ble_eq_true rfl) (dk_at dkX5_readLost_0 3 rfl) (fun z1 A2 H locs hw3 hP hS => ?_)
  have ghw3 : q_X5_asked_2_1 ta A z1 A2 := hw3
  obtain ⟨_, hI, hf4, hw3⟩ := hw3
  refine lv_istore_n (lv' := [(2, .int (iI z1)), (0, .ref (q 3)), (1, .ref (q ta))]) hx hb (dk_at dkX5_readLost_0 4 rfl) rfl hl (by decide) rfl (fun ls hl => ?_)
  refine lv_iload_n hx hb (dk_at dkX5_readLost_0 5 rfl) rfl (lv_at hl 0 rfl) ?_
  refine lv_iconst (v := iI (-1)) hx hb (dk_at dkX5_readLost_0 6 rfl) (by decide +kernel) ?_
  refine lv_icmp_ne (tgt := 14) hx hb (dk_at dkX5_readLost_0 7 rfl) (by decide) (fun c5 => ?_) (fun c5 => ?_)
  · have c5 : ¬ z1 = (-1) := mt (i_eq (rb hw3 (by decide) (by decide)) ⟨by decide, by decide⟩).mpr c5
    refine lv_aload_n hx hb (dk_at dkX5_readLost_0 10 rfl) rfl (lv_at hl 2 rfl) ?_
    have e6 : A2 ta 15 = (A ta 15) := (hf4 ta 15 (isT.b2 (o := fun b => List.contains [] b) hta rfl rfl) (isT.b2 (o := fun b => fin2 [(3, 2), (3, 3), (5, 1), (5, 2), (5, 3), (5, 4), (5, 5), (5, 6)] b 15) hta rfl rfl))
    have r7 : (-2147483648 : Int) ≤ (A ta 15) ∧ (A ta 15) ≤ 2147483647 := by rw [← e6]; exact irT_15 hta hI
    refine va_get (D := (dC, dI)) (ci := 9) (v := .int (iI (A2 ta 15))) (C := RX9) (T := TX9) (N := 16) hx hb hts hiX9 hown hK hP ta (wkT hta) rfl 15 (by decide) (hts _ (List.mem_cons_of_mem _ wkq_8_43)) (fun _ h9 => h9) rfl (dk_at dkX5_readLost_0 11 rfl) ?_
    refine tp_i (y := iI (A ta 15)) (congrArg iI e6) ?_
    refine lv_iload_n hx hb (dk_at dkX5_readLost_0 12 rfl) rfl (lv_at hl 0 rfl) ?_
    refine lv_ishr hx hb (dk_at dkX5_readLost_0 13 rfl) ?_
    refine x_absE (fun z8 gz8 hz8 => ?_)
    refine lv_iconst (v := iI 1) hx hb (dk_at dkX5_readLost_0 14 rfl) (by decide +kernel) ?_
    refine lv_iand hx hb (dk_at dkX5_readLost_0 15 rfl) ?_
    refine x_andE (b := 1) (by omega) (fun z9 gz9 hz9 => ?_)
    refine lv_if_eq (tgt := 31) hx hb (dk_at dkX5_readLost_1 0 rfl) (by decide) (fun c10 => ?_) (fun c10 => ?_)
    · have c10 : z9 = 0 := (i_eq0 (by omega)).mp c10
      refine lv_aload_n hx hb (dk_at dkX5_readLost_1 5 rfl) rfl (lv_at hl 2 rfl) ?_
      refine lv_dup hx hb (dk_at dkX5_readLost_1 6 rfl) rfl ?_
      refine va_get (D := (dC, dI)) (ci := 9) (v := .int (iI (A2 ta 15))) (C := RX9) (T := TX9) (N := 16) hx hb hts hiX9 hown hK hP ta (wkT hta) rfl 15 (by decide) (hts _ (List.mem_cons_of_mem _ wkq_8_43)) (fun _ h9 => h9) rfl (dk_at dkX5_readLost_1 7 rfl) ?_
      refine tp_i (y := iI (A ta 15)) (congrArg iI e6) ?_
      refine lv_iconst (v := iI 1) hx hb (dk_at dkX5_readLost_1 8 rfl) (by decide +kernel) ?_
      refine lv_iload_n hx hb (dk_at dkX5_readLost_1 9 rfl) rfl (lv_at hl 0 rfl) ?_
      refine lv_ishl hx hb (dk_at dkX5_readLost_1 10 rfl) ?_
      refine x_absE (fun z11 gz11 hz11 => ?_)
      refine lv_ior hx hb (dk_at dkX5_readLost_1 11 rfl) ?_
      refine x_absE (fun z12 gz12 hz12 => ?_)
      refine k_put (Wf := WK cB cI cJ cZ cQ q) (D := (dC, dI)) (ci := 9) (v := .int (iI z12)) (ty := .int) (C := RX9) (T := TX9) (N := 16) hx hb hts hiX9 tyX9 tyX9_ok nmX9 hown hK hP hDD hS ta (wkT hta) rfl 15 (by decide) (hts _ (List.mem_cons_of_mem _ wkq_8_43)) (fun _ h9 => h9) rfl (by decide +kernel) rfl rfl (Nat.le_of_ble_eq_true rfl) (dk_at dkX5_readLost_1 12 rfl) (wfT_15 hta (v := z12)) (fun H locs A13 hA13 hP hS => ?_)
      have hI := isT_15 hta hA13 hI (show (-2147483648 : Int) ≤ z12 ∧ z12 ≤ 2147483647 from hz12)
      refine lv_iconst (v := iI 1) hx hb (dk_at dkX5_readLost_1 13 rfl) (by decide +kernel) ?_
      exact RET 1 _ _ _ _ _ ⟨(u_r_X5_readLost ⟨z1, A2, ghw3, (Or.inl ⟨c5, ⟨z8, gz8.out, ⟨z9, gz9.out, (Or.inl ⟨c10, ⟨z11, gz11.out, ⟨z12, gz12.out, ⟨A13, hA13, ⟨rfl, rfl⟩⟩⟩⟩⟩)⟩⟩⟩)⟩), hI, fk.df (fk.trans (fk.rf) hf4 rfl rfl) hA13 (isT.b2 (o := fun b => fin2 [(3, 2), (3, 3), (5, 1), (5, 2), (5, 3), (5, 4), (5, 5), (5, 6), (51, 15), (82, 15)] b 15) hta rfl rfl), ⟨by decide, by decide⟩⟩ hP hS (dk_at dkX5_readLost_1 14 rfl)
    · have c10 : ¬ z9 = 0 := mt (i_eq0 (by omega)).mpr c10
      refine lv_aload_n hx hb (dk_at dkX5_readLost_1 1 rfl) rfl (lv_at hl 1 rfl) ?_
      refine lv_iconst (v := iI 3) hx hb (dk_at dkX5_readLost_1 2 rfl) (by decide +kernel) ?_
      refine k_calli (As := [.int (iI 3)]) (rest := []) ⟨hx, hb, hml, hown, hts⟩ hE (kc_X5_bad l dC dI cB cI cJ cZ cQ aL aS q _ 3 hI ⟨by decide, by decide⟩) (cwV 1 hts (goodVk wkq_5_37 wkq_5_38 wkq_5_39 wkq_5_28 wkq_5_40) rfl rfl rfl (by decide +kernel) ⟨Nat.le_of_ble_eq_true rfl, Nat.le_of_ble_eq_true rfl⟩) hK hDD hA0 hP hS 3 5 (wkRD) rfl rfl hl.1 (Nat.le_of_ble_eq_true rfl) (dk_at dkX5_readLost_1 3 rfl) (fun z14 A15 H locs hw16 hP hS => ?_)
      have ghw16 : q_X5_bad 3 A2 z14 A15 := hw16
      obtain ⟨_, hI, hf17, hw16⟩ := hw16
      have rz14 : 0 ≤ z14 ∧ z14 ≤ 1 := hw16.1
      have hw16 := hw16.2
      exact RET z14 _ _ _ _ _ ⟨(u_r_X5_readLost ⟨z1, A2, ghw3, (Or.inl ⟨c5, ⟨z8, gz8.out, ⟨z9, gz9.out, (Or.inr ⟨c10, ⟨z14, A15, ghw16, ⟨rfl, rfl⟩⟩⟩)⟩⟩⟩)⟩), hI, fk.trans (fk.trans (fk.rf) hf4 rfl rfl) hf17 rfl rfl, rz14⟩ hP hS (dk_at dkX5_readLost_1 4 rfl)
  · have c5 : z1 = (-1) := (i_eq (rb hw3 (by decide) (by decide)) ⟨by decide, by decide⟩).mp c5
    refine lv_iconst (v := iI 0) hx hb (dk_at dkX5_readLost_0 8 rfl) (by decide +kernel) ?_
    exact RET 0 _ _ _ _ _ ⟨(u_r_X5_readLost ⟨z1, A2, ghw3, (Or.inr ⟨c5, ⟨rfl, rfl⟩⟩)⟩), hI, fk.trans (fk.rf) hf4 rfl rfl, ⟨by decide, by decide⟩⟩ hP hS (dk_at dkX5_readLost_0 9 rfl)

abbrev tr_r_X5_passesWord (x1 : Int) (A : St) (z : Int) (u : St) : Prop := (∃ A1 : St, q_X3_look A A1 ∧ (((¬ (A1 5 2) = 1) ∧ (z = 0 ∧ u = A1)) ∨ (((A1 5 2) = 1) ∧ (((x1 < 0) ∧ (z = 0 ∧ u = A1)) ∨ ((¬ x1 < 0) ∧ (((26 ≤ x1) ∧ (z = 0 ∧ u = A1)) ∨ ((¬ 26 ≤ x1) ∧ (∃ z10 : Int, z10 = A1 4 (x1).toNat ∧ ((((A1 5 4) = z10) ∧ (∃ A12 : St, q_X3_pass A1 A12 ∧ (z = 1 ∧ u = A12))) ∨ ((¬ (A1 5 4) = z10) ∧ (z = 0 ∧ u = A1)))))))))))
def r_X5_passesWord (x1 : Int) (A : St) (z : Int) (u : St) : Prop := tr_r_X5_passesWord x1 A z u
theorem u_r_X5_passesWord {x1 : Int} {A : St} {z : Int} {u : St} (h : tr_r_X5_passesWord x1 A z u) : r_X5_passesWord x1 A z u := h
def q_X5_passesWord (x1 : Int) (A : St) (z : Int) (u : St) : Prop := r_X5_passesWord x1 A z u ∧ IK u ∧ fk [] [(5, 1), (5, 2), (5, 3), (5, 4), (5, 5), (5, 6)] A u ∧ (0 ≤ z ∧ z ≤ 1)
def ws_kc_X5_passesWord : List Cond := .code yX5_passesWord cX5_passesWord 2 (some .boolean) :: WY
set_option maxHeartbeats 4000000 in
set_option maxRecDepth 100000 in
theorem kc_X5_passesWord (l : Launch) (dC : Nat → ClassId) (dI : Nat → Nat → Nat) (cB cI cJ cZ cQ : ClassId) (aL aS : Nat) (q : Nat → Nat) (A : St) (x1 : Int) (hI : IK A) (hx1 : (-2147483648 : Int) ≤ x1 ∧ x1 ≤ 2147483647) : KMi l yX5_passesWord ws_kc_X5_passesWord ({ frames := 2, cells := 0, slots := 0, locals := 45 } : Room) aL aS (dC, dI) (tyA cB cI cJ cZ cQ) (WK cB cI cJ cZ cQ q) A [.ref (q 3), .int (iI x1)] (fun z u => r_X5_passesWord x1 A z u ∧ IK u ∧ fk [] [(5, 1), (5, 2), (5, 3), (5, 4), (5, 5), (5, 6)] A u ∧ (0 ≤ z ∧ z ≤ 1)) := by
  refine k_metz (cc := cX5_passesWord) (maxL := 2) WK_adr (plainFor_of_name (by decide +kernel)) rfl (Nat.le_of_ble_eq_true rfl) (fun z u h => h.2.2.2) (fun p e s m below meth c Q AS ls hx hb hml hown hts hK hDD hA0 hE RET H locs hP hS hl => ?_)
  have hown : s.vm.findClass RX5 = some m.cls := hown
  have hl : lv_has ls 2 [(0, .ref (q 3)), (1, .int (iI x1))] := hl
  have hiX5 : ∀ w ∈ u_ws RX5 TX5 5, w ∈ ws_kc_X5_passesWord := fun w h => List.mem_cons_of_mem _ (wy_layX5 w h)
  have hiX3 : ∀ w ∈ u_ws RX3 TX3 7, w ∈ ws_kc_X5_passesWord := fun w h => List.mem_cons_of_mem _ (wy_layX3 w h)
  refine lv_aload_n hx hb (dk_at dkX5_passesWord_0 0 rfl) rfl (lv_at hl 0 rfl) ?_
  refine va_get (D := (dC, dI)) (ci := 5) (v := .ref (q 5)) (C := RX5) (T := TX5) (N := 5) hx hb hts hiX5 hown hK hP 3 (wkRD) rfl 0 (by decide) (hts _ (List.mem_cons_of_mem _ wkq_5_6)) (fun _ h9 => h9) rfl (dk_at dkX5_passesWord_0 1 rfl) ?_
  refine k_callv (As := []) (rest := []) ⟨hx, hb, hml, hown, hts⟩ hE (kc_X3_look l dC dI cB cI cJ cZ cQ aL aS q _ hI) (cwV 0 hts (goodVk wkq_5_22 wkq_5_23 wkq_5_24 wkq_4_10 wkq_4_2) rfl rfl rfl (by decide +kernel) ⟨Nat.le_of_ble_eq_true rfl, Nat.le_of_ble_eq_true rfl⟩) hK hDD hA0 hP hS 5 3 (wkLX) rfl rfl hl.1 (Nat.le_of_ble_eq_true rfl) (dk_at dkX5_passesWord_0 2 rfl) (fun A1 H locs hw2 hP hS => ?_)
  have ghw2 : q_X3_look A A1 := hw2
  obtain ⟨_, hI, hf3, hw2⟩ := hw2
  clear hw2
  refine lv_aload_n hx hb (dk_at dkX5_passesWord_0 3 rfl) rfl (lv_at hl 0 rfl) ?_
  refine va_get (D := (dC, dI)) (ci := 5) (v := .ref (q 5)) (C := RX5) (T := TX5) (N := 5) hx hb hts hiX5 hown hK hP 3 (wkRD) rfl 0 (by decide) (hts _ (List.mem_cons_of_mem _ wkq_5_6)) (fun _ h9 => h9) rfl (dk_at dkX5_passesWord_0 4 rfl) ?_
  have r4 : (0 : Int) ≤ (A1 5 2) ∧ (A1 5 2) ≤ 4 := irLX_2 hI
  refine va_get (D := (dC, dI)) (ci := 3) (v := .int (iI (A1 5 2))) (C := RX3) (T := TX3) (N := 7) hx hb hts hiX3 hown hK hP 5 (wkLX) rfl 2 (by decide) (hts _ (List.mem_cons_of_mem _ wkq_5_9)) (fun _ h9 => h9) rfl (dk_at dkX5_passesWord_0 5 rfl) ?_
  refine lv_iconst (v := iI 1) hx hb (dk_at dkX5_passesWord_0 6 rfl) (by decide +kernel) ?_
  refine lv_icmp_ne (tgt := 44) hx hb (dk_at dkX5_passesWord_0 7 rfl) (by decide) (fun c5 => ?_) (fun c5 => ?_)
  · have c5 : ¬ (A1 5 2) = 1 := mt (i_eq (rb r4 (by decide) (by decide)) ⟨by decide, by decide⟩).mpr c5
    refine lv_iconst (v := iI 0) hx hb (dk_at dkX5_passesWord_1 5 rfl) (by decide +kernel) ?_
    exact RET 0 _ _ _ _ _ ⟨(u_r_X5_passesWord ⟨A1, ghw2, (Or.inl ⟨c5, ⟨rfl, rfl⟩⟩)⟩), hI, fk.trans (fk.rf) hf3 rfl rfl, ⟨by decide, by decide⟩⟩ hP hS (dk_at dkX5_passesWord_1 6 rfl)
  · have c5 : (A1 5 2) = 1 := (i_eq (rb r4 (by decide) (by decide)) ⟨by decide, by decide⟩).mp c5
    refine lv_iload_n hx hb (dk_at dkX5_passesWord_0 8 rfl) rfl (lv_at hl 1 rfl) ?_
    refine lv_if_lt (tgt := 44) hx hb (dk_at dkX5_passesWord_0 9 rfl) (by decide) (fun c6 => ?_) (fun c6 => ?_)
    · have c6 : x1 < 0 := (i_lt0 hx1).mp c6
      refine lv_iconst (v := iI 0) hx hb (dk_at dkX5_passesWord_1 5 rfl) (by decide +kernel) ?_
      exact RET 0 _ _ _ _ _ ⟨(u_r_X5_passesWord ⟨A1, ghw2, (Or.inr ⟨c5, (Or.inl ⟨c6, ⟨rfl, rfl⟩⟩)⟩)⟩), hI, fk.trans (fk.rf) hf3 rfl rfl, ⟨by decide, by decide⟩⟩ hP hS (dk_at dkX5_passesWord_1 6 rfl)
    · have c6 : ¬ x1 < 0 := mt (i_lt0 hx1).mpr c6
      refine lv_iload_n hx hb (dk_at dkX5_passesWord_0 10 rfl) rfl (lv_at hl 1 rfl) ?_
      refine lv_bipush (v := iI 26) hx hb (dk_at dkX5_passesWord_0 11 rfl) (by decide +kernel) ?_
      refine lv_icmp_ge (tgt := 44) hx hb (dk_at dkX5_passesWord_0 12 rfl) (by decide) (fun c7 => ?_) (fun c7 => ?_)
      · have c7 : 26 ≤ x1 := (i_le ⟨by decide, by decide⟩ hx1).mp c7
        refine lv_iconst (v := iI 0) hx hb (dk_at dkX5_passesWord_1 5 rfl) (by decide +kernel) ?_
        exact RET 0 _ _ _ _ _ ⟨(u_r_X5_passesWord ⟨A1, ghw2, (Or.inr ⟨c5, (Or.inr ⟨c6, (Or.inl ⟨c7, ⟨rfl, rfl⟩⟩)⟩)⟩)⟩), hI, fk.trans (fk.rf) hf3 rfl rfl, ⟨by decide, by decide⟩⟩ hP hS (dk_at dkX5_passesWord_1 6 rfl)
      · have c7 : ¬ 26 ≤ x1 := mt (i_le ⟨by decide, by decide⟩ hx1).mpr c7
        refine lv_aload_n hx hb (dk_at dkX5_passesWord_0 13 rfl) rfl (lv_at hl 0 rfl) ?_
        refine va_get (D := (dC, dI)) (ci := 5) (v := .ref (q 5)) (C := RX5) (T := TX5) (N := 5) hx hb hts hiX5 hown hK hP 3 (wkRD) rfl 0 (by decide) (hts _ (List.mem_cons_of_mem _ wkq_5_6)) (fun _ h9 => h9) rfl (dk_at dkX5_passesWord_0 14 rfl) ?_
        have r8 : (-2147483648 : Int) ≤ (A1 5 4) ∧ (A1 5 4) ≤ 2147483647 := irLX_4 hI
        refine va_get (D := (dC, dI)) (ci := 3) (v := .int (iI (A1 5 4))) (C := RX3) (T := TX3) (N := 7) hx hb hts hiX3 hown hK hP 5 (wkLX) rfl 4 (by decide) (hts _ (List.mem_cons_of_mem _ wkq_5_30)) (fun _ h9 => h9) rfl (dk_at dkX5_passesWord_0 15 rfl) ?_
        refine lv_aload_n hx hb (dk_at dkX5_passesWord_1 0 rfl) rfl (lv_at hl 0 rfl) ?_
        refine va_get (D := (dC, dI)) (ci := 5) (v := .ref (q 4)) (C := RX5) (T := TX5) (N := 5) hx hb hts hiX5 hown hK hP 3 (wkRD) rfl 1 (by decide) (hts _ (List.mem_cons_of_mem _ wkq_5_31)) (fun _ h9 => h9) rfl (dk_at dkX5_passesWord_1 1 rfl) ?_
        refine lv_iload_n hx hb (dk_at dkX5_passesWord_1 2 rfl) rfl (lv_at hl 1 rfl) ?_
        have a9 : ∀ k, A1 4 k = A 4 k := fun k => hf3 4 k rfl rfl
        refine x_iald (Wf := WK cB cI cJ cZ cQ q) hx hb hK hP 4 1 (wkRDo) rfl (by omega) (by decide) (dk_at dkX5_passesWord_1 3 rfl) (fun z10 hz10 => ?_)
        have rz10 : (-2147483648 : Int) ≤ z10 ∧ z10 ≤ 2147483647 := by rw [hz10]; exact irRDo hI
        have gz10 := Hd.mk hz10
        have hz10 : z10 = A 4 (x1).toNat := hz10.trans (a9 _)
        refine lv_icmp_eq (tgt := 46) hx hb (dk_at dkX5_passesWord_1 4 rfl) (by decide) (fun c11 => ?_) (fun c11 => ?_)
        · have c11 : (A1 5 4) = z10 := (i_eq r8 rz10).mp c11
          refine lv_aload_n hx hb (dk_at dkX5_passesWord_1 7 rfl) rfl (lv_at hl 0 rfl) ?_
          refine va_get (D := (dC, dI)) (ci := 5) (v := .ref (q 5)) (C := RX5) (T := TX5) (N := 5) hx hb hts hiX5 hown hK hP 3 (wkRD) rfl 0 (by decide) (hts _ (List.mem_cons_of_mem _ wkq_5_6)) (fun _ h9 => h9) rfl (dk_at dkX5_passesWord_1 8 rfl) ?_
          refine k_callv (As := []) (rest := []) ⟨hx, hb, hml, hown, hts⟩ hE (kc_X3_pass l dC dI cB cI cJ cZ cQ aL aS q _ hI) (cwV 0 hts (goodVk wkq_5_42 wkq_5_43 wkq_5_44 wkq_4_10 wkq_3_58) rfl rfl rfl (by decide +kernel) ⟨Nat.le_of_ble_eq_true rfl, Nat.le_of_ble_eq_true rfl⟩) hK hDD hA0 hP hS 5 3 (wkLX) rfl rfl hl.1 (Nat.le_of_ble_eq_true rfl) (dk_at dkX5_passesWord_1 9 rfl) (fun A12 H locs hw13 hP hS => ?_)
          have ghw13 : q_X3_pass A1 A12 := hw13
          obtain ⟨_, hI, hf14, hw13⟩ := hw13
          clear hw13
          refine lv_iconst (v := iI 1) hx hb (dk_at dkX5_passesWord_1 10 rfl) (by decide +kernel) ?_
          exact RET 1 _ _ _ _ _ ⟨(u_r_X5_passesWord ⟨A1, ghw2, (Or.inr ⟨c5, (Or.inr ⟨c6, (Or.inr ⟨c7, ⟨z10, gz10.out, (Or.inl ⟨c11, ⟨A12, ghw13, ⟨rfl, rfl⟩⟩⟩)⟩⟩)⟩)⟩)⟩), hI, fk.trans (fk.trans (fk.rf) hf3 rfl rfl) hf14 rfl rfl, ⟨by decide, by decide⟩⟩ hP hS (dk_at dkX5_passesWord_1 11 rfl)
        · have c11 : ¬ (A1 5 4) = z10 := mt (i_eq r8 rz10).mpr c11
          refine lv_iconst (v := iI 0) hx hb (dk_at dkX5_passesWord_1 5 rfl) (by decide +kernel) ?_
          exact RET 0 _ _ _ _ _ ⟨(u_r_X5_passesWord ⟨A1, ghw2, (Or.inr ⟨c5, (Or.inr ⟨c6, (Or.inr ⟨c7, ⟨z10, gz10.out, (Or.inr ⟨c11, ⟨rfl, rfl⟩⟩)⟩⟩)⟩)⟩)⟩), hI, fk.trans (fk.rf) hf3 rfl rfl, ⟨by decide, by decide⟩⟩ hP hS (dk_at dkX5_passesWord_1 6 rfl)

abbrev tr_r_X5_ownWord (x1 : Int) (A : St) (z : Int) (u : St) : Prop := (∃ z1 : Int, ∃ A2 : St, q_X5_passesWord x1 A z1 A2 ∧ (((¬ z1 = 0) ∧ (z = 1 ∧ u = A2)) ∨ ((z1 = 0) ∧ (∃ z6 : Int, ∃ A7 : St, q_X5_bad 1 A2 z6 A7 ∧ (z = 0 ∧ u = A7)))))
def r_X5_ownWord (x1 : Int) (A : St) (z : Int) (u : St) : Prop := tr_r_X5_ownWord x1 A z u
theorem u_r_X5_ownWord {x1 : Int} {A : St} {z : Int} {u : St} (h : tr_r_X5_ownWord x1 A z u) : r_X5_ownWord x1 A z u := h
def q_X5_ownWord (x1 : Int) (A : St) (z : Int) (u : St) : Prop := r_X5_ownWord x1 A z u ∧ IK u ∧ fk [] [(3, 2), (3, 3), (5, 1), (5, 2), (5, 3), (5, 4), (5, 5), (5, 6)] A u ∧ (0 ≤ z ∧ z ≤ 1)
def ws_kc_X5_ownWord : List Cond := .code yX5_ownWord cX5_ownWord 2 (some .boolean) :: WY
set_option maxHeartbeats 4000000 in
set_option maxRecDepth 100000 in
theorem kc_X5_ownWord (l : Launch) (dC : Nat → ClassId) (dI : Nat → Nat → Nat) (cB cI cJ cZ cQ : ClassId) (aL aS : Nat) (q : Nat → Nat) (A : St) (x1 : Int) (hI : IK A) (hx1 : (-2147483648 : Int) ≤ x1 ∧ x1 ≤ 2147483647) : KMi l yX5_ownWord ws_kc_X5_ownWord ({ frames := 3, cells := 0, slots := 0, locals := 66 } : Room) aL aS (dC, dI) (tyA cB cI cJ cZ cQ) (WK cB cI cJ cZ cQ q) A [.ref (q 3), .int (iI x1)] (fun z u => r_X5_ownWord x1 A z u ∧ IK u ∧ fk [] [(3, 2), (3, 3), (5, 1), (5, 2), (5, 3), (5, 4), (5, 5), (5, 6)] A u ∧ (0 ≤ z ∧ z ≤ 1)) := by
  refine k_metz (cc := cX5_ownWord) (maxL := 2) WK_adr (plainFor_of_name (by decide +kernel)) rfl (Nat.le_of_ble_eq_true rfl) (fun z u h => h.2.2.2) (fun p e s m below meth c Q AS ls hx hb hml hown hts hK hDD hA0 hE RET H locs hP hS hl => ?_)
  have hown : s.vm.findClass RX5 = some m.cls := hown
  have hl : lv_has ls 2 [(0, .ref (q 3)), (1, .int (iI x1))] := hl
  refine lv_aload_n hx hb (dk_at dkX5_ownWord_0 0 rfl) rfl (lv_at hl 0 rfl) ?_
  refine lv_iload_n hx hb (dk_at dkX5_ownWord_0 1 rfl) rfl (lv_at hl 1 rfl) ?_
  refine k_calli (As := [.int (iI x1)]) (rest := []) ⟨hx, hb, hml, hown, hts⟩ hE (kc_X5_passesWord l dC dI cB cI cJ cZ cQ aL aS q _ x1 hI hx1) (cwV 1 hts (goodVk wkq_6_27 wkq_6_28 wkq_6_29 wkq_5_28 wkq_6_30) rfl rfl rfl (by decide +kernel) ⟨Nat.le_of_ble_eq_true rfl, Nat.le_of_ble_eq_true rfl⟩) hK hDD hA0 hP hS 3 5 (wkRD) rfl rfl hl.1 (Nat.le_of_ble_eq_true rfl) (dk_at dkX5_ownWord_0 2 rfl) (fun z1 A2 H locs hw3 hP hS => ?_)
  have ghw3 : q_X5_passesWord x1 A z1 A2 := hw3
  obtain ⟨_, hI, hf4, hw3⟩ := hw3
  refine lv_if_ne (tgt := 16) hx hb (dk_at dkX5_ownWord_0 3 rfl) (by decide) (fun c5 => ?_) (fun c5 => ?_)
  · have c5 : ¬ z1 = 0 := mt (i_eq0 (rb hw3 (by decide) (by decide))).mpr c5
    refine lv_iconst (v := iI 1) hx hb (dk_at dkX5_ownWord_0 8 rfl) (by decide +kernel) ?_
    refine lv_goto (tgt := 21) hx hb (dk_at dkX5_ownWord_0 9 rfl) (by decide) ?_
    exact RET 1 _ _ _ _ _ ⟨(u_r_X5_ownWord ⟨z1, A2, ghw3, (Or.inl ⟨c5, ⟨rfl, rfl⟩⟩)⟩), hI, fk.trans (fk.rf) hf4 rfl rfl, ⟨by decide, by decide⟩⟩ hP hS (dk_at dkX5_ownWord_0 11 rfl)
  · have c5 : z1 = 0 := (i_eq0 (rb hw3 (by decide) (by decide))).mp c5
    refine lv_aload_n hx hb (dk_at dkX5_ownWord_0 4 rfl) rfl (lv_at hl 0 rfl) ?_
    refine lv_iconst (v := iI 1) hx hb (dk_at dkX5_ownWord_0 5 rfl) (by decide +kernel) ?_
    refine k_calli (As := [.int (iI 1)]) (rest := []) ⟨hx, hb, hml, hown, hts⟩ hE (kc_X5_bad l dC dI cB cI cJ cZ cQ aL aS q _ 1 hI ⟨by decide, by decide⟩) (cwV 1 hts (goodVk wkq_5_37 wkq_5_38 wkq_5_39 wkq_5_28 wkq_5_40) rfl rfl rfl (by decide +kernel) ⟨Nat.le_of_ble_eq_true rfl, Nat.le_of_ble_eq_true rfl⟩) hK hDD hA0 hP hS 3 5 (wkRD) rfl rfl hl.1 (Nat.le_of_ble_eq_true rfl) (dk_at dkX5_ownWord_0 6 rfl) (fun z6 A7 H locs hw8 hP hS => ?_)
    have ghw8 : q_X5_bad 1 A2 z6 A7 := hw8
    obtain ⟨_, hI, hf9, hw8⟩ := hw8
    have rz6 : 0 ≤ z6 ∧ z6 ≤ 1 := hw8.1
    have hw8 := hw8.2
    refine lv_if_eq (tgt := 20) hx hb (dk_at dkX5_ownWord_0 7 rfl) (by decide) (fun _ => ?_) (fun c10 => False.elim (by have c10 : ¬ z6 = 0 := mt (i_eq0 (rb rz6 (by decide) (by decide))).mpr c10; omega))
    refine lv_iconst (v := iI 0) hx hb (dk_at dkX5_ownWord_0 10 rfl) (by decide +kernel) ?_
    exact RET 0 _ _ _ _ _ ⟨(u_r_X5_ownWord ⟨z1, A2, ghw3, (Or.inr ⟨c5, ⟨z6, A7, ghw8, ⟨rfl, rfl⟩⟩⟩)⟩), hI, fk.trans (fk.trans (fk.rf) hf4 rfl rfl) hf9 rfl rfl, ⟨by decide, by decide⟩⟩ hP hS (dk_at dkX5_ownWord_0 11 rfl)

abbrev tr_r_X5_readShut (ta : Nat) (A : St) (z : Int) (u : St) : Prop := (∃ z1 : Int, ∃ A2 : St, q_X5_asked_2_1 ta A z1 A2 ∧ (((z1 = (-1)) ∧ (z = 0 ∧ u = A2)) ∨ ((¬ z1 = (-1)) ∧ (∃ z6 : Int, ∃ A7 : St, q_X5_ownWord 14 A2 z6 A7 ∧ (((¬ z6 = 0) ∧ (∃ z11 : Int, ∃ A12 : St, q_X5_asked_2_2 ta A7 z11 A12 ∧ (((¬ z11 = (-1)) ∧ (∃ z16 : Int, ∃ A17 : St, q_X6_push (ta + 22) z11 z1 A12 z16 A17 ∧ (((¬ z16 = 0) ∧ (z = 1 ∧ u = A17)) ∨ ((z16 = 0) ∧ (∃ z21 : Int, ∃ A22 : St, q_X5_bad 3 A17 z21 A22 ∧ (z = 0 ∧ u = A22)))))) ∨ ((z11 = (-1)) ∧ (z = 0 ∧ u = A12))))) ∨ ((z6 = 0) ∧ (z = 0 ∧ u = A7)))))))
def r_X5_readShut (ta : Nat) (A : St) (z : Int) (u : St) : Prop := tr_r_X5_readShut ta A z u
theorem u_r_X5_readShut {ta : Nat} {A : St} {z : Int} {u : St} (h : tr_r_X5_readShut ta A z u) : r_X5_readShut ta A z u := h
def q_X5_readShut (ta : Nat) (A : St) (z : Int) (u : St) : Prop := r_X5_readShut ta A z u ∧ IK u ∧ fk [35, 37, 38, 39, 40, 44, 46, 47, 48, 49, 76, 78, 79, 80, 81, 107, 109, 110, 111, 112] [(3, 2), (3, 3), (5, 1), (5, 2), (5, 3), (5, 4), (5, 5), (5, 6)] A u ∧ (0 ≤ z ∧ z ≤ 1)
def ws_kc_X5_readShut : List Cond := .code yX5_readShut cX5_readShut 4 (some .boolean) :: WY
set_option maxHeartbeats 4000000 in
set_option maxRecDepth 100000 in
theorem kc_X5_readShut (l : Launch) (dC : Nat → ClassId) (dI : Nat → Nat → Nat) (cB cI cJ cZ cQ : ClassId) (aL aS : Nat) (q : Nat → Nat) (A : St) (ta : Nat) (hI : IK A) (hta : isT ta) : KMi l yX5_readShut ws_kc_X5_readShut ({ frames := 4, cells := 0, slots := 0, locals := 89 } : Room) aL aS (dC, dI) (tyA cB cI cJ cZ cQ) (WK cB cI cJ cZ cQ q) A [.ref (q 3), .ref (q ta)] (fun z u => r_X5_readShut ta A z u ∧ IK u ∧ fk [35, 37, 38, 39, 40, 44, 46, 47, 48, 49, 76, 78, 79, 80, 81, 107, 109, 110, 111, 112] [(3, 2), (3, 3), (5, 1), (5, 2), (5, 3), (5, 4), (5, 5), (5, 6)] A u ∧ (0 ≤ z ∧ z ≤ 1)) := by
  refine k_metz (cc := cX5_readShut) (maxL := 4) WK_adr (plainFor_of_name (by decide +kernel)) rfl (Nat.le_of_ble_eq_true rfl) (fun z u h => h.2.2.2) (fun p e s m below meth c Q AS ls hx hb hml hown hts hK hDD hA0 hE RET H locs hP hS hl => ?_)
  have hown : s.vm.findClass RX5 = some m.cls := hown
  have hl : lv_has ls 4 [(0, .ref (q 3)), (1, .ref (q ta))] := hl
  have hiX9 : ∀ w ∈ u_ws RX9 TX9 16, w ∈ ws_kc_X5_readShut := fun w h => List.mem_cons_of_mem _ (wy_layX9 w h)
  refine lv_aload_n hx hb (dk_at dkX5_readShut_0 0 rfl) rfl (lv_at hl 0 rfl) ?_
  refine lv_aload_n hx hb (dk_at dkX5_readShut_0 1 rfl) rfl (lv_at hl 1 rfl) ?_
  refine lv_iconst (v := iI 1) hx hb (dk_at dkX5_readShut_0 2 rfl) (by decide +kernel) ?_
  refine k_calli (As := [.ref (q ta), .int (iI 1)]) (rest := []) ⟨hx, hb, hml, hown, hts⟩ hE (kc_X5_asked_2_1 l dC dI cB cI cJ cZ cQ aL aS q _ ta hI hta) (cwV 2 hts (goodVk wkq_6_6 wkq_6_7 wkq_6_8 wkq_5_28 wkq_6_9) rfl rfl rfl (by decide +kernel) ⟨Nat.le_of_ble_eq_true rfl, Nat.le_of_ble_eq_true rfl⟩) hK hDD hA0 hP hS 3 5 (wkRD) rfl rfl hl.1 (Nat.le_of_ble_eq_true rfl) (dk_at dkX5_readShut_0 3 rfl) (fun z1 A2 H locs hw3 hP hS => ?_)
  have ghw3 : q_X5_asked_2_1 ta A z1 A2 := hw3
  obtain ⟨_, hI, hf4, hw3⟩ := hw3
  refine lv_istore_n (lv' := [(2, .int (iI z1)), (0, .ref (q 3)), (1, .ref (q ta))]) hx hb (dk_at dkX5_readShut_0 4 rfl) rfl hl (by decide) rfl (fun ls hl => ?_)
  refine lv_iload_n hx hb (dk_at dkX5_readShut_0 5 rfl) rfl (lv_at hl 0 rfl) ?_
  refine lv_iconst (v := iI (-1)) hx hb (dk_at dkX5_readShut_0 6 rfl) (by decide +kernel) ?_
  refine lv_icmp_eq (tgt := 21) hx hb (dk_at dkX5_readShut_0 7 rfl) (by decide) (fun c5 => ?_) (fun c5 => ?_)
  · have c5 : z1 = (-1) := (i_eq (rb hw3 (by decide) (by decide)) ⟨by decide, by decide⟩).mp c5
    refine lv_iconst (v := iI 0) hx hb (dk_at dkX5_readShut_0 12 rfl) (by decide +kernel) ?_
    exact RET 0 _ _ _ _ _ ⟨(u_r_X5_readShut ⟨z1, A2, ghw3, (Or.inl ⟨c5, ⟨rfl, rfl⟩⟩)⟩), hI, fk.trans (fk.rf) hf4 rfl rfl, ⟨by decide, by decide⟩⟩ hP hS (dk_at dkX5_readShut_0 13 rfl)
  · have c5 : ¬ z1 = (-1) := mt (i_eq (rb hw3 (by decide) (by decide)) ⟨by decide, by decide⟩).mpr c5
    refine lv_aload_n hx hb (dk_at dkX5_readShut_0 8 rfl) rfl (lv_at hl 1 rfl) ?_
    refine lv_bipush (v := iI 14) hx hb (dk_at dkX5_readShut_0 9 rfl) (by decide +kernel) ?_
    refine k_calli (As := [.int (iI 14)]) (rest := []) ⟨hx, hb, hml, hown, hts⟩ hE (kc_X5_ownWord l dC dI cB cI cJ cZ cQ aL aS q _ 14 hI ⟨by decide, by decide⟩) (cwV 1 hts (goodVk wkq_6_23 wkq_6_24 wkq_6_25 wkq_5_28 wkq_6_26) rfl rfl rfl (by decide +kernel) ⟨Nat.le_of_ble_eq_true rfl, Nat.le_of_ble_eq_true rfl⟩) hK hDD hA0 hP hS 3 5 (wkRD) rfl rfl hl.1 (Nat.le_of_ble_eq_true rfl) (dk_at dkX5_readShut_0 10 rfl) (fun z6 A7 H locs hw8 hP hS => ?_)
    have ghw8 : q_X5_ownWord 14 A2 z6 A7 := hw8
    obtain ⟨_, hI, hf9, hw8⟩ := hw8
    refine lv_if_ne (tgt := 23) hx hb (dk_at dkX5_readShut_0 11 rfl) (by decide) (fun c10 => ?_) (fun c10 => ?_)
    · have c10 : ¬ z6 = 0 := mt (i_eq0 (rb hw8 (by decide) (by decide))).mpr c10
      refine lv_aload_n hx hb (dk_at dkX5_readShut_0 14 rfl) rfl (lv_at hl 1 rfl) ?_
      refine lv_aload_n hx hb (dk_at dkX5_readShut_0 15 rfl) rfl (lv_at hl 2 rfl) ?_
      refine lv_iconst (v := iI 2) hx hb (dk_at dkX5_readShut_1 0 rfl) (by decide +kernel) ?_
      refine k_calli (As := [.ref (q ta), .int (iI 2)]) (rest := []) ⟨hx, hb, hml, hown, hts⟩ hE (kc_X5_asked_2_2 l dC dI cB cI cJ cZ cQ aL aS q _ ta hI hta) (cwV 2 hts (goodVk wkq_6_6 wkq_6_7 wkq_6_8 wkq_5_28 wkq_6_9) rfl rfl rfl (by decide +kernel) ⟨Nat.le_of_ble_eq_true rfl, Nat.le_of_ble_eq_true rfl⟩) hK hDD hA0 hP hS 3 5 (wkRD) rfl rfl hl.1 (Nat.le_of_ble_eq_true rfl) (dk_at dkX5_readShut_1 1 rfl) (fun z11 A12 H locs hw13 hP hS => ?_)
      have ghw13 : q_X5_asked_2_2 ta A7 z11 A12 := hw13
      obtain ⟨_, hI, hf14, hw13⟩ := hw13
      refine lv_istore_n (lv' := [(3, .int (iI z11)), (2, .int (iI z1)), (0, .ref (q 3)), (1, .ref (q ta))]) hx hb (dk_at dkX5_readShut_1 2 rfl) rfl hl (by decide) rfl (fun ls hl => ?_)
      refine lv_iload_n hx hb (dk_at dkX5_readShut_1 3 rfl) rfl (lv_at hl 0 rfl) ?_
      refine lv_iconst (v := iI (-1)) hx hb (dk_at dkX5_readShut_1 4 rfl) (by decide +kernel) ?_
      refine lv_icmp_ne (tgt := 37) hx hb (dk_at dkX5_readShut_1 5 rfl) (by decide) (fun c15 => ?_) (fun c15 => ?_)
      · have c15 : ¬ z11 = (-1) := mt (i_eq (rb hw13 (by decide) (by decide)) ⟨by decide, by decide⟩).mpr c15
        refine lv_aload_n hx hb (dk_at dkX5_readShut_1 8 rfl) rfl (lv_at hl 3 rfl) ?_
        refine va_get (D := (dC, dI)) (ci := 9) (v := .ref (q (ta + 22))) (C := RX9) (T := TX9) (N := 16) hx hb hts hiX9 hown hK hP ta (wkT hta) rfl 14 (by decide) (hts _ (List.mem_cons_of_mem _ wkq_8_32)) (fun _ h9 => h9) rfl (dk_at dkX5_readShut_1 9 rfl) ?_
        refine lv_iload_n hx hb (dk_at dkX5_readShut_1 10 rfl) rfl (lv_at hl 0 rfl) ?_
        refine lv_iload_n hx hb (dk_at dkX5_readShut_1 11 rfl) rfl (lv_at hl 1 rfl) ?_
        refine k_calli (As := [.int (iI z11), .int (iI z1)]) (rest := []) ⟨hx, hb, hml, hown, hts⟩ hE (kc_X6_push l dC dI cB cI cJ cZ cQ aL aS q _ (ta + 22) z11 z1 hI hta.s (rb hw13 (by decide) (by decide)) (rb hw3 (by decide) (by decide))) (cwV 2 hts (goodVk wkq_8_38 wkq_4_55 wkq_4_56 wkq_0_52 wkq_4_57) rfl rfl rfl (by decide +kernel) ⟨Nat.le_of_ble_eq_true rfl, Nat.le_of_ble_eq_true rfl⟩) hK hDD hA0 hP hS (ta + 22) 6 (wkS hta.s) rfl rfl hl.1 (Nat.le_of_ble_eq_true rfl) (dk_at dkX5_readShut_1 12 rfl) (fun z16 A17 H locs hw18 hP hS => ?_)
        have ghw18 : q_X6_push (ta + 22) z11 z1 A12 z16 A17 := hw18
        obtain ⟨_, hI, hf19, hw18⟩ := hw18
        refine lv_if_ne (tgt := 57) hx hb (dk_at dkX5_readShut_1 13 rfl) (by decide) (fun c20 => ?_) (fun c20 => ?_)
        · have c20 : ¬ z16 = 0 := mt (i_eq0 (rb hw18 (by decide) (by decide))).mpr c20
          refine lv_iconst (v := iI 1) hx hb (dk_at dkX5_readShut_2 2 rfl) (by decide +kernel) ?_
          refine lv_goto (tgt := 62) hx hb (dk_at dkX5_readShut_2 3 rfl) (by decide) ?_
          exact RET 1 _ _ _ _ _ ⟨(u_r_X5_readShut ⟨z1, A2, ghw3, (Or.inr ⟨c5, ⟨z6, A7, ghw8, (Or.inl ⟨c10, ⟨z11, A12, ghw13, (Or.inl ⟨c15, ⟨z16, A17, ghw18, (Or.inl ⟨c20, ⟨rfl, rfl⟩⟩)⟩⟩)⟩⟩)⟩⟩)⟩), hI, fk.trans (fk.trans (fk.trans (fk.trans (fk.rf) hf4 rfl rfl) hf9 rfl rfl) hf14 rfl rfl) hf19 rfl rfl, ⟨by decide, by decide⟩⟩ hP hS (dk_at dkX5_readShut_2 5 rfl)
        · have c20 : z16 = 0 := (i_eq0 (rb hw18 (by decide) (by decide))).mp c20
          refine lv_aload_n hx hb (dk_at dkX5_readShut_1 14 rfl) rfl (lv_at hl 2 rfl) ?_
          refine lv_iconst (v := iI 3) hx hb (dk_at dkX5_readShut_1 15 rfl) (by decide +kernel) ?_
          refine k_calli (As := [.int (iI 3)]) (rest := []) ⟨hx, hb, hml, hown, hts⟩ hE (kc_X5_bad l dC dI cB cI cJ cZ cQ aL aS q _ 3 hI ⟨by decide, by decide⟩) (cwV 1 hts (goodVk wkq_5_37 wkq_5_38 wkq_5_39 wkq_5_28 wkq_5_40) rfl rfl rfl (by decide +kernel) ⟨Nat.le_of_ble_eq_true rfl, Nat.le_of_ble_eq_true rfl⟩) hK hDD hA0 hP hS 3 5 (wkRD) rfl rfl hl.1 (Nat.le_of_ble_eq_true rfl) (dk_at dkX5_readShut_2 0 rfl) (fun z21 A22 H locs hw23 hP hS => ?_)
          have ghw23 : q_X5_bad 3 A17 z21 A22 := hw23
          obtain ⟨_, hI, hf24, hw23⟩ := hw23
          have rz21 : 0 ≤ z21 ∧ z21 ≤ 1 := hw23.1
          have hw23 := hw23.2
          refine lv_if_eq (tgt := 61) hx hb (dk_at dkX5_readShut_2 1 rfl) (by decide) (fun _ => ?_) (fun c25 => False.elim (by have c25 : ¬ z21 = 0 := mt (i_eq0 (rb rz21 (by decide) (by decide))).mpr c25; omega))
          refine lv_iconst (v := iI 0) hx hb (dk_at dkX5_readShut_2 4 rfl) (by decide +kernel) ?_
          exact RET 0 _ _ _ _ _ ⟨(u_r_X5_readShut ⟨z1, A2, ghw3, (Or.inr ⟨c5, ⟨z6, A7, ghw8, (Or.inl ⟨c10, ⟨z11, A12, ghw13, (Or.inl ⟨c15, ⟨z16, A17, ghw18, (Or.inr ⟨c20, ⟨z21, A22, ghw23, ⟨rfl, rfl⟩⟩⟩)⟩⟩)⟩⟩)⟩⟩)⟩), hI, fk.trans (fk.trans (fk.trans (fk.trans (fk.trans (fk.rf) hf4 rfl rfl) hf9 rfl rfl) hf14 rfl rfl) hf19 rfl rfl) hf24 rfl rfl, ⟨by decide, by decide⟩⟩ hP hS (dk_at dkX5_readShut_2 5 rfl)
      · have c15 : z11 = (-1) := (i_eq (rb hw13 (by decide) (by decide)) ⟨by decide, by decide⟩).mp c15
        refine lv_iconst (v := iI 0) hx hb (dk_at dkX5_readShut_1 6 rfl) (by decide +kernel) ?_
        exact RET 0 _ _ _ _ _ ⟨(u_r_X5_readShut ⟨z1, A2, ghw3, (Or.inr ⟨c5, ⟨z6, A7, ghw8, (Or.inl ⟨c10, ⟨z11, A12, ghw13, (Or.inr ⟨c15, ⟨rfl, rfl⟩⟩)⟩⟩)⟩⟩)⟩), hI, fk.trans (fk.trans (fk.trans (fk.rf) hf4 rfl rfl) hf9 rfl rfl) hf14 rfl rfl, ⟨by decide, by decide⟩⟩ hP hS (dk_at dkX5_readShut_1 7 rfl)
    · have c10 : z6 = 0 := (i_eq0 (rb hw8 (by decide) (by decide))).mp c10
      refine lv_iconst (v := iI 0) hx hb (dk_at dkX5_readShut_0 12 rfl) (by decide +kernel) ?_
      exact RET 0 _ _ _ _ _ ⟨(u_r_X5_readShut ⟨z1, A2, ghw3, (Or.inr ⟨c5, ⟨z6, A7, ghw8, (Or.inr ⟨c10, ⟨rfl, rfl⟩⟩)⟩⟩)⟩), hI, fk.trans (fk.trans (fk.rf) hf4 rfl rfl) hf9 rfl rfl, ⟨by decide, by decide⟩⟩ hP hS (dk_at dkX5_readShut_0 13 rfl)
theorem dkX5_readHas_0 : dkq cX5_readHas [(0, .aload_n 0, 1), (1, .aload_n 1, 1), (2, .iconst 3, 1), (3, .invokevirtual 128, 3), (6, .istore_n 2, 1), (7, .iload_n 2, 1), (8, .iconst (-1), 1), (9, .if_icmp .ne 7, 3), (12, .iconst (-1), 1), (13, .goto 9, 3), (16, .aload_n 0, 1), (17, .aload_n 1, 1), (18, .iconst 2, 1), (19, .invokevirtual 128, 3), (22, .istore_n 3, 1), (23, .iload_n 3, 1)] = true := by decide +kernel
theorem dkX5_readHas_1 : dkq cX5_readHas [(24, .iconst (-1), 1), (25, .if_icmp .ne 5, 3), (28, .iconst 0, 1), (29, .ireturn, 1), (30, .aload_n 1, 1), (31, .getfield 190, 3), (34, .getfield 194, 3), (37, .iload_n 3, 1), (38, .iaload, 1), (39, .bipush 10, 2), (41, .if_icmp .ge 9, 3), (44, .aload_n 0, 1), (45, .iconst 3, 1), (46, .invokevirtual 132, 3), (49, .ireturn, 1), (50, .aload_n 1, 1)] = true := by decide +kernel
theorem dkX5_readHas_2 : dkq cX5_readHas [(51, .getfield 190, 3), (54, .getfield 194, 3), (57, .iload_n 3, 1), (58, .iload_n 2, 1), (59, .iastore, 1), (60, .iconst 1, 1), (61, .ireturn, 1)] = true := by decide +kernel
theorem dkX5_comparisonSign_0 : dkq cX5_comparisonSign [(0, .aload_n 0, 1), (1, .getfield 30, 3), (4, .invokevirtual 54, 3), (7, .iconst (-1), 1), (8, .istore_n 1, 1), (9, .aload_n 0, 1), (10, .getfield 30, 3), (13, .bipush 60, 2), (15, .invokevirtual 241, 3), (18, .ifCond .eq 9, 3), (21, .bipush (-9), 2), (23, .istore_n 1, 1), (24, .goto 45, 3), (27, .aload_n 0, 1), (28, .getfield 30, 3), (31, .bipush 62, 2)] = true := by decide +kernel
theorem dkX5_comparisonSign_1 : dkq cX5_comparisonSign [(33, .invokevirtual 241, 3), (36, .ifCond .eq 9, 3), (39, .bipush (-10), 2), (41, .istore_n 1, 1), (42, .goto 27, 3), (45, .aload_n 0, 1), (46, .getfield 30, 3), (49, .bipush 61, 2), (51, .invokevirtual 241, 3), (54, .ifCond .eq 9, 3), (57, .bipush (-11), 2), (59, .istore_n 1, 1), (60, .goto 9, 3), (63, .aload_n 0, 1), (64, .iconst 1, 1), (65, .invokevirtual 132, 3)] = true := by decide +kernel
theorem dkX5_comparisonSign_2 : dkq cX5_comparisonSign [(68, .pop, 1), (69, .aload_n 0, 1), (70, .getfield 30, 3), (73, .invokevirtual 125, 3), (76, .iload_n 1, 1), (77, .ireturn, 1)] = true := by decide +kernel
theorem dkX5_enter_0 : dkq cX5_enter [(0, .aload_n 0, 1), (1, .getfield 22, 3), (4, .bipush 8, 2), (6, .if_icmp .lt 9, 3), (9, .aload_n 0, 1), (10, .iconst 5, 1), (11, .invokevirtual 132, 3), (14, .ireturn, 1), (15, .aload_n 0, 1), (16, .dup, 1), (17, .getfield 22, 3), (20, .iconst 1, 1), (21, .iadd, 1), (22, .putfield 22, 3), (25, .iconst 1, 1), (26, .ireturn, 1)] = true := by decide +kernel
theorem dkX5_leave_0 : dkq cX5_leave [(0, .aload_n 0, 1), (1, .dup, 1), (2, .getfield 22, 3), (5, .iconst 1, 1), (6, .isub, 1), (7, .putfield 22, 3), (10, .iconst 1, 1), (11, .ireturn, 1)] = true := by decide +kernel
theorem dkX5_passesSign_0 : dkq cX5_passesSign [(0, .aload_n 0, 1), (1, .getfield 30, 3), (4, .invokevirtual 54, 3), (7, .aload_n 0, 1), (8, .getfield 30, 3), (11, .iload_n 1, 1), (12, .invokevirtual 241, 3), (15, .ifCond .ne 5, 3), (18, .iconst 0, 1), (19, .ireturn, 1), (20, .aload_n 0, 1), (21, .getfield 30, 3), (24, .invokevirtual 125, 3), (27, .iconst 1, 1), (28, .ireturn, 1)] = true := by decide +kernel
theorem dkX8_add_0 : dkq cX8_add [(0, .aload_n 0, 1), (1, .getfield 18, 3), (4, .ifCond .lt 13, 3), (7, .aload_n 0, 1), (8, .getfield 18, 3), (11, .sipush 1600, 3), (14, .if_icmp .lt 5, 3), (17, .iconst 0, 1), (18, .ireturn, 1), (19, .aload_n 0, 1), (20, .getfield 9, 3), (23, .aload_n 0, 1), (24, .getfield 18, 3), (27, .iload_n 1, 1), (28, .iastore, 1), (29, .aload_n 0, 1)] = true := by decide +kernel
theorem dkX8_add_1 : dkq cX8_add [(30, .dup, 1), (31, .getfield 18, 3), (34, .iconst 1, 1), (35, .iadd, 1), (36, .putfield 18, 3), (39, .iconst 1, 1), (40, .ireturn, 1)] = true := by decide +kernel
theorem dkX9_addBar_0 : dkq cX9_addBar [(0, .aload_n 0, 1), (1, .getfield 9, 3), (4, .bipush 7, 2), (6, .iaload, 1), (7, .istore 4, 2), (9, .iload 4, 2), (11, .ifCond .lt 10, 3), (14, .iload 4, 2), (16, .bipush 6, 2), (18, .if_icmp .lt 5, 3), (21, .iconst 0, 1), (22, .ireturn, 1), (23, .aload_n 0, 1), (24, .getfield 44, 3), (27, .iload 4, 2), (29, .iload_n 1, 1)] = true := by decide +kernel
theorem dkX9_addBar_1 : dkq cX9_addBar [(30, .iastore, 1), (31, .aload_n 0, 1), (32, .getfield 47, 3), (35, .iload 4, 2), (37, .iload_n 2, 1), (38, .iastore, 1), (39, .aload_n 0, 1), (40, .getfield 50, 3), (43, .iload 4, 2), (45, .iload_n 3, 1), (46, .iastore, 1), (47, .aload_n 0, 1), (48, .getfield 9, 3), (51, .bipush 7, 2), (53, .dup2, 1), (54, .iaload, 1)] = true := by decide +kernel
theorem dkX9_addBar_2 : dkq cX9_addBar [(55, .iconst 1, 1), (56, .iadd, 1), (57, .iastore, 1), (58, .iconst 1, 1), (59, .ireturn, 1)] = true := by decide +kernel
abbrev tr_d_X5_readHas_1 (ta : Nat) (z1 : Int) (z : Int) (u : St) (z11 : Int) (A13 : St) : Prop := ((IK A13) ∧ ((-1 ≤ z11 ∧ z11 ≤ 3) ∧ (((¬ z11 = (-1)) ∧ (∃ z19 : Int, z19 = A13 ((ta + 22) + 2) (z11).toNat ∧ (((10 ≤ z19) ∧ (∃ A21 : St, A21 = stA A13 ((ta + 22) + 2) (z11).toNat z1 ∧ (z = 1 ∧ u = A21))) ∨ ((¬ 10 ≤ z19) ∧ (∃ z22 : Int, ∃ A23 : St, q_X5_bad 3 A13 z22 A23 ∧ (z = z22 ∧ u = A23)))))) ∨ ((z11 = (-1)) ∧ (z = 0 ∧ u = A13)))))
def d_X5_readHas_1 (ta : Nat) (z1 : Int) (z : Int) (u : St) (z11 : Int) (A13 : St) : Prop := tr_d_X5_readHas_1 ta z1 z u z11 A13
theorem u_d_X5_readHas_1 {ta : Nat} {z1 : Int} {z : Int} {u : St} {z11 : Int} {A13 : St} (h : tr_d_X5_readHas_1 ta z1 z u z11 A13) : d_X5_readHas_1 ta z1 z u z11 A13 := h
abbrev tr_r_X5_readHas (ta : Nat) (A : St) (z : Int) (u : St) : Prop := (∃ z1 : Int, ∃ A2 : St, q_X5_asked_2_3 ta A z1 A2 ∧ (((¬ z1 = (-1)) ∧ (∃ z7 : Int, ∃ A8 : St, q_X5_asked_2_2 ta A2 z7 A8 ∧ (d_X5_readHas_1 ta z1 z u z7 A8))) ∨ ((z1 = (-1)) ∧ (d_X5_readHas_1 ta z1 z u (-1) A2))))
def r_X5_readHas (ta : Nat) (A : St) (z : Int) (u : St) : Prop := tr_r_X5_readHas ta A z u
theorem u_r_X5_readHas {ta : Nat} {A : St} {z : Int} {u : St} (h : tr_r_X5_readHas ta A z u) : r_X5_readHas ta A z u := h
def q_X5_readHas (ta : Nat) (A : St) (z : Int) (u : St) : Prop := r_X5_readHas ta A z u ∧ IK u ∧ fk [34, 43, 75, 106] [(3, 2), (3, 3), (5, 1), (5, 2), (5, 3), (5, 4), (5, 5), (5, 6)] A u ∧ (0 ≤ z ∧ z ≤ 1)
def ws_kc_X5_readHas : List Cond := .code yX5_readHas cX5_readHas 4 (some .boolean) :: WY
set_option maxHeartbeats 4000000 in
set_option maxRecDepth 100000 in
theorem kc_X5_readHas (l : Launch) (dC : Nat → ClassId) (dI : Nat → Nat → Nat) (cB cI cJ cZ cQ : ClassId) (aL aS : Nat) (q : Nat → Nat) (A : St) (ta : Nat) (hI : IK A) (hta : isT ta) : KMi l yX5_readHas ws_kc_X5_readHas ({ frames := 4, cells := 0, slots := 0, locals := 89 } : Room) aL aS (dC, dI) (tyA cB cI cJ cZ cQ) (WK cB cI cJ cZ cQ q) A [.ref (q 3), .ref (q ta)] (fun z u => r_X5_readHas ta A z u ∧ IK u ∧ fk [34, 43, 75, 106] [(3, 2), (3, 3), (5, 1), (5, 2), (5, 3), (5, 4), (5, 5), (5, 6)] A u ∧ (0 ≤ z ∧ z ≤ 1)) := by
  refine k_metz (cc := cX5_readHas) (maxL := 4) WK_adr (plainFor_of_name (by decide +kernel)) rfl (Nat.le_of_ble_eq_true rfl) (fun z u h => h.2.2.2) (fun p e s m below meth c Q AS ls hx hb hml hown hts hK hDD hA0 hE RET H locs hP hS hl => ?_)
  have hown : s.vm.findClass RX5 = some m.cls := hown
  have hl : lv_has ls 4 [(0, .ref (q 3)), (1, .ref (q ta))] := hl
  have hiX9 : ∀ w ∈ u_ws RX9 TX9 16, w ∈ ws_kc_X5_readHas := fun w h => List.mem_cons_of_mem _ (wy_layX9 w h)
  have hiX6 : ∀ w ∈ u_ws RX6 TX6 4, w ∈ ws_kc_X5_readHas := fun w h => List.mem_cons_of_mem _ (wy_layX6 w h)
  refine lv_aload_n hx hb (dk_at dkX5_readHas_0 0 rfl) rfl (lv_at hl 0 rfl) ?_
  refine lv_aload_n hx hb (dk_at dkX5_readHas_0 1 rfl) rfl (lv_at hl 1 rfl) ?_
  refine lv_iconst (v := iI 3) hx hb (dk_at dkX5_readHas_0 2 rfl) (by decide +kernel) ?_
  refine k_calli (As := [.ref (q ta), .int (iI 3)]) (rest := []) ⟨hx, hb, hml, hown, hts⟩ hE (kc_X5_asked_2_3 l dC dI cB cI cJ cZ cQ aL aS q _ ta hI hta) (cwV 2 hts (goodVk wkq_6_6 wkq_6_7 wkq_6_8 wkq_5_28 wkq_6_9) rfl rfl rfl (by decide +kernel) ⟨Nat.le_of_ble_eq_true rfl, Nat.le_of_ble_eq_true rfl⟩) hK hDD hA0 hP hS 3 5 (wkRD) rfl rfl hl.1 (Nat.le_of_ble_eq_true rfl) (dk_at dkX5_readHas_0 3 rfl) (fun z1 A2 H locs hw3 hP hS => ?_)
  have ghw3 : q_X5_asked_2_3 ta A z1 A2 := hw3
  obtain ⟨_, hI, hf4, hw3⟩ := hw3
  refine lv_istore_n (lv' := [(2, .int (iI z1)), (0, .ref (q 3)), (1, .ref (q ta))]) hx hb (dk_at dkX5_readHas_0 4 rfl) rfl hl (by decide) rfl (fun ls hl => ?_)
  refine lv_iload_n hx hb (dk_at dkX5_readHas_0 5 rfl) rfl (lv_at hl 0 rfl) ?_
  refine lv_iconst (v := iI (-1)) hx hb (dk_at dkX5_readHas_0 6 rfl) (by decide +kernel) ?_
  have J22_6 : ∀ (z11 : Int) (A13 : St) (H : Heap) (locs : List Loc) (ls : Array Slot), (-1 ≤ z11 ∧ z11 ≤ 3) → (∀ (z : Int) (u : St), (d_X5_readHas_1 ta z1 z u z11 A13) → r_X5_readHas ta A z u) → IK A13 → fk [] [(3, 2), (3, 3), (5, 1), (5, 2), (5, 3), (5, 4), (5, 5), (5, 6)] A2 A13 → va_P (dC, dI) vwCl (WK cB cI cJ cZ cQ q A13) H → va_S AS s.heap H locs → lv_has ls 4 [(2, .int (iI z1)), (0, .ref (q 3)), (1, .ref (q ta))] → W p l e (headSpec ws_kc_X5_readHas ({ frames := 4, cells := 0, slots := 0, locals := 89 } : Room)).room s m [.ref (q 3), .ref (q ta)].toArray below meth c H locs 0 0 Q (F0 m 22 ls [.int (iI z11)]) := by
    intro z11 A13 H locs ls f14 hk1 hI hj12 hP hS hl
    have gI15 : Hd (IK A13) := Hd.mk hI
    refine lv_istore_n (lv' := [(3, .int (iI z11)), (2, .int (iI z1)), (0, .ref (q 3)), (1, .ref (q ta))]) hx hb (dk_at dkX5_readHas_0 14 rfl) rfl hl (by decide) rfl (fun ls hl => ?_)
    refine lv_iload_n hx hb (dk_at dkX5_readHas_0 15 rfl) rfl (lv_at hl 0 rfl) ?_
    refine lv_iconst (v := iI (-1)) hx hb (dk_at dkX5_readHas_1 0 rfl) (by decide +kernel) ?_
    refine lv_icmp_ne (tgt := 30) hx hb (dk_at dkX5_readHas_1 1 rfl) (by decide) (fun c16 => ?_) (fun c16 => ?_)
    · have c16 : ¬ z11 = (-1) := mt (i_eq (rb f14 (by decide) (by decide)) ⟨by decide, by decide⟩).mpr c16
      refine lv_aload_n hx hb (dk_at dkX5_readHas_1 4 rfl) rfl (lv_at hl 3 rfl) ?_
      refine va_get (D := (dC, dI)) (ci := 9) (v := .ref (q (ta + 22))) (C := RX9) (T := TX9) (N := 16) hx hb hts hiX9 hown hK hP ta (wkT hta) rfl 14 (by decide) (hts _ (List.mem_cons_of_mem _ wkq_8_32)) (fun _ h9 => h9) rfl (dk_at dkX5_readHas_1 5 rfl) ?_
      refine va_get (D := (dC, dI)) (ci := 6) (v := .ref (q ((ta + 22) + 2))) (C := RX6) (T := TX6) (N := 4) hx hb hts hiX6 hown hK hP (ta + 22) (wkS hta.s) rfl 1 (by decide) (hts _ (List.mem_cons_of_mem _ wkq_8_33)) (fun _ h9 => h9) rfl (dk_at dkX5_readHas_1 6 rfl) ?_
      refine lv_iload_n hx hb (dk_at dkX5_readHas_1 7 rfl) rfl (lv_at hl 0 rfl) ?_
      have a18 : ∀ k, A2 ((ta + 22) + 2) k = A ((ta + 22) + 2) k := fun k => hf4 ((ta + 22) + 2) k (isS.b2 (o := fun b => List.contains [] (b + 2)) hta.s rfl rfl rfl rfl) (isS.b2 (o := fun b => fin2 [(3, 2), (3, 3), (5, 1), (5, 2), (5, 3), (5, 4), (5, 5), (5, 6)] (b + 2) k) hta.s rfl rfl rfl rfl)
      have a17 : ∀ k, A13 ((ta + 22) + 2) k = A ((ta + 22) + 2) k := fun k => (hj12 ((ta + 22) + 2) k (isS.b2 (o := fun b => List.contains [] (b + 2)) hta.s rfl rfl rfl rfl) (isS.b2 (o := fun b => fin2 [(3, 2), (3, 3), (5, 1), (5, 2), (5, 3), (5, 4), (5, 5), (5, 6)] (b + 2) k) hta.s rfl rfl rfl rfl)).trans (a18 k)
      refine x_iald (Wf := WK cB cI cJ cZ cQ q) hx hb hK hP ((ta + 22) + 2) 1 (wkSw hta.s) rfl (by omega) (by decide) (dk_at dkX5_readHas_1 8 rfl) (fun z19 hz19 => ?_)
      have rz19 : (-2147483648 : Int) ≤ z19 ∧ z19 ≤ 2147483647 := by rw [hz19]; exact irSw hta.s hI
      have gz19 := Hd.mk hz19
      have hz19 : z19 = A ((ta + 22) + 2) (z11).toNat := hz19.trans (a17 _)
      refine lv_bipush (v := iI 10) hx hb (dk_at dkX5_readHas_1 9 rfl) (by decide +kernel) ?_
      refine lv_icmp_ge (tgt := 50) hx hb (dk_at dkX5_readHas_1 10 rfl) (by decide) (fun c20 => ?_) (fun c20 => ?_)
      · have c20 : 10 ≤ z19 := (i_le ⟨by decide, by decide⟩ rz19).mp c20
        refine lv_aload_n hx hb (dk_at dkX5_readHas_1 15 rfl) rfl (lv_at hl 3 rfl) ?_
        refine va_get (D := (dC, dI)) (ci := 9) (v := .ref (q (ta + 22))) (C := RX9) (T := TX9) (N := 16) hx hb hts hiX9 hown hK hP ta (wkT hta) rfl 14 (by decide) (hts _ (List.mem_cons_of_mem _ wkq_8_32)) (fun _ h9 => h9) rfl (dk_at dkX5_readHas_2 0 rfl) ?_
        refine va_get (D := (dC, dI)) (ci := 6) (v := .ref (q ((ta + 22) + 2))) (C := RX6) (T := TX6) (N := 4) hx hb hts hiX6 hown hK hP (ta + 22) (wkS hta.s) rfl 1 (by decide) (hts _ (List.mem_cons_of_mem _ wkq_8_33)) (fun _ h9 => h9) rfl (dk_at dkX5_readHas_2 1 rfl) ?_
        refine lv_iload_n hx hb (dk_at dkX5_readHas_2 2 rfl) rfl (lv_at hl 0 rfl) ?_
        refine lv_iload_n hx hb (dk_at dkX5_readHas_2 3 rfl) rfl (lv_at hl 1 rfl) ?_
        refine k_iast (Wf := WK cB cI cJ cZ cQ q) hx hb hK hP hDD hS ((ta + 22) + 2) 1 (wkSw hta.s) rfl (by omega) (by decide) (dk_at dkX5_readHas_2 4 rfl) (wsSw hta.s) (fun H locs A21 hA21 hP hS => ?_)
        have hI := isSw hta.s hA21 hI (show (-2147483648 : Int) ≤ z1 ∧ z1 ≤ 2147483647 from (rb hw3 (by decide) (by decide)))
        refine lv_iconst (v := iI 1) hx hb (dk_at dkX5_readHas_2 5 rfl) (by decide +kernel) ?_
        exact RET 1 _ _ _ _ _ ⟨hk1 _ _ (u_d_X5_readHas_1 ⟨gI15.out, ⟨f14, (Or.inl ⟨c16, ⟨z19, gz19.out, (Or.inl ⟨c20, ⟨A21, hA21, ⟨rfl, rfl⟩⟩⟩)⟩⟩)⟩⟩), hI, fk.da (fk.trans (fk.trans (fk.rf) hf4 rfl rfl) hj12 rfl rfl) hA21 (isS.b2 (o := fun b => List.contains [34, 43, 75, 106] (b + 2)) hta.s rfl rfl rfl rfl), ⟨by decide, by decide⟩⟩ hP hS (dk_at dkX5_readHas_2 6 rfl)
      · have c20 : ¬ 10 ≤ z19 := mt (i_le ⟨by decide, by decide⟩ rz19).mpr c20
        refine lv_aload_n hx hb (dk_at dkX5_readHas_1 11 rfl) rfl (lv_at hl 2 rfl) ?_
        refine lv_iconst (v := iI 3) hx hb (dk_at dkX5_readHas_1 12 rfl) (by decide +kernel) ?_
        refine k_calli (As := [.int (iI 3)]) (rest := []) ⟨hx, hb, hml, hown, hts⟩ hE (kc_X5_bad l dC dI cB cI cJ cZ cQ aL aS q _ 3 hI ⟨by decide, by decide⟩) (cwV 1 hts (goodVk wkq_5_37 wkq_5_38 wkq_5_39 wkq_5_28 wkq_5_40) rfl rfl rfl (by decide +kernel) ⟨Nat.le_of_ble_eq_true rfl, Nat.le_of_ble_eq_true rfl⟩) hK hDD hA0 hP hS 3 5 (wkRD) rfl rfl hl.1 (Nat.le_of_ble_eq_true rfl) (dk_at dkX5_readHas_1 13 rfl) (fun z22 A23 H locs hw24 hP hS => ?_)
        have ghw24 : q_X5_bad 3 A13 z22 A23 := hw24
        obtain ⟨_, hI, hf25, hw24⟩ := hw24
        have rz22 : 0 ≤ z22 ∧ z22 ≤ 1 := hw24.1
        have hw24 := hw24.2
        exact RET z22 _ _ _ _ _ ⟨hk1 _ _ (u_d_X5_readHas_1 ⟨gI15.out, ⟨f14, (Or.inl ⟨c16, ⟨z19, gz19.out, (Or.inr ⟨c20, ⟨z22, A23, ghw24, ⟨rfl, rfl⟩⟩⟩)⟩⟩)⟩⟩), hI, fk.trans (fk.trans (fk.trans (fk.rf) hf4 rfl rfl) hj12 rfl rfl) hf25 rfl rfl, rz22⟩ hP hS (dk_at dkX5_readHas_1 14 rfl)
    · have c16 : z11 = (-1) := (i_eq (rb f14 (by decide) (by decide)) ⟨by decide, by decide⟩).mp c16
      refine lv_iconst (v := iI 0) hx hb (dk_at dkX5_readHas_1 2 rfl) (by decide +kernel) ?_
      exact RET 0 _ _ _ _ _ ⟨hk1 _ _ (u_d_X5_readHas_1 ⟨gI15.out, ⟨f14, (Or.inr ⟨c16, ⟨rfl, rfl⟩⟩)⟩⟩), hI, fk.trans (fk.trans (fk.rf) hf4 rfl rfl) hj12 rfl rfl, ⟨by decide, by decide⟩⟩ hP hS (dk_at dkX5_readHas_1 3 rfl)
  refine lv_icmp_ne (tgt := 16) hx hb (dk_at dkX5_readHas_0 7 rfl) (by decide) (fun c5 => ?_) (fun c5 => ?_)
  · have c5 : ¬ z1 = (-1) := mt (i_eq (rb hw3 (by decide) (by decide)) ⟨by decide, by decide⟩).mpr c5
    refine lv_aload_n hx hb (dk_at dkX5_readHas_0 10 rfl) rfl (lv_at hl 1 rfl) ?_
    refine lv_aload_n hx hb (dk_at dkX5_readHas_0 11 rfl) rfl (lv_at hl 2 rfl) ?_
    refine lv_iconst (v := iI 2) hx hb (dk_at dkX5_readHas_0 12 rfl) (by decide +kernel) ?_
    refine k_calli (As := [.ref (q ta), .int (iI 2)]) (rest := []) ⟨hx, hb, hml, hown, hts⟩ hE (kc_X5_asked_2_2 l dC dI cB cI cJ cZ cQ aL aS q _ ta hI hta) (cwV 2 hts (goodVk wkq_6_6 wkq_6_7 wkq_6_8 wkq_5_28 wkq_6_9) rfl rfl rfl (by decide +kernel) ⟨Nat.le_of_ble_eq_true rfl, Nat.le_of_ble_eq_true rfl⟩) hK hDD hA0 hP hS 3 5 (wkRD) rfl rfl hl.1 (Nat.le_of_ble_eq_true rfl) (dk_at dkX5_readHas_0 13 rfl) (fun z7 A8 H locs hw9 hP hS => ?_)
    have ghw9 : q_X5_asked_2_2 ta A2 z7 A8 := hw9
    obtain ⟨_, hI, hf10, hw9⟩ := hw9
    exact J22_6 z7 _ _ _ _ (by omega) (fun zq uq hq => (u_r_X5_readHas ⟨z1, A2, ghw3, (Or.inl ⟨c5, ⟨z7, A8, ghw9, hq⟩⟩)⟩)) hI (fk.trans (fk.rf) hf10 rfl rfl) hP hS (lv_sub hl [0, 1, 2] rfl)
  · have c5 : z1 = (-1) := (i_eq (rb hw3 (by decide) (by decide)) ⟨by decide, by decide⟩).mp c5
    refine lv_iconst (v := iI (-1)) hx hb (dk_at dkX5_readHas_0 8 rfl) (by decide +kernel) ?_
    refine lv_goto (tgt := 22) hx hb (dk_at dkX5_readHas_0 9 rfl) (by decide) ?_
    exact J22_6 (-1) _ _ _ _ (by omega) (fun zq uq hq => (u_r_X5_readHas ⟨z1, A2, ghw3, (Or.inr ⟨c5, hq⟩)⟩)) hI (fk.rf) hP hS (lv_sub hl [0, 1, 2] rfl)

abbrev tr_r_X8_add (ta : Nat) (x1 : Int) (A : St) (z : Int) (u : St) : Prop := ((((A ta 2) < 1600) ∧ (∃ A4 : St, A4 = stA A (ta + 1) ((A ta 2)).toNat x1 ∧ (∃ A6 : St, A6 = stA A4 ta 2 ((A ta 2) + 1) ∧ (z = 1 ∧ u = A6)))) ∨ ((¬ (A ta 2) < 1600) ∧ (z = 0 ∧ u = A)))
def r_X8_add (ta : Nat) (x1 : Int) (A : St) (z : Int) (u : St) : Prop := tr_r_X8_add ta x1 A z u
theorem u_r_X8_add {ta : Nat} {x1 : Int} {A : St} {z : Int} {u : St} (h : tr_r_X8_add ta x1 A z u) : r_X8_add ta x1 A z u := h
def q_X8_add (ta : Nat) (x1 : Int) (A : St) (z : Int) (u : St) : Prop := r_X8_add ta x1 A z u ∧ IK u ∧ fk [71, 102] [(70, 2), (101, 2)] A u ∧ (0 ≤ z ∧ z ≤ 1)
def ws_kc_X8_add : List Cond := .code yX8_add cX8_add 2 (some .boolean) :: WY
set_option maxHeartbeats 4000000 in
set_option maxRecDepth 100000 in
theorem kc_X8_add (l : Launch) (dC : Nat → ClassId) (dI : Nat → Nat → Nat) (cB cI cJ cZ cQ : ClassId) (aL aS : Nat) (q : Nat → Nat) (A : St) (ta : Nat) (x1 : Int) (hI : IK A) (hta : isE ta) (hx1 : (-2147483648 : Int) ≤ x1 ∧ x1 ≤ 2147483647) : KMi l yX8_add ws_kc_X8_add ({ frames := 0, cells := 0, slots := 0, locals := 0 } : Room) aL aS (dC, dI) (tyA cB cI cJ cZ cQ) (WK cB cI cJ cZ cQ q) A [.ref (q ta), .int (iI x1)] (fun z u => r_X8_add ta x1 A z u ∧ IK u ∧ fk [71, 102] [(70, 2), (101, 2)] A u ∧ (0 ≤ z ∧ z ≤ 1)) := by
  refine k_metz (cc := cX8_add) (maxL := 2) WK_adr (plainFor_of_name (by decide +kernel)) rfl (Nat.le_of_ble_eq_true rfl) (fun z u h => h.2.2.2) (fun p e s m below meth c Q AS ls hx hb hml hown hts hK hDD hA0 hE RET H locs hP hS hl => ?_)
  have hown : s.vm.findClass RX8 = some m.cls := hown
  have hl : lv_has ls 2 [(0, .ref (q ta)), (1, .int (iI x1))] := hl
  have hiX8 : ∀ w ∈ u_ws RX8 TX8 3, w ∈ ws_kc_X8_add := fun w h => List.mem_cons_of_mem _ (wy_layX8 w h)
  refine lv_aload_n hx hb (dk_at dkX8_add_0 0 rfl) rfl (lv_at hl 0 rfl) ?_
  have r1 : (0 : Int) ≤ (A ta 2) ∧ (A ta 2) ≤ 1600 := irE_2 hta hI
  refine va_get (D := (dC, dI)) (ci := 8) (v := .int (iI (A ta 2))) (C := RX8) (T := TX8) (N := 3) hx hb hts hiX8 hown hK hP ta (wkE hta) rfl 2 (by decide) (hts _ (List.mem_cons_of_mem _ wkq_1_40)) (fun _ h9 => h9) rfl (dk_at dkX8_add_0 1 rfl) ?_
  refine lv_if_lt (tgt := 17) hx hb (dk_at dkX8_add_0 2 rfl) (by decide) (fun c2 => False.elim (by have c2 : (A ta 2) < 0 := (i_lt0 (rb r1 (by decide) (by decide))).mp c2; omega)) (fun _ => ?_)
  refine lv_aload_n hx hb (dk_at dkX8_add_0 3 rfl) rfl (lv_at hl 0 rfl) ?_
  refine va_get (D := (dC, dI)) (ci := 8) (v := .int (iI (A ta 2))) (C := RX8) (T := TX8) (N := 3) hx hb hts hiX8 hown hK hP ta (wkE hta) rfl 2 (by decide) (hts _ (List.mem_cons_of_mem _ wkq_1_40)) (fun _ h9 => h9) rfl (dk_at dkX8_add_0 4 rfl) ?_
  refine lv_sipush (v := iI 1600) hx hb (dk_at dkX8_add_0 5 rfl) (by decide +kernel) ?_
  refine lv_icmp_lt (tgt := 19) hx hb (dk_at dkX8_add_0 6 rfl) (by decide) (fun c3 => ?_) (fun c3 => ?_)
  · have c3 : (A ta 2) < 1600 := (i_lt (rb r1 (by decide) (by decide)) ⟨by decide, by decide⟩).mp c3
    refine lv_aload_n hx hb (dk_at dkX8_add_0 9 rfl) rfl (lv_at hl 0 rfl) ?_
    refine va_get (D := (dC, dI)) (ci := 8) (v := .ref (q (ta + 1))) (C := RX8) (T := TX8) (N := 3) hx hb hts hiX8 hown hK hP ta (wkE hta) rfl 0 (by decide) (hts _ (List.mem_cons_of_mem _ wkq_1_41)) (fun _ h9 => h9) rfl (dk_at dkX8_add_0 10 rfl) ?_
    refine lv_aload_n hx hb (dk_at dkX8_add_0 11 rfl) rfl (lv_at hl 0 rfl) ?_
    refine va_get (D := (dC, dI)) (ci := 8) (v := .int (iI (A ta 2))) (C := RX8) (T := TX8) (N := 3) hx hb hts hiX8 hown hK hP ta (wkE hta) rfl 2 (by decide) (hts _ (List.mem_cons_of_mem _ wkq_1_40)) (fun _ h9 => h9) rfl (dk_at dkX8_add_0 12 rfl) ?_
    refine lv_iload_n hx hb (dk_at dkX8_add_0 13 rfl) rfl (lv_at hl 1 rfl) ?_
    refine k_iast (Wf := WK cB cI cJ cZ cQ q) hx hb hK hP hDD hS (ta + 1) 1 (wkEc hta) rfl (by omega) (by decide) (dk_at dkX8_add_0 14 rfl) (wsEc hta) (fun H locs A4 hA4 hP hS => ?_)
    have hI := isEc hta hA4 hI (show (-2147483648 : Int) ≤ x1 ∧ x1 ≤ 2147483647 from hx1)
    refine lv_aload_n hx hb (dk_at dkX8_add_0 15 rfl) rfl (lv_at hl 0 rfl) ?_
    refine lv_dup hx hb (dk_at dkX8_add_1 0 rfl) rfl ?_
    have e5 : A4 ta 2 = (A ta 2) := (rd_ne hA4 (by omega) 2)
    refine va_get (D := (dC, dI)) (ci := 8) (v := .int (iI (A4 ta 2))) (C := RX8) (T := TX8) (N := 3) hx hb hts hiX8 hown hK hP ta (wkE hta) rfl 2 (by decide) (hts _ (List.mem_cons_of_mem _ wkq_1_40)) (fun _ h9 => h9) rfl (dk_at dkX8_add_1 1 rfl) ?_
    refine tp_i (y := iI (A ta 2)) (congrArg iI e5) ?_
    refine lv_iconst (v := iI 1) hx hb (dk_at dkX8_add_1 2 rfl) (by decide +kernel) ?_
    refine x_addv (v := (A ta 2) + 1) hx hb (dk_at dkX8_add_1 3 rfl) (by omega) ?_
    refine k_put (Wf := WK cB cI cJ cZ cQ q) (D := (dC, dI)) (ci := 8) (v := .int (iI ((A ta 2) + 1))) (ty := .int) (C := RX8) (T := TX8) (N := 3) hx hb hts hiX8 tyX8 tyX8_ok nmX8 hown hK hP hDD hS ta (wkE hta) rfl 2 (by decide) (hts _ (List.mem_cons_of_mem _ wkq_1_40)) (fun _ h9 => h9) rfl (by decide +kernel) rfl rfl (Nat.le_of_ble_eq_true rfl) (dk_at dkX8_add_1 4 rfl) (wfE_2 hta (v := (A ta 2) + 1)) (fun H locs A6 hA6 hP hS => ?_)
    have hI := isE_2 hta hA6 hI (show (0 : Int) ≤ (A ta 2) + 1 ∧ (A ta 2) + 1 ≤ 1600 from (by omega))
    refine lv_iconst (v := iI 1) hx hb (dk_at dkX8_add_1 5 rfl) (by decide +kernel) ?_
    exact RET 1 _ _ _ _ _ ⟨(u_r_X8_add (Or.inl ⟨c3, ⟨A4, hA4, ⟨A6, hA6, ⟨rfl, rfl⟩⟩⟩⟩)), hI, fk.df (fk.da (fk.rf) hA4 (isE.b2 (o := fun b => List.contains [71, 102] (b + 1)) hta rfl rfl)) hA6 (isE.b2 (o := fun b => fin2 [(70, 2), (101, 2)] b 2) hta rfl rfl), ⟨by decide, by decide⟩⟩ hP hS (dk_at dkX8_add_1 6 rfl)
  · have c3 : ¬ (A ta 2) < 1600 := mt (i_lt (rb r1 (by decide) (by decide)) ⟨by decide, by decide⟩).mpr c3
    refine lv_iconst (v := iI 0) hx hb (dk_at dkX8_add_0 7 rfl) (by decide +kernel) ?_
    exact RET 0 _ _ _ _ _ ⟨(u_r_X8_add (Or.inr ⟨c3, ⟨rfl, rfl⟩⟩)), hI, fk.rf, ⟨by decide, by decide⟩⟩ hP hS (dk_at dkX8_add_0 8 rfl)

abbrev tr_r_X5_passesSign (x1 : Int) (A : St) (z : Int) (u : St) : Prop := (∃ A1 : St, q_X3_look A A1 ∧ (∃ z4 : Int, q_X3_isSign x1 A1 z4 ∧ (((¬ z4 = 0) ∧ (∃ A8 : St, q_X3_pass A1 A8 ∧ (z = 1 ∧ u = A8))) ∨ ((z4 = 0) ∧ (z = 0 ∧ u = A1)))))
def r_X5_passesSign (x1 : Int) (A : St) (z : Int) (u : St) : Prop := tr_r_X5_passesSign x1 A z u
theorem u_r_X5_passesSign {x1 : Int} {A : St} {z : Int} {u : St} (h : tr_r_X5_passesSign x1 A z u) : r_X5_passesSign x1 A z u := h
def q_X5_passesSign (x1 : Int) (A : St) (z : Int) (u : St) : Prop := r_X5_passesSign x1 A z u ∧ IK u ∧ fk [] [(5, 1), (5, 2), (5, 3), (5, 4), (5, 5), (5, 6)] A u ∧ (0 ≤ z ∧ z ≤ 1)
def ws_kc_X5_passesSign : List Cond := .code yX5_passesSign cX5_passesSign 2 (some .boolean) :: WY
set_option maxHeartbeats 4000000 in
set_option maxRecDepth 100000 in
theorem kc_X5_passesSign (l : Launch) (dC : Nat → ClassId) (dI : Nat → Nat → Nat) (cB cI cJ cZ cQ : ClassId) (aL aS : Nat) (q : Nat → Nat) (A : St) (x1 : Int) (hI : IK A) (hx1 : (0 : Int) ≤ x1 ∧ x1 ≤ 65535) : KMi l yX5_passesSign ws_kc_X5_passesSign ({ frames := 2, cells := 0, slots := 0, locals := 45 } : Room) aL aS (dC, dI) (tyA cB cI cJ cZ cQ) (WK cB cI cJ cZ cQ q) A [.ref (q 3), .int (iI x1)] (fun z u => r_X5_passesSign x1 A z u ∧ IK u ∧ fk [] [(5, 1), (5, 2), (5, 3), (5, 4), (5, 5), (5, 6)] A u ∧ (0 ≤ z ∧ z ≤ 1)) := by
  refine k_metz (cc := cX5_passesSign) (maxL := 2) WK_adr (plainFor_of_name (by decide +kernel)) rfl (Nat.le_of_ble_eq_true rfl) (fun z u h => h.2.2.2) (fun p e s m below meth c Q AS ls hx hb hml hown hts hK hDD hA0 hE RET H locs hP hS hl => ?_)
  have hown : s.vm.findClass RX5 = some m.cls := hown
  have hl : lv_has ls 2 [(0, .ref (q 3)), (1, .int (iI x1))] := hl
  have hiX5 : ∀ w ∈ u_ws RX5 TX5 5, w ∈ ws_kc_X5_passesSign := fun w h => List.mem_cons_of_mem _ (wy_layX5 w h)
  refine lv_aload_n hx hb (dk_at dkX5_passesSign_0 0 rfl) rfl (lv_at hl 0 rfl) ?_
  refine va_get (D := (dC, dI)) (ci := 5) (v := .ref (q 5)) (C := RX5) (T := TX5) (N := 5) hx hb hts hiX5 hown hK hP 3 (wkRD) rfl 0 (by decide) (hts _ (List.mem_cons_of_mem _ wkq_5_6)) (fun _ h9 => h9) rfl (dk_at dkX5_passesSign_0 1 rfl) ?_
  refine k_callv (As := []) (rest := []) ⟨hx, hb, hml, hown, hts⟩ hE (kc_X3_look l dC dI cB cI cJ cZ cQ aL aS q _ hI) (cwV 0 hts (goodVk wkq_5_22 wkq_5_23 wkq_5_24 wkq_4_10 wkq_4_2) rfl rfl rfl (by decide +kernel) ⟨Nat.le_of_ble_eq_true rfl, Nat.le_of_ble_eq_true rfl⟩) hK hDD hA0 hP hS 5 3 (wkLX) rfl rfl hl.1 (Nat.le_of_ble_eq_true rfl) (dk_at dkX5_passesSign_0 2 rfl) (fun A1 H locs hw2 hP hS => ?_)
  have ghw2 : q_X3_look A A1 := hw2
  obtain ⟨_, hI, hf3, hw2⟩ := hw2
  clear hw2
  refine lv_aload_n hx hb (dk_at dkX5_passesSign_0 3 rfl) rfl (lv_at hl 0 rfl) ?_
  refine va_get (D := (dC, dI)) (ci := 5) (v := .ref (q 5)) (C := RX5) (T := TX5) (N := 5) hx hb hts hiX5 hown hK hP 3 (wkRD) rfl 0 (by decide) (hts _ (List.mem_cons_of_mem _ wkq_5_6)) (fun _ h9 => h9) rfl (dk_at dkX5_passesSign_0 4 rfl) ?_
  refine lv_iload_n hx hb (dk_at dkX5_passesSign_0 5 rfl) rfl (lv_at hl 1 rfl) ?_
  refine k_calli (As := [.int (iI x1)]) (rest := []) ⟨hx, hb, hml, hown, hts⟩ hE (kc_X3_isSign l dC dI cB cI cJ cZ cQ aL aS q _ x1 hI hx1) (cwV 1 hts (goodVk wkq_7_46 wkq_7_47 wkq_7_48 wkq_4_10 wkq_3_59) rfl rfl rfl (by decide +kernel) ⟨Nat.le_of_ble_eq_true rfl, Nat.le_of_ble_eq_true rfl⟩) hK hDD hA0 hP hS 5 3 (wkLX) rfl rfl hl.1 (Nat.le_of_ble_eq_true rfl) (dk_at dkX5_passesSign_0 6 rfl) (fun z4 A5 H locs hw6 hP hS => ?_)
  obtain ⟨rfl, hw6⟩ := hw6
  have ghw6 : q_X3_isSign x1 A1 z4 := hw6
  have hw6 := hw6.2
  refine lv_if_ne (tgt := 20) hx hb (dk_at dkX5_passesSign_0 7 rfl) (by decide) (fun c7 => ?_) (fun c7 => ?_)
  · have c7 : ¬ z4 = 0 := mt (i_eq0 (rb hw6 (by decide) (by decide))).mpr c7
    refine lv_aload_n hx hb (dk_at dkX5_passesSign_0 10 rfl) rfl (lv_at hl 0 rfl) ?_
    refine va_get (D := (dC, dI)) (ci := 5) (v := .ref (q 5)) (C := RX5) (T := TX5) (N := 5) hx hb hts hiX5 hown hK hP 3 (wkRD) rfl 0 (by decide) (hts _ (List.mem_cons_of_mem _ wkq_5_6)) (fun _ h9 => h9) rfl (dk_at dkX5_passesSign_0 11 rfl) ?_
    refine k_callv (As := []) (rest := []) ⟨hx, hb, hml, hown, hts⟩ hE (kc_X3_pass l dC dI cB cI cJ cZ cQ aL aS q _ hI) (cwV 0 hts (goodVk wkq_5_42 wkq_5_43 wkq_5_44 wkq_4_10 wkq_3_58) rfl rfl rfl (by decide +kernel) ⟨Nat.le_of_ble_eq_true rfl, Nat.le_of_ble_eq_true rfl⟩) hK hDD hA0 hP hS 5 3 (wkLX) rfl rfl hl.1 (Nat.le_of_ble_eq_true rfl) (dk_at dkX5_passesSign_0 12 rfl) (fun A8 H locs hw9 hP hS => ?_)
    have ghw9 : q_X3_pass A1 A8 := hw9
    obtain ⟨_, hI, hf10, hw9⟩ := hw9
    clear hw9
    refine lv_iconst (v := iI 1) hx hb (dk_at dkX5_passesSign_0 13 rfl) (by decide +kernel) ?_
    exact RET 1 _ _ _ _ _ ⟨(u_r_X5_passesSign ⟨A1, ghw2, ⟨z4, ghw6, (Or.inl ⟨c7, ⟨A8, ghw9, ⟨rfl, rfl⟩⟩⟩)⟩⟩), hI, fk.trans (fk.trans (fk.rf) hf3 rfl rfl) hf10 rfl rfl, ⟨by decide, by decide⟩⟩ hP hS (dk_at dkX5_passesSign_0 14 rfl)
  · have c7 : z4 = 0 := (i_eq0 (rb hw6 (by decide) (by decide))).mp c7
    refine lv_iconst (v := iI 0) hx hb (dk_at dkX5_passesSign_0 8 rfl) (by decide +kernel) ?_
    exact RET 0 _ _ _ _ _ ⟨(u_r_X5_passesSign ⟨A1, ghw2, ⟨z4, ghw6, (Or.inr ⟨c7, ⟨rfl, rfl⟩⟩)⟩⟩), hI, fk.trans (fk.rf) hf3 rfl rfl, ⟨by decide, by decide⟩⟩ hP hS (dk_at dkX5_passesSign_0 9 rfl)

abbrev tr_r_X5_enter (A : St) (z : Int) (u : St) : Prop := ((((A 3 4) < 8) ∧ (∃ A3 : St, A3 = stA A 3 4 ((A 3 4) + 1) ∧ (z = 1 ∧ u = A3))) ∨ ((¬ (A 3 4) < 8) ∧ (∃ z5 : Int, ∃ A6 : St, q_X5_bad 5 A z5 A6 ∧ (z = z5 ∧ u = A6))))
def r_X5_enter (A : St) (z : Int) (u : St) : Prop := tr_r_X5_enter A z u
theorem u_r_X5_enter {A : St} {z : Int} {u : St} (h : tr_r_X5_enter A z u) : r_X5_enter A z u := h
def q_X5_enter (A : St) (z : Int) (u : St) : Prop := r_X5_enter A z u ∧ IK u ∧ fk [] [(3, 2), (3, 3), (3, 4)] A u ∧ ((0 ≤ z ∧ z ≤ 1) ∧ (z = 1 → u 3 4 = A 3 4 + 1 ∧ A 3 4 + 1 ≤ 8))
def ws_kc_X5_enter : List Cond := .code yX5_enter cX5_enter 1 (some .boolean) :: WY
set_option maxHeartbeats 4000000 in
set_option maxRecDepth 100000 in
theorem kc_X5_enter (l : Launch) (dC : Nat → ClassId) (dI : Nat → Nat → Nat) (cB cI cJ cZ cQ : ClassId) (aL aS : Nat) (q : Nat → Nat) (A : St) (hI : IK A) : KMi l yX5_enter ws_kc_X5_enter ({ frames := 1, cells := 0, slots := 0, locals := 21 } : Room) aL aS (dC, dI) (tyA cB cI cJ cZ cQ) (WK cB cI cJ cZ cQ q) A [.ref (q 3)] (fun z u => r_X5_enter A z u ∧ IK u ∧ fk [] [(3, 2), (3, 3), (3, 4)] A u ∧ ((0 ≤ z ∧ z ≤ 1) ∧ (z = 1 → u 3 4 = A 3 4 + 1 ∧ A 3 4 + 1 ≤ 8))) := by
  refine k_metz (cc := cX5_enter) (maxL := 1) WK_adr (plainFor_of_name (by decide +kernel)) rfl (Nat.le_of_ble_eq_true rfl) (fun z u h => h.2.2.2.1) (fun p e s m below meth c Q AS ls hx hb hml hown hts hK hDD hA0 hE RET H locs hP hS hl => ?_)
  have hown : s.vm.findClass RX5 = some m.cls := hown
  have hl : lv_has ls 1 [(0, .ref (q 3))] := hl
  have hiX5 : ∀ w ∈ u_ws RX5 TX5 5, w ∈ ws_kc_X5_enter := fun w h => List.mem_cons_of_mem _ (wy_layX5 w h)
  refine lv_aload_n hx hb (dk_at dkX5_enter_0 0 rfl) rfl (lv_at hl 0 rfl) ?_
  have r1 : (0 : Int) ≤ (A 3 4) ∧ (A 3 4) ≤ 8 := irRD_4 hI
  refine va_get (D := (dC, dI)) (ci := 5) (v := .int (iI (A 3 4))) (C := RX5) (T := TX5) (N := 5) hx hb hts hiX5 hown hK hP 3 (wkRD) rfl 4 (by decide) (hts _ (List.mem_cons_of_mem _ wkq_7_25)) (fun _ h9 => h9) rfl (dk_at dkX5_enter_0 1 rfl) ?_
  refine lv_bipush (v := iI 8) hx hb (dk_at dkX5_enter_0 2 rfl) (by decide +kernel) ?_
  refine lv_icmp_lt (tgt := 15) hx hb (dk_at dkX5_enter_0 3 rfl) (by decide) (fun c2 => ?_) (fun c2 => ?_)
  · have c2 : (A 3 4) < 8 := (i_lt (rb r1 (by decide) (by decide)) ⟨by decide, by decide⟩).mp c2
    refine lv_aload_n hx hb (dk_at dkX5_enter_0 8 rfl) rfl (lv_at hl 0 rfl) ?_
    refine lv_dup hx hb (dk_at dkX5_enter_0 9 rfl) rfl ?_
    refine va_get (D := (dC, dI)) (ci := 5) (v := .int (iI (A 3 4))) (C := RX5) (T := TX5) (N := 5) hx hb hts hiX5 hown hK hP 3 (wkRD) rfl 4 (by decide) (hts _ (List.mem_cons_of_mem _ wkq_7_25)) (fun _ h9 => h9) rfl (dk_at dkX5_enter_0 10 rfl) ?_
    refine lv_iconst (v := iI 1) hx hb (dk_at dkX5_enter_0 11 rfl) (by decide +kernel) ?_
    refine x_addv (v := (A 3 4) + 1) hx hb (dk_at dkX5_enter_0 12 rfl) (by omega) ?_
    refine k_put (Wf := WK cB cI cJ cZ cQ q) (D := (dC, dI)) (ci := 5) (v := .int (iI ((A 3 4) + 1))) (ty := .int) (C := RX5) (T := TX5) (N := 5) hx hb hts hiX5 tyX5 tyX5_ok nmX5 hown hK hP hDD hS 3 (wkRD) rfl 4 (by decide) (hts _ (List.mem_cons_of_mem _ wkq_7_25)) (fun _ h9 => h9) rfl (by decide +kernel) rfl rfl (Nat.le_of_ble_eq_true rfl) (dk_at dkX5_enter_0 13 rfl) (wfRD_4 (v := (A 3 4) + 1)) (fun H locs A3 hA3 hP hS => ?_)
    have hI := isRD_4 hA3 hI (show (0 : Int) ≤ (A 3 4) + 1 ∧ (A 3 4) + 1 ≤ 8 from (by omega))
    refine lv_iconst (v := iI 1) hx hb (dk_at dkX5_enter_0 14 rfl) (by decide +kernel) ?_
    have e4 : A3 3 4 = (A 3 4) + 1 := rd_is hA3
    exact RET 1 _ _ _ _ _ ⟨(u_r_X5_enter (Or.inl ⟨c2, ⟨A3, hA3, ⟨rfl, rfl⟩⟩⟩)), hI, fk.df (fk.rf) hA3 rfl, by omega⟩ hP hS (dk_at dkX5_enter_0 15 rfl)
  · have c2 : ¬ (A 3 4) < 8 := mt (i_lt (rb r1 (by decide) (by decide)) ⟨by decide, by decide⟩).mpr c2
    refine lv_aload_n hx hb (dk_at dkX5_enter_0 4 rfl) rfl (lv_at hl 0 rfl) ?_
    refine lv_iconst (v := iI 5) hx hb (dk_at dkX5_enter_0 5 rfl) (by decide +kernel) ?_
    refine k_calli (As := [.int (iI 5)]) (rest := []) ⟨hx, hb, hml, hown, hts⟩ hE (kc_X5_bad l dC dI cB cI cJ cZ cQ aL aS q _ 5 hI ⟨by decide, by decide⟩) (cwV 1 hts (goodVk wkq_5_37 wkq_5_38 wkq_5_39 wkq_5_28 wkq_5_40) rfl rfl rfl (by decide +kernel) ⟨Nat.le_of_ble_eq_true rfl, Nat.le_of_ble_eq_true rfl⟩) hK hDD hA0 hP hS 3 5 (wkRD) rfl rfl hl.1 (Nat.le_of_ble_eq_true rfl) (dk_at dkX5_enter_0 6 rfl) (fun z5 A6 H locs hw7 hP hS => ?_)
    have ghw7 : q_X5_bad 5 A z5 A6 := hw7
    obtain ⟨_, hI, hf8, hw7⟩ := hw7
    have rz5 : 0 ≤ z5 ∧ z5 ≤ 1 := hw7.1
    have hw7 := hw7.2
    have e9 : A6 3 4 = (A 3 4) := (hf8 3 4 rfl rfl)
    exact RET z5 _ _ _ _ _ ⟨(u_r_X5_enter (Or.inr ⟨c2, ⟨z5, A6, ghw7, ⟨rfl, rfl⟩⟩⟩)), hI, fk.trans (fk.rf) hf8 rfl rfl, by omega⟩ hP hS (dk_at dkX5_enter_0 7 rfl)

abbrev tr_r_X5_leave (A : St) (z : Int) (u : St) : Prop := (∃ A2 : St, A2 = stA A 3 4 ((A 3 4) - 1) ∧ (z = 1 ∧ u = A2))
def r_X5_leave (A : St) (z : Int) (u : St) : Prop := tr_r_X5_leave A z u
theorem u_r_X5_leave {A : St} {z : Int} {u : St} (h : tr_r_X5_leave A z u) : r_X5_leave A z u := h
def q_X5_leave (A : St) (z : Int) (u : St) : Prop := r_X5_leave A z u ∧ IK u ∧ fk [] [(3, 4)] A u ∧ ((0 ≤ z ∧ z ≤ 1) ∧ (z = 1 ∧ u 3 4 = A 3 4 - 1))
def ws_kc_X5_leave : List Cond := .code yX5_leave cX5_leave 1 (some .boolean) :: WY
set_option maxHeartbeats 4000000 in
set_option maxRecDepth 100000 in
theorem kc_X5_leave (l : Launch) (dC : Nat → ClassId) (dI : Nat → Nat → Nat) (cB cI cJ cZ cQ : ClassId) (aL aS : Nat) (q : Nat → Nat) (A : St) (hI : IK A) (hp0 : 1 ≤ A 3 4) : KMi l yX5_leave ws_kc_X5_leave ({ frames := 0, cells := 0, slots := 0, locals := 0 } : Room) aL aS (dC, dI) (tyA cB cI cJ cZ cQ) (WK cB cI cJ cZ cQ q) A [.ref (q 3)] (fun z u => r_X5_leave A z u ∧ IK u ∧ fk [] [(3, 4)] A u ∧ ((0 ≤ z ∧ z ≤ 1) ∧ (z = 1 ∧ u 3 4 = A 3 4 - 1))) := by
  refine k_metz (cc := cX5_leave) (maxL := 1) WK_adr (plainFor_of_name (by decide +kernel)) rfl (Nat.le_of_ble_eq_true rfl) (fun z u h => h.2.2.2.1) (fun p e s m below meth c Q AS ls hx hb hml hown hts hK hDD hA0 hE RET H locs hP hS hl => ?_)
  have hown : s.vm.findClass RX5 = some m.cls := hown
  have hl : lv_has ls 1 [(0, .ref (q 3))] := hl
  have hiX5 : ∀ w ∈ u_ws RX5 TX5 5, w ∈ ws_kc_X5_leave := fun w h => List.mem_cons_of_mem _ (wy_layX5 w h)
  refine lv_aload_n hx hb (dk_at dkX5_leave_0 0 rfl) rfl (lv_at hl 0 rfl) ?_
  refine lv_dup hx hb (dk_at dkX5_leave_0 1 rfl) rfl ?_
  have r1 : (0 : Int) ≤ (A 3 4) ∧ (A 3 4) ≤ 8 := irRD_4 hI
  refine va_get (D := (dC, dI)) (ci := 5) (v := .int (iI (A 3 4))) (C := RX5) (T := TX5) (N := 5) hx hb hts hiX5 hown hK hP 3 (wkRD) rfl 4 (by decide) (hts _ (List.mem_cons_of_mem _ wkq_7_25)) (fun _ h9 => h9) rfl (dk_at dkX5_leave_0 2 rfl) ?_
  refine lv_iconst (v := iI 1) hx hb (dk_at dkX5_leave_0 3 rfl) (by decide +kernel) ?_
  refine x_subv (v := (A 3 4) - 1) hx hb (dk_at dkX5_leave_0 4 rfl) (by omega) ?_
  refine k_put (Wf := WK cB cI cJ cZ cQ q) (D := (dC, dI)) (ci := 5) (v := .int (iI ((A 3 4) - 1))) (ty := .int) (C := RX5) (T := TX5) (N := 5) hx hb hts hiX5 tyX5 tyX5_ok nmX5 hown hK hP hDD hS 3 (wkRD) rfl 4 (by decide) (hts _ (List.mem_cons_of_mem _ wkq_7_25)) (fun _ h9 => h9) rfl (by decide +kernel) rfl rfl (Nat.le_of_ble_eq_true rfl) (dk_at dkX5_leave_0 5 rfl) (wfRD_4 (v := (A 3 4) - 1)) (fun H locs A2 hA2 hP hS => ?_)
  have hI := isRD_4 hA2 hI (show (0 : Int) ≤ (A 3 4) - 1 ∧ (A 3 4) - 1 ≤ 8 from (by omega))
  refine lv_iconst (v := iI 1) hx hb (dk_at dkX5_leave_0 6 rfl) (by decide +kernel) ?_
  have e3 : A2 3 4 = (A 3 4) - 1 := rd_is hA2
  exact RET 1 _ _ _ _ _ ⟨(u_r_X5_leave ⟨A2, hA2, ⟨rfl, rfl⟩⟩), hI, fk.df (fk.rf) hA2 rfl, by omega⟩ hP hS (dk_at dkX5_leave_0 7 rfl)

abbrev tr_r_X5_comparisonSign (A : St) (z : Int) (u : St) : Prop := (∃ A1 : St, q_X3_look A A1 ∧ (∃ z4 : Int, q_X3_isSign 60 A1 z4 ∧ (((z4 = 0) ∧ (∃ z8 : Int, q_X3_isSign 62 A1 z8 ∧ (((z8 = 0) ∧ (∃ z12 : Int, q_X3_isSign 61 A1 z12 ∧ (((z12 = 0) ∧ (∃ z16 : Int, ∃ A17 : St, q_X5_bad 1 A1 z16 A17 ∧ (∃ A20 : St, q_X3_pass A17 A20 ∧ (z = (-1) ∧ u = A20)))) ∨ ((¬ z12 = 0) ∧ (∃ A23 : St, q_X3_pass A1 A23 ∧ (z = (-11) ∧ u = A23)))))) ∨ ((¬ z8 = 0) ∧ (∃ A26 : St, q_X3_pass A1 A26 ∧ (z = (-10) ∧ u = A26)))))) ∨ ((¬ z4 = 0) ∧ (∃ A29 : St, q_X3_pass A1 A29 ∧ (z = (-9) ∧ u = A29))))))
def r_X5_comparisonSign (A : St) (z : Int) (u : St) : Prop := tr_r_X5_comparisonSign A z u
theorem u_r_X5_comparisonSign {A : St} {z : Int} {u : St} (h : tr_r_X5_comparisonSign A z u) : r_X5_comparisonSign A z u := h
def q_X5_comparisonSign (A : St) (z : Int) (u : St) : Prop := r_X5_comparisonSign A z u ∧ IK u ∧ fk [] [(3, 2), (3, 3), (5, 1), (5, 2), (5, 3), (5, 4), (5, 5), (5, 6)] A u ∧ (-2147483648 ≤ z ∧ z ≤ 2147483647)
def ws_kc_X5_comparisonSign : List Cond := .code yX5_comparisonSign cX5_comparisonSign 2 (some .int) :: WY
set_option maxHeartbeats 4000000 in
set_option maxRecDepth 100000 in
theorem kc_X5_comparisonSign (l : Launch) (dC : Nat → ClassId) (dI : Nat → Nat → Nat) (cB cI cJ cZ cQ : ClassId) (aL aS : Nat) (q : Nat → Nat) (A : St) (hI : IK A) : KMi l yX5_comparisonSign ws_kc_X5_comparisonSign ({ frames := 2, cells := 0, slots := 0, locals := 45 } : Room) aL aS (dC, dI) (tyA cB cI cJ cZ cQ) (WK cB cI cJ cZ cQ q) A [.ref (q 3)] (fun z u => r_X5_comparisonSign A z u ∧ IK u ∧ fk [] [(3, 2), (3, 3), (5, 1), (5, 2), (5, 3), (5, 4), (5, 5), (5, 6)] A u ∧ (-2147483648 ≤ z ∧ z ≤ 2147483647)) := by
  refine k_meti (cc := cX5_comparisonSign) (maxL := 2) WK_adr (plainFor_of_name (by decide +kernel)) rfl (Nat.le_of_ble_eq_true rfl) (fun p e s m below meth c Q AS ls hx hb hml hown hts hK hDD hA0 hE RET H locs hP hS hl => ?_)
  have hown : s.vm.findClass RX5 = some m.cls := hown
  have hl : lv_has ls 2 [(0, .ref (q 3))] := hl
  have hiX5 : ∀ w ∈ u_ws RX5 TX5 5, w ∈ ws_kc_X5_comparisonSign := fun w h => List.mem_cons_of_mem _ (wy_layX5 w h)
  refine lv_aload_n hx hb (dk_at dkX5_comparisonSign_0 0 rfl) rfl (lv_at hl 0 rfl) ?_
  refine va_get (D := (dC, dI)) (ci := 5) (v := .ref (q 5)) (C := RX5) (T := TX5) (N := 5) hx hb hts hiX5 hown hK hP 3 (wkRD) rfl 0 (by decide) (hts _ (List.mem_cons_of_mem _ wkq_5_6)) (fun _ h9 => h9) rfl (dk_at dkX5_comparisonSign_0 1 rfl) ?_
  refine k_callv (As := []) (rest := []) ⟨hx, hb, hml, hown, hts⟩ hE (kc_X3_look l dC dI cB cI cJ cZ cQ aL aS q _ hI) (cwV 0 hts (goodVk wkq_5_22 wkq_5_23 wkq_5_24 wkq_4_10 wkq_4_2) rfl rfl rfl (by decide +kernel) ⟨Nat.le_of_ble_eq_true rfl, Nat.le_of_ble_eq_true rfl⟩) hK hDD hA0 hP hS 5 3 (wkLX) rfl rfl hl.1 (Nat.le_of_ble_eq_true rfl) (dk_at dkX5_comparisonSign_0 2 rfl) (fun A1 H locs hw2 hP hS => ?_)
  have ghw2 : q_X3_look A A1 := hw2
  obtain ⟨_, hI, hf3, hw2⟩ := hw2
  clear hw2
  refine lv_iconst (v := iI (-1)) hx hb (dk_at dkX5_comparisonSign_0 3 rfl) (by decide +kernel) ?_
  refine lv_istore_n (lv' := [(1, .int (iI (-1))), (0, .ref (q 3))]) hx hb (dk_at dkX5_comparisonSign_0 4 rfl) rfl hl (by decide) rfl (fun ls hl => ?_)
  refine lv_aload_n hx hb (dk_at dkX5_comparisonSign_0 5 rfl) rfl (lv_at hl 1 rfl) ?_
  refine va_get (D := (dC, dI)) (ci := 5) (v := .ref (q 5)) (C := RX5) (T := TX5) (N := 5) hx hb hts hiX5 hown hK hP 3 (wkRD) rfl 0 (by decide) (hts _ (List.mem_cons_of_mem _ wkq_5_6)) (fun _ h9 => h9) rfl (dk_at dkX5_comparisonSign_0 6 rfl) ?_
  refine lv_bipush (v := iI 60) hx hb (dk_at dkX5_comparisonSign_0 7 rfl) (by decide +kernel) ?_
  refine k_calli (As := [.int (iI 60)]) (rest := []) ⟨hx, hb, hml, hown, hts⟩ hE (kc_X3_isSign l dC dI cB cI cJ cZ cQ aL aS q _ 60 hI ⟨by decide, by decide⟩) (cwV 1 hts (goodVk wkq_7_46 wkq_7_47 wkq_7_48 wkq_4_10 wkq_3_59) rfl rfl rfl (by decide +kernel) ⟨Nat.le_of_ble_eq_true rfl, Nat.le_of_ble_eq_true rfl⟩) hK hDD hA0 hP hS 5 3 (wkLX) rfl rfl hl.1 (Nat.le_of_ble_eq_true rfl) (dk_at dkX5_comparisonSign_0 8 rfl) (fun z4 A5 H locs hw6 hP hS => ?_)
  obtain ⟨rfl, hw6⟩ := hw6
  have ghw6 : q_X3_isSign 60 A1 z4 := hw6
  have hw6 := hw6.2
  refine lv_if_eq (tgt := 27) hx hb (dk_at dkX5_comparisonSign_0 9 rfl) (by decide) (fun c7 => ?_) (fun c7 => ?_)
  · have c7 : z4 = 0 := (i_eq0 (rb hw6 (by decide) (by decide))).mp c7
    refine lv_aload_n hx hb (dk_at dkX5_comparisonSign_0 13 rfl) rfl (lv_at hl 1 rfl) ?_
    refine va_get (D := (dC, dI)) (ci := 5) (v := .ref (q 5)) (C := RX5) (T := TX5) (N := 5) hx hb hts hiX5 hown hK hP 3 (wkRD) rfl 0 (by decide) (hts _ (List.mem_cons_of_mem _ wkq_5_6)) (fun _ h9 => h9) rfl (dk_at dkX5_comparisonSign_0 14 rfl) ?_
    refine lv_bipush (v := iI 62) hx hb (dk_at dkX5_comparisonSign_0 15 rfl) (by decide +kernel) ?_
    refine k_calli (As := [.int (iI 62)]) (rest := []) ⟨hx, hb, hml, hown, hts⟩ hE (kc_X3_isSign l dC dI cB cI cJ cZ cQ aL aS q _ 62 hI ⟨by decide, by decide⟩) (cwV 1 hts (goodVk wkq_7_46 wkq_7_47 wkq_7_48 wkq_4_10 wkq_3_59) rfl rfl rfl (by decide +kernel) ⟨Nat.le_of_ble_eq_true rfl, Nat.le_of_ble_eq_true rfl⟩) hK hDD hA0 hP hS 5 3 (wkLX) rfl rfl hl.1 (Nat.le_of_ble_eq_true rfl) (dk_at dkX5_comparisonSign_1 0 rfl) (fun z8 A9 H locs hw10 hP hS => ?_)
    obtain ⟨rfl, hw10⟩ := hw10
    have ghw10 : q_X3_isSign 62 A1 z8 := hw10
    have hw10 := hw10.2
    refine lv_if_eq (tgt := 45) hx hb (dk_at dkX5_comparisonSign_1 1 rfl) (by decide) (fun c11 => ?_) (fun c11 => ?_)
    · have c11 : z8 = 0 := (i_eq0 (rb hw10 (by decide) (by decide))).mp c11
      refine lv_aload_n hx hb (dk_at dkX5_comparisonSign_1 5 rfl) rfl (lv_at hl 1 rfl) ?_
      refine va_get (D := (dC, dI)) (ci := 5) (v := .ref (q 5)) (C := RX5) (T := TX5) (N := 5) hx hb hts hiX5 hown hK hP 3 (wkRD) rfl 0 (by decide) (hts _ (List.mem_cons_of_mem _ wkq_5_6)) (fun _ h9 => h9) rfl (dk_at dkX5_comparisonSign_1 6 rfl) ?_
      refine lv_bipush (v := iI 61) hx hb (dk_at dkX5_comparisonSign_1 7 rfl) (by decide +kernel) ?_
      refine k_calli (As := [.int (iI 61)]) (rest := []) ⟨hx, hb, hml, hown, hts⟩ hE (kc_X3_isSign l dC dI cB cI cJ cZ cQ aL aS q _ 61 hI ⟨by decide, by decide⟩) (cwV 1 hts (goodVk wkq_7_46 wkq_7_47 wkq_7_48 wkq_4_10 wkq_3_59) rfl rfl rfl (by decide +kernel) ⟨Nat.le_of_ble_eq_true rfl, Nat.le_of_ble_eq_true rfl⟩) hK hDD hA0 hP hS 5 3 (wkLX) rfl rfl hl.1 (Nat.le_of_ble_eq_true rfl) (dk_at dkX5_comparisonSign_1 8 rfl) (fun z12 A13 H locs hw14 hP hS => ?_)
      obtain ⟨rfl, hw14⟩ := hw14
      have ghw14 : q_X3_isSign 61 A1 z12 := hw14
      have hw14 := hw14.2
      refine lv_if_eq (tgt := 63) hx hb (dk_at dkX5_comparisonSign_1 9 rfl) (by decide) (fun c15 => ?_) (fun c15 => ?_)
      · have c15 : z12 = 0 := (i_eq0 (rb hw14 (by decide) (by decide))).mp c15
        refine lv_aload_n hx hb (dk_at dkX5_comparisonSign_1 13 rfl) rfl (lv_at hl 1 rfl) ?_
        refine lv_iconst (v := iI 1) hx hb (dk_at dkX5_comparisonSign_1 14 rfl) (by decide +kernel) ?_
        refine k_calli (As := [.int (iI 1)]) (rest := []) ⟨hx, hb, hml, hown, hts⟩ hE (kc_X5_bad l dC dI cB cI cJ cZ cQ aL aS q _ 1 hI ⟨by decide, by decide⟩) (cwV 1 hts (goodVk wkq_5_37 wkq_5_38 wkq_5_39 wkq_5_28 wkq_5_40) rfl rfl rfl (by decide +kernel) ⟨Nat.le_of_ble_eq_true rfl, Nat.le_of_ble_eq_true rfl⟩) hK hDD hA0 hP hS 3 5 (wkRD) rfl rfl hl.1 (Nat.le_of_ble_eq_true rfl) (dk_at dkX5_comparisonSign_1 15 rfl) (fun z16 A17 H locs hw18 hP hS => ?_)
        have ghw18 : q_X5_bad 1 A1 z16 A17 := hw18
        obtain ⟨_, hI, hf19, hw18⟩ := hw18
        have rz16 : 0 ≤ z16 ∧ z16 ≤ 1 := hw18.1
        have hw18 := hw18.2
        refine lv_pop hx hb (dk_at dkX5_comparisonSign_2 0 rfl) rfl ?_
        refine lv_aload_n hx hb (dk_at dkX5_comparisonSign_2 1 rfl) rfl (lv_at hl 1 rfl) ?_
        refine va_get (D := (dC, dI)) (ci := 5) (v := .ref (q 5)) (C := RX5) (T := TX5) (N := 5) hx hb hts hiX5 hown hK hP 3 (wkRD) rfl 0 (by decide) (hts _ (List.mem_cons_of_mem _ wkq_5_6)) (fun _ h9 => h9) rfl (dk_at dkX5_comparisonSign_2 2 rfl) ?_
        refine k_callv (As := []) (rest := []) ⟨hx, hb, hml, hown, hts⟩ hE (kc_X3_pass l dC dI cB cI cJ cZ cQ aL aS q _ hI) (cwV 0 hts (goodVk wkq_5_42 wkq_5_43 wkq_5_44 wkq_4_10 wkq_3_58) rfl rfl rfl (by decide +kernel) ⟨Nat.le_of_ble_eq_true rfl, Nat.le_of_ble_eq_true rfl⟩) hK hDD hA0 hP hS 5 3 (wkLX) rfl rfl hl.1 (Nat.le_of_ble_eq_true rfl) (dk_at dkX5_comparisonSign_2 3 rfl) (fun A20 H locs hw21 hP hS => ?_)
        have ghw21 : q_X3_pass A17 A20 := hw21
        obtain ⟨_, hI, hf22, hw21⟩ := hw21
        clear hw21
        refine lv_iload_n hx hb (dk_at dkX5_comparisonSign_2 4 rfl) rfl (lv_at hl 0 rfl) ?_
        exact RET (-1) _ _ _ _ _ ⟨(u_r_X5_comparisonSign ⟨A1, ghw2, ⟨z4, ghw6, (Or.inl ⟨c7, ⟨z8, ghw10, (Or.inl ⟨c11, ⟨z12, ghw14, (Or.inl ⟨c15, ⟨z16, A17, ghw18, ⟨A20, ghw21, ⟨rfl, rfl⟩⟩⟩⟩)⟩⟩)⟩⟩)⟩⟩), hI, fk.trans (fk.trans (fk.trans (fk.rf) hf3 rfl rfl) hf19 rfl rfl) hf22 rfl rfl, ⟨by decide, by decide⟩⟩ hP hS (dk_at dkX5_comparisonSign_2 5 rfl)
      · have c15 : ¬ z12 = 0 := mt (i_eq0 (rb hw14 (by decide) (by decide))).mpr c15
        refine lv_bipush (v := iI (-11)) hx hb (dk_at dkX5_comparisonSign_1 10 rfl) (by decide +kernel) ?_
        refine lv_istore_n (lv' := [(1, .int (iI (-11))), (0, .ref (q 3))]) hx hb (dk_at dkX5_comparisonSign_1 11 rfl) rfl hl (by decide) rfl (fun ls hl => ?_)
        refine lv_goto (tgt := 69) hx hb (dk_at dkX5_comparisonSign_1 12 rfl) (by decide) ?_
        refine lv_aload_n hx hb (dk_at dkX5_comparisonSign_2 1 rfl) rfl (lv_at hl 1 rfl) ?_
        refine va_get (D := (dC, dI)) (ci := 5) (v := .ref (q 5)) (C := RX5) (T := TX5) (N := 5) hx hb hts hiX5 hown hK hP 3 (wkRD) rfl 0 (by decide) (hts _ (List.mem_cons_of_mem _ wkq_5_6)) (fun _ h9 => h9) rfl (dk_at dkX5_comparisonSign_2 2 rfl) ?_
        refine k_callv (As := []) (rest := []) ⟨hx, hb, hml, hown, hts⟩ hE (kc_X3_pass l dC dI cB cI cJ cZ cQ aL aS q _ hI) (cwV 0 hts (goodVk wkq_5_42 wkq_5_43 wkq_5_44 wkq_4_10 wkq_3_58) rfl rfl rfl (by decide +kernel) ⟨Nat.le_of_ble_eq_true rfl, Nat.le_of_ble_eq_true rfl⟩) hK hDD hA0 hP hS 5 3 (wkLX) rfl rfl hl.1 (Nat.le_of_ble_eq_true rfl) (dk_at dkX5_comparisonSign_2 3 rfl) (fun A23 H locs hw24 hP hS => ?_)
        have ghw24 : q_X3_pass A1 A23 := hw24
        obtain ⟨_, hI, hf25, hw24⟩ := hw24
        clear hw24
        refine lv_iload_n hx hb (dk_at dkX5_comparisonSign_2 4 rfl) rfl (lv_at hl 0 rfl) ?_
        exact RET (-11) _ _ _ _ _ ⟨(u_r_X5_comparisonSign ⟨A1, ghw2, ⟨z4, ghw6, (Or.inl ⟨c7, ⟨z8, ghw10, (Or.inl ⟨c11, ⟨z12, ghw14, (Or.inr ⟨c15, ⟨A23, ghw24, ⟨rfl, rfl⟩⟩⟩)⟩⟩)⟩⟩)⟩⟩), hI, fk.trans (fk.trans (fk.rf) hf3 rfl rfl) hf25 rfl rfl, ⟨by decide, by decide⟩⟩ hP hS (dk_at dkX5_comparisonSign_2 5 rfl)
    · have c11 : ¬ z8 = 0 := mt (i_eq0 (rb hw10 (by decide) (by decide))).mpr c11
      refine lv_bipush (v := iI (-10)) hx hb (dk_at dkX5_comparisonSign_1 2 rfl) (by decide +kernel) ?_
      refine lv_istore_n (lv' := [(1, .int (iI (-10))), (0, .ref (q 3))]) hx hb (dk_at dkX5_comparisonSign_1 3 rfl) rfl hl (by decide) rfl (fun ls hl => ?_)
      refine lv_goto (tgt := 69) hx hb (dk_at dkX5_comparisonSign_1 4 rfl) (by decide) ?_
      refine lv_aload_n hx hb (dk_at dkX5_comparisonSign_2 1 rfl) rfl (lv_at hl 1 rfl) ?_
      refine va_get (D := (dC, dI)) (ci := 5) (v := .ref (q 5)) (C := RX5) (T := TX5) (N := 5) hx hb hts hiX5 hown hK hP 3 (wkRD) rfl 0 (by decide) (hts _ (List.mem_cons_of_mem _ wkq_5_6)) (fun _ h9 => h9) rfl (dk_at dkX5_comparisonSign_2 2 rfl) ?_
      refine k_callv (As := []) (rest := []) ⟨hx, hb, hml, hown, hts⟩ hE (kc_X3_pass l dC dI cB cI cJ cZ cQ aL aS q _ hI) (cwV 0 hts (goodVk wkq_5_42 wkq_5_43 wkq_5_44 wkq_4_10 wkq_3_58) rfl rfl rfl (by decide +kernel) ⟨Nat.le_of_ble_eq_true rfl, Nat.le_of_ble_eq_true rfl⟩) hK hDD hA0 hP hS 5 3 (wkLX) rfl rfl hl.1 (Nat.le_of_ble_eq_true rfl) (dk_at dkX5_comparisonSign_2 3 rfl) (fun A26 H locs hw27 hP hS => ?_)
      have ghw27 : q_X3_pass A1 A26 := hw27
      obtain ⟨_, hI, hf28, hw27⟩ := hw27
      clear hw27
      refine lv_iload_n hx hb (dk_at dkX5_comparisonSign_2 4 rfl) rfl (lv_at hl 0 rfl) ?_
      exact RET (-10) _ _ _ _ _ ⟨(u_r_X5_comparisonSign ⟨A1, ghw2, ⟨z4, ghw6, (Or.inl ⟨c7, ⟨z8, ghw10, (Or.inr ⟨c11, ⟨A26, ghw27, ⟨rfl, rfl⟩⟩⟩)⟩⟩)⟩⟩), hI, fk.trans (fk.trans (fk.rf) hf3 rfl rfl) hf28 rfl rfl, ⟨by decide, by decide⟩⟩ hP hS (dk_at dkX5_comparisonSign_2 5 rfl)
  · have c7 : ¬ z4 = 0 := mt (i_eq0 (rb hw6 (by decide) (by decide))).mpr c7
    refine lv_bipush (v := iI (-9)) hx hb (dk_at dkX5_comparisonSign_0 10 rfl) (by decide +kernel) ?_
    refine lv_istore_n (lv' := [(1, .int (iI (-9))), (0, .ref (q 3))]) hx hb (dk_at dkX5_comparisonSign_0 11 rfl) rfl hl (by decide) rfl (fun ls hl => ?_)
    refine lv_goto (tgt := 69) hx hb (dk_at dkX5_comparisonSign_0 12 rfl) (by decide) ?_
    refine lv_aload_n hx hb (dk_at dkX5_comparisonSign_2 1 rfl) rfl (lv_at hl 1 rfl) ?_
    refine va_get (D := (dC, dI)) (ci := 5) (v := .ref (q 5)) (C := RX5) (T := TX5) (N := 5) hx hb hts hiX5 hown hK hP 3 (wkRD) rfl 0 (by decide) (hts _ (List.mem_cons_of_mem _ wkq_5_6)) (fun _ h9 => h9) rfl (dk_at dkX5_comparisonSign_2 2 rfl) ?_
    refine k_callv (As := []) (rest := []) ⟨hx, hb, hml, hown, hts⟩ hE (kc_X3_pass l dC dI cB cI cJ cZ cQ aL aS q _ hI) (cwV 0 hts (goodVk wkq_5_42 wkq_5_43 wkq_5_44 wkq_4_10 wkq_3_58) rfl rfl rfl (by decide +kernel) ⟨Nat.le_of_ble_eq_true rfl, Nat.le_of_ble_eq_true rfl⟩) hK hDD hA0 hP hS 5 3 (wkLX) rfl rfl hl.1 (Nat.le_of_ble_eq_true rfl) (dk_at dkX5_comparisonSign_2 3 rfl) (fun A29 H locs hw30 hP hS => ?_)
    have ghw30 : q_X3_pass A1 A29 := hw30
    obtain ⟨_, hI, hf31, hw30⟩ := hw30
    clear hw30
    refine lv_iload_n hx hb (dk_at dkX5_comparisonSign_2 4 rfl) rfl (lv_at hl 0 rfl) ?_
    exact RET (-9) _ _ _ _ _ ⟨(u_r_X5_comparisonSign ⟨A1, ghw2, ⟨z4, ghw6, (Or.inr ⟨c7, ⟨A29, ghw30, ⟨rfl, rfl⟩⟩⟩)⟩⟩), hI, fk.trans (fk.trans (fk.rf) hf3 rfl rfl) hf31 rfl rfl, ⟨by decide, by decide⟩⟩ hP hS (dk_at dkX5_comparisonSign_2 5 rfl)

abbrev tr_r_X9_addBar (ta : Nat) (x1 : Int) (x2 : Int) (x3 : Int) (A : St) (z : Int) (u : St) : Prop := (∃ z1 : Int, z1 = A (ta + 1) (7 : Int).toNat ∧ (((z1 < 6) ∧ (∃ A4 : St, A4 = stA A (ta + 16) (z1).toNat x1 ∧ (∃ A5 : St, A5 = stA A4 (ta + 17) (z1).toNat x2 ∧ (∃ A6 : St, A6 = stA A5 (ta + 18) (z1).toNat x3 ∧ (∃ A11 : St, A11 = stA A6 (ta + 1) (7 : Int).toNat (z1 + 1) ∧ (z = 1 ∧ u = A11)))))) ∨ ((¬ z1 < 6) ∧ (z = 0 ∧ u = A))))
def r_X9_addBar (ta : Nat) (x1 : Int) (x2 : Int) (x3 : Int) (A : St) (z : Int) (u : St) : Prop := tr_r_X9_addBar ta x1 x2 x3 A z u
theorem u_r_X9_addBar {ta : Nat} {x1 : Int} {x2 : Int} {x3 : Int} {A : St} {z : Int} {u : St} (h : tr_r_X9_addBar ta x1 x2 x3 A z u) : r_X9_addBar ta x1 x2 x3 A z u := h
def q_X9_addBar (ta : Nat) (x1 : Int) (x2 : Int) (x3 : Int) (A : St) (z : Int) (u : St) : Prop := r_X9_addBar ta x1 x2 x3 A z u ∧ IK u ∧ fk [52, 67, 68, 69, 83, 98, 99, 100] [] A u ∧ (0 ≤ z ∧ z ≤ 1)
def ws_kc_X9_addBar : List Cond := .code yX9_addBar cX9_addBar 5 (some .boolean) :: WY
set_option maxHeartbeats 4000000 in
set_option maxRecDepth 100000 in
theorem kc_X9_addBar (l : Launch) (dC : Nat → ClassId) (dI : Nat → Nat → Nat) (cB cI cJ cZ cQ : ClassId) (aL aS : Nat) (q : Nat → Nat) (A : St) (ta : Nat) (x1 x2 x3 : Int) (hI : IK A) (hta : isT ta) (hx1 : (-2147483648 : Int) ≤ x1 ∧ x1 ≤ 2147483647) (hx2 : (-2147483648 : Int) ≤ x2 ∧ x2 ≤ 2147483647) (hx3 : (-2147483648 : Int) ≤ x3 ∧ x3 ≤ 2147483647) : KMi l yX9_addBar ws_kc_X9_addBar ({ frames := 0, cells := 0, slots := 0, locals := 0 } : Room) aL aS (dC, dI) (tyA cB cI cJ cZ cQ) (WK cB cI cJ cZ cQ q) A [.ref (q ta), .int (iI x1), .int (iI x2), .int (iI x3)] (fun z u => r_X9_addBar ta x1 x2 x3 A z u ∧ IK u ∧ fk [52, 67, 68, 69, 83, 98, 99, 100] [] A u ∧ (0 ≤ z ∧ z ≤ 1)) := by
  refine k_metz (cc := cX9_addBar) (maxL := 5) WK_adr (plainFor_of_name (by decide +kernel)) rfl (Nat.le_of_ble_eq_true rfl) (fun z u h => h.2.2.2) (fun p e s m below meth c Q AS ls hx hb hml hown hts hK hDD hA0 hE RET H locs hP hS hl => ?_)
  have hown : s.vm.findClass RX9 = some m.cls := hown
  have hl : lv_has ls 5 [(0, .ref (q ta)), (1, .int (iI x1)), (2, .int (iI x2)), (3, .int (iI x3))] := hl
  have hiX9 : ∀ w ∈ u_ws RX9 TX9 16, w ∈ ws_kc_X9_addBar := fun w h => List.mem_cons_of_mem _ (wy_layX9 w h)
  refine lv_aload_n hx hb (dk_at dkX9_addBar_0 0 rfl) rfl (lv_at hl 0 rfl) ?_
  refine va_get (D := (dC, dI)) (ci := 9) (v := .ref (q (ta + 1))) (C := RX9) (T := TX9) (N := 16) hx hb hts hiX9 hown hK hP ta (wkT hta) rfl 0 (by decide) (hts _ (List.mem_cons_of_mem _ wkq_0_8)) (fun _ h9 => h9) rfl (dk_at dkX9_addBar_0 1 rfl) ?_
  refine lv_bipush (v := iI 7) hx hb (dk_at dkX9_addBar_0 2 rfl) (by decide +kernel) ?_
  refine x_iald (Wf := WK cB cI cJ cZ cQ q) hx hb hK hP (ta + 1) 1 (wkTc hta) rfl (by decide) (by decide) (dk_at dkX9_addBar_0 3 rfl) (fun z1 hz1 => ?_)
  have rz1 : (0 : Int) ≤ z1 ∧ z1 ≤ 6 := by rw [hz1]; exact irTc7 hta hI
  have gz1 := Hd.mk hz1
  refine lv_istore (lv' := [(4, .int (iI z1)), (0, .ref (q ta)), (1, .int (iI x1)), (2, .int (iI x2)), (3, .int (iI x3))]) hx hb (dk_at dkX9_addBar_0 4 rfl) hl (by decide) rfl (fun ls hl => ?_)
  refine lv_iload hx hb (dk_at dkX9_addBar_0 5 rfl) (lv_at hl 0 rfl) ?_
  refine lv_if_lt (tgt := 21) hx hb (dk_at dkX9_addBar_0 6 rfl) (by decide) (fun c2 => False.elim (by have c2 : z1 < 0 := (i_lt0 (rb rz1 (by decide) (by decide))).mp c2; omega)) (fun _ => ?_)
  refine lv_iload hx hb (dk_at dkX9_addBar_0 7 rfl) (lv_at hl 0 rfl) ?_
  refine lv_bipush (v := iI 6) hx hb (dk_at dkX9_addBar_0 8 rfl) (by decide +kernel) ?_
  refine lv_icmp_lt (tgt := 23) hx hb (dk_at dkX9_addBar_0 9 rfl) (by decide) (fun c3 => ?_) (fun c3 => ?_)
  · have c3 : z1 < 6 := (i_lt (rb rz1 (by decide) (by decide)) ⟨by decide, by decide⟩).mp c3
    refine lv_aload_n hx hb (dk_at dkX9_addBar_0 12 rfl) rfl (lv_at hl 1 rfl) ?_
    refine va_get (D := (dC, dI)) (ci := 9) (v := .ref (q (ta + 16))) (C := RX9) (T := TX9) (N := 16) hx hb hts hiX9 hown hK hP ta (wkT hta) rfl 10 (by decide) (hts _ (List.mem_cons_of_mem _ wkq_8_25)) (fun _ h9 => h9) rfl (dk_at dkX9_addBar_0 13 rfl) ?_
    refine lv_iload hx hb (dk_at dkX9_addBar_0 14 rfl) (lv_at hl 0 rfl) ?_
    refine lv_iload_n hx hb (dk_at dkX9_addBar_0 15 rfl) rfl (lv_at hl 2 rfl) ?_
    refine k_iast (Wf := WK cB cI cJ cZ cQ q) hx hb hK hP hDD hS (ta + 16) 1 (wkTbd hta) rfl (by omega) (by decide) (dk_at dkX9_addBar_1 0 rfl) (wsTbd hta) (fun H locs A4 hA4 hP hS => ?_)
    have hI := isTbd hta hA4 hI (show (-2147483648 : Int) ≤ x1 ∧ x1 ≤ 2147483647 from hx1)
    refine lv_aload_n hx hb (dk_at dkX9_addBar_1 1 rfl) rfl (lv_at hl 1 rfl) ?_
    refine va_get (D := (dC, dI)) (ci := 9) (v := .ref (q (ta + 17))) (C := RX9) (T := TX9) (N := 16) hx hb hts hiX9 hown hK hP ta (wkT hta) rfl 11 (by decide) (hts _ (List.mem_cons_of_mem _ wkq_8_26)) (fun _ h9 => h9) rfl (dk_at dkX9_addBar_1 2 rfl) ?_
    refine lv_iload hx hb (dk_at dkX9_addBar_1 3 rfl) (lv_at hl 0 rfl) ?_
    refine lv_iload_n hx hb (dk_at dkX9_addBar_1 4 rfl) rfl (lv_at hl 3 rfl) ?_
    refine k_iast (Wf := WK cB cI cJ cZ cQ q) hx hb hK hP hDD hS (ta + 17) 1 (wkTbf hta) rfl (by omega) (by decide) (dk_at dkX9_addBar_1 5 rfl) (wsTbf hta) (fun H locs A5 hA5 hP hS => ?_)
    have hI := isTbf hta hA5 hI (show (-2147483648 : Int) ≤ x2 ∧ x2 ≤ 2147483647 from hx2)
    refine lv_aload_n hx hb (dk_at dkX9_addBar_1 6 rfl) rfl (lv_at hl 1 rfl) ?_
    refine va_get (D := (dC, dI)) (ci := 9) (v := .ref (q (ta + 18))) (C := RX9) (T := TX9) (N := 16) hx hb hts hiX9 hown hK hP ta (wkT hta) rfl 12 (by decide) (hts _ (List.mem_cons_of_mem _ wkq_8_27)) (fun _ h9 => h9) rfl (dk_at dkX9_addBar_1 7 rfl) ?_
    refine lv_iload hx hb (dk_at dkX9_addBar_1 8 rfl) (lv_at hl 0 rfl) ?_
    refine lv_iload_n hx hb (dk_at dkX9_addBar_1 9 rfl) rfl (lv_at hl 4 rfl) ?_
    refine k_iast (Wf := WK cB cI cJ cZ cQ q) hx hb hK hP hDD hS (ta + 18) 1 (wkTbt hta) rfl (by omega) (by decide) (dk_at dkX9_addBar_1 10 rfl) (wsTbt hta) (fun H locs A6 hA6 hP hS => ?_)
    have hI := isTbt hta hA6 hI (show (-2147483648 : Int) ≤ x3 ∧ x3 ≤ 2147483647 from hx3)
    refine lv_aload_n hx hb (dk_at dkX9_addBar_1 11 rfl) rfl (lv_at hl 1 rfl) ?_
    refine va_get (D := (dC, dI)) (ci := 9) (v := .ref (q (ta + 1))) (C := RX9) (T := TX9) (N := 16) hx hb hts hiX9 hown hK hP ta (wkT hta) rfl 0 (by decide) (hts _ (List.mem_cons_of_mem _ wkq_0_8)) (fun _ h9 => h9) rfl (dk_at dkX9_addBar_1 12 rfl) ?_
    refine lv_bipush (v := iI 7) hx hb (dk_at dkX9_addBar_1 13 rfl) (by decide +kernel) ?_
    refine lv_dup2_11 hx hb (dk_at dkX9_addBar_1 14 rfl) rfl rfl ?_
    have a9 : ∀ k, A4 (ta + 1) k = A (ta + 1) k := fun k => rd_ne hA4 (by omega) k
    have a8 : ∀ k, A5 (ta + 1) k = A (ta + 1) k := fun k => (rd_ne hA5 (by omega) k).trans (a9 k)
    have a7 : ∀ k, A6 (ta + 1) k = A (ta + 1) k := fun k => (rd_ne hA6 (by omega) k).trans (a8 k)
    refine x_iald (Wf := WK cB cI cJ cZ cQ q) hx hb hK hP (ta + 1) 1 (wkTc hta) rfl (by decide) (by decide) (dk_at dkX9_addBar_1 15 rfl) (fun z10 hz10 => ?_)
    have rz10 : (0 : Int) ≤ z10 ∧ z10 ≤ 6 := by rw [hz10]; exact irTc7 hta hI
    have gz10 := Hd.mk hz10
    have hz10 : z10 = A (ta + 1) (7 : Int).toNat := hz10.trans (a7 _)
    have ez10 : z10 = z1 := hz10.trans hz1.symm
    refine tp_i (y := iI z1) (congrArg iI ez10) ?_
    refine lv_iconst (v := iI 1) hx hb (dk_at dkX9_addBar_2 0 rfl) (by decide +kernel) ?_
    refine x_addv (v := z1 + 1) hx hb (dk_at dkX9_addBar_2 1 rfl) (by omega) ?_
    refine k_iast (Wf := WK cB cI cJ cZ cQ q) hx hb hK hP hDD hS (ta + 1) 1 (wkTc hta) rfl (by decide) (by decide) (dk_at dkX9_addBar_2 2 rfl) (wsTc hta) (fun H locs A11 hA11 hP hS => ?_)
    have hI := isTc hta hA11 hI (show (0 : Int) ≤ z1 + 1 ∧ z1 + 1 ≤ 6 from (by omega))
    refine lv_iconst (v := iI 1) hx hb (dk_at dkX9_addBar_2 3 rfl) (by decide +kernel) ?_
    exact RET 1 _ _ _ _ _ ⟨(u_r_X9_addBar ⟨z1, gz1.out, (Or.inl ⟨c3, ⟨A4, hA4, ⟨A5, hA5, ⟨A6, hA6, ⟨A11, hA11, ⟨rfl, rfl⟩⟩⟩⟩⟩⟩)⟩), hI, fk.da (fk.da (fk.da (fk.da (fk.rf) hA4 (isT.b2 (o := fun b => List.contains [52, 67, 68, 69, 83, 98, 99, 100] (b + 16)) hta rfl rfl)) hA5 (isT.b2 (o := fun b => List.contains [52, 67, 68, 69, 83, 98, 99, 100] (b + 17)) hta rfl rfl)) hA6 (isT.b2 (o := fun b => List.contains [52, 67, 68, 69, 83, 98, 99, 100] (b + 18)) hta rfl rfl)) hA11 (isT.b2 (o := fun b => List.contains [52, 67, 68, 69, 83, 98, 99, 100] (b + 1)) hta rfl rfl), ⟨by decide, by decide⟩⟩ hP hS (dk_at dkX9_addBar_2 4 rfl)
  · have c3 : ¬ z1 < 6 := mt (i_lt (rb rz1 (by decide) (by decide)) ⟨by decide, by decide⟩).mpr c3
    refine lv_iconst (v := iI 0) hx hb (dk_at dkX9_addBar_0 10 rfl) (by decide +kernel) ?_
    exact RET 0 _ _ _ _ _ ⟨(u_r_X9_addBar ⟨z1, gz1.out, (Or.inr ⟨c3, ⟨rfl, rfl⟩⟩)⟩), hI, fk.rf, ⟨by decide, by decide⟩⟩ hP hS (dk_at dkX9_addBar_0 11 rfl)
theorem dkX5_readTest_0 : dkq cX5_readTest [(0, .aload_n 0, 1), (1, .aload_n 1, 1), (2, .invokevirtual 205, 3), (5, .ifCond .ne 5, 3), (8, .iconst 0, 1), (9, .ireturn, 1), (10, .iconst 0, 1), (11, .istore_n 2, 1), (12, .iload_n 2, 1), (13, .sipush 1600, 3), (16, .if_icmp .ge 37, 3), (19, .aload_n 0, 1), (20, .bipush 16, 2), (22, .invokevirtual 208, 3), (25, .ifCond .eq 28, 3), (28, .aload_n 0, 1)] = true := by decide +kernel
theorem dkX5_readTest_1 : dkq cX5_readTest [(29, .aload_n 1, 1), (30, .invokevirtual 205, 3), (33, .ifCond .eq 12, 3), (36, .aload_n 1, 1), (37, .bipush (-7), 2), (39, .invokevirtual 211, 3), (42, .ifCond .ne 5, 3), (45, .iconst 0, 1), (46, .ireturn, 1), (47, .iinc 2 1, 3), (50, .goto (-38), 3), (53, .iconst 1, 1), (54, .ireturn, 1)] = true := by decide +kernel
theorem dkX5_readBoth_0 : dkq cX5_readBoth [(0, .aload_n 0, 1), (1, .aload_n 1, 1), (2, .invokevirtual 213, 3), (5, .ifCond .ne 5, 3), (8, .iconst 0, 1), (9, .ireturn, 1), (10, .iconst 0, 1), (11, .istore_n 2, 1), (12, .iload_n 2, 1), (13, .sipush 1600, 3), (16, .if_icmp .ge 37, 3), (19, .aload_n 0, 1), (20, .bipush 17, 2), (22, .invokevirtual 208, 3), (25, .ifCond .eq 28, 3), (28, .aload_n 0, 1)] = true := by decide +kernel
theorem dkX5_readBoth_1 : dkq cX5_readBoth [(29, .aload_n 1, 1), (30, .invokevirtual 213, 3), (33, .ifCond .eq 12, 3), (36, .aload_n 1, 1), (37, .bipush (-8), 2), (39, .invokevirtual 211, 3), (42, .ifCond .ne 5, 3), (45, .iconst 0, 1), (46, .ireturn, 1), (47, .iinc 2 1, 3), (50, .goto (-38), 3), (53, .iconst 1, 1), (54, .ireturn, 1)] = true := by decide +kernel
theorem dkX5_readFact_0 : dkq cX5_readFact [(0, .iconst 0, 1), (1, .istore_n 2, 1), (2, .iconst 0, 1), (3, .istore_n 3, 1), (4, .iload_n 3, 1), (5, .sipush 1600, 3), (8, .if_icmp .ge 28, 3), (11, .aload_n 0, 1), (12, .bipush 18, 2), (14, .invokevirtual 208, 3), (17, .ifCond .eq 19, 3), (20, .iload_n 2, 1), (21, .ifCond .ne 7, 3), (24, .iconst 1, 1), (25, .goto 4, 3), (28, .iconst 0, 1)] = true := by decide +kernel
theorem dkX5_readFact_1 : dkq cX5_readFact [(29, .istore_n 2, 1), (30, .iinc 3 1, 3), (33, .goto (-29), 3), (36, .aload_n 0, 1), (37, .bipush 19, 2), (39, .invokevirtual 208, 3), (42, .ifCond .eq 13, 3), (45, .aload_n 1, 1), (46, .bipush (-5), 2), (48, .invokevirtual 211, 3), (51, .istore_n 3, 1), (52, .goto 101, 3), (55, .aload_n 0, 1), (56, .bipush 91, 2), (58, .invokevirtual 216, 3), (61, .ifCond .eq 43, 3)] = true := by decide +kernel
theorem dkX5_readFact_2 : dkq cX5_readFact [(64, .aload_n 0, 1), (65, .invokevirtual 219, 3), (68, .ifCond .eq 31, 3), (71, .aload_n 0, 1), (72, .aload_n 1, 1), (73, .invokevirtual 183, 3), (76, .ifCond .eq 23, 3), (79, .aload_n 0, 1), (80, .bipush 93, 2), (82, .invokevirtual 105, 3), (85, .ifCond .eq 14, 3), (88, .aload_n 0, 1), (89, .invokevirtual 223, 3), (92, .ifCond .eq 7, 3), (95, .iconst 1, 1), (96, .goto 4, 3)] = true := by decide +kernel
theorem dkX5_readFact_3 : dkq cX5_readFact [(99, .iconst 0, 1), (100, .istore_n 3, 1), (101, .goto 52, 3), (104, .aload_n 0, 1), (105, .aload_n 1, 1), (106, .invokevirtual 226, 3), (109, .istore_n 3, 1), (110, .iload_n 3, 1), (111, .ifCond .eq 10, 3), (114, .aload_n 0, 1), (115, .invokevirtual 229, 3), (118, .goto 4, 3), (121, .iconst (-1), 1), (122, .istore 4, 2), (124, .iload 4, 2), (126, .iconst (-1), 1)] = true := by decide +kernel
theorem dkX5_readFact_4 : dkq cX5_readFact [(127, .if_icmp .eq 24, 3), (130, .aload_n 0, 1), (131, .aload_n 1, 1), (132, .invokevirtual 226, 3), (135, .ifCond .eq 16, 3), (138, .aload_n 1, 1), (139, .iload 4, 2), (141, .invokevirtual 211, 3), (144, .ifCond .eq 7, 3), (147, .iconst 1, 1), (148, .goto 4, 3), (151, .iconst 0, 1), (152, .istore_n 3, 1), (153, .iload_n 3, 1), (154, .ifCond .eq 20, 3), (157, .iload_n 2, 1)] = true := by decide +kernel
theorem dkX5_readFact_5 : dkq cX5_readFact [(158, .ifCond .eq 12, 3), (161, .aload_n 1, 1), (162, .bipush (-6), 2), (164, .invokevirtual 211, 3), (167, .ifCond .eq 7, 3), (170, .iconst 1, 1), (171, .goto 4, 3), (174, .iconst 0, 1), (175, .ireturn, 1)] = true := by decide +kernel
theorem dkX5_readSum_0 : dkq cX5_readSum [(0, .aload_n 0, 1), (1, .aload_n 1, 1), (2, .invokevirtual 232, 3), (5, .ifCond .ne 5, 3), (8, .iconst 0, 1), (9, .ireturn, 1), (10, .iconst 0, 1), (11, .istore_n 2, 1), (12, .iload_n 2, 1), (13, .sipush 1600, 3), (16, .if_icmp .ge 56, 3), (19, .bipush (-12), 2), (21, .istore_n 3, 1), (22, .aload_n 0, 1), (23, .bipush 45, 2), (25, .invokevirtual 216, 3)] = true := by decide +kernel
theorem dkX5_readSum_1 : dkq cX5_readSum [(28, .ifCond .eq 9, 3), (31, .bipush (-13), 2), (33, .istore_n 3, 1), (34, .goto 14, 3), (37, .aload_n 0, 1), (38, .bipush 43, 2), (40, .invokevirtual 216, 3), (43, .ifCond .ne 5, 3), (46, .iconst 1, 1), (47, .ireturn, 1), (48, .aload_n 0, 1), (49, .aload_n 1, 1), (50, .invokevirtual 232, 3), (53, .ifCond .eq 11, 3), (56, .aload_n 1, 1), (57, .iload_n 3, 1)] = true := by decide +kernel
theorem dkX5_readSum_2 : dkq cX5_readSum [(58, .invokevirtual 211, 3), (61, .ifCond .ne 5, 3), (64, .iconst 0, 1), (65, .ireturn, 1), (66, .iinc 2 1, 3), (69, .goto (-57), 3), (72, .iconst 0, 1), (73, .ireturn, 1)] = true := by decide +kernel
theorem dkX5_readProduct_0 : dkq cX5_readProduct [(0, .aload_n 0, 1), (1, .aload_n 1, 1), (2, .invokevirtual 235, 3), (5, .ifCond .ne 5, 3), (8, .iconst 0, 1), (9, .ireturn, 1), (10, .iconst 0, 1), (11, .istore_n 2, 1), (12, .iload_n 2, 1), (13, .sipush 1600, 3), (16, .if_icmp .ge 71, 3), (19, .bipush (-14), 2), (21, .istore_n 3, 1), (22, .aload_n 0, 1), (23, .bipush 47, 2), (25, .invokevirtual 216, 3)] = true := by decide +kernel
theorem dkX5_readProduct_1 : dkq cX5_readProduct [(28, .ifCond .eq 9, 3), (31, .bipush (-15), 2), (33, .istore_n 3, 1), (34, .goto 29, 3), (37, .aload_n 0, 1), (38, .bipush 37, 2), (40, .invokevirtual 216, 3), (43, .ifCond .eq 9, 3), (46, .bipush (-16), 2), (48, .istore_n 3, 1), (49, .goto 14, 3), (52, .aload_n 0, 1), (53, .bipush 42, 2), (55, .invokevirtual 216, 3), (58, .ifCond .ne 5, 3), (61, .iconst 1, 1)] = true := by decide +kernel
theorem dkX5_readProduct_2 : dkq cX5_readProduct [(62, .ireturn, 1), (63, .aload_n 0, 1), (64, .aload_n 1, 1), (65, .invokevirtual 235, 3), (68, .ifCond .eq 11, 3), (71, .aload_n 1, 1), (72, .iload_n 3, 1), (73, .invokevirtual 211, 3), (76, .ifCond .ne 5, 3), (79, .iconst 0, 1), (80, .ireturn, 1), (81, .iinc 2 1, 3), (84, .goto (-72), 3), (87, .iconst 0, 1), (88, .ireturn, 1)] = true := by decide +kernel
theorem dkX5_readPart_0 : dkq cX5_readPart [(0, .aload_n 0, 1), (1, .getfield 30, 3), (4, .invokevirtual 54, 3), (7, .aload_n 0, 1), (8, .getfield 30, 3), (11, .getfield 57, 3), (14, .iconst 2, 1), (15, .if_icmp .ne 22, 3), (18, .aload_n 0, 1), (19, .getfield 30, 3), (22, .invokevirtual 125, 3), (25, .aload_n 1, 1), (26, .aload_n 0, 1), (27, .getfield 30, 3), (30, .getfield 112, 3), (33, .invokevirtual 211, 3)] = true := by decide +kernel
theorem dkX5_readPart_1 : dkq cX5_readPart [(36, .ireturn, 1), (37, .aload_n 0, 1), (38, .bipush 40, 2), (40, .invokevirtual 216, 3), (43, .ifCond .eq 40, 3), (46, .aload_n 0, 1), (47, .invokevirtual 219, 3), (50, .ifCond .eq 31, 3), (53, .aload_n 0, 1), (54, .aload_n 1, 1), (55, .invokevirtual 226, 3), (58, .ifCond .eq 23, 3), (61, .aload_n 0, 1), (62, .bipush 41, 2), (64, .invokevirtual 105, 3), (67, .ifCond .eq 14, 3)] = true := by decide +kernel
theorem dkX5_readPart_2 : dkq cX5_readPart [(70, .aload_n 0, 1), (71, .invokevirtual 223, 3), (74, .ifCond .eq 7, 3), (77, .iconst 1, 1), (78, .goto 4, 3), (81, .iconst 0, 1), (82, .ireturn, 1), (83, .aload_n 0, 1), (84, .bipush 20, 2), (86, .invokevirtual 208, 3), (89, .ifCond .eq 9, 3), (92, .aload_n 1, 1), (93, .iconst (-1), 1), (94, .invokevirtual 211, 3), (97, .ireturn, 1), (98, .aload_n 0, 1)] = true := by decide +kernel
theorem dkX5_readPart_3 : dkq cX5_readPart [(99, .bipush 21, 2), (101, .invokevirtual 208, 3), (104, .ifCond .eq 10, 3), (107, .aload_n 1, 1), (108, .bipush (-2), 2), (110, .invokevirtual 211, 3), (113, .ireturn, 1), (114, .aload_n 0, 1), (115, .bipush 22, 2), (117, .invokevirtual 208, 3), (120, .ifCond .eq 10, 3), (123, .aload_n 1, 1), (124, .bipush (-3), 2), (126, .invokevirtual 211, 3), (129, .ireturn, 1), (130, .aload_n 0, 1)] = true := by decide +kernel
theorem dkX5_readPart_4 : dkq cX5_readPart [(131, .bipush 23, 2), (133, .invokevirtual 208, 3), (136, .ifCond .eq 10, 3), (139, .aload_n 1, 1), (140, .bipush (-4), 2), (142, .invokevirtual 211, 3), (145, .ireturn, 1), (146, .aload_n 0, 1), (147, .bipush 24, 2), (149, .invokevirtual 208, 3), (152, .ifCond .eq 26, 3), (155, .aload_n 0, 1), (156, .aload_n 1, 1), (157, .invokevirtual 238, 3), (160, .ifCond .eq 16, 3), (163, .aload_n 1, 1)] = true := by decide +kernel
theorem dkX5_readPart_5 : dkq cX5_readPart [(164, .bipush (-17), 2), (166, .invokevirtual 211, 3), (169, .ifCond .eq 7, 3), (172, .iconst 1, 1), (173, .goto 4, 3), (176, .iconst 0, 1), (177, .ireturn, 1), (178, .aload_n 0, 1), (179, .bipush 25, 2), (181, .invokevirtual 208, 3), (184, .ifCond .eq 26, 3), (187, .aload_n 0, 1), (188, .aload_n 1, 1), (189, .invokevirtual 238, 3), (192, .ifCond .eq 16, 3), (195, .aload_n 1, 1)] = true := by decide +kernel
theorem dkX5_readPart_6 : dkq cX5_readPart [(196, .bipush (-18), 2), (198, .invokevirtual 211, 3), (201, .ifCond .eq 7, 3), (204, .iconst 1, 1), (205, .goto 4, 3), (208, .iconst 0, 1), (209, .ireturn, 1), (210, .aload_n 0, 1), (211, .iconst 1, 1), (212, .invokevirtual 132, 3), (215, .ireturn, 1)] = true := by decide +kernel
theorem dkX5_readPair_0 : dkq cX5_readPair [(0, .aload_n 0, 1), (1, .bipush 40, 2), (3, .invokevirtual 105, 3), (6, .ifCond .eq 55, 3), (9, .aload_n 0, 1), (10, .invokevirtual 219, 3), (13, .ifCond .eq 48, 3), (16, .aload_n 0, 1), (17, .aload_n 1, 1), (18, .invokevirtual 226, 3), (21, .ifCond .eq 40, 3), (24, .aload_n 0, 1), (25, .bipush 44, 2), (27, .invokevirtual 105, 3), (30, .ifCond .eq 31, 3), (33, .aload_n 0, 1)] = true := by decide +kernel
theorem dkX5_readPair_1 : dkq cX5_readPair [(34, .aload_n 1, 1), (35, .invokevirtual 226, 3), (38, .ifCond .eq 23, 3), (41, .aload_n 0, 1), (42, .bipush 41, 2), (44, .invokevirtual 105, 3), (47, .ifCond .eq 14, 3), (50, .aload_n 0, 1), (51, .invokevirtual 223, 3), (54, .ifCond .eq 7, 3), (57, .iconst 1, 1), (58, .goto 4, 3), (61, .iconst 0, 1), (62, .ireturn, 1)] = true := by decide +kernel
