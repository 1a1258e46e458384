abbrev tr_d_X9_layDown_1 (ta : Nat) (x2 : Int) (x3 : Int) (z5 : Int) (A : St) (z : Int) (u : St) : Prop := (((¬ x3 = (-1)) ∧ (∃ z14 : Int, z14 = oWrap (x3 + 20) ∧ (∃ A15 : St, A15 = stA A ((ta + 22) + 2) (x2).toNat z14 ∧ (z = 1 ∧ u = A15)))) ∨ ((x3 = (-1)) ∧ (∃ z16 : Int, z16 = oWrap (z5 + 10) ∧ (∃ A17 : St, A17 = stA A ((ta + 22) + 2) (x2).toNat z16 ∧ (z = 1 ∧ u = A17)))))
def d_X9_layDown_1 (ta : Nat) (x2 : Int) (x3 : Int) (z5 : Int) (A : St) (z : Int) (u : St) : Prop := tr_d_X9_layDown_1 ta x2 x3 z5 A z u
theorem u_d_X9_layDown_1 {ta : Nat} {x2 : Int} {x3 : Int} {z5 : Int} {A : St} {z : Int} {u : St} (h : tr_d_X9_layDown_1 ta x2 x3 z5 A z u) : d_X9_layDown_1 ta x2 x3 z5 A z u := h
abbrev tr_r_X9_layDown (ta : Nat) (x1 : Int) (x2 : Int) (x3 : Int) (A : St) (z : Int) (u : St) : Prop := (∃ z1 : Int, q_X9_holdsKey ta x1 x2 A z1 ∧ (((¬ z1 = 0) ∧ (∃ z5 : Int, z5 = A ((ta + 22) + 1) (x1).toNat ∧ (((x3 = (-1)) ∧ (d_X9_layDown_1 ta x2 x3 z5 A z u)) ∨ ((¬ x3 = (-1)) ∧ (∃ z8 : Int, q_X9_isOpenBoxAt ta x3 z5 A z8 ∧ (((¬ z8 = 0) ∧ (d_X9_layDown_1 ta x2 x3 z5 A z u)) ∨ ((z8 = 0) ∧ (z = 0 ∧ u = A)))))))) ∨ ((z1 = 0) ∧ (z = 0 ∧ u = A))))
def r_X9_layDown (ta : Nat) (x1 : Int) (x2 : Int) (x3 : Int) (A : St) (z : Int) (u : St) : Prop := tr_r_X9_layDown ta x1 x2 x3 A z u
theorem u_r_X9_layDown {ta : Nat} {x1 : Int} {x2 : Int} {x3 : Int} {A : St} {z : Int} {u : St} (h : tr_r_X9_layDown ta x1 x2 x3 A z u) : r_X9_layDown ta x1 x2 x3 A z u := h
def q_X9_layDown (ta : Nat) (x1 : Int) (x2 : Int) (x3 : Int) (A : St) (z : Int) (u : St) : Prop := r_X9_layDown ta x1 x2 x3 A z u ∧ IK u ∧ fk [34, 43, 75, 106] [] A u ∧ (0 ≤ z ∧ z ≤ 1)
def ws_kc_X9_layDown : List Cond := .code yX9_layDown cX9_layDown 5 (some .boolean) :: WY
set_option maxHeartbeats 4000000 in
set_option maxRecDepth 100000 in
theorem kc_X9_layDown (l : Launch) (dC : Nat → ClassId) (dI : Nat → Nat → Nat) (cB cI cJ cZ cQ : ClassId) (aL aS : Nat) (q : Nat → Nat) (A : St) (ta : Nat) (x1 x2 x3 : Int) (hI : IK A) (hta : isT ta) (hx1 : (-2147483648 : Int) ≤ x1 ∧ x1 ≤ 2147483647) (hx2 : (-2147483648 : Int) ≤ x2 ∧ x2 ≤ 2147483647) (hx3 : (-2147483648 : Int) ≤ x3 ∧ x3 ≤ 2147483647) : KMi l yX9_layDown ws_kc_X9_layDown ({ frames := 5, cells := 0, slots := 0, locals := 111 } : Room) aL aS (dC, dI) (tyA cB cI cJ cZ cQ) (WK cB cI cJ cZ cQ q) A [.ref (q ta), .int (iI x1), .int (iI x2), .int (iI x3)] (fun z u => r_X9_layDown ta x1 x2 x3 A z u ∧ IK u ∧ fk [34, 43, 75, 106] [] A u ∧ (0 ≤ z ∧ z ≤ 1)) := by
  refine k_metz (cc := cX9_layDown) (maxL := 5) WK_adr (plainFor_of_name (by decide +kernel)) rfl (Nat.le_of_ble_eq_true rfl) (fun z u h => h.2.2.2) (fun p e s m below meth c Q AS ls hx hb hml hown hts hK hDD hA0 hE RET H locs hP hS hl => ?_)
  have hown : s.vm.findClass RX9 = some m.cls := hown
  have hl : lv_has ls 5 [(0, .ref (q ta)), (1, .int (iI x1)), (2, .int (iI x2)), (3, .int (iI x3))] := hl
  have hiX9 : ∀ w ∈ u_ws RX9 TX9 16, w ∈ ws_kc_X9_layDown := fun w h => List.mem_cons_of_mem _ (wy_layX9 w h)
  have hiX6 : ∀ w ∈ u_ws RX6 TX6 4, w ∈ ws_kc_X9_layDown := fun w h => List.mem_cons_of_mem _ (wy_layX6 w h)
  refine lv_aload_n hx hb (dk_at dkX9_layDown_0 0 rfl) rfl (lv_at hl 0 rfl) ?_
  refine lv_iload_n hx hb (dk_at dkX9_layDown_0 1 rfl) rfl (lv_at hl 1 rfl) ?_
  refine lv_iload_n hx hb (dk_at dkX9_layDown_0 2 rfl) rfl (lv_at hl 2 rfl) ?_
  refine k_calli (As := [.int (iI x1), .int (iI x2)]) (rest := []) ⟨hx, hb, hml, hown, hts⟩ hE (kc_X9_holdsKey l dC dI cB cI cJ cZ cQ aL aS q _ ta x1 x2 hI hta hx1 hx2) (cwV 2 hts (goodVk wkq_9_10 wkq_9_11 wkq_9_12 wkq_0_6 wkq_8_59) rfl rfl rfl (by decide +kernel) ⟨Nat.le_of_ble_eq_true rfl, Nat.le_of_ble_eq_true rfl⟩) hK hDD hA0 hP hS ta 9 (wkT hta) rfl rfl hl.1 (Nat.le_of_ble_eq_true rfl) (dk_at dkX9_layDown_0 3 rfl) (fun z1 A2 H locs hw3 hP hS => ?_)
  obtain ⟨rfl, hw3⟩ := hw3
  have ghw3 : q_X9_holdsKey ta x1 x2 A z1 := hw3
  have hw3 := hw3.2
  have rz1 : 0 ≤ z1 ∧ z1 ≤ 1 := hw3.1
  have hw3 := hw3.2
  refine lv_if_ne (tgt := 11) hx hb (dk_at dkX9_layDown_0 4 rfl) (by decide) (fun c4 => ?_) (fun c4 => ?_)
  · have c4 : ¬ z1 = 0 := mt (i_eq0 (rb rz1 (by decide) (by decide))).mpr c4
    have hw3b := hw3 (by omega)
    clear hw3
    refine lv_aload_n hx hb (dk_at dkX9_layDown_0 7 rfl) rfl (lv_at hl 0 rfl) ?_
    refine va_get (D := (dC, dI)) (ci := 9) (v := .ref (q (ta + 22))) (C := RX9) (T := TX9) (N := 16) hx hb hts hiX9 hown hK hP ta (wkT hta) rfl 14 (by decide) (hts _ (List.mem_cons_of_mem _ wkq_0_9)) (fun _ h9 => h9) rfl (dk_at dkX9_layDown_0 8 rfl) ?_
    refine va_get (D := (dC, dI)) (ci := 6) (v := .ref (q ((ta + 22) + 1))) (C := RX6) (T := TX6) (N := 4) hx hb hts hiX6 hown hK hP (ta + 22) (wkS hta.s) rfl 0 (by decide) (hts _ (List.mem_cons_of_mem _ wkq_6_52)) (fun _ h9 => h9) rfl (dk_at dkX9_layDown_0 9 rfl) ?_
    refine lv_iload_n hx hb (dk_at dkX9_layDown_0 10 rfl) rfl (lv_at hl 1 rfl) ?_
    refine x_iald (Wf := WK cB cI cJ cZ cQ q) hx hb hK hP ((ta + 22) + 1) 1 (wkSs hta.s) rfl (by omega) (by decide) (dk_at dkX9_layDown_0 11 rfl) (fun z5 hz5 => ?_)
    have rz5 : (-2147483648 : Int) ≤ z5 ∧ z5 ≤ 2147483647 := by rw [hz5]; exact irSs hta.s hI
    have gz5 := Hd.mk hz5
    refine lv_istore (lv' := [(4, .int (iI z5)), (0, .ref (q ta)), (1, .int (iI x1)), (2, .int (iI x2)), (3, .int (iI x3))]) hx hb (dk_at dkX9_layDown_0 12 rfl) hl (by decide) rfl (fun ls hl => ?_)
    refine lv_iload_n hx hb (dk_at dkX9_layDown_0 13 rfl) rfl (lv_at hl 4 rfl) ?_
    refine lv_iconst (v := iI (-1)) hx hb (dk_at dkX9_layDown_0 14 rfl) (by decide +kernel) ?_
    have J39_7 : ∀ (H : Heap) (locs : List Loc) (ls : Array Slot), (∀ (z : Int) (u : St), (d_X9_layDown_1 ta x2 x3 z5 A z u) → r_X9_layDown ta x1 x2 x3 A z u) → va_P (dC, dI) vwCl (WK cB cI cJ cZ cQ q A) H → va_S AS s.heap H locs → lv_has ls 5 [(4, .int (iI z5)), (0, .ref (q ta)), (1, .int (iI x1)), (2, .int (iI x2)), (3, .int (iI x3))] → W p l e (headSpec ws_kc_X9_layDown ({ frames := 5, cells := 0, slots := 0, locals := 111 } : Room)).room s m [.ref (q ta), .int (iI x1), .int (iI x2), .int (iI x3)].toArray below meth c H locs 0 0 Q (F0 m 39 ls []) := by
      intro H locs ls hk1 hP hS hl
      refine lv_aload_n hx hb (dk_at dkX9_layDown_1 7 rfl) rfl (lv_at hl 1 rfl) ?_
      refine va_get (D := (dC, dI)) (ci := 9) (v := .ref (q (ta + 22))) (C := RX9) (T := TX9) (N := 16) hx hb hts hiX9 hown hK hP ta (wkT hta) rfl 14 (by decide) (hts _ (List.mem_cons_of_mem _ wkq_0_9)) (fun _ h9 => h9) rfl (dk_at dkX9_layDown_1 8 rfl) ?_
      refine va_get (D := (dC, dI)) (ci := 6) (v := .ref (q ((ta + 22) + 2))) (C := RX6) (T := TX6) (N := 4) hx hb hts hiX6 hown hK hP (ta + 22) (wkS hta.s) rfl 1 (by decide) (hts _ (List.mem_cons_of_mem _ wkq_0_10)) (fun _ h9 => h9) rfl (dk_at dkX9_layDown_1 9 rfl) ?_
      refine lv_iload_n hx hb (dk_at dkX9_layDown_1 10 rfl) rfl (lv_at hl 3 rfl) ?_
      refine lv_iload_n hx hb (dk_at dkX9_layDown_1 11 rfl) rfl (lv_at hl 4 rfl) ?_
      refine lv_iconst (v := iI (-1)) hx hb (dk_at dkX9_layDown_1 12 rfl) (by decide +kernel) ?_
      refine lv_icmp_ne (tgt := 60) hx hb (dk_at dkX9_layDown_1 13 rfl) (by decide) (fun c13 => ?_) (fun c13 => ?_)
      · have c13 : ¬ x3 = (-1) := mt (i_eq hx3 ⟨by decide, by decide⟩).mpr c13
        refine lv_bipush (v := iI 20) hx hb (dk_at dkX9_layDown_2 2 rfl) (by decide +kernel) ?_
        refine lv_iload_n hx hb (dk_at dkX9_layDown_2 3 rfl) rfl (lv_at hl 4 rfl) ?_
        refine x_addv (v := x3 + 20) hx hb (dk_at dkX9_layDown_2 4 rfl) (by omega) ?_
        refine x_absE (fun z14 gz14 hz14 => ?_)
        refine k_iast (Wf := WK cB cI cJ cZ cQ q) hx hb hK hP hDD hS ((ta + 22) + 2) 1 (wkSw hta.s) rfl (by omega) (by decide) (dk_at dkX9_layDown_2 5 rfl) (wsSw hta.s) (fun H locs A15 hA15 hP hS => ?_)
        have hI := isSw hta.s hA15 hI (show (-2147483648 : Int) ≤ z14 ∧ z14 ≤ 2147483647 from hz14)
        refine lv_iconst (v := iI 1) hx hb (dk_at dkX9_layDown_2 6 rfl) (by decide +kernel) ?_
        exact RET 1 _ _ _ _ _ ⟨hk1 _ _ (u_d_X9_layDown_1 (Or.inl ⟨c13, ⟨z14, gz14.out, ⟨A15, hA15, ⟨rfl, rfl⟩⟩⟩⟩)), hI, fk.da (fk.rf) hA15 (isS.b2 (o := fun b => List.contains [34, 43, 75, 106] (b + 2)) hta.s rfl rfl rfl rfl), ⟨by decide, by decide⟩⟩ hP hS (dk_at dkX9_layDown_2 7 rfl)
      · have c13 : x3 = (-1) := (i_eq hx3 ⟨by decide, by decide⟩).mp c13
        refine lv_bipush (v := iI 10) hx hb (dk_at dkX9_layDown_1 14 rfl) (by decide +kernel) ?_
        refine lv_iload hx hb (dk_at dkX9_layDown_1 15 rfl) (lv_at hl 0 rfl) ?_
        refine x_addv (v := z5 + 10) hx hb (dk_at dkX9_layDown_2 0 rfl) (by omega) ?_
        refine x_absE (fun z16 gz16 hz16 => ?_)
        refine lv_goto (tgt := 64) hx hb (dk_at dkX9_layDown_2 1 rfl) (by decide) ?_
        refine k_iast (Wf := WK cB cI cJ cZ cQ q) hx hb hK hP hDD hS ((ta + 22) + 2) 1 (wkSw hta.s) rfl (by omega) (by decide) (dk_at dkX9_layDown_2 5 rfl) (wsSw hta.s) (fun H locs A17 hA17 hP hS => ?_)
        have hI := isSw hta.s hA17 hI (show (-2147483648 : Int) ≤ z16 ∧ z16 ≤ 2147483647 from hz16)
        refine lv_iconst (v := iI 1) hx hb (dk_at dkX9_layDown_2 6 rfl) (by decide +kernel) ?_
        exact RET 1 _ _ _ _ _ ⟨hk1 _ _ (u_d_X9_layDown_1 (Or.inr ⟨c13, ⟨z16, gz16.out, ⟨A17, hA17, ⟨rfl, rfl⟩⟩⟩⟩)), hI, fk.da (fk.rf) hA17 (isS.b2 (o := fun b => List.contains [34, 43, 75, 106] (b + 2)) hta.s rfl rfl rfl rfl), ⟨by decide, by decide⟩⟩ hP hS (dk_at dkX9_layDown_2 7 rfl)
    refine lv_icmp_eq (tgt := 39) hx hb (dk_at dkX9_layDown_0 15 rfl) (by decide) (fun c6 => ?_) (fun c6 => ?_)
    · have c6 : x3 = (-1) := (i_eq hx3 ⟨by decide, by decide⟩).mp c6
      exact J39_7 _ _ _ (fun zq uq hq => (u_r_X9_layDown ⟨z1, ghw3, (Or.inl ⟨c4, ⟨z5, gz5.out, (Or.inl ⟨c6, hq⟩)⟩⟩)⟩)) hP hS (lv_sub hl [0, 1, 2, 3, 4] rfl)
    · have c6 : ¬ x3 = (-1) := mt (i_eq hx3 ⟨by decide, by decide⟩).mpr c6
      refine lv_aload_n hx hb (dk_at dkX9_layDown_1 0 rfl) rfl (lv_at hl 1 rfl) ?_
      refine lv_iload_n hx hb (dk_at dkX9_layDown_1 1 rfl) rfl (lv_at hl 4 rfl) ?_
      refine lv_iload hx hb (dk_at dkX9_layDown_1 2 rfl) (lv_at hl 0 rfl) ?_
      refine k_calli (As := [.int (iI x3), .int (iI z5)]) (rest := []) ⟨hx, hb, hml, hown, hts⟩ hE (kc_X9_isOpenBoxAt l dC dI cB cI cJ cZ cQ aL aS q _ ta x3 z5 hI hta hx3 rz5) (cwV 2 hts (goodVk wkq_9_20 wkq_9_21 wkq_9_22 wkq_0_6 wkq_9_23) rfl rfl rfl (by decide +kernel) ⟨Nat.le_of_ble_eq_true rfl, Nat.le_of_ble_eq_true rfl⟩) hK hDD hA0 hP hS ta 9 (wkT hta) rfl rfl hl.1 (Nat.le_of_ble_eq_true rfl) (dk_at dkX9_layDown_1 3 rfl) (fun z8 A9 H locs hw10 hP hS => ?_)
      obtain ⟨rfl, hw10⟩ := hw10
      have ghw10 : q_X9_isOpenBoxAt ta x3 z5 A z8 := hw10
      have hw10 := hw10.2
      refine lv_if_ne (tgt := 39) hx hb (dk_at dkX9_layDown_1 4 rfl) (by decide) (fun c11 => ?_) (fun c11 => ?_)
      · have c11 : ¬ z8 = 0 := mt (i_eq0 (rb hw10 (by decide) (by decide))).mpr c11
        exact J39_7 _ _ _ (fun zq uq hq => (u_r_X9_layDown ⟨z1, ghw3, (Or.inl ⟨c4, ⟨z5, gz5.out, (Or.inr ⟨c6, ⟨z8, ghw10, (Or.inl ⟨c11, hq⟩)⟩⟩)⟩⟩)⟩)) hP hS (lv_sub hl [0, 1, 2, 3, 4] rfl)
      · have c11 : z8 = 0 := (i_eq0 (rb hw10 (by decide) (by decide))).mp c11
        refine lv_iconst (v := iI 0) hx hb (dk_at dkX9_layDown_1 5 rfl) (by decide +kernel) ?_
        exact RET 0 _ _ _ _ _ ⟨(u_r_X9_layDown ⟨z1, ghw3, (Or.inl ⟨c4, ⟨z5, gz5.out, (Or.inr ⟨c6, ⟨z8, ghw10, (Or.inr ⟨c11, ⟨rfl, rfl⟩⟩)⟩⟩)⟩⟩)⟩), hI, fk.rf, ⟨by decide, by decide⟩⟩ hP hS (dk_at dkX9_layDown_1 6 rfl)
  · have c4 : z1 = 0 := (i_eq0 (rb rz1 (by decide) (by decide))).mp c4
    clear hw3
    refine lv_iconst (v := iI 0) hx hb (dk_at dkX9_layDown_0 5 rfl) (by decide +kernel) ?_
    exact RET 0 _ _ _ _ _ ⟨(u_r_X9_layDown ⟨z1, ghw3, (Or.inr ⟨c4, ⟨rfl, rfl⟩⟩)⟩), hI, fk.rf, ⟨by decide, by decide⟩⟩ hP hS (dk_at dkX9_layDown_0 6 rfl)

abbrev tr_d_X9_shuttingKey_2 (K1 : Int → Prop) (z1 : Int) (z : Int) : Prop := (K1 (z1 + 1))
def d_X9_shuttingKey_2 (K1 : Int → Prop) (z1 : Int) (z : Int) : Prop := tr_d_X9_shuttingKey_2 K1 z1 z
theorem u_d_X9_shuttingKey_2 {K1 : Int → Prop} {z1 : Int} {z : Int} (h : tr_d_X9_shuttingKey_2 K1 z1 z) : d_X9_shuttingKey_2 K1 z1 z := h
abbrev tr_d_X9_shuttingKey_1 (ta : Nat) (x1 : Int) (x2 : Int) (A : St) (z : Int) (K1 : Int → Prop) (z1 : Int) : Prop := ((0 ≤ z1 ∧ z1 ≤ 2147483647) ∧ (∃ z8 : Int, z8 = A (ta + 1) (2 : Int).toNat ∧ (((z8 ≤ z1) ∧ (z = (-1))) ∨ ((¬ z8 ≤ z1) ∧ (∃ z10 : Int, q_X9_holdsKey ta x1 z1 A z10 ∧ (((z10 = 0) ∧ (d_X9_shuttingKey_2 K1 z1 z)) ∨ ((¬ z10 = 0) ∧ (∃ z15 : Int, q_X6_placeInRow (ta + 22) z1 x2 A z15 ∧ (((¬ z15 = (-1)) ∧ (d_X9_shuttingKey_2 K1 z1 z)) ∨ ((z15 = (-1)) ∧ (z = z1)))))))))))
def d_X9_shuttingKey_1 (ta : Nat) (x1 : Int) (x2 : Int) (A : St) (z : Int) : Nat → Int → Prop
  | 0, _ => False
  | nn9 + 1, z1 => tr_d_X9_shuttingKey_1 ta x1 x2 A z (fun z1 => d_X9_shuttingKey_1 ta x1 x2 A z nn9 z1) z1
theorem u_d_X9_shuttingKey_1 {ta : Nat} {x1 : Int} {x2 : Int} {A : St} {z : Int} {nn9 : Nat} {z1 : Int} (h : tr_d_X9_shuttingKey_1 ta x1 x2 A z (fun z1 => d_X9_shuttingKey_1 ta x1 x2 A z nn9 z1) z1) : d_X9_shuttingKey_1 ta x1 x2 A z (nn9 + 1) z1 := h
abbrev tr_r_X9_shuttingKey (ta : Nat) (x1 : Int) (x2 : Int) (A : St) (z : Int) : Prop := (∃ nn9 : Nat, d_X9_shuttingKey_1 ta x1 x2 A z nn9 0)
def r_X9_shuttingKey (ta : Nat) (x1 : Int) (x2 : Int) (A : St) (z : Int) : Prop := tr_r_X9_shuttingKey ta x1 x2 A z
theorem u_r_X9_shuttingKey {ta : Nat} {x1 : Int} {x2 : Int} {A : St} {z : Int} (h : tr_r_X9_shuttingKey ta x1 x2 A z) : r_X9_shuttingKey ta x1 x2 A z := h
def q_X9_shuttingKey (ta : Nat) (x1 : Int) (x2 : Int) (A : St) (z : Int) : Prop := r_X9_shuttingKey ta x1 x2 A z ∧ (-1 ≤ z ∧ z ≤ 3)
def ws_kc_X9_shuttingKey : List Cond := .code yX9_shuttingKey cX9_shuttingKey 4 (some .int) :: WY
set_option maxHeartbeats 4000000 in
set_option maxRecDepth 100000 in
theorem kc_X9_shuttingKey (l : Launch) (dC : Nat → ClassId) (dI : Nat → Nat → Nat) (cB cI cJ cZ cQ : ClassId) (aL aS : Nat) (q : Nat → Nat) (A : St) (ta : Nat) (x1 x2 : Int) (hI : IK A) (hta : isT ta) (hx1 : (-2147483648 : Int) ≤ x1 ∧ x1 ≤ 2147483647) (hx2 : (-2147483648 : Int) ≤ x2 ∧ x2 ≤ 2147483647) : KMi l yX9_shuttingKey ws_kc_X9_shuttingKey ({ frames := 2, cells := 0, slots := 0, locals := 45 } : Room) aL aS (dC, dI) (tyA cB cI cJ cZ cQ) (WK cB cI cJ cZ cQ q) A [.ref (q ta), .int (iI x1), .int (iI x2)] (fun z u => A = u ∧ r_X9_shuttingKey ta x1 x2 A z ∧ (-1 ≤ z ∧ z ≤ 3)) := by
  refine k_meti (cc := cX9_shuttingKey) (maxL := 4) WK_adr (plainFor_of_name (by decide +kernel)) rfl (Nat.le_of_ble_eq_true rfl) (fun p e s m below meth c Q AS ls hx hb hml hown hts hK hDD hA0 hE RET H locs hP hS hl => ?_)
  have hown : s.vm.findClass RX9 = some m.cls := hown
  have hl : lv_has ls 4 [(0, .ref (q ta)), (1, .int (iI x1)), (2, .int (iI x2))] := hl
  have hiX9 : ∀ w ∈ u_ws RX9 TX9 16, w ∈ ws_kc_X9_shuttingKey := fun w h => List.mem_cons_of_mem _ (wy_layX9 w h)
  refine lv_iconst (v := iI 0) hx hb (dk_at dkX9_shuttingKey_0 0 rfl) (by decide +kernel) ?_
  refine lv_istore_n (lv' := [(3, .int (iI 0)), (0, .ref (q ta)), (1, .int (iI x1)), (2, .int (iI x2))]) hx hb (dk_at dkX9_shuttingKey_0 1 rfl) rfl hl (by decide) rfl (fun ls hl => ?_)
  have L2_3 : ∀ (n7 : Nat) (z1 : Int) (H : Heap) (locs : List Loc) (ls : Array Slot), (0 ≤ z1 ∧ z1 ≤ 2147483647) → (∀ (z : Int), (∃ mm1 : Nat, (d_X9_shuttingKey_1 ta x1 x2 A z mm1 z1)) → r_X9_shuttingKey ta x1 x2 A z) → ((5 - z1).toNat = n7) → va_P (dC, dI) vwCl (WK cB cI cJ cZ cQ q A) H → va_S AS s.heap H locs → lv_has ls 4 [(3, .int (iI z1)), (0, .ref (q ta)), (1, .int (iI x1)), (2, .int (iI x2))] → W p l e (headSpec ws_kc_X9_shuttingKey ({ frames := 2, cells := 0, slots := 0, locals := 45 } : Room)).room s m [.ref (q ta), .int (iI x1), .int (iI x2)].toArray below meth c H locs 0 0 Q (F0 m 2 ls []) := by
    intro n7
    induction n7 using Nat.strongRecOn with
    | ind n7 ih4 =>
      intro z1 H locs ls f5 hk1 hn7 hP hS hl
      refine lv_iload_n hx hb (dk_at dkX9_shuttingKey_0 2 rfl) rfl (lv_at hl 0 rfl) ?_
      refine lv_aload_n hx hb (dk_at dkX9_shuttingKey_0 3 rfl) rfl (lv_at hl 1 rfl) ?_
      refine va_get (D := (dC, dI)) (ci := 9) (v := .ref (q (ta + 1))) (C := RX9) (T := TX9) (N := 16) hx hb hts hiX9 hown hK hP ta (wkT hta) rfl 0 (by decide) (hts _ (List.mem_cons_of_mem _ wkq_0_8)) (fun _ h9 => h9) rfl (dk_at dkX9_shuttingKey_0 4 rfl) ?_
      refine lv_iconst (v := iI 2) hx hb (dk_at dkX9_shuttingKey_0 5 rfl) (by decide +kernel) ?_
      refine x_iald (Wf := WK cB cI cJ cZ cQ q) hx hb hK hP (ta + 1) 1 (wkTc hta) rfl (by decide) (by decide) (dk_at dkX9_shuttingKey_0 6 rfl) (fun z8 hz8 => ?_)
      have rz8 : (0 : Int) ≤ z8 ∧ z8 ≤ 4 := by rw [hz8]; exact irTc2 hta hI
      have gz8 := Hd.mk hz8
      refine lv_icmp_ge (tgt := 42) hx hb (dk_at dkX9_shuttingKey_0 7 rfl) (by decide) (fun c9 => ?_) (fun c9 => ?_)
      · have c9 : z8 ≤ z1 := (i_le (rb rz8 (by decide) (by decide)) (rb f5 (by decide) (by decide))).mp c9
        refine lv_iconst (v := iI (-1)) hx hb (dk_at dkX9_shuttingKey_1 8 rfl) (by decide +kernel) ?_
        exact RET (-1) _ _ _ _ _ ⟨rfl, hk1 _ ⟨0 + 1, (u_d_X9_shuttingKey_1 ⟨f5, ⟨z8, gz8.out, (Or.inl ⟨c9, rfl⟩)⟩⟩)⟩, by omega⟩ hP hS (dk_at dkX9_shuttingKey_1 9 rfl)
      · have c9 : ¬ z8 ≤ z1 := mt (i_le (rb rz8 (by decide) (by decide)) (rb f5 (by decide) (by decide))).mpr c9
        refine lv_aload_n hx hb (dk_at dkX9_shuttingKey_0 8 rfl) rfl (lv_at hl 1 rfl) ?_
        refine lv_iload_n hx hb (dk_at dkX9_shuttingKey_0 9 rfl) rfl (lv_at hl 2 rfl) ?_
        refine lv_iload_n hx hb (dk_at dkX9_shuttingKey_0 10 rfl) rfl (lv_at hl 0 rfl) ?_
        refine k_calli (As := [.int (iI x1), .int (iI z1)]) (rest := []) ⟨hx, hb, hml, hown, hts⟩ hE (kc_X9_holdsKey l dC dI cB cI cJ cZ cQ aL aS q _ ta x1 z1 hI hta hx1 (rb f5 (by decide) (by decide))) (cwV 2 hts (goodVk wkq_9_10 wkq_9_11 wkq_9_12 wkq_0_6 wkq_8_59) rfl rfl rfl (by decide +kernel) ⟨Nat.le_of_ble_eq_true rfl, Nat.le_of_ble_eq_true rfl⟩) hK hDD hA0 hP hS ta 9 (wkT hta) rfl rfl hl.1 (Nat.le_of_ble_eq_true rfl) (dk_at dkX9_shuttingKey_0 11 rfl) (fun z10 A11 H locs hw12 hP hS => ?_)
        obtain ⟨rfl, hw12⟩ := hw12
        have ghw12 : q_X9_holdsKey ta x1 z1 A z10 := hw12
        have hw12 := hw12.2
        have rz10 : 0 ≤ z10 ∧ z10 ≤ 1 := hw12.1
        have hw12 := hw12.2
        have J36_14 : ∀ (H : Heap) (locs : List Loc) (ls : Array Slot), (∀ (z : Int), (∃ mm1 : Nat, (d_X9_shuttingKey_2 (fun z1' => d_X9_shuttingKey_1 ta x1 x2 A z mm1 z1') z1 z)) → r_X9_shuttingKey ta x1 x2 A z) → va_P (dC, dI) vwCl (WK cB cI cJ cZ cQ q A) H → va_S AS s.heap H locs → lv_has ls 4 [(3, .int (iI z1)), (0, .ref (q ta)), (1, .int (iI x1)), (2, .int (iI x2))] → W p l e (headSpec ws_kc_X9_shuttingKey ({ frames := 2, cells := 0, slots := 0, locals := 45 } : Room)).room s m [.ref (q ta), .int (iI x1), .int (iI x2)].toArray below meth c H locs 0 0 Q (F0 m 36 ls []) := by
          intro H locs ls hk2 hP hS hl
          clear hw12
          refine lv_iinc (v := iI (z1 + 1)) (lv' := [(3, .int (iI (z1 + 1))), (0, .ref (q ta)), (1, .int (iI x1)), (2, .int (iI x2))]) hx hb (dk_at dkX9_shuttingKey_1 6 rfl) hl (k := 0) rfl (i_inc (by omega)) (by decide) rfl (fun ls hl => ?_)
          refine lv_goto (tgt := 2) hx hb (dk_at dkX9_shuttingKey_1 7 rfl) (by decide) ?_
          exact ih4 _ (by omega) (z1 + 1) _ _ _ (by omega) (fun zq ⟨mm1, hq⟩ => hk2 _ ⟨mm1, (u_d_X9_shuttingKey_2 hq)⟩) rfl hP hS (lv_sub hl [0, 1, 2, 3] rfl)
        refine lv_if_eq (tgt := 36) hx hb (dk_at dkX9_shuttingKey_0 12 rfl) (by decide) (fun c13 => ?_) (fun c13 => ?_)
        · have c13 : z10 = 0 := (i_eq0 (rb rz10 (by decide) (by decide))).mp c13
          clear hw12
          exact J36_14 _ _ _ (fun zq ⟨mm1, hq⟩ => hk1 _ ⟨mm1 + 1, (u_d_X9_shuttingKey_1 ⟨f5, ⟨z8, gz8.out, (Or.inr ⟨c9, ⟨z10, ghw12, (Or.inl ⟨c13, hq⟩)⟩⟩)⟩⟩)⟩) hP hS (lv_sub hl [0, 1, 2, 3] rfl)
        · have c13 : ¬ z10 = 0 := mt (i_eq0 (rb rz10 (by decide) (by decide))).mpr c13
          have hw12b := hw12 (by omega)
          clear hw12
          refine lv_aload_n hx hb (dk_at dkX9_shuttingKey_0 13 rfl) rfl (lv_at hl 1 rfl) ?_
          refine va_get (D := (dC, dI)) (ci := 9) (v := .ref (q (ta + 22))) (C := RX9) (T := TX9) (N := 16) hx hb hts hiX9 hown hK hP ta (wkT hta) rfl 14 (by decide) (hts _ (List.mem_cons_of_mem _ wkq_0_9)) (fun _ h9 => h9) rfl (dk_at dkX9_shuttingKey_0 14 rfl) ?_
          refine lv_iload_n hx hb (dk_at dkX9_shuttingKey_0 15 rfl) rfl (lv_at hl 0 rfl) ?_
          refine lv_iload_n hx hb (dk_at dkX9_shuttingKey_1 0 rfl) rfl (lv_at hl 3 rfl) ?_
          refine k_calli (As := [.int (iI z1), .int (iI x2)]) (rest := []) ⟨hx, hb, hml, hown, hts⟩ hE (kc_X6_placeInRow l dC dI cB cI cJ cZ cQ aL aS q _ (ta + 22) z1 x2 hI hta.s (rb f5 (by decide) (by decide)) hx2) (cwV 2 hts (goodVk wkq_8_58 wkq_4_59 wkq_5_0 wkq_0_52 wkq_5_1) rfl rfl rfl (by decide +kernel) ⟨Nat.le_of_ble_eq_true rfl, Nat.le_of_ble_eq_true rfl⟩) hK hDD hA0 hP hS (ta + 22) 6 (wkS hta.s) rfl rfl hl.1 (Nat.le_of_ble_eq_true rfl) (dk_at dkX9_shuttingKey_1 1 rfl) (fun z15 A16 H locs hw17 hP hS => ?_)
          obtain ⟨rfl, hw17⟩ := hw17
          have ghw17 : q_X6_placeInRow (ta + 22) z1 x2 A z15 := hw17
          have hw17 := hw17.2
          refine lv_iconst (v := iI (-1)) hx hb (dk_at dkX9_shuttingKey_1 2 rfl) (by decide +kernel) ?_
          refine lv_icmp_ne (tgt := 36) hx hb (dk_at dkX9_shuttingKey_1 3 rfl) (by decide) (fun c18 => ?_) (fun c18 => ?_)
          · have c18 : ¬ z15 = (-1) := mt (i_eq (rb hw17 (by decide) (by decide)) ⟨by decide, by decide⟩).mpr c18
            exact J36_14 _ _ _ (fun zq ⟨mm1, hq⟩ => hk1 _ ⟨mm1 + 1, (u_d_X9_shuttingKey_1 ⟨f5, ⟨z8, gz8.out, (Or.inr ⟨c9, ⟨z10, ghw12, (Or.inr ⟨c13, ⟨z15, ghw17, (Or.inl ⟨c18, hq⟩)⟩⟩)⟩⟩)⟩⟩)⟩) hP hS (lv_sub hl [0, 1, 2, 3] rfl)
          · have c18 : z15 = (-1) := (i_eq (rb hw17 (by decide) (by decide)) ⟨by decide, by decide⟩).mp c18
            refine lv_iload_n hx hb (dk_at dkX9_shuttingKey_1 4 rfl) rfl (lv_at hl 0 rfl) ?_
            exact RET z1 _ _ _ _ _ ⟨rfl, hk1 _ ⟨0 + 1, (u_d_X9_shuttingKey_1 ⟨f5, ⟨z8, gz8.out, (Or.inr ⟨c9, ⟨z10, ghw12, (Or.inr ⟨c13, ⟨z15, ghw17, (Or.inr ⟨c18, rfl⟩)⟩⟩)⟩⟩)⟩⟩)⟩, by omega⟩ hP hS (dk_at dkX9_shuttingKey_1 5 rfl)
  exact L2_3 _ 0 _ _ _ (by omega) (fun zq ⟨mm1, hq⟩ => (u_r_X9_shuttingKey ⟨mm1, hq⟩)) rfl hP hS (lv_sub hl [0, 1, 2, 3] rfl)

abbrev tr_r_X9_toldAct (ta : Nat) (x1 : Int) (x2 : Int) (x3 : Int) (A : St) (z : Int) (u : St) : Prop := (((x2 < 0 ∨ 2 < x2) ∧ (z = (-1) ∧ u = A)) ∨ (x2 = 0 ∧ (∃ z2 : Int, ∃ A3 : St, q_X9_goThrough ta x1 x3 A z2 A3 ∧ (z = z2 ∧ u = A3))) ∨ (x2 = 1 ∧ (∃ z6 : Int, ∃ A7 : St, q_X9_openWith ta x1 x3 A z6 A7 ∧ (z = z6 ∧ u = A7))) ∨ (x2 = 2 ∧ (∃ z10 : Int, q_X9_shuttingKey ta x1 x3 A z10 ∧ (∃ z13 : Int, ∃ A14 : St, q_X9_shutWith ta x1 z10 x3 A z13 A14 ∧ (z = z13 ∧ u = A14)))))
def r_X9_toldAct (ta : Nat) (x1 : Int) (x2 : Int) (x3 : Int) (A : St) (z : Int) (u : St) : Prop := tr_r_X9_toldAct ta x1 x2 x3 A z u
theorem u_r_X9_toldAct {ta : Nat} {x1 : Int} {x2 : Int} {x3 : Int} {A : St} {z : Int} {u : St} (h : tr_r_X9_toldAct ta x1 x2 x3 A z u) : r_X9_toldAct ta x1 x2 x3 A z u := h
def q_X9_toldAct (ta : Nat) (x1 : Int) (x2 : Int) (x3 : Int) (A : St) (z : Int) (u : St) : Prop := r_X9_toldAct ta x1 x2 x3 A z u ∧ IK u ∧ fk [33, 35, 37, 38, 39, 40, 42, 44, 46, 47, 48, 49, 72, 74, 76, 78, 79, 80, 81, 103, 105, 107, 109, 110, 111, 112] [] A u ∧ (-2147483648 ≤ z ∧ z ≤ 2147483647)
def ws_kc_X9_toldAct : List Cond := .code yX9_toldAct cX9_toldAct 4 (some .int) :: WY
set_option maxHeartbeats 4000000 in
set_option maxRecDepth 100000 in
theorem kc_X9_toldAct (l : Launch) (dC : Nat → ClassId) (dI : Nat → Nat → Nat) (cB cI cJ cZ cQ : ClassId) (aL aS : Nat) (q : Nat → Nat) (A : St) (ta : Nat) (x1 x2 x3 : Int) (hI : IK A) (hta : isT ta) (hx1 : (-2147483648 : Int) ≤ x1 ∧ x1 ≤ 2147483647) (hx2 : (-2147483648 : Int) ≤ x2 ∧ x2 ≤ 2147483647) (hx3 : (-2147483648 : Int) ≤ x3 ∧ x3 ≤ 2147483647) : KMi l yX9_toldAct ws_kc_X9_toldAct ({ frames := 5, cells := 0, slots := 0, locals := 123 } : Room) aL aS (dC, dI) (tyA cB cI cJ cZ cQ) (WK cB cI cJ cZ cQ q) A [.ref (q ta), .int (iI x1), .int (iI x2), .int (iI x3)] (fun z u => r_X9_toldAct ta x1 x2 x3 A z u ∧ IK u ∧ fk [33, 35, 37, 38, 39, 40, 42, 44, 46, 47, 48, 49, 72, 74, 76, 78, 79, 80, 81, 103, 105, 107, 109, 110, 111, 112] [] A u ∧ (-2147483648 ≤ z ∧ z ≤ 2147483647)) := by
  refine k_meti (cc := cX9_toldAct) (maxL := 4) WK_adr (plainFor_of_name (by decide +kernel)) rfl (Nat.le_of_ble_eq_true rfl) (fun p e s m below meth c Q AS ls hx hb hml hown hts hK hDD hA0 hE RET H locs hP hS hl => ?_)
  have hown : s.vm.findClass RX9 = some m.cls := hown
  have hl : lv_has ls 4 [(0, .ref (q ta)), (1, .int (iI x1)), (2, .int (iI x2)), (3, .int (iI x3))] := hl
  refine lv_iload_n hx hb (dk_at dkX9_toldAct_0 0 rfl) rfl (lv_at hl 2 rfl) ?_
  rcases (show (x2 < 0 ∨ 2 < x2) ∨ x2 = 0 ∨ x2 = 1 ∨ x2 = 2 by omega) with c1 | c1 | c1 | c1
  · refine lv_tableOut (tgt := 55) hx hb (dk_at dkX9_toldAct_0 1 rfl) (by rw [iI_toInt hx2]; exact c1) (by decide) ?_
    refine lv_iconst (v := iI (-1)) hx hb (dk_at dkX9_toldAct_1 5 rfl) (by decide +kernel) ?_
    exact RET (-1) _ _ _ _ _ ⟨(u_r_X9_toldAct (Or.inl ⟨c1, ⟨rfl, rfl⟩⟩)), hI, fk.rf, ⟨by decide, by decide⟩⟩ hP hS (dk_at dkX9_toldAct_1 6 rfl)
  · refine tp_i (y := iI 0) (congrArg iI c1) ?_
    refine lv_tableIn (off := 27) (tgt := 28) hx hb (dk_at dkX9_toldAct_0 1 rfl) (by decide +kernel) (by decide +kernel) (by decide +kernel) (by decide) ?_
    refine lv_aload_n hx hb (dk_at dkX9_toldAct_0 2 rfl) rfl (lv_at hl 0 rfl) ?_
    refine lv_iload_n hx hb (dk_at dkX9_toldAct_0 3 rfl) rfl (lv_at hl 1 rfl) ?_
    refine lv_iload_n hx hb (dk_at dkX9_toldAct_0 4 rfl) rfl (lv_at hl 3 rfl) ?_
    refine k_calli (As := [.int (iI x1), .int (iI x3)]) (rest := []) ⟨hx, hb, hml, hown, hts⟩ hE (kc_X9_goThrough l dC dI cB cI cJ cZ cQ aL aS q _ ta x1 x3 hI hta hx1 hx3) (cwV 2 hts (goodVk wkq_9_29 wkq_9_30 wkq_9_31 wkq_0_6 wkq_9_2) rfl rfl rfl (by decide +kernel) ⟨Nat.le_of_ble_eq_true rfl, Nat.le_of_ble_eq_true rfl⟩) hK hDD hA0 hP hS ta 9 (wkT hta) rfl rfl hl.1 (Nat.le_of_ble_eq_true rfl) (dk_at dkX9_toldAct_0 5 rfl) (fun z2 A3 H locs hw4 hP hS => ?_)
    have ghw4 : q_X9_goThrough ta x1 x3 A z2 A3 := hw4
    obtain ⟨_, hI, hf5, hw4⟩ := hw4
    exact RET z2 _ _ _ _ _ ⟨(u_r_X9_toldAct (Or.inr (Or.inl ⟨c1, ⟨z2, A3, ghw4, ⟨rfl, rfl⟩⟩⟩))), hI, fk.trans (fk.rf) hf5 rfl rfl, hw4⟩ hP hS (dk_at dkX9_toldAct_0 6 rfl)
  · refine tp_i (y := iI 1) (congrArg iI c1) ?_
    refine lv_tableIn (off := 34) (tgt := 35) hx hb (dk_at dkX9_toldAct_0 1 rfl) (by decide +kernel) (by decide +kernel) (by decide +kernel) (by decide) ?_
    refine lv_aload_n hx hb (dk_at dkX9_toldAct_0 7 rfl) rfl (lv_at hl 0 rfl) ?_
    refine lv_iload_n hx hb (dk_at dkX9_toldAct_0 8 rfl) rfl (lv_at hl 1 rfl) ?_
    refine lv_iload_n hx hb (dk_at dkX9_toldAct_0 9 rfl) rfl (lv_at hl 3 rfl) ?_
    refine k_calli (As := [.int (iI x1), .int (iI x3)]) (rest := []) ⟨hx, hb, hml, hown, hts⟩ hE (kc_X9_openWith l dC dI cB cI cJ cZ cQ aL aS q _ ta x1 x3 hI hta hx1 hx3) (cwV 2 hts (goodVk wkq_9_32 wkq_9_33 wkq_9_34 wkq_0_6 wkq_9_9) rfl rfl rfl (by decide +kernel) ⟨Nat.le_of_ble_eq_true rfl, Nat.le_of_ble_eq_true rfl⟩) hK hDD hA0 hP hS ta 9 (wkT hta) rfl rfl hl.1 (Nat.le_of_ble_eq_true rfl) (dk_at dkX9_toldAct_0 10 rfl) (fun z6 A7 H locs hw8 hP hS => ?_)
    have ghw8 : q_X9_openWith ta x1 x3 A z6 A7 := hw8
    obtain ⟨_, hI, hf9, hw8⟩ := hw8
    exact RET z6 _ _ _ _ _ ⟨(u_r_X9_toldAct (Or.inr (Or.inr (Or.inl ⟨c1, ⟨z6, A7, ghw8, ⟨rfl, rfl⟩⟩⟩)))), hI, fk.trans (fk.rf) hf9 rfl rfl, hw8⟩ hP hS (dk_at dkX9_toldAct_0 11 rfl)
  · refine tp_i (y := iI 2) (congrArg iI c1) ?_
    refine lv_tableIn (off := 41) (tgt := 42) hx hb (dk_at dkX9_toldAct_0 1 rfl) (by decide +kernel) (by decide +kernel) (by decide +kernel) (by decide) ?_
    refine lv_aload_n hx hb (dk_at dkX9_toldAct_0 12 rfl) rfl (lv_at hl 0 rfl) ?_
    refine lv_iload_n hx hb (dk_at dkX9_toldAct_0 13 rfl) rfl (lv_at hl 1 rfl) ?_
    refine lv_aload_n hx hb (dk_at dkX9_toldAct_0 14 rfl) rfl (lv_at hl 0 rfl) ?_
    refine lv_iload_n hx hb (dk_at dkX9_toldAct_0 15 rfl) rfl (lv_at hl 1 rfl) ?_
    refine lv_iload_n hx hb (dk_at dkX9_toldAct_1 0 rfl) rfl (lv_at hl 3 rfl) ?_
    refine k_calli (As := [.int (iI x1), .int (iI x3)]) (rest := [.int (iI x1), .ref (q ta)]) ⟨hx, hb, hml, hown, hts⟩ hE (kc_X9_shuttingKey l dC dI cB cI cJ cZ cQ aL aS q _ ta x1 x3 hI hta hx1 hx3) (cwV 2 hts (goodVk wkq_9_35 wkq_9_36 wkq_9_37 wkq_0_6 wkq_9_38) rfl rfl rfl (by decide +kernel) ⟨Nat.le_of_ble_eq_true rfl, Nat.le_of_ble_eq_true rfl⟩) hK hDD hA0 hP hS ta 9 (wkT hta) rfl rfl hl.1 (Nat.le_of_ble_eq_true rfl) (dk_at dkX9_toldAct_1 1 rfl) (fun z10 A11 H locs hw12 hP hS => ?_)
    obtain ⟨rfl, hw12⟩ := hw12
    have ghw12 : q_X9_shuttingKey ta x1 x3 A z10 := hw12
    have hw12 := hw12.2
    refine lv_iload_n hx hb (dk_at dkX9_toldAct_1 2 rfl) rfl (lv_at hl 3 rfl) ?_
    refine k_calli (As := [.int (iI x1), .int (iI z10), .int (iI x3)]) (rest := []) ⟨hx, hb, hml, hown, hts⟩ hE (kc_X9_shutWith l dC dI cB cI cJ cZ cQ aL aS q _ ta x1 z10 x3 hI hta hx1 (rb hw12 (by decide) (by decide)) hx3) (cwV 3 hts (goodVk wkq_9_39 wkq_9_40 wkq_9_41 wkq_0_6 wkq_9_16) rfl rfl rfl (by decide +kernel) ⟨Nat.le_of_ble_eq_true rfl, Nat.le_of_ble_eq_true rfl⟩) hK hDD hA0 hP hS ta 9 (wkT hta) rfl rfl hl.1 (Nat.le_of_ble_eq_true rfl) (dk_at dkX9_toldAct_1 3 rfl) (fun z13 A14 H locs hw15 hP hS => ?_)
    have ghw15 : q_X9_shutWith ta x1 z10 x3 A z13 A14 := hw15
    obtain ⟨_, hI, hf16, hw15⟩ := hw15
    exact RET z13 _ _ _ _ _ ⟨(u_r_X9_toldAct (Or.inr (Or.inr (Or.inr ⟨c1, ⟨z10, ghw12, ⟨z13, A14, ghw15, ⟨rfl, rfl⟩⟩⟩⟩)))), hI, fk.trans (fk.rf) hf16 rfl rfl, hw15⟩ hP hS (dk_at dkX9_toldAct_1 4 rfl)

abbrev tr_d_X9_holdersOf_2 (K1 : Int → Int → Prop) (z5 : Int) (z : Int) (z29 : Int) : Prop := ((-2147483648 ≤ z29 ∧ z29 ≤ 2147483647) ∧ (K1 (z5 + 1) z29))
def d_X9_holdersOf_2 (K1 : Int → Int → Prop) (z5 : Int) (z : Int) (z29 : Int) : Prop := tr_d_X9_holdersOf_2 K1 z5 z z29
theorem u_d_X9_holdersOf_2 {K1 : Int → Int → Prop} {z5 : Int} {z : Int} {z29 : Int} (h : tr_d_X9_holdersOf_2 K1 z5 z z29) : d_X9_holdersOf_2 K1 z5 z z29 := h
abbrev tr_d_X9_holdersOf_1 (ta : Nat) (x1 : Int) (A : St) (z : Int) (K1 : Int → Int → Prop) (z5 : Int) (z6 : Int) : Prop := ((0 ≤ z5 ∧ z5 ≤ 2147483647) ∧ ((-2147483648 ≤ z6 ∧ z6 ≤ 2147483647) ∧ (∃ z14 : Int, z14 = A (ta + 1) (2 : Int).toNat ∧ (((z14 ≤ z5) ∧ (z = z6)) ∨ ((¬ z14 ≤ z5) ∧ (∃ z16 : Int, q_X6_placeInRow (ta + 22) z5 x1 A z16 ∧ (((z16 = (-1)) ∧ (d_X9_holdersOf_2 K1 z5 z z6)) ∨ ((¬ z16 = (-1)) ∧ (∃ z21 : Int, z21 = A ((ta + 22) + 2) (z5).toNat ∧ (∃ z22 : Int, q_X9_isThere_1_3 ta z21 A z22 ∧ (((¬ z22 = 0) ∧ (∃ z27 : Int, z27 = oShl 1 z21 ∧ (∃ z28 : Int, z28 = oOr z6 z27 ∧ (d_X9_holdersOf_2 K1 z5 z z28)))) ∨ ((z22 = 0) ∧ (z = (-1))))))))))))))
def d_X9_holdersOf_1 (ta : Nat) (x1 : Int) (A : St) (z : Int) : Nat → Int → Int → Prop
  | 0, _, _ => False
  | nn9 + 1, z5, z6 => tr_d_X9_holdersOf_1 ta x1 A z (fun z5 z6 => d_X9_holdersOf_1 ta x1 A z nn9 z5 z6) z5 z6
theorem u_d_X9_holdersOf_1 {ta : Nat} {x1 : Int} {A : St} {z : Int} {nn9 : Nat} {z5 : Int} {z6 : Int} (h : tr_d_X9_holdersOf_1 ta x1 A z (fun z5 z6 => d_X9_holdersOf_1 ta x1 A z nn9 z5 z6) z5 z6) : d_X9_holdersOf_1 ta x1 A z (nn9 + 1) z5 z6 := h
abbrev tr_r_X9_holdersOf (ta : Nat) (x1 : Int) (A : St) (z : Int) : Prop := (∃ z2 : Int, z2 = oShr (A ta 15) x1 ∧ (∃ z3 : Int, z3 = oAnd z2 1 ∧ (((z3 = 0) ∧ (∃ nn9 : Nat, d_X9_holdersOf_1 ta x1 A z nn9 0 0)) ∨ ((¬ z3 = 0) ∧ (z = (-1))))))
def r_X9_holdersOf (ta : Nat) (x1 : Int) (A : St) (z : Int) : Prop := tr_r_X9_holdersOf ta x1 A z
theorem u_r_X9_holdersOf {ta : Nat} {x1 : Int} {A : St} {z : Int} (h : tr_r_X9_holdersOf ta x1 A z) : r_X9_holdersOf ta x1 A z := h
def q_X9_holdersOf (ta : Nat) (x1 : Int) (A : St) (z : Int) : Prop := r_X9_holdersOf ta x1 A z ∧ (-2147483648 ≤ z ∧ z ≤ 2147483647)
def ws_kc_X9_holdersOf : List Cond := .code yX9_holdersOf cX9_holdersOf 4 (some .int) :: WY
set_option maxHeartbeats 4000000 in
set_option maxRecDepth 100000 in
theorem kc_X9_holdersOf (l : Launch) (dC : Nat → ClassId) (dI : Nat → Nat → Nat) (cB cI cJ cZ cQ : ClassId) (aL aS : Nat) (q : Nat → Nat) (A : St) (ta : Nat) (x1 : Int) (hI : IK A) (hta : isT ta) (hx1 : (-2147483648 : Int) ≤ x1 ∧ x1 ≤ 2147483647) : KMi l yX9_holdersOf ws_kc_X9_holdersOf ({ frames := 2, cells := 0, slots := 0, locals := 45 } : Room) aL aS (dC, dI) (tyA cB cI cJ cZ cQ) (WK cB cI cJ cZ cQ q) A [.ref (q ta), .int (iI x1)] (fun z u => A = u ∧ r_X9_holdersOf ta x1 A z ∧ (-2147483648 ≤ z ∧ z ≤ 2147483647)) := by
  refine k_meti (cc := cX9_holdersOf) (maxL := 4) WK_adr (plainFor_of_name (by decide +kernel)) rfl (Nat.le_of_ble_eq_true rfl) (fun p e s m below meth c Q AS ls hx hb hml hown hts hK hDD hA0 hE RET H locs hP hS hl => ?_)
  have hown : s.vm.findClass RX9 = some m.cls := hown
  have hl : lv_has ls 4 [(0, .ref (q ta)), (1, .int (iI x1))] := hl
  have hiX9 : ∀ w ∈ u_ws RX9 TX9 16, w ∈ ws_kc_X9_holdersOf := fun w h => List.mem_cons_of_mem _ (wy_layX9 w h)
  have hiX6 : ∀ w ∈ u_ws RX6 TX6 4, w ∈ ws_kc_X9_holdersOf := fun w h => List.mem_cons_of_mem _ (wy_layX6 w h)
  refine lv_aload_n hx hb (dk_at dkX9_holdersOf_0 0 rfl) rfl (lv_at hl 0 rfl) ?_
  have r1 : (-2147483648 : Int) ≤ (A ta 15) ∧ (A ta 15) ≤ 2147483647 := irT_15 hta hI
  refine va_get (D := (dC, dI)) (ci := 9) (v := .int (iI (A ta 15))) (C := RX9) (T := TX9) (N := 16) hx hb hts hiX9 hown hK hP ta (wkT hta) rfl 15 (by decide) (hts _ (List.mem_cons_of_mem _ wkq_5_18)) (fun _ h9 => h9) rfl (dk_at dkX9_holdersOf_0 1 rfl) ?_
  refine lv_iload_n hx hb (dk_at dkX9_holdersOf_0 2 rfl) rfl (lv_at hl 1 rfl) ?_
  refine lv_ishr hx hb (dk_at dkX9_holdersOf_0 3 rfl) ?_
  refine x_absE (fun z2 gz2 hz2 => ?_)
  refine lv_iconst (v := iI 1) hx hb (dk_at dkX9_holdersOf_0 4 rfl) (by decide +kernel) ?_
  refine lv_iand hx hb (dk_at dkX9_holdersOf_0 5 rfl) ?_
  refine x_andE (b := 1) (by omega) (fun z3 gz3 hz3 => ?_)
  refine lv_if_eq (tgt := 13) hx hb (dk_at dkX9_holdersOf_0 6 rfl) (by decide) (fun c4 => ?_) (fun c4 => ?_)
  · have c4 : z3 = 0 := (i_eq0 (by omega)).mp c4
    refine lv_iconst (v := iI 0) hx hb (dk_at dkX9_holdersOf_0 9 rfl) (by decide +kernel) ?_
    refine lv_istore_n (lv' := [(2, .int (iI 0)), (0, .ref (q ta)), (1, .int (iI x1))]) hx hb (dk_at dkX9_holdersOf_0 10 rfl) rfl hl (by decide) rfl (fun ls hl => ?_)
    refine lv_iconst (v := iI 0) hx hb (dk_at dkX9_holdersOf_0 11 rfl) (by decide +kernel) ?_
    refine lv_istore_n (lv' := [(3, .int (iI 0)), (2, .int (iI 0)), (0, .ref (q ta)), (1, .int (iI x1))]) hx hb (dk_at dkX9_holdersOf_0 12 rfl) rfl hl (by decide) rfl (fun ls hl => ?_)
    have L17_8 : ∀ (n13 : Nat) (z5 z6 : Int) (H : Heap) (locs : List Loc) (ls : Array Slot), (0 ≤ z5 ∧ z5 ≤ 2147483647) → (-2147483648 ≤ z6 ∧ z6 ≤ 2147483647) → (∀ (z : Int), (∃ mm1 : Nat, (d_X9_holdersOf_1 ta x1 A z mm1 z5 z6)) → r_X9_holdersOf ta x1 A z) → ((5 - z5).toNat = n13) → va_P (dC, dI) vwCl (WK cB cI cJ cZ cQ q A) H → va_S AS s.heap H locs → lv_has ls 4 [(3, .int (iI z5)), (2, .int (iI z6)), (0, .ref (q ta)), (1, .int (iI x1))] → W p l e (headSpec ws_kc_X9_holdersOf ({ frames := 2, cells := 0, slots := 0, locals := 45 } : Room)).room s m [.ref (q ta), .int (iI x1)].toArray below meth c H locs 0 0 Q (F0 m 17 ls []) := by
      intro n13
      induction n13 using Nat.strongRecOn with
      | ind n13 ih9 =>
        intro z5 z6 H locs ls f10 f11 hk1 hn13 hP hS hl
        refine lv_iload_n hx hb (dk_at dkX9_holdersOf_0 13 rfl) rfl (lv_at hl 0 rfl) ?_
        refine lv_aload_n hx hb (dk_at dkX9_holdersOf_0 14 rfl) rfl (lv_at hl 2 rfl) ?_
        refine va_get (D := (dC, dI)) (ci := 9) (v := .ref (q (ta + 1))) (C := RX9) (T := TX9) (N := 16) hx hb hts hiX9 hown hK hP ta (wkT hta) rfl 0 (by decide) (hts _ (List.mem_cons_of_mem _ wkq_0_8)) (fun _ h9 => h9) rfl (dk_at dkX9_holdersOf_0 15 rfl) ?_
        refine lv_iconst (v := iI 2) hx hb (dk_at dkX9_holdersOf_1 0 rfl) (by decide +kernel) ?_
        refine x_iald (Wf := WK cB cI cJ cZ cQ q) hx hb hK hP (ta + 1) 1 (wkTc hta) rfl (by decide) (by decide) (dk_at dkX9_holdersOf_1 1 rfl) (fun z14 hz14 => ?_)
        have rz14 : (0 : Int) ≤ z14 ∧ z14 ≤ 4 := by rw [hz14]; exact irTc2 hta hI
        have gz14 := Hd.mk hz14
        refine lv_icmp_ge (tgt := 79) hx hb (dk_at dkX9_holdersOf_1 2 rfl) (by decide) (fun c15 => ?_) (fun c15 => ?_)
        · have c15 : z14 ≤ z5 := (i_le (rb rz14 (by decide) (by decide)) (rb f10 (by decide) (by decide))).mp c15
          refine lv_iload_n hx hb (dk_at dkX9_holdersOf_3 1 rfl) rfl (lv_at hl 1 rfl) ?_
          exact RET z6 _ _ _ _ _ ⟨rfl, hk1 _ ⟨0 + 1, (u_d_X9_holdersOf_1 ⟨f10, ⟨f11, ⟨z14, gz14.out, (Or.inl ⟨c15, rfl⟩)⟩⟩⟩)⟩, f11⟩ hP hS (dk_at dkX9_holdersOf_3 2 rfl)
        · have c15 : ¬ z14 ≤ z5 := mt (i_le (rb rz14 (by decide) (by decide)) (rb f10 (by decide) (by decide))).mpr c15
          refine lv_aload_n hx hb (dk_at dkX9_holdersOf_1 3 rfl) rfl (lv_at hl 2 rfl) ?_
          refine va_get (D := (dC, dI)) (ci := 9) (v := .ref (q (ta + 22))) (C := RX9) (T := TX9) (N := 16) hx hb hts hiX9 hown hK hP ta (wkT hta) rfl 14 (by decide) (hts _ (List.mem_cons_of_mem _ wkq_0_9)) (fun _ h9 => h9) rfl (dk_at dkX9_holdersOf_1 4 rfl) ?_
          refine lv_iload_n hx hb (dk_at dkX9_holdersOf_1 5 rfl) rfl (lv_at hl 0 rfl) ?_
          refine lv_iload_n hx hb (dk_at dkX9_holdersOf_1 6 rfl) rfl (lv_at hl 3 rfl) ?_
          refine k_calli (As := [.int (iI z5), .int (iI x1)]) (rest := []) ⟨hx, hb, hml, hown, hts⟩ hE (kc_X6_placeInRow l dC dI cB cI cJ cZ cQ aL aS q _ (ta + 22) z5 x1 hI hta.s (rb f10 (by decide) (by decide)) hx1) (cwV 2 hts (goodVk wkq_8_58 wkq_4_59 wkq_5_0 wkq_0_52 wkq_5_1) rfl rfl rfl (by decide +kernel) ⟨Nat.le_of_ble_eq_true rfl, Nat.le_of_ble_eq_true rfl⟩) hK hDD hA0 hP hS (ta + 22) 6 (wkS hta.s) rfl rfl hl.1 (Nat.le_of_ble_eq_true rfl) (dk_at dkX9_holdersOf_1 7 rfl) (fun z16 A17 H locs hw18 hP hS => ?_)
          obtain ⟨rfl, hw18⟩ := hw18
          have ghw18 : q_X6_placeInRow (ta + 22) z5 x1 A z16 := hw18
          have hw18 := hw18.2
          refine lv_iconst (v := iI (-1)) hx hb (dk_at dkX9_holdersOf_1 8 rfl) (by decide +kernel) ?_
          have J73_20 : ∀ (z29 : Int) (H : Heap) (locs : List Loc) (ls : Array Slot), (-2147483648 ≤ z29 ∧ z29 ≤ 2147483647) → (∀ (z : Int), (∃ mm1 : Nat, (d_X9_holdersOf_2 (fun z5' z6' => d_X9_holdersOf_1 ta x1 A z mm1 z5' z6') z5 z z29)) → r_X9_holdersOf ta x1 A z) → va_P (dC, dI) vwCl (WK cB cI cJ cZ cQ q A) H → va_S AS s.heap H locs → lv_has ls 4 [(3, .int (iI z5)), (2, .int (iI z29)), (0, .ref (q ta)), (1, .int (iI x1))] → W p l e (headSpec ws_kc_X9_holdersOf ({ frames := 2, cells := 0, slots := 0, locals := 45 } : Room)).room s m [.ref (q ta), .int (iI x1)].toArray below meth c H locs 0 0 Q (F0 m 73 ls []) := by
            intro z29 H locs ls f31 hk2 hP hS hl
            refine lv_iinc (v := iI (z5 + 1)) (lv' := [(3, .int (iI (z5 + 1))), (2, .int (iI z29)), (0, .ref (q ta)), (1, .int (iI x1))]) hx hb (dk_at dkX9_holdersOf_2 15 rfl) hl (k := 0) rfl (i_inc (by omega)) (by decide) rfl (fun ls hl => ?_)
            refine lv_goto (tgt := 17) hx hb (dk_at dkX9_holdersOf_3 0 rfl) (by decide) ?_
            exact ih9 _ (by omega) (z5 + 1) z29 _ _ _ (by omega) (by omega) (fun zq ⟨mm1, hq⟩ => hk2 _ ⟨mm1, (u_d_X9_holdersOf_2 ⟨f31, hq⟩)⟩) rfl hP hS (lv_sub hl [0, 1, 2, 3] rfl)
          refine lv_icmp_eq (tgt := 73) hx hb (dk_at dkX9_holdersOf_1 9 rfl) (by decide) (fun c19 => ?_) (fun c19 => ?_)
          · have c19 : z16 = (-1) := (i_eq (rb hw18 (by decide) (by decide)) ⟨by decide, by decide⟩).mp c19
            exact J73_20 z6 _ _ _ (by omega) (fun zq ⟨mm1, hq⟩ => hk1 _ ⟨mm1 + 1, (u_d_X9_holdersOf_1 ⟨f10, ⟨f11, ⟨z14, gz14.out, (Or.inr ⟨c15, ⟨z16, ghw18, (Or.inl ⟨c19, hq⟩)⟩⟩)⟩⟩⟩)⟩) hP hS (lv_sub hl [0, 1, 2, 3] rfl)
          · have c19 : ¬ z16 = (-1) := mt (i_eq (rb hw18 (by decide) (by decide)) ⟨by decide, by decide⟩).mpr c19
            refine lv_aload_n hx hb (dk_at dkX9_holdersOf_1 10 rfl) rfl (lv_at hl 2 rfl) ?_
            refine lv_iconst (v := iI 3) hx hb (dk_at dkX9_holdersOf_1 11 rfl) (by decide +kernel) ?_
            refine lv_aload_n hx hb (dk_at dkX9_holdersOf_1 12 rfl) rfl (lv_at hl 2 rfl) ?_
            refine va_get (D := (dC, dI)) (ci := 9) (v := .ref (q (ta + 22))) (C := RX9) (T := TX9) (N := 16) hx hb hts hiX9 hown hK hP ta (wkT hta) rfl 14 (by decide) (hts _ (List.mem_cons_of_mem _ wkq_0_9)) (fun _ h9 => h9) rfl (dk_at dkX9_holdersOf_1 13 rfl) ?_
            refine va_get (D := (dC, dI)) (ci := 6) (v := .ref (q ((ta + 22) + 2))) (C := RX6) (T := TX6) (N := 4) hx hb hts hiX6 hown hK hP (ta + 22) (wkS hta.s) rfl 1 (by decide) (hts _ (List.mem_cons_of_mem _ wkq_0_10)) (fun _ h9 => h9) rfl (dk_at dkX9_holdersOf_1 14 rfl) ?_
            refine lv_iload_n hx hb (dk_at dkX9_holdersOf_1 15 rfl) rfl (lv_at hl 0 rfl) ?_
            refine x_iald (Wf := WK cB cI cJ cZ cQ q) hx hb hK hP ((ta + 22) + 2) 1 (wkSw hta.s) rfl (by omega) (by decide) (dk_at dkX9_holdersOf_2 0 rfl) (fun z21 hz21 => ?_)
            have rz21 : (-2147483648 : Int) ≤ z21 ∧ z21 ≤ 2147483647 := by rw [hz21]; exact irSw hta.s hI
            have gz21 := Hd.mk hz21
            refine k_calli (As := [.int (iI 3), .int (iI z21)]) (rest := []) ⟨hx, hb, hml, hown, hts⟩ hE (kc_X9_isThere_1_3 l dC dI cB cI cJ cZ cQ aL aS q _ ta z21 hI hta rz21) (cwV 2 hts (goodVk wkq_2_52 wkq_0_22 wkq_0_23 wkq_0_6 wkq_0_24) rfl rfl rfl (by decide +kernel) ⟨Nat.le_of_ble_eq_true rfl, Nat.le_of_ble_eq_true rfl⟩) hK hDD hA0 hP hS ta 9 (wkT hta) rfl rfl hl.1 (Nat.le_of_ble_eq_true rfl) (dk_at dkX9_holdersOf_2 1 rfl) (fun z22 A23 H locs hw24 hP hS => ?_)
            obtain ⟨rfl, hw24⟩ := hw24
            have ghw24 : q_X9_isThere_1_3 ta z21 A z22 := hw24
            have hw24 := hw24.2
            have rz22 : 0 ≤ z22 ∧ z22 ≤ 1 := hw24.1
            have hw24 := hw24.2
            refine lv_if_ne (tgt := 59) hx hb (dk_at dkX9_holdersOf_2 2 rfl) (by decide) (fun c25 => ?_) (fun c25 => ?_)
            · have c25 : ¬ z22 = 0 := mt (i_eq0 (rb rz22 (by decide) (by decide))).mpr c25
              have hw24b := hw24 (by omega)
              clear hw24
              refine lv_iload_n hx hb (dk_at dkX9_holdersOf_2 5 rfl) rfl (lv_at hl 1 rfl) ?_
              refine lv_iconst (v := iI 1) hx hb (dk_at dkX9_holdersOf_2 6 rfl) (by decide +kernel) ?_
              refine lv_aload_n hx hb (dk_at dkX9_holdersOf_2 7 rfl) rfl (lv_at hl 2 rfl) ?_
              refine va_get (D := (dC, dI)) (ci := 9) (v := .ref (q (ta + 22))) (C := RX9) (T := TX9) (N := 16) hx hb hts hiX9 hown hK hP ta (wkT hta) rfl 14 (by decide) (hts _ (List.mem_cons_of_mem _ wkq_0_9)) (fun _ h9 => h9) rfl (dk_at dkX9_holdersOf_2 8 rfl) ?_
              refine va_get (D := (dC, dI)) (ci := 6) (v := .ref (q ((ta + 22) + 2))) (C := RX6) (T := TX6) (N := 4) hx hb hts hiX6 hown hK hP (ta + 22) (wkS hta.s) rfl 1 (by decide) (hts _ (List.mem_cons_of_mem _ wkq_0_10)) (fun _ h9 => h9) rfl (dk_at dkX9_holdersOf_2 9 rfl) ?_
              refine lv_iload_n hx hb (dk_at dkX9_holdersOf_2 10 rfl) rfl (lv_at hl 0 rfl) ?_
              refine x_iald (Wf := WK cB cI cJ cZ cQ q) hx hb hK hP ((ta + 22) + 2) 1 (wkSw hta.s) rfl (by omega) (by decide) (dk_at dkX9_holdersOf_2 11 rfl) (fun z26 hz26 => ?_)
              have rz26 : (-2147483648 : Int) ≤ z26 ∧ z26 ≤ 2147483647 := by rw [hz26]; exact irSw hta.s hI
              have gz26 := Hd.mk hz26
              have ez26 : z26 = z21 := hz26.trans hz21.symm
              refine tp_i (y := iI z21) (congrArg iI ez26) ?_
              refine lv_ishl hx hb (dk_at dkX9_holdersOf_2 12 rfl) ?_
              refine x_absE (fun z27 gz27 hz27 => ?_)
              refine lv_ior hx hb (dk_at dkX9_holdersOf_2 13 rfl) ?_
              refine x_absE (fun z28 gz28 hz28 => ?_)
              refine lv_istore_n (lv' := [(2, .int (iI z28)), (3, .int (iI z5)), (0, .ref (q ta)), (1, .int (iI x1))]) hx hb (dk_at dkX9_holdersOf_2 14 rfl) rfl hl (by decide) rfl (fun ls hl => ?_)
              exact J73_20 z28 _ _ _ (by omega) (fun zq ⟨mm1, hq⟩ => hk1 _ ⟨mm1 + 1, (u_d_X9_holdersOf_1 ⟨f10, ⟨f11, ⟨z14, gz14.out, (Or.inr ⟨c15, ⟨z16, ghw18, (Or.inr ⟨c19, ⟨z21, gz21.out, ⟨z22, ghw24, (Or.inl ⟨c25, ⟨z27, gz27.out, ⟨z28, gz28.out, hq⟩⟩⟩)⟩⟩⟩)⟩⟩)⟩⟩⟩)⟩) hP hS (lv_sub hl [1, 0, 2, 3] rfl)
            · have c25 : z22 = 0 := (i_eq0 (rb rz22 (by decide) (by decide))).mp c25
              clear hw24
              refine lv_iconst (v := iI (-1)) hx hb (dk_at dkX9_holdersOf_2 3 rfl) (by decide +kernel) ?_
              exact RET (-1) _ _ _ _ _ ⟨rfl, hk1 _ ⟨0 + 1, (u_d_X9_holdersOf_1 ⟨f10, ⟨f11, ⟨z14, gz14.out, (Or.inr ⟨c15, ⟨z16, ghw18, (Or.inr ⟨c19, ⟨z21, gz21.out, ⟨z22, ghw24, (Or.inr ⟨c25, rfl⟩)⟩⟩⟩)⟩⟩)⟩⟩⟩)⟩, ⟨by decide, by decide⟩⟩ hP hS (dk_at dkX9_holdersOf_2 4 rfl)
    exact L17_8 _ 0 0 _ _ _ (by omega) (by omega) (fun zq ⟨mm1, hq⟩ => (u_r_X9_holdersOf ⟨z2, gz2.out, ⟨z3, gz3.out, (Or.inl ⟨c4, ⟨mm1, hq⟩⟩)⟩⟩)) rfl hP hS (lv_sub hl [0, 1, 2, 3] rfl)
  · have c4 : ¬ z3 = 0 := mt (i_eq0 (by omega)).mpr c4
    refine lv_iconst (v := iI (-1)) hx hb (dk_at dkX9_holdersOf_0 7 rfl) (by decide +kernel) ?_
    exact RET (-1) _ _ _ _ _ ⟨rfl, (u_r_X9_holdersOf ⟨z2, gz2.out, ⟨z3, gz3.out, (Or.inr ⟨c4, rfl⟩)⟩⟩), ⟨by decide, by decide⟩⟩ hP hS (dk_at dkX9_holdersOf_0 8 rfl)

abbrev tr_d_X9_workOf_2 (K1 : Int → Int → Prop) (z1 : Int) (z : Int) (z19 : Int) : Prop := ((-2147483648 ≤ z19 ∧ z19 ≤ 2147483647) ∧ (K1 (z1 + 1) z19))
def d_X9_workOf_2 (K1 : Int → Int → Prop) (z1 : Int) (z : Int) (z19 : Int) : Prop := tr_d_X9_workOf_2 K1 z1 z z19
theorem u_d_X9_workOf_2 {K1 : Int → Int → Prop} {z1 : Int} {z : Int} {z19 : Int} (h : tr_d_X9_workOf_2 K1 z1 z z19) : d_X9_workOf_2 K1 z1 z z19 := h
abbrev tr_d_X9_workOf_1 (ta : Nat) (x1 : Int) (A : St) (z : Int) (K1 : Int → Int → Prop) (z1 : Int) (z2 : Int) : Prop := ((0 ≤ z1 ∧ z1 ≤ 2147483647) ∧ ((-2147483648 ≤ z2 ∧ z2 ≤ 2147483647) ∧ (∃ z10 : Int, z10 = A (ta + 1) (2 : Int).toNat ∧ (((z10 ≤ z1) ∧ (z = z2)) ∨ ((¬ z10 ≤ z1) ∧ (∃ z12 : Int, q_X6_placeInRow (ta + 22) z1 x1 A z12 ∧ (((z12 = (-1)) ∧ (d_X9_workOf_2 K1 z1 z z2)) ∨ ((¬ z12 = (-1)) ∧ (∃ z17 : Int, z17 = A ((ta + 22) + 3) (z1).toNat ∧ (∃ z18 : Int, z18 = oWrap (z2 + z17 - z12) ∧ (d_X9_workOf_2 K1 z1 z z18)))))))))))
def d_X9_workOf_1 (ta : Nat) (x1 : Int) (A : St) (z : Int) : Nat → Int → Int → Prop
  | 0, _, _ => False
  | nn9 + 1, z1, z2 => tr_d_X9_workOf_1 ta x1 A z (fun z1 z2 => d_X9_workOf_1 ta x1 A z nn9 z1 z2) z1 z2
theorem u_d_X9_workOf_1 {ta : Nat} {x1 : Int} {A : St} {z : Int} {nn9 : Nat} {z1 : Int} {z2 : Int} (h : tr_d_X9_workOf_1 ta x1 A z (fun z1 z2 => d_X9_workOf_1 ta x1 A z nn9 z1 z2) z1 z2) : d_X9_workOf_1 ta x1 A z (nn9 + 1) z1 z2 := h
abbrev tr_r_X9_workOf (ta : Nat) (x1 : Int) (A : St) (z : Int) : Prop := (∃ nn9 : Nat, d_X9_workOf_1 ta x1 A z nn9 0 0)
def r_X9_workOf (ta : Nat) (x1 : Int) (A : St) (z : Int) : Prop := tr_r_X9_workOf ta x1 A z
theorem u_r_X9_workOf {ta : Nat} {x1 : Int} {A : St} {z : Int} (h : tr_r_X9_workOf ta x1 A z) : r_X9_workOf ta x1 A z := h
def q_X9_workOf (ta : Nat) (x1 : Int) (A : St) (z : Int) : Prop := r_X9_workOf ta x1 A z ∧ (-2147483648 ≤ z ∧ z ≤ 2147483647)
def ws_kc_X9_workOf : List Cond := .code yX9_workOf cX9_workOf 5 (some .int) :: WY
set_option maxHeartbeats 4000000 in
set_option maxRecDepth 100000 in
theorem kc_X9_workOf (l : Launch) (dC : Nat → ClassId) (dI : Nat → Nat → Nat) (cB cI cJ cZ cQ : ClassId) (aL aS : Nat) (q : Nat → Nat) (A : St) (ta : Nat) (x1 : Int) (hI : IK A) (hta : isT ta) (hx1 : (-2147483648 : Int) ≤ x1 ∧ x1 ≤ 2147483647) : KMi l yX9_workOf ws_kc_X9_workOf ({ frames := 2, cells := 0, slots := 0, locals := 45 } : Room) aL aS (dC, dI) (tyA cB cI cJ cZ cQ) (WK cB cI cJ cZ cQ q) A [.ref (q ta), .int (iI x1)] (fun z u => A = u ∧ r_X9_workOf ta x1 A z ∧ (-2147483648 ≤ z ∧ z ≤ 2147483647)) := by
  refine k_meti (cc := cX9_workOf) (maxL := 5) WK_adr (plainFor_of_name (by decide +kernel)) rfl (Nat.le_of_ble_eq_true rfl) (fun p e s m below meth c Q AS ls hx hb hml hown hts hK hDD hA0 hE RET H locs hP hS hl => ?_)
  have hown : s.vm.findClass RX9 = some m.cls := hown
  have hl : lv_has ls 5 [(0, .ref (q ta)), (1, .int (iI x1))] := hl
  have hiX9 : ∀ w ∈ u_ws RX9 TX9 16, w ∈ ws_kc_X9_workOf := fun w h => List.mem_cons_of_mem _ (wy_layX9 w h)
  have hiX6 : ∀ w ∈ u_ws RX6 TX6 4, w ∈ ws_kc_X9_workOf := fun w h => List.mem_cons_of_mem _ (wy_layX6 w h)
  refine lv_iconst (v := iI 0) hx hb (dk_at dkX9_workOf_0 0 rfl) (by decide +kernel) ?_
  refine lv_istore_n (lv' := [(2, .int (iI 0)), (0, .ref (q ta)), (1, .int (iI x1))]) hx hb (dk_at dkX9_workOf_0 1 rfl) rfl hl (by decide) rfl (fun ls hl => ?_)
  refine lv_iconst (v := iI 0) hx hb (dk_at dkX9_workOf_0 2 rfl) (by decide +kernel) ?_
  refine lv_istore_n (lv' := [(3, .int (iI 0)), (2, .int (iI 0)), (0, .ref (q ta)), (1, .int (iI x1))]) hx hb (dk_at dkX9_workOf_0 3 rfl) rfl hl (by decide) rfl (fun ls hl => ?_)
  have L4_4 : ∀ (n9 : Nat) (z1 z2 : Int) (H : Heap) (locs : List Loc) (ls : Array Slot), (0 ≤ z1 ∧ z1 ≤ 2147483647) → (-2147483648 ≤ z2 ∧ z2 ≤ 2147483647) → (∀ (z : Int), (∃ mm1 : Nat, (d_X9_workOf_1 ta x1 A z mm1 z1 z2)) → r_X9_workOf ta x1 A z) → ((5 - z1).toNat = n9) → va_P (dC, dI) vwCl (WK cB cI cJ cZ cQ q A) H → va_S AS s.heap H locs → lv_has ls 5 [(3, .int (iI z1)), (2, .int (iI z2)), (0, .ref (q ta)), (1, .int (iI x1))] → W p l e (headSpec ws_kc_X9_workOf ({ frames := 2, cells := 0, slots := 0, locals := 45 } : Room)).room s m [.ref (q ta), .int (iI x1)].toArray below meth c H locs 0 0 Q (F0 m 4 ls []) := by
    intro n9
    induction n9 using Nat.strongRecOn with
    | ind n9 ih5 =>
      intro z1 z2 H locs ls f6 f7 hk1 hn9 hP hS hl
      refine lv_iload_n hx hb (dk_at dkX9_workOf_0 4 rfl) rfl (lv_at hl 0 rfl) ?_
      refine lv_aload_n hx hb (dk_at dkX9_workOf_0 5 rfl) rfl (lv_at hl 2 rfl) ?_
      refine va_get (D := (dC, dI)) (ci := 9) (v := .ref (q (ta + 1))) (C := RX9) (T := TX9) (N := 16) hx hb hts hiX9 hown hK hP ta (wkT hta) rfl 0 (by decide) (hts _ (List.mem_cons_of_mem _ wkq_0_8)) (fun _ h9 => h9) rfl (dk_at dkX9_workOf_0 6 rfl) ?_
      refine lv_iconst (v := iI 2) hx hb (dk_at dkX9_workOf_0 7 rfl) (by decide +kernel) ?_
      refine x_iald (Wf := WK cB cI cJ cZ cQ q) hx hb hK hP (ta + 1) 1 (wkTc hta) rfl (by decide) (by decide) (dk_at dkX9_workOf_0 8 rfl) (fun z10 hz10 => ?_)
      have rz10 : (0 : Int) ≤ z10 ∧ z10 ≤ 4 := by rw [hz10]; exact irTc2 hta hI
      have gz10 := Hd.mk hz10
      refine lv_icmp_ge (tgt := 52) hx hb (dk_at dkX9_workOf_0 9 rfl) (by decide) (fun c11 => ?_) (fun c11 => ?_)
      · have c11 : z10 ≤ z1 := (i_le (rb rz10 (by decide) (by decide)) (rb f6 (by decide) (by decide))).mp c11
        refine lv_iload_n hx hb (dk_at dkX9_workOf_1 15 rfl) rfl (lv_at hl 1 rfl) ?_
        exact RET z2 _ _ _ _ _ ⟨rfl, hk1 _ ⟨0 + 1, (u_d_X9_workOf_1 ⟨f6, ⟨f7, ⟨z10, gz10.out, (Or.inl ⟨c11, rfl⟩)⟩⟩⟩)⟩, f7⟩ hP hS (dk_at dkX9_workOf_2 0 rfl)
      · have c11 : ¬ z10 ≤ z1 := mt (i_le (rb rz10 (by decide) (by decide)) (rb f6 (by decide) (by decide))).mpr c11
        refine lv_aload_n hx hb (dk_at dkX9_workOf_0 10 rfl) rfl (lv_at hl 2 rfl) ?_
        refine va_get (D := (dC, dI)) (ci := 9) (v := .ref (q (ta + 22))) (C := RX9) (T := TX9) (N := 16) hx hb hts hiX9 hown hK hP ta (wkT hta) rfl 14 (by decide) (hts _ (List.mem_cons_of_mem _ wkq_0_9)) (fun _ h9 => h9) rfl (dk_at dkX9_workOf_0 11 rfl) ?_
        refine lv_iload_n hx hb (dk_at dkX9_workOf_0 12 rfl) rfl (lv_at hl 0 rfl) ?_
        refine lv_iload_n hx hb (dk_at dkX9_workOf_0 13 rfl) rfl (lv_at hl 3 rfl) ?_
        refine k_calli (As := [.int (iI z1), .int (iI x1)]) (rest := []) ⟨hx, hb, hml, hown, hts⟩ hE (kc_X6_placeInRow l dC dI cB cI cJ cZ cQ aL aS q _ (ta + 22) z1 x1 hI hta.s (rb f6 (by decide) (by decide)) hx1) (cwV 2 hts (goodVk wkq_8_58 wkq_4_59 wkq_5_0 wkq_0_52 wkq_5_1) rfl rfl rfl (by decide +kernel) ⟨Nat.le_of_ble_eq_true rfl, Nat.le_of_ble_eq_true rfl⟩) hK hDD hA0 hP hS (ta + 22) 6 (wkS hta.s) rfl rfl hl.1 (Nat.le_of_ble_eq_true rfl) (dk_at dkX9_workOf_0 14 rfl) (fun z12 A13 H locs hw14 hP hS => ?_)
        obtain ⟨rfl, hw14⟩ := hw14
        have ghw14 : q_X6_placeInRow (ta + 22) z1 x1 A z12 := hw14
        have hw14 := hw14.2
        refine lv_istore (lv' := [(4, .int (iI z12)), (3, .int (iI z1)), (2, .int (iI z2)), (0, .ref (q ta)), (1, .int (iI x1))]) hx hb (dk_at dkX9_workOf_0 15 rfl) hl (by decide) rfl (fun ls hl => ?_)
        refine lv_iload hx hb (dk_at dkX9_workOf_1 0 rfl) (lv_at hl 0 rfl) ?_
        refine lv_iconst (v := iI (-1)) hx hb (dk_at dkX9_workOf_1 1 rfl) (by decide +kernel) ?_
        have J46_16 : ∀ (z19 : Int) (H : Heap) (locs : List Loc) (ls : Array Slot), (-2147483648 ≤ z19 ∧ z19 ≤ 2147483647) → (∀ (z : Int), (∃ mm1 : Nat, (d_X9_workOf_2 (fun z1' z2' => d_X9_workOf_1 ta x1 A z mm1 z1' z2') z1 z z19)) → r_X9_workOf ta x1 A z) → va_P (dC, dI) vwCl (WK cB cI cJ cZ cQ q A) H → va_S AS s.heap H locs → lv_has ls 5 [(4, .int (iI z12)), (3, .int (iI z1)), (2, .int (iI z19)), (0, .ref (q ta)), (1, .int (iI x1))] → W p l e (headSpec ws_kc_X9_workOf ({ frames := 2, cells := 0, slots := 0, locals := 45 } : Room)).room s m [.ref (q ta), .int (iI x1)].toArray below meth c H locs 0 0 Q (F0 m 46 ls []) := by
          intro z19 H locs ls f21 hk2 hP hS hl
          refine lv_iinc (v := iI (z1 + 1)) (lv' := [(3, .int (iI (z1 + 1))), (4, .int (iI z12)), (2, .int (iI z19)), (0, .ref (q ta)), (1, .int (iI x1))]) hx hb (dk_at dkX9_workOf_1 13 rfl) hl (k := 1) rfl (i_inc (by omega)) (by decide) rfl (fun ls hl => ?_)
          refine lv_goto (tgt := 4) hx hb (dk_at dkX9_workOf_1 14 rfl) (by decide) ?_
          exact ih5 _ (by omega) (z1 + 1) z19 _ _ _ (by omega) (by omega) (fun zq ⟨mm1, hq⟩ => hk2 _ ⟨mm1, (u_d_X9_workOf_2 ⟨f21, hq⟩)⟩) rfl hP hS (lv_sub hl [0, 2, 3, 4] rfl)
        refine lv_icmp_eq (tgt := 46) hx hb (dk_at dkX9_workOf_1 2 rfl) (by decide) (fun c15 => ?_) (fun c15 => ?_)
        · have c15 : z12 = (-1) := (i_eq (rb hw14 (by decide) (by decide)) ⟨by decide, by decide⟩).mp c15
          exact J46_16 z2 _ _ _ (by omega) (fun zq ⟨mm1, hq⟩ => hk1 _ ⟨mm1 + 1, (u_d_X9_workOf_1 ⟨f6, ⟨f7, ⟨z10, gz10.out, (Or.inr ⟨c11, ⟨z12, ghw14, (Or.inl ⟨c15, hq⟩)⟩⟩)⟩⟩⟩)⟩) hP hS (lv_sub hl [0, 1, 2, 3, 4] rfl)
        · have c15 : ¬ z12 = (-1) := mt (i_eq (rb hw14 (by decide) (by decide)) ⟨by decide, by decide⟩).mpr c15
          refine lv_iload_n hx hb (dk_at dkX9_workOf_1 3 rfl) rfl (lv_at hl 2 rfl) ?_
          refine lv_aload_n hx hb (dk_at dkX9_workOf_1 4 rfl) rfl (lv_at hl 3 rfl) ?_
          refine va_get (D := (dC, dI)) (ci := 9) (v := .ref (q (ta + 22))) (C := RX9) (T := TX9) (N := 16) hx hb hts hiX9 hown hK hP ta (wkT hta) rfl 14 (by decide) (hts _ (List.mem_cons_of_mem _ wkq_0_9)) (fun _ h9 => h9) rfl (dk_at dkX9_workOf_1 5 rfl) ?_
          refine va_get (D := (dC, dI)) (ci := 6) (v := .ref (q ((ta + 22) + 3))) (C := RX6) (T := TX6) (N := 4) hx hb hts hiX6 hown hK hP (ta + 22) (wkS hta.s) rfl 2 (by decide) (hts _ (List.mem_cons_of_mem _ wkq_5_15)) (fun _ h9 => h9) rfl (dk_at dkX9_workOf_1 6 rfl) ?_
          refine lv_iload_n hx hb (dk_at dkX9_workOf_1 7 rfl) rfl (lv_at hl 1 rfl) ?_
          refine x_iald (Wf := WK cB cI cJ cZ cQ q) hx hb hK hP ((ta + 22) + 3) 1 (wkSz hta.s) rfl (by omega) (by decide) (dk_at dkX9_workOf_1 8 rfl) (fun z17 hz17 => ?_)
          have rz17 : (0 : Int) ≤ z17 ∧ z17 ≤ 6 := by rw [hz17]; exact irSz hta.s hI
          have gz17 := Hd.mk hz17
          refine lv_iload hx hb (dk_at dkX9_workOf_1 9 rfl) (lv_at hl 0 rfl) ?_
          refine x_subv (v := z17 - z12) hx hb (dk_at dkX9_workOf_1 10 rfl) (by omega) ?_
          refine x_addv (v := z2 + z17 - z12) hx hb (dk_at dkX9_workOf_1 11 rfl) (by omega) ?_
          refine x_absE (fun z18 gz18 hz18 => ?_)
          refine lv_istore_n (lv' := [(2, .int (iI z18)), (4, .int (iI z12)), (3, .int (iI z1)), (0, .ref (q ta)), (1, .int (iI x1))]) hx hb (dk_at dkX9_workOf_1 12 rfl) rfl hl (by decide) rfl (fun ls hl => ?_)
          exact J46_16 z18 _ _ _ (by omega) (fun zq ⟨mm1, hq⟩ => hk1 _ ⟨mm1 + 1, (u_d_X9_workOf_1 ⟨f6, ⟨f7, ⟨z10, gz10.out, (Or.inr ⟨c11, ⟨z12, ghw14, (Or.inr ⟨c15, ⟨z17, gz17.out, ⟨z18, gz18.out, hq⟩⟩⟩)⟩⟩)⟩⟩⟩)⟩) hP hS (lv_sub hl [1, 2, 0, 3, 4] rfl)
  exact L4_4 _ 0 0 _ _ _ (by omega) (by omega) (fun zq ⟨mm1, hq⟩ => (u_r_X9_workOf ⟨mm1, hq⟩)) rfl hP hS (lv_sub hl [0, 1, 2, 3] rfl)

abbrev tr_r_X10_shorten (x1 : Int) (x2 : Int) (x3 : Int) (A : St) (u : St) : Prop := (((x1 < 0) ∧ (u = A)) ∨ ((¬ x1 < 0) ∧ (((8 ≤ x1) ∧ (u = A)) ∨ ((¬ 8 ≤ x1) ∧ (((x2 < 0) ∧ (u = A)) ∨ ((¬ x2 < 0) ∧ (((8 ≤ x2) ∧ (u = A)) ∨ ((¬ 8 ≤ x2) ∧ (∃ z5 : Int, z5 = A 28 (8 * x1 + x2).toNat ∧ (∃ z6 : Int, (z6 ≤ z5 ∧ z6 ≤ x3 ∧ (z6 = z5 ∨ z6 = x3)) ∧ (∃ A7 : St, A7 = stA A 28 (8 * x1 + x2).toNat z6 ∧ (u = A7))))))))))))
def r_X10_shorten (x1 : Int) (x2 : Int) (x3 : Int) (A : St) (u : St) : Prop := tr_r_X10_shorten x1 x2 x3 A u
theorem u_r_X10_shorten {x1 : Int} {x2 : Int} {x3 : Int} {A : St} {u : St} (h : tr_r_X10_shorten x1 x2 x3 A u) : r_X10_shorten x1 x2 x3 A u := h
def q_X10_shorten (x1 : Int) (x2 : Int) (x3 : Int) (A : St) (u : St) : Prop := r_X10_shorten x1 x2 x3 A u ∧ IK u ∧ fk [28] [] A u ∧ (True)
def ws_kc_X10_shorten : List Cond := .code yX10_shorten cX10_shorten 4 none :: WY
set_option maxHeartbeats 4000000 in
set_option maxRecDepth 100000 in
theorem kc_X10_shorten (l : Launch) (dC : Nat → ClassId) (dI : Nat → Nat → Nat) (cB cI cJ cZ cQ : ClassId) (aL aS : Nat) (q : Nat → Nat) (A : St) (x1 x2 x3 : Int) (hI : IK A) (hx1 : (-2147483648 : Int) ≤ x1 ∧ x1 ≤ 2147483647) (hx2 : (-2147483648 : Int) ≤ x2 ∧ x2 ≤ 2147483647) (hx3 : (-2147483648 : Int) ≤ x3 ∧ x3 ≤ 2147483647) : KMv l yX10_shorten ws_kc_X10_shorten ({ frames := 1, cells := 0, slots := 0, locals := 21 } : Room) aL aS (dC, dI) (tyA cB cI cJ cZ cQ) (WK cB cI cJ cZ cQ q) A [.ref (q 27), .int (iI x1), .int (iI x2), .int (iI x3)] (fun u => r_X10_shorten x1 x2 x3 A u ∧ IK u ∧ fk [28] [] A u ∧ (True)) := by
  refine k_metv (cc := cX10_shorten) (maxL := 4) WK_adr (plainFor_of_name (by decide +kernel)) rfl (Nat.le_of_ble_eq_true rfl) (fun p e s m below meth c Q AS ls hx hb hml hown hts hK hDD hA0 hE RET H locs hP hS hl => ?_)
  have hown : s.vm.findClass RX10 = some m.cls := hown
  have hl : lv_has ls 4 [(0, .ref (q 27)), (1, .int (iI x1)), (2, .int (iI x2)), (3, .int (iI x3))] := hl
  have hiX10 : ∀ w ∈ u_ws RX10 TX10 2, w ∈ ws_kc_X10_shorten := fun w h => List.mem_cons_of_mem _ (wy_layX10 w h)
  refine lv_iload_n hx hb (dk_at dkX10_shorten_0 0 rfl) rfl (lv_at hl 1 rfl) ?_
  refine lv_if_lt (tgt := 46) hx hb (dk_at dkX10_shorten_0 1 rfl) (by decide) (fun c1 => ?_) (fun c1 => ?_)
  · have c1 : x1 < 0 := (i_lt0 hx1).mp c1
    exact RET _ _ _ _ _ ⟨(u_r_X10_shorten (Or.inl ⟨c1, rfl⟩)), hI, fk.rf, trivial⟩ hP hS (dk_at dkX10_shorten_1 12 rfl)
  · have c1 : ¬ x1 < 0 := mt (i_lt0 hx1).mpr c1
    refine lv_iload_n hx hb (dk_at dkX10_shorten_0 2 rfl) rfl (lv_at hl 1 rfl) ?_
    refine lv_bipush (v := iI 8) hx hb (dk_at dkX10_shorten_0 3 rfl) (by decide +kernel) ?_
    refine lv_icmp_ge (tgt := 46) hx hb (dk_at dkX10_shorten_0 4 rfl) (by decide) (fun c2 => ?_) (fun c2 => ?_)
    · have c2 : 8 ≤ x1 := (i_le ⟨by decide, by decide⟩ hx1).mp c2
      exact RET _ _ _ _ _ ⟨(u_r_X10_shorten (Or.inr ⟨c1, (Or.inl ⟨c2, rfl⟩)⟩)), hI, fk.rf, trivial⟩ hP hS (dk_at dkX10_shorten_1 12 rfl)
    · have c2 : ¬ 8 ≤ x1 := mt (i_le ⟨by decide, by decide⟩ hx1).mpr c2
      refine lv_iload_n hx hb (dk_at dkX10_shorten_0 5 rfl) rfl (lv_at hl 2 rfl) ?_
      refine lv_if_lt (tgt := 46) hx hb (dk_at dkX10_shorten_0 6 rfl) (by decide) (fun c3 => ?_) (fun c3 => ?_)
      · have c3 : x2 < 0 := (i_lt0 hx2).mp c3
        exact RET _ _ _ _ _ ⟨(u_r_X10_shorten (Or.inr ⟨c1, (Or.inr ⟨c2, (Or.inl ⟨c3, rfl⟩)⟩)⟩)), hI, fk.rf, trivial⟩ hP hS (dk_at dkX10_shorten_1 12 rfl)
      · have c3 : ¬ x2 < 0 := mt (i_lt0 hx2).mpr c3
        refine lv_iload_n hx hb (dk_at dkX10_shorten_0 7 rfl) rfl (lv_at hl 2 rfl) ?_
        refine lv_bipush (v := iI 8) hx hb (dk_at dkX10_shorten_0 8 rfl) (by decide +kernel) ?_
        refine lv_icmp_ge (tgt := 46) hx hb (dk_at dkX10_shorten_0 9 rfl) (by decide) (fun c4 => ?_) (fun c4 => ?_)
        · have c4 : 8 ≤ x2 := (i_le ⟨by decide, by decide⟩ hx2).mp c4
          exact RET _ _ _ _ _ ⟨(u_r_X10_shorten (Or.inr ⟨c1, (Or.inr ⟨c2, (Or.inr ⟨c3, (Or.inl ⟨c4, rfl⟩)⟩)⟩)⟩)), hI, fk.rf, trivial⟩ hP hS (dk_at dkX10_shorten_1 12 rfl)
        · have c4 : ¬ 8 ≤ x2 := mt (i_le ⟨by decide, by decide⟩ hx2).mpr c4
          refine lv_aload_n hx hb (dk_at dkX10_shorten_0 10 rfl) rfl (lv_at hl 0 rfl) ?_
          refine va_get (D := (dC, dI)) (ci := 10) (v := .ref (q 28)) (C := RX10) (T := TX10) (N := 2) hx hb hts hiX10 hown hK hP 27 (wkWT) rfl 0 (by decide) (hts _ (List.mem_cons_of_mem _ wkq_9_53)) (fun _ h9 => h9) rfl (dk_at dkX10_shorten_0 11 rfl) ?_
          refine lv_iload_n hx hb (dk_at dkX10_shorten_0 12 rfl) rfl (lv_at hl 1 rfl) ?_
          refine lv_bipush (v := iI 8) hx hb (dk_at dkX10_shorten_0 13 rfl) (by decide +kernel) ?_
          refine x_mulv (v := 8 * x1) hx hb (dk_at dkX10_shorten_0 14 rfl) (by omega) ?_
          refine lv_iload_n hx hb (dk_at dkX10_shorten_0 15 rfl) rfl (lv_at hl 2 rfl) ?_
          refine x_addv (v := 8 * x1 + x2) hx hb (dk_at dkX10_shorten_1 0 rfl) (by omega) ?_
          refine lv_aload_n hx hb (dk_at dkX10_shorten_1 1 rfl) rfl (lv_at hl 0 rfl) ?_
          refine va_get (D := (dC, dI)) (ci := 10) (v := .ref (q 28)) (C := RX10) (T := TX10) (N := 2) hx hb hts hiX10 hown hK hP 27 (wkWT) rfl 0 (by decide) (hts _ (List.mem_cons_of_mem _ wkq_9_53)) (fun _ h9 => h9) rfl (dk_at dkX10_shorten_1 2 rfl) ?_
          refine lv_iload_n hx hb (dk_at dkX10_shorten_1 3 rfl) rfl (lv_at hl 1 rfl) ?_
          refine lv_bipush (v := iI 8) hx hb (dk_at dkX10_shorten_1 4 rfl) (by decide +kernel) ?_
          refine x_mulv (v := 8 * x1) hx hb (dk_at dkX10_shorten_1 5 rfl) (by omega) ?_
          refine lv_iload_n hx hb (dk_at dkX10_shorten_1 6 rfl) rfl (lv_at hl 2 rfl) ?_
          refine x_addv (v := 8 * x1 + x2) hx hb (dk_at dkX10_shorten_1 7 rfl) (by omega) ?_
          refine x_iald (Wf := WK cB cI cJ cZ cQ q) hx hb hK hP 28 1 (wkWTw) rfl (by omega) (by decide) (dk_at dkX10_shorten_1 8 rfl) (fun z5 hz5 => ?_)
          have rz5 : (-2147483648 : Int) ≤ z5 ∧ z5 ≤ 2147483647 := by rw [hz5]; exact irWTw hI
          have gz5 := Hd.mk hz5
          refine lv_iload_n hx hb (dk_at dkX10_shorten_1 9 rfl) rfl (lv_at hl 3 rfl) ?_
          refine k_min hx hb (hml.trans hl.1.symm) hown (hts _ (List.mem_cons_of_mem _ wkq_10_3)) (hts _ (List.mem_cons_of_mem _ wkq_0_46)) (hts _ (List.mem_cons_of_mem _ wkq_0_47)) (hts _ (List.mem_cons_of_mem _ wkq_0_48)) (Nat.le_of_ble_eq_true rfl) (Nat.le_of_ble_eq_true rfl) (Nat.zero_le _) (Nat.zero_le _) rz5 hx3 (dk_at dkX10_shorten_1 10 rfl) (fun z6 hz6 => ?_)
          have rz6 : (-2147483648 : Int) ≤ z6 ∧ z6 ≤ 2147483647 := by omega
          have gz6 := Hd.mk hz6
          clear hz6
          refine k_iast (Wf := WK cB cI cJ cZ cQ q) hx hb hK hP hDD hS 28 1 (wkWTw) rfl (by omega) (by decide) (dk_at dkX10_shorten_1 11 rfl) (wsWTw) (fun H locs A7 hA7 hP hS => ?_)
          have hI := isWTw hA7 hI (show (-2147483648 : Int) ≤ z6 ∧ z6 ≤ 2147483647 from rz6)
          exact RET _ _ _ _ _ ⟨(u_r_X10_shorten (Or.inr ⟨c1, (Or.inr ⟨c2, (Or.inr ⟨c3, (Or.inr ⟨c4, ⟨z5, gz5.out, ⟨z6, gz6.out, ⟨A7, hA7, rfl⟩⟩⟩⟩)⟩)⟩)⟩)), hI, fk.da (fk.rf) hA7 rfl, trivial⟩ hP hS (dk_at dkX10_shorten_1 12 rfl)

abbrev tr_r_X10_wayOf (x1 : Int) (x2 : Int) (A : St) (z : Int) : Prop := (((x1 < 0) ∧ (z = 1000000)) ∨ ((¬ x1 < 0) ∧ (((8 ≤ x1) ∧ (z = 1000000)) ∨ ((¬ 8 ≤ x1) ∧ (((x2 < 0) ∧ (z = 1000000)) ∨ ((¬ x2 < 0) ∧ (((x2 < 8) ∧ (∃ z5 : Int, z5 = A 28 (8 * x1 + x2).toNat ∧ (z = z5))) ∨ ((¬ x2 < 8) ∧ (z = 1000000)))))))))
def r_X10_wayOf (x1 : Int) (x2 : Int) (A : St) (z : Int) : Prop := tr_r_X10_wayOf x1 x2 A z
theorem u_r_X10_wayOf {x1 : Int} {x2 : Int} {A : St} {z : Int} (h : tr_r_X10_wayOf x1 x2 A z) : r_X10_wayOf x1 x2 A z := h
def q_X10_wayOf (x1 : Int) (x2 : Int) (A : St) (z : Int) : Prop := r_X10_wayOf x1 x2 A z ∧ (-2147483648 ≤ z ∧ z ≤ 2147483647)
def ws_kc_X10_wayOf : List Cond := .code yX10_wayOf cX10_wayOf 3 (some .int) :: WY
set_option maxHeartbeats 4000000 in
set_option maxRecDepth 100000 in
theorem kc_X10_wayOf (l : Launch) (dC : Nat → ClassId) (dI : Nat → Nat → Nat) (cB cI cJ cZ cQ : ClassId) (aL aS : Nat) (q : Nat → Nat) (A : St) (x1 x2 : Int) (hI : IK A) (hx1 : (-2147483648 : Int) ≤ x1 ∧ x1 ≤ 2147483647) (hx2 : (-2147483648 : Int) ≤ x2 ∧ x2 ≤ 2147483647) : KMi l yX10_wayOf ws_kc_X10_wayOf ({ frames := 0, cells := 0, slots := 0, locals := 0 } : Room) aL aS (dC, dI) (tyA cB cI cJ cZ cQ) (WK cB cI cJ cZ cQ q) A [.ref (q 27), .int (iI x1), .int (iI x2)] (fun z u => A = u ∧ r_X10_wayOf x1 x2 A z ∧ (-2147483648 ≤ z ∧ z ≤ 2147483647)) := by
  refine k_meti (cc := cX10_wayOf) (maxL := 3) WK_adr (plainFor_of_name (by decide +kernel)) rfl (Nat.le_of_ble_eq_true rfl) (fun p e s m below meth c Q AS ls hx hb hml hown hts hK hDD hA0 hE RET H locs hP hS hl => ?_)
  have hown : s.vm.findClass RX10 = some m.cls := hown
  have hl : lv_has ls 3 [(0, .ref (q 27)), (1, .int (iI x1)), (2, .int (iI x2))] := hl
  have hiX10 : ∀ w ∈ u_ws RX10 TX10 2, w ∈ ws_kc_X10_wayOf := fun w h => List.mem_cons_of_mem _ (wy_layX10 w h)
  refine lv_iload_n hx hb (dk_at dkX10_wayOf_0 0 rfl) rfl (lv_at hl 1 rfl) ?_
  refine lv_if_lt (tgt := 20) hx hb (dk_at dkX10_wayOf_0 1 rfl) (by decide) (fun c1 => ?_) (fun c1 => ?_)
  · have c1 : x1 < 0 := (i_lt0 hx1).mp c1
    refine lv_ldc (v := 1000000) hx hb hown (hts _ (List.mem_cons_of_mem _ wkq_9_46)) (dk_at dkX10_wayOf_0 10 rfl) ?_
    refine tp_i (y := iI 1000000) (by decide +kernel) ?_
    exact RET 1000000 _ _ _ _ _ ⟨rfl, (u_r_X10_wayOf (Or.inl ⟨c1, rfl⟩)), ⟨by decide, by decide⟩⟩ hP hS (dk_at dkX10_wayOf_0 11 rfl)
  · have c1 : ¬ x1 < 0 := mt (i_lt0 hx1).mpr c1
    refine lv_iload_n hx hb (dk_at dkX10_wayOf_0 2 rfl) rfl (lv_at hl 1 rfl) ?_
    refine lv_bipush (v := iI 8) hx hb (dk_at dkX10_wayOf_0 3 rfl) (by decide +kernel) ?_
    refine lv_icmp_ge (tgt := 20) hx hb (dk_at dkX10_wayOf_0 4 rfl) (by decide) (fun c2 => ?_) (fun c2 => ?_)
    · have c2 : 8 ≤ x1 := (i_le ⟨by decide, by decide⟩ hx1).mp c2
      refine lv_ldc (v := 1000000) hx hb hown (hts _ (List.mem_cons_of_mem _ wkq_9_46)) (dk_at dkX10_wayOf_0 10 rfl) ?_
      refine tp_i (y := iI 1000000) (by decide +kernel) ?_
      exact RET 1000000 _ _ _ _ _ ⟨rfl, (u_r_X10_wayOf (Or.inr ⟨c1, (Or.inl ⟨c2, rfl⟩)⟩)), ⟨by decide, by decide⟩⟩ hP hS (dk_at dkX10_wayOf_0 11 rfl)
    · have c2 : ¬ 8 ≤ x1 := mt (i_le ⟨by decide, by decide⟩ hx1).mpr c2
      refine lv_iload_n hx hb (dk_at dkX10_wayOf_0 5 rfl) rfl (lv_at hl 2 rfl) ?_
      refine lv_if_lt (tgt := 20) hx hb (dk_at dkX10_wayOf_0 6 rfl) (by decide) (fun c3 => ?_) (fun c3 => ?_)
      · have c3 : x2 < 0 := (i_lt0 hx2).mp c3
        refine lv_ldc (v := 1000000) hx hb hown (hts _ (List.mem_cons_of_mem _ wkq_9_46)) (dk_at dkX10_wayOf_0 10 rfl) ?_
        refine tp_i (y := iI 1000000) (by decide +kernel) ?_
        exact RET 1000000 _ _ _ _ _ ⟨rfl, (u_r_X10_wayOf (Or.inr ⟨c1, (Or.inr ⟨c2, (Or.inl ⟨c3, rfl⟩)⟩)⟩)), ⟨by decide, by decide⟩⟩ hP hS (dk_at dkX10_wayOf_0 11 rfl)
      · have c3 : ¬ x2 < 0 := mt (i_lt0 hx2).mpr c3
        refine lv_iload_n hx hb (dk_at dkX10_wayOf_0 7 rfl) rfl (lv_at hl 2 rfl) ?_
        refine lv_bipush (v := iI 8) hx hb (dk_at dkX10_wayOf_0 8 rfl) (by decide +kernel) ?_
        refine lv_icmp_lt (tgt := 23) hx hb (dk_at dkX10_wayOf_0 9 rfl) (by decide) (fun c4 => ?_) (fun c4 => ?_)
        · have c4 : x2 < 8 := (i_lt hx2 ⟨by decide, by decide⟩).mp c4
          refine lv_aload_n hx hb (dk_at dkX10_wayOf_0 12 rfl) rfl (lv_at hl 0 rfl) ?_
          refine va_get (D := (dC, dI)) (ci := 10) (v := .ref (q 28)) (C := RX10) (T := TX10) (N := 2) hx hb hts hiX10 hown hK hP 27 (wkWT) rfl 0 (by decide) (hts _ (List.mem_cons_of_mem _ wkq_9_53)) (fun _ h9 => h9) rfl (dk_at dkX10_wayOf_0 13 rfl) ?_
          refine lv_iload_n hx hb (dk_at dkX10_wayOf_0 14 rfl) rfl (lv_at hl 1 rfl) ?_
          refine lv_bipush (v := iI 8) hx hb (dk_at dkX10_wayOf_0 15 rfl) (by decide +kernel) ?_
          refine x_mulv (v := 8 * x1) hx hb (dk_at dkX10_wayOf_1 0 rfl) (by omega) ?_
          refine lv_iload_n hx hb (dk_at dkX10_wayOf_1 1 rfl) rfl (lv_at hl 2 rfl) ?_
          refine x_addv (v := 8 * x1 + x2) hx hb (dk_at dkX10_wayOf_1 2 rfl) (by omega) ?_
          refine x_iald (Wf := WK cB cI cJ cZ cQ q) hx hb hK hP 28 1 (wkWTw) rfl (by omega) (by decide) (dk_at dkX10_wayOf_1 3 rfl) (fun z5 hz5 => ?_)
          have rz5 : (-2147483648 : Int) ≤ z5 ∧ z5 ≤ 2147483647 := by rw [hz5]; exact irWTw hI
          have gz5 := Hd.mk hz5
          exact RET z5 _ _ _ _ _ ⟨rfl, (u_r_X10_wayOf (Or.inr ⟨c1, (Or.inr ⟨c2, (Or.inr ⟨c3, (Or.inl ⟨c4, ⟨z5, gz5.out, rfl⟩⟩)⟩)⟩)⟩)), rz5⟩ hP hS (dk_at dkX10_wayOf_1 4 rfl)
        · have c4 : ¬ x2 < 8 := mt (i_lt hx2 ⟨by decide, by decide⟩).mpr c4
          refine lv_ldc (v := 1000000) hx hb hown (hts _ (List.mem_cons_of_mem _ wkq_9_46)) (dk_at dkX10_wayOf_0 10 rfl) ?_
          refine tp_i (y := iI 1000000) (by decide +kernel) ?_
          exact RET 1000000 _ _ _ _ _ ⟨rfl, (u_r_X10_wayOf (Or.inr ⟨c1, (Or.inr ⟨c2, (Or.inr ⟨c3, (Or.inr ⟨c4, rfl⟩)⟩)⟩)⟩)), ⟨by decide, by decide⟩⟩ hP hS (dk_at dkX10_wayOf_0 11 rfl)

abbrev tr_d_X10_measureWays_5 (K4 : Int → St → Prop) (x2 : Int) (z28 : Int) (z37 : Int) (u : St) (K5 : Int → St → Prop) (z46 : Int) (A48 : St) : Prop := ((IK A48) ∧ ((0 ≤ z46 ∧ z46 ≤ 2147483647) ∧ (((x2 ≤ z46) ∧ (K4 (z37 + 1) A48)) ∨ ((¬ x2 ≤ z46) ∧ (∃ z55 : Int, q_X10_wayOf z37 z28 A48 z55 ∧ (∃ z58 : Int, q_X10_wayOf z28 z46 A48 z58 ∧ (∃ z61 : Int, z61 = oWrap (z55 + z58) ∧ (∃ A62 : St, q_X10_shorten z37 z46 z61 A48 A62 ∧ (K5 (z46 + 1) A62)))))))))
def d_X10_measureWays_5 (K4 : Int → St → Prop) (x2 : Int) (z28 : Int) (z37 : Int) (u : St) : Nat → Int → St → Prop
  | 0, _, _ => False
  | nn9 + 1, z46, A48 => tr_d_X10_measureWays_5 K4 x2 z28 z37 u (fun z46 A48 => d_X10_measureWays_5 K4 x2 z28 z37 u nn9 z46 A48) z46 A48
theorem u_d_X10_measureWays_5 {K4 : Int → St → Prop} {x2 : Int} {z28 : Int} {z37 : Int} {u : St} {nn9 : Nat} {z46 : Int} {A48 : St} (h : tr_d_X10_measureWays_5 K4 x2 z28 z37 u (fun z46 A48 => d_X10_measureWays_5 K4 x2 z28 z37 u nn9 z46 A48) z46 A48) : d_X10_measureWays_5 K4 x2 z28 z37 u (nn9 + 1) z46 A48 := h
abbrev tr_d_X10_measureWays_4 (K3 : Int → St → Prop) (x2 : Int) (z28 : Int) (u : St) (K4 : Int → St → Prop) (z37 : Int) (A39 : St) : Prop := ((IK A39) ∧ ((0 ≤ z37 ∧ z37 ≤ 2147483647) ∧ (((x2 ≤ z37) ∧ (K3 (z28 + 1) A39)) ∨ ((¬ x2 ≤ z37) ∧ (∃ nn9 : Nat, d_X10_measureWays_5 K4 x2 z28 z37 u nn9 0 A39)))))
def d_X10_measureWays_4 (K3 : Int → St → Prop) (x2 : Int) (z28 : Int) (u : St) : Nat → Int → St → Prop
  | 0, _, _ => False
  | nn9 + 1, z37, A39 => tr_d_X10_measureWays_4 K3 x2 z28 u (fun z37 A39 => d_X10_measureWays_4 K3 x2 z28 u nn9 z37 A39) z37 A39
theorem u_d_X10_measureWays_4 {K3 : Int → St → Prop} {x2 : Int} {z28 : Int} {u : St} {nn9 : Nat} {z37 : Int} {A39 : St} (h : tr_d_X10_measureWays_4 K3 x2 z28 u (fun z37 A39 => d_X10_measureWays_4 K3 x2 z28 u nn9 z37 A39) z37 A39) : d_X10_measureWays_4 K3 x2 z28 u (nn9 + 1) z37 A39 := h
abbrev tr_d_X10_measureWays_3 (x2 : Int) (u : St) (K3 : Int → St → Prop) (z28 : Int) (A30 : St) : Prop := ((IK A30) ∧ ((0 ≤ z28 ∧ z28 ≤ 2147483647) ∧ (((x2 ≤ z28) ∧ (u = A30)) ∨ ((¬ x2 ≤ z28) ∧ (∃ nn9 : Nat, d_X10_measureWays_4 K3 x2 z28 u nn9 0 A30)))))
def d_X10_measureWays_3 (x2 : Int) (u : St) : Nat → Int → St → Prop
  | 0, _, _ => False
  | nn9 + 1, z28, A30 => tr_d_X10_measureWays_3 x2 u (fun z28 A30 => d_X10_measureWays_3 x2 u nn9 z28 A30) z28 A30
theorem u_d_X10_measureWays_3 {x2 : Int} {u : St} {nn9 : Nat} {z28 : Int} {A30 : St} (h : tr_d_X10_measureWays_3 x2 u (fun z28 A30 => d_X10_measureWays_3 x2 u nn9 z28 A30) z28 A30) : d_X10_measureWays_3 x2 u (nn9 + 1) z28 A30 := h
abbrev tr_d_X10_measureWays_6 (K2 : Int → St → Prop) (z13 : Int) (u : St) (A95 : St) : Prop := ((IK A95) ∧ (K2 (z13 + 1) A95))
def d_X10_measureWays_6 (K2 : Int → St → Prop) (z13 : Int) (u : St) (A95 : St) : Prop := tr_d_X10_measureWays_6 K2 z13 u A95
theorem u_d_X10_measureWays_6 {K2 : Int → St → Prop} {z13 : Int} {u : St} {A95 : St} (h : tr_d_X10_measureWays_6 K2 z13 u A95) : d_X10_measureWays_6 K2 z13 u A95 := h
abbrev tr_d_X10_measureWays_2 (ta : Nat) (x2 : Int) (z10 : Int) (u : St) (K2 : Int → St → Prop) (z13 : Int) (A15 : St) : Prop := ((IK A15) ∧ ((0 ≤ z13 ∧ z13 ≤ 2147483647) ∧ (∃ z26 : Int, z26 = A15 (ta + 1) (1 : Int).toNat ∧ (((z26 ≤ z13) ∧ (∃ nn9 : Nat, d_X10_measureWays_3 x2 u nn9 0 A15)) ∨ ((¬ z26 ≤ z13) ∧ (∃ z65 : Int, q_X9_isBox ta z13 A15 z65 ∧ (((¬ z65 = 0) ∧ (d_X10_measureWays_6 K2 z13 u A15)) ∨ ((z65 = 0) ∧ (∃ z70 : Int, z70 = oShr z10 z13 ∧ (∃ z71 : Int, z71 = oAnd z70 1 ∧ (((¬ z71 = 0) ∧ (d_X10_measureWays_6 K2 z13 u A15)) ∨ ((z71 = 0) ∧ (∃ z75 : Int, z75 = A15 (ta + 8) (z13).toNat ∧ (∃ z78 : Int, z78 = A15 (ta + 9) (z13).toNat ∧ (∃ z81 : Int, z81 = A15 (ta + 10) (z13).toNat ∧ (∃ A82 : St, q_X10_shorten z75 z78 z81 A15 A82 ∧ (∃ A91 : St, q_X10_shorten z78 z75 z81 A82 A91 ∧ (d_X10_measureWays_6 K2 z13 u A91))))))))))))))))))
def d_X10_measureWays_2 (ta : Nat) (x2 : Int) (z10 : Int) (u : St) : Nat → Int → St → Prop
  | 0, _, _ => False
  | nn9 + 1, z13, A15 => tr_d_X10_measureWays_2 ta x2 z10 u (fun z13 A15 => d_X10_measureWays_2 ta x2 z10 u nn9 z13 A15) z13 A15
theorem u_d_X10_measureWays_2 {ta : Nat} {x2 : Int} {z10 : Int} {u : St} {nn9 : Nat} {z13 : Int} {A15 : St} (h : tr_d_X10_measureWays_2 ta x2 z10 u (fun z13 A15 => d_X10_measureWays_2 ta x2 z10 u nn9 z13 A15) z13 A15) : d_X10_measureWays_2 ta x2 z10 u (nn9 + 1) z13 A15 := h
abbrev tr_d_X10_measureWays_7 (K1 : Int → St → Prop) (z1 : Int) (A3 : St) (u : St) (z101 : Int) : Prop := ((0 ≤ z101 ∧ z101 ≤ 1000000) ∧ (∃ A104 : St, A104 = stA A3 28 (z1).toNat z101 ∧ (K1 (z1 + 1) A104)))
def d_X10_measureWays_7 (K1 : Int → St → Prop) (z1 : Int) (A3 : St) (u : St) (z101 : Int) : Prop := tr_d_X10_measureWays_7 K1 z1 A3 u z101
theorem u_d_X10_measureWays_7 {K1 : Int → St → Prop} {z1 : Int} {A3 : St} {u : St} {z101 : Int} (h : tr_d_X10_measureWays_7 K1 z1 A3 u z101) : d_X10_measureWays_7 K1 z1 A3 u z101 := h
abbrev tr_d_X10_measureWays_1 (ta : Nat) (x2 : Int) (u : St) (K1 : Int → St → Prop) (z1 : Int) (A3 : St) : Prop := ((IK A3) ∧ ((0 ≤ z1 ∧ z1 ≤ 2147483647) ∧ (((64 ≤ z1) ∧ (∃ z10 : Int, q_X9_shutMask ta A3 z10 ∧ (∃ nn9 : Nat, d_X10_measureWays_2 ta x2 z10 u nn9 0 A3))) ∨ ((¬ 64 ≤ z1) ∧ (∃ z97 : Int, z97 = z1 / 8 ∧ (∃ z98 : Int, z98 = z1 % 8 ∧ (((¬ z97 = z98) ∧ (d_X10_measureWays_7 K1 z1 A3 u 1000000)) ∨ ((z97 = z98) ∧ (d_X10_measureWays_7 K1 z1 A3 u 0)))))))))
def d_X10_measureWays_1 (ta : Nat) (x2 : Int) (u : St) : Nat → Int → St → Prop
  | 0, _, _ => False
  | nn9 + 1, z1, A3 => tr_d_X10_measureWays_1 ta x2 u (fun z1 A3 => d_X10_measureWays_1 ta x2 u nn9 z1 A3) z1 A3
theorem u_d_X10_measureWays_1 {ta : Nat} {x2 : Int} {u : St} {nn9 : Nat} {z1 : Int} {A3 : St} (h : tr_d_X10_measureWays_1 ta x2 u (fun z1 A3 => d_X10_measureWays_1 ta x2 u nn9 z1 A3) z1 A3) : d_X10_measureWays_1 ta x2 u (nn9 + 1) z1 A3 := h
abbrev tr_r_X10_measureWays (ta : Nat) (x2 : Int) (A : St) (u : St) : Prop := (∃ nn9 : Nat, d_X10_measureWays_1 ta x2 u nn9 0 A)
def r_X10_measureWays (ta : Nat) (x2 : Int) (A : St) (u : St) : Prop := tr_r_X10_measureWays ta x2 A u
theorem u_r_X10_measureWays {ta : Nat} {x2 : Int} {A : St} {u : St} (h : tr_r_X10_measureWays ta x2 A u) : r_X10_measureWays ta x2 A u := h
def q_X10_measureWays (ta : Nat) (x2 : Int) (A : St) (u : St) : Prop := r_X10_measureWays ta x2 A u ∧ IK u ∧ fk [28] [] A u ∧ (True)
def ws_kc_X10_measureWays : List Cond := .code yX10_measureWays cX10_measureWays 7 none :: WY
set_option maxHeartbeats 4000000 in
set_option maxRecDepth 100000 in
theorem kc_X10_measureWays (l : Launch) (dC : Nat → ClassId) (dI : Nat → Nat → Nat) (cB cI cJ cZ cQ : ClassId) (aL aS : Nat) (q : Nat → Nat) (A : St) (ta : Nat) (x2 : Int) (hI : IK A) (hta : isT ta) (hx2 : (-2147483648 : Int) ≤ x2 ∧ x2 ≤ 2147483647) : KMv l yX10_measureWays ws_kc_X10_measureWays ({ frames := 3, cells := 0, slots := 0, locals := 68 } : Room) aL aS (dC, dI) (tyA cB cI cJ cZ cQ) (WK cB cI cJ cZ cQ q) A [.ref (q 27), .ref (q ta), .int (iI x2)] (fun u => r_X10_measureWays ta x2 A u ∧ IK u ∧ fk [28] [] A u ∧ (True)) := by
  refine k_metv (cc := cX10_measureWays) (maxL := 7) WK_adr (plainFor_of_name (by decide +kernel)) rfl (Nat.le_of_ble_eq_true rfl) (fun p e s m below meth c Q AS ls hx hb hml hown hts hK hDD hA0 hE RET H locs hP hS hl => ?_)
  have hown : s.vm.findClass RX10 = some m.cls := hown
  have hl : lv_has ls 7 [(0, .ref (q 27)), (1, .ref (q ta)), (2, .int (iI x2))] := hl
  have hiX9 : ∀ w ∈ u_ws RX9 TX9 16, w ∈ ws_kc_X10_measureWays := fun w h => List.mem_cons_of_mem _ (wy_layX9 w h)
  have hiX10 : ∀ w ∈ u_ws RX10 TX10 2, w ∈ ws_kc_X10_measureWays := fun w h => List.mem_cons_of_mem _ (wy_layX10 w h)
  refine lv_iconst (v := iI 0) hx hb (dk_at dkX10_measureWays_0 0 rfl) (by decide +kernel) ?_
  refine lv_istore_n (lv' := [(3, .int (iI 0)), (0, .ref (q 27)), (1, .ref (q ta)), (2, .int (iI x2))]) hx hb (dk_at dkX10_measureWays_0 1 rfl) rfl hl (by decide) rfl (fun ls hl => ?_)
  have L2_4 : ∀ (n7 : Nat) (z1 : Int) (A3 : St) (H : Heap) (locs : List Loc) (ls : Array Slot), (0 ≤ z1 ∧ z1 ≤ 2147483647) → (∀ (u : St), (∃ mm1 : Nat, (d_X10_measureWays_1 ta x2 u mm1 z1 A3)) → r_X10_measureWays ta x2 A u) → ((65 - z1).toNat = n7) → IK A3 → fk [28] [] A A3 → va_P (dC, dI) vwCl (WK cB cI cJ cZ cQ q A3) H → va_S AS s.heap H locs → lv_has ls 7 [(3, .int (iI z1)), (0, .ref (q 27)), (1, .ref (q ta)), (2, .int (iI x2))] → W p l e (headSpec ws_kc_X10_measureWays ({ frames := 3, cells := 0, slots := 0, locals := 68 } : Room)).room s m [.ref (q 27), .ref (q ta), .int (iI x2)].toArray below meth c H locs 0 0 Q (F0 m 2 ls []) := by
    intro n7
    induction n7 using Nat.strongRecOn with
    | ind n7 ih5 =>
      intro z1 A3 H locs ls f6 hk1 hn7 hI hj2 hP hS hl
      have gI8 : Hd (IK A3) := Hd.mk hI
      refine lv_iload_n hx hb (dk_at dkX10_measureWays_0 2 rfl) rfl (lv_at hl 0 rfl) ?_
      refine lv_bipush (v := iI 64) hx hb (dk_at dkX10_measureWays_0 3 rfl) (by decide +kernel) ?_
      refine lv_icmp_ge (tgt := 37) hx hb (dk_at dkX10_measureWays_0 4 rfl) (by decide) (fun c9 => ?_) (fun c9 => ?_)
      · have c9 : 64 ≤ z1 := (i_le ⟨by decide, by decide⟩ (rb f6 (by decide) (by decide))).mp c9
        refine lv_aload_n hx hb (dk_at dkX10_measureWays_1 5 rfl) rfl (lv_at hl 2 rfl) ?_
        refine k_calli (As := []) (rest := []) ⟨hx, hb, hml, hown, hts⟩ hE (kc_X9_shutMask l dC dI cB cI cJ cZ cQ aL aS q _ ta hI hta) (cwV 0 hts (goodVk wkq_9_57 wkq_8_55 wkq_8_56 wkq_0_6 wkq_8_50) rfl rfl rfl (by decide +kernel) ⟨Nat.le_of_ble_eq_true rfl, Nat.le_of_ble_eq_true rfl⟩) hK hDD hA0 hP hS ta 9 (wkT hta) rfl rfl hl.1 (Nat.le_of_ble_eq_true rfl) (dk_at dkX10_measureWays_1 6 rfl) (fun z10 A11 H locs hw12 hP hS => ?_)
        obtain ⟨rfl, hw12⟩ := hw12
        have ghw12 : q_X9_shutMask ta A3 z10 := hw12
        have hw12 := hw12.2
        refine lv_istore_n (lv' := [(3, .int (iI z10)), (0, .ref (q 27)), (1, .ref (q ta)), (2, .int (iI x2))]) hx hb (dk_at dkX10_measureWays_1 7 rfl) rfl hl (by decide) rfl (fun ls hl => ?_)
        refine lv_iconst (v := iI 0) hx hb (dk_at dkX10_measureWays_1 8 rfl) (by decide +kernel) ?_
        refine lv_istore (lv' := [(4, .int (iI 0)), (3, .int (iI z10)), (0, .ref (q 27)), (1, .ref (q ta)), (2, .int (iI x2))]) hx hb (dk_at dkX10_measureWays_1 9 rfl) hl (by decide) rfl (fun ls hl => ?_)
        have L45_16 : ∀ (n22 : Nat) (z13 : Int) (A15 : St) (H : Heap) (locs : List Loc) (ls : Array Slot), (0 ≤ z13 ∧ z13 ≤ 2147483647) → (∀ (u : St), (∃ mm1 mm2 : Nat, (d_X10_measureWays_2 ta x2 z10 u mm2 z13 A15)) → r_X10_measureWays ta x2 A u) → ((11 - z13).toNat = n22) → IK A15 → fk [28] [] A3 A15 → va_P (dC, dI) vwCl (WK cB cI cJ cZ cQ q A15) H → va_S AS s.heap H locs → lv_has ls 7 [(4, .int (iI z13)), (3, .int (iI z10)), (0, .ref (q 27)), (1, .ref (q ta)), (2, .int (iI x2))] → W p l e (headSpec ws_kc_X10_measureWays ({ frames := 3, cells := 0, slots := 0, locals := 68 } : Room)).room s m [.ref (q 27), .ref (q ta), .int (iI x2)].toArray below meth c H locs 0 0 Q (F0 m 45 ls []) := by
          intro n22
          induction n22 using Nat.strongRecOn with
          | ind n22 ih17 =>
            intro z13 A15 H locs ls f18 hk2 hn22 hI hj14 hP hS hl
            have gI23 : Hd (IK A15) := Hd.mk hI
            refine lv_iload hx hb (dk_at dkX10_measureWays_1 10 rfl) (lv_at hl 0 rfl) ?_
            refine lv_aload_n hx hb (dk_at dkX10_measureWays_1 11 rfl) rfl (lv_at hl 3 rfl) ?_
            refine va_get (D := (dC, dI)) (ci := 9) (v := .ref (q (ta + 1))) (C := RX9) (T := TX9) (N := 16) hx hb hts hiX9 hown hK hP ta (wkT hta) rfl 0 (by decide) (hts _ (List.mem_cons_of_mem _ wkq_9_45)) (fun _ h9 => h9) rfl (dk_at dkX10_measureWays_1 12 rfl) ?_
            refine lv_iconst (v := iI 1) hx hb (dk_at dkX10_measureWays_1 13 rfl) (by decide +kernel) ?_
            have a25 : ∀ k, A3 (ta + 1) k = A (ta + 1) k := fun k => hj2 (ta + 1) k (isT.b2 (o := fun b => List.contains [28] (b + 1)) hta rfl rfl) (isT.b2 (o := fun b => fin2 [] (b + 1) k) hta rfl rfl)
            have a24 : ∀ k, A15 (ta + 1) k = A (ta + 1) k := fun k => (hj14 (ta + 1) k (isT.b2 (o := fun b => List.contains [28] (b + 1)) hta rfl rfl) (isT.b2 (o := fun b => fin2 [] (b + 1) k) hta rfl rfl)).trans (a25 k)
            refine x_iald (Wf := WK cB cI cJ cZ cQ q) hx hb hK hP (ta + 1) 1 (wkTc hta) rfl (by decide) (by decide) (dk_at dkX10_measureWays_1 14 rfl) (fun z26 hz26 => ?_)
            have rz26 : (0 : Int) ≤ z26 ∧ z26 ≤ 10 := by rw [hz26]; exact irTc1 hta hI
            have gz26 := Hd.mk hz26
            have hz26 : z26 = A (ta + 1) (1 : Int).toNat := hz26.trans (a24 _)
            refine lv_icmp_ge (tgt := 130) hx hb (dk_at dkX10_measureWays_1 15 rfl) (by decide) (fun c27 => ?_) (fun c27 => ?_)
            · have c27 : z26 ≤ z13 := (i_le (rb rz26 (by decide) (by decide)) (rb f18 (by decide) (by decide))).mp c27
              refine lv_iconst (v := iI 0) hx hb (dk_at dkX10_measureWays_4 8 rfl) (by decide +kernel) ?_
              refine lv_istore (lv' := [(4, .int (iI 0)), (3, .int (iI z10)), (0, .ref (q 27)), (1, .ref (q ta)), (2, .int (iI x2))]) hx hb (dk_at dkX10_measureWays_4 9 rfl) hl (by decide) rfl (fun ls hl => ?_)
              have L133_31 : ∀ (n34 : Nat) (z28 : Int) (A30 : St) (H : Heap) (locs : List Loc) (ls : Array Slot), (0 ≤ z28 ∧ z28 ≤ 2147483647) → (∀ (u : St), (∃ mm1 mm2 mm3 : Nat, (d_X10_measureWays_3 x2 u mm3 z28 A30)) → r_X10_measureWays ta x2 A u) → ((2147483648 - z28).toNat = n34) → IK A30 → fk [28] [] A15 A30 → va_P (dC, dI) vwCl (WK cB cI cJ cZ cQ q A30) H → va_S AS s.heap H locs → lv_has ls 7 [(4, .int (iI z28)), (3, .int (iI z10)), (0, .ref (q 27)), (1, .ref (q ta)), (2, .int (iI x2))] → W p l e (headSpec ws_kc_X10_measureWays ({ frames := 3, cells := 0, slots := 0, locals := 68 } : Room)).room s m [.ref (q 27), .ref (q ta), .int (iI x2)].toArray below meth c H locs 0 0 Q (F0 m 133 ls []) := by
                intro n34
                induction n34 using Nat.strongRecOn with
                | ind n34 ih32 =>
                  intro z28 A30 H locs ls f33 hk3 hn34 hI hj29 hP hS hl
                  have gI35 : Hd (IK A30) := Hd.mk hI
                  refine lv_iload hx hb (dk_at dkX10_measureWays_4 10 rfl) (lv_at hl 0 rfl) ?_
                  refine lv_iload_n hx hb (dk_at dkX10_measureWays_4 11 rfl) rfl (lv_at hl 4 rfl) ?_
                  refine lv_icmp_ge (tgt := 200) hx hb (dk_at dkX10_measureWays_4 12 rfl) (by decide) (fun c36 => ?_) (fun c36 => ?_)
                  · have c36 : x2 ≤ z28 := (i_le hx2 (rb f33 (by decide) (by decide))).mp c36
                    exact RET _ _ _ _ _ ⟨hk3 _ ⟨0, 0, 0 + 1, (u_d_X10_measureWays_3 ⟨gI35.out, ⟨f33, (Or.inl ⟨c36, rfl⟩)⟩⟩)⟩, hI, fk.trans (fk.trans (fk.trans (fk.rf) hj2 rfl rfl) hj14 rfl rfl) hj29 rfl rfl, trivial⟩ hP hS (dk_at dkX10_measureWays_6 10 rfl)
                  · have c36 : ¬ x2 ≤ z28 := mt (i_le hx2 (rb f33 (by decide) (by decide))).mpr c36
                    refine lv_iconst (v := iI 0) hx hb (dk_at dkX10_measureWays_4 13 rfl) (by decide +kernel) ?_
                    refine lv_istore (lv' := [(5, .int (iI 0)), (4, .int (iI z28)), (3, .int (iI z10)), (0, .ref (q 27)), (1, .ref (q ta)), (2, .int (iI x2))]) hx hb (dk_at dkX10_measureWays_4 14 rfl) hl (by decide) rfl (fun ls hl => ?_)
                    have L142_40 : ∀ (n43 : Nat) (z37 : Int) (A39 : St) (H : Heap) (locs : List Loc) (ls : Array Slot), (0 ≤ z37 ∧ z37 ≤ 2147483647) → (∀ (u : St), (∃ mm1 mm2 mm3 mm4 : Nat, (d_X10_measureWays_4 (fun z28' A30' => d_X10_measureWays_3 x2 u mm3 z28' A30') x2 z28 u mm4 z37 A39)) → r_X10_measureWays ta x2 A u) → ((2147483648 - z37).toNat = n43) → IK A39 → fk [28] [] A30 A39 → va_P (dC, dI) vwCl (WK cB cI cJ cZ cQ q A39) H → va_S AS s.heap H locs → lv_has ls 7 [(5, .int (iI z37)), (4, .int (iI z28)), (3, .int (iI z10)), (0, .ref (q 27)), (1, .ref (q ta)), (2, .int (iI x2))] → W p l e (headSpec ws_kc_X10_measureWays ({ frames := 3, cells := 0, slots := 0, locals := 68 } : Room)).room s m [.ref (q 27), .ref (q ta), .int (iI x2)].toArray below meth c H locs 0 0 Q (F0 m 142 ls []) := by
                      intro n43
                      induction n43 using Nat.strongRecOn with
                      | ind n43 ih41 =>
                        intro z37 A39 H locs ls f42 hk4 hn43 hI hj38 hP hS hl
                        have gI44 : Hd (IK A39) := Hd.mk hI
                        refine lv_iload hx hb (dk_at dkX10_measureWays_4 15 rfl) (lv_at hl 0 rfl) ?_
                        refine lv_iload_n hx hb (dk_at dkX10_measureWays_5 0 rfl) rfl (lv_at hl 5 rfl) ?_
                        refine lv_icmp_ge (tgt := 194) hx hb (dk_at dkX10_measureWays_5 1 rfl) (by decide) (fun c45 => ?_) (fun c45 => ?_)
                        · have c45 : x2 ≤ z37 := (i_le hx2 (rb f42 (by decide) (by decide))).mp c45
                          refine lv_iinc (v := iI (z28 + 1)) (lv' := [(4, .int (iI (z28 + 1))), (5, .int (iI z37)), (3, .int (iI z10)), (0, .ref (q 27)), (1, .ref (q ta)), (2, .int (iI x2))]) hx hb (dk_at dkX10_measureWays_6 8 rfl) hl (k := 1) rfl (i_inc (by omega)) (by decide) rfl (fun ls hl => ?_)
                          refine lv_goto (tgt := 133) hx hb (dk_at dkX10_measureWays_6 9 rfl) (by decide) ?_
                          exact ih32 _ (by omega) (z28 + 1) _ _ _ _ (by omega) (fun uq ⟨mm1, mm2, mm3, hq⟩ => hk4 _ ⟨mm1, mm2, mm3, 0 + 1, (u_d_X10_measureWays_4 ⟨gI44.out, ⟨f42, (Or.inl ⟨c45, hq⟩)⟩⟩)⟩) rfl hI (fk.trans (fk.trans (fk.rf) hj29 rfl rfl) hj38 rfl rfl) hP hS (lv_sub hl [0, 2, 3, 4, 5] rfl)
                        · have c45 : ¬ x2 ≤ z37 := mt (i_le hx2 (rb f42 (by decide) (by decide))).mpr c45
                          refine lv_iconst (v := iI 0) hx hb (dk_at dkX10_measureWays_5 2 rfl) (by decide +kernel) ?_
                          refine lv_istore (lv' := [(6, .int (iI 0)), (5, .int (iI z37)), (4, .int (iI z28)), (3, .int (iI z10)), (0, .ref (q 27)), (1, .ref (q ta)), (2, .int (iI x2))]) hx hb (dk_at dkX10_measureWays_5 3 rfl) hl (by decide) rfl (fun ls hl => ?_)
                          have L151_49 : ∀ (n52 : Nat) (z46 : Int) (A48 : St) (H : Heap) (locs : List Loc) (ls : Array Slot), (0 ≤ z46 ∧ z46 ≤ 2147483647) → (∀ (u : St), (∃ mm1 mm2 mm3 mm4 mm5 : Nat, (d_X10_measureWays_5 (fun z37' A39' => d_X10_measureWays_4 (fun z28' A30' => d_X10_measureWays_3 x2 u mm3 z28' A30') x2 z28 u mm4 z37' A39') x2 z28 z37 u mm5 z46 A48)) → r_X10_measureWays ta x2 A u) → ((2147483648 - z46).toNat = n52) → IK A48 → fk [28] [] A39 A48 → va_P (dC, dI) vwCl (WK cB cI cJ cZ cQ q A48) H → va_S AS s.heap H locs → lv_has ls 7 [(6, .int (iI z46)), (5, .int (iI z37)), (4, .int (iI z28)), (3, .int (iI z10)), (0, .ref (q 27)), (1, .ref (q ta)), (2, .int (iI x2))] → W p l e (headSpec ws_kc_X10_measureWays ({ frames := 3, cells := 0, slots := 0, locals := 68 } : Room)).room s m [.ref (q 27), .ref (q ta), .int (iI x2)].toArray below meth c H locs 0 0 Q (F0 m 151 ls []) := by
                            intro n52
                            induction n52 using Nat.strongRecOn with
                            | ind n52 ih50 =>
                              intro z46 A48 H locs ls f51 hk5 hn52 hI hj47 hP hS hl
                              have gI53 : Hd (IK A48) := Hd.mk hI
                              refine lv_iload hx hb (dk_at dkX10_measureWays_5 4 rfl) (lv_at hl 0 rfl) ?_
                              refine lv_iload_n hx hb (dk_at dkX10_measureWays_5 5 rfl) rfl (lv_at hl 6 rfl) ?_
                              refine lv_icmp_ge (tgt := 188) hx hb (dk_at dkX10_measureWays_5 6 rfl) (by decide) (fun c54 => ?_) (fun c54 => ?_)
                              · have c54 : x2 ≤ z46 := (i_le hx2 (rb f51 (by decide) (by decide))).mp c54
                                refine lv_iinc (v := iI (z37 + 1)) (lv' := [(5, .int (iI (z37 + 1))), (6, .int (iI z46)), (4, .int (iI z28)), (3, .int (iI z10)), (0, .ref (q 27)), (1, .ref (q ta)), (2, .int (iI x2))]) hx hb (dk_at dkX10_measureWays_6 6 rfl) hl (k := 1) rfl (i_inc (by omega)) (by decide) rfl (fun ls hl => ?_)
                                refine lv_goto (tgt := 142) hx hb (dk_at dkX10_measureWays_6 7 rfl) (by decide) ?_
                                exact ih41 _ (by omega) (z37 + 1) _ _ _ _ (by omega) (fun uq ⟨mm1, mm2, mm3, mm4, hq⟩ => hk5 _ ⟨mm1, mm2, mm3, mm4, 0 + 1, (u_d_X10_measureWays_5 ⟨gI53.out, ⟨f51, (Or.inl ⟨c54, hq⟩)⟩⟩)⟩) rfl hI (fk.trans (fk.trans (fk.rf) hj38 rfl rfl) hj47 rfl rfl) hP hS (lv_sub hl [0, 2, 3, 4, 5, 6] rfl)
                              · have c54 : ¬ x2 ≤ z46 := mt (i_le hx2 (rb f51 (by decide) (by decide))).mpr c54
                                refine lv_aload_n hx hb (dk_at dkX10_measureWays_5 7 rfl) rfl (lv_at hl 4 rfl) ?_
                                refine lv_iload hx hb (dk_at dkX10_measureWays_5 8 rfl) (lv_at hl 1 rfl) ?_
                                refine lv_iload hx hb (dk_at dkX10_measureWays_5 9 rfl) (lv_at hl 0 rfl) ?_
                                refine lv_aload_n hx hb (dk_at dkX10_measureWays_5 10 rfl) rfl (lv_at hl 4 rfl) ?_
                                refine lv_iload hx hb (dk_at dkX10_measureWays_5 11 rfl) (lv_at hl 1 rfl) ?_
                                refine lv_iload hx hb (dk_at dkX10_measureWays_5 12 rfl) (lv_at hl 2 rfl) ?_
                                refine k_calli (As := [.int (iI z37), .int (iI z28)]) (rest := [.int (iI z46), .int (iI z37), .ref (q 27)]) ⟨hx, hb, hml, hown, hts⟩ hE (kc_X10_wayOf l dC dI cB cI cJ cZ cQ aL aS q _ z37 z28 hI (rb f42 (by decide) (by decide)) (rb f33 (by decide) (by decide))) (cwV 2 hts (goodVk wkq_10_4 wkq_10_5 wkq_10_6 wkq_9_51 wkq_10_7) rfl rfl rfl (by decide +kernel) ⟨Nat.le_of_ble_eq_true rfl, Nat.le_of_ble_eq_true rfl⟩) hK hDD hA0 hP hS 27 10 (wkWT) rfl rfl hl.1 (Nat.le_of_ble_eq_true rfl) (dk_at dkX10_measureWays_5 13 rfl) (fun z55 A56 H locs hw57 hP hS => ?_)
                                obtain ⟨rfl, hw57⟩ := hw57
                                have ghw57 : q_X10_wayOf z37 z28 A48 z55 := hw57
                                have hw57 := hw57.2
                                refine lv_aload_n hx hb (dk_at dkX10_measureWays_5 14 rfl) rfl (lv_at hl 4 rfl) ?_
                                refine lv_iload hx hb (dk_at dkX10_measureWays_5 15 rfl) (lv_at hl 2 rfl) ?_
                                refine lv_iload hx hb (dk_at dkX10_measureWays_6 0 rfl) (lv_at hl 0 rfl) ?_
                                refine k_calli (As := [.int (iI z28), .int (iI z46)]) (rest := [.int (iI z55), .int (iI z46), .int (iI z37), .ref (q 27)]) ⟨hx, hb, hml, hown, hts⟩ hE (kc_X10_wayOf l dC dI cB cI cJ cZ cQ aL aS q _ z28 z46 hI (rb f33 (by decide) (by decide)) (rb f51 (by decide) (by decide))) (cwV 2 hts (goodVk wkq_10_4 wkq_10_5 wkq_10_6 wkq_9_51 wkq_10_7) rfl rfl rfl (by decide +kernel) ⟨Nat.le_of_ble_eq_true rfl, Nat.le_of_ble_eq_true rfl⟩) hK hDD hA0 hP hS 27 10 (wkWT) rfl rfl hl.1 (Nat.le_of_ble_eq_true rfl) (dk_at dkX10_measureWays_6 1 rfl) (fun z58 A59 H locs hw60 hP hS => ?_)
                                obtain ⟨rfl, hw60⟩ := hw60
                                have ghw60 : q_X10_wayOf z28 z46 A48 z58 := hw60
                                have hw60 := hw60.2
                                refine x_addv (v := z55 + z58) hx hb (dk_at dkX10_measureWays_6 2 rfl) (by omega) ?_
                                refine x_absE (fun z61 gz61 hz61 => ?_)
                                refine k_callv (As := [.int (iI z37), .int (iI z46), .int (iI z61)]) (rest := []) ⟨hx, hb, hml, hown, hts⟩ hE (kc_X10_shorten l dC dI cB cI cJ cZ cQ aL aS q _ z37 z46 z61 hI (rb f42 (by decide) (by decide)) (rb f51 (by decide) (by decide)) hz61) (cwV 3 hts (goodVk wkq_9_59 wkq_10_0 wkq_10_1 wkq_9_51 wkq_10_2) rfl rfl rfl (by decide +kernel) ⟨Nat.le_of_ble_eq_true rfl, Nat.le_of_ble_eq_true rfl⟩) hK hDD hA0 hP hS 27 10 (wkWT) rfl rfl hl.1 (Nat.le_of_ble_eq_true rfl) (dk_at dkX10_measureWays_6 3 rfl) (fun A62 H locs hw63 hP hS => ?_)
                                have ghw63 : q_X10_shorten z37 z46 z61 A48 A62 := hw63
                                obtain ⟨_, hI, hf64, hw63⟩ := hw63
                                clear hw63
                                refine lv_iinc (v := iI (z46 + 1)) (lv' := [(6, .int (iI (z46 + 1))), (5, .int (iI z37)), (4, .int (iI z28)), (3, .int (iI z10)), (0, .ref (q 27)), (1, .ref (q ta)), (2, .int (iI x2))]) hx hb (dk_at dkX10_measureWays_6 4 rfl) hl (k := 0) rfl (i_inc (by omega)) (by decide) rfl (fun ls hl => ?_)
                                refine lv_goto (tgt := 151) hx hb (dk_at dkX10_measureWays_6 5 rfl) (by decide) ?_
                                exact ih50 _ (by omega) (z46 + 1) _ _ _ _ (by omega) (fun uq ⟨mm1, mm2, mm3, mm4, mm5, hq⟩ => hk5 _ ⟨mm1, mm2, mm3, mm4, mm5 + 1, (u_d_X10_measureWays_5 ⟨gI53.out, ⟨f51, (Or.inr ⟨c54, ⟨z55, ghw57, ⟨z58, ghw60, ⟨z61, gz61.out, ⟨A62, ghw63, hq⟩⟩⟩⟩⟩)⟩⟩)⟩) rfl hI (fk.trans (fk.trans (fk.rf) hj47 rfl rfl) hf64 rfl rfl) hP hS (lv_sub hl [0, 1, 2, 3, 4, 5, 6] rfl)
                          exact L151_49 _ 0 _ _ _ _ (by omega) (fun uq ⟨mm1, mm2, mm3, mm4, mm5, hq⟩ => hk4 _ ⟨mm1, mm2, mm3, mm4 + 1, (u_d_X10_measureWays_4 ⟨gI44.out, ⟨f42, (Or.inr ⟨c45, ⟨mm5, hq⟩⟩)⟩⟩)⟩) rfl hI (fk.rf) hP hS (lv_sub hl [0, 1, 2, 3, 4, 5, 6] rfl)
                    exact L142_40 _ 0 _ _ _ _ (by omega) (fun uq ⟨mm1, mm2, mm3, mm4, hq⟩ => hk3 _ ⟨mm1, mm2, mm3 + 1, (u_d_X10_measureWays_3 ⟨gI35.out, ⟨f33, (Or.inr ⟨c36, ⟨mm4, hq⟩⟩)⟩⟩)⟩) rfl hI (fk.rf) hP hS (lv_sub hl [0, 1, 2, 3, 4, 5] rfl)
              exact L133_31 _ 0 _ _ _ _ (by omega) (fun uq ⟨mm1, mm2, mm3, hq⟩ => hk2 _ ⟨mm1, mm2 + 1, (u_d_X10_measureWays_2 ⟨gI23.out, ⟨f18, ⟨z26, gz26.out, (Or.inl ⟨c27, ⟨mm3, hq⟩⟩)⟩⟩⟩)⟩) rfl hI (fk.rf) hP hS (lv_sub hl [0, 1, 2, 3, 4] rfl)
            · have c27 : ¬ z26 ≤ z13 := mt (i_le (rb rz26 (by decide) (by decide)) (rb f18 (by decide) (by decide))).mpr c27
              refine lv_aload_n hx hb (dk_at dkX10_measureWays_2 0 rfl) rfl (lv_at hl 3 rfl) ?_
              refine lv_iload hx hb (dk_at dkX10_measureWays_2 1 rfl) (lv_at hl 0 rfl) ?_
              refine k_calli (As := [.int (iI z13)]) (rest := []) ⟨hx, hb, hml, hown, hts⟩ hE (kc_X9_isBox l dC dI cB cI cJ cZ cQ aL aS q _ ta z13 hI hta (rb f18 (by decide) (by decide))) (cwV 1 hts (goodVk wkq_9_58 wkq_1_6 wkq_1_7 wkq_0_6 wkq_1_8) rfl rfl rfl (by decide +kernel) ⟨Nat.le_of_ble_eq_true rfl, Nat.le_of_ble_eq_true rfl⟩) hK hDD hA0 hP hS ta 9 (wkT hta) rfl rfl hl.1 (Nat.le_of_ble_eq_true rfl) (dk_at dkX10_measureWays_2 2 rfl) (fun z65 A66 H locs hw67 hP hS => ?_)
              obtain ⟨rfl, hw67⟩ := hw67
              have ghw67 : q_X9_isBox ta z13 A15 z65 := hw67
              have hw67 := hw67.2
              have rz65 : 0 ≤ z65 ∧ z65 ≤ 1 := hw67.1
              have hw67 := hw67.2
              have J124_69 : ∀ (A95 : St) (H : Heap) (locs : List Loc) (ls : Array Slot), (∀ (u : St), (∃ mm1 mm2 : Nat, (d_X10_measureWays_6 (fun z13' A15' => d_X10_measureWays_2 ta x2 z10 u mm2 z13' A15') z13 u A95)) → r_X10_measureWays ta x2 A u) → IK A95 → fk [28] [] A15 A95 → va_P (dC, dI) vwCl (WK cB cI cJ cZ cQ q A95) H → va_S AS s.heap H locs → lv_has ls 7 [(4, .int (iI z13)), (3, .int (iI z10)), (0, .ref (q 27)), (1, .ref (q ta)), (2, .int (iI x2))] → W p l e (headSpec ws_kc_X10_measureWays ({ frames := 3, cells := 0, slots := 0, locals := 68 } : Room)).room s m [.ref (q 27), .ref (q ta), .int (iI x2)].toArray below meth c H locs 0 0 Q (F0 m 124 ls []) := by
                intro A95 H locs ls hk6 hI hj94 hP hS hl
                have gI96 : Hd (IK A95) := Hd.mk hI
                clear hw67
                refine lv_iinc (v := iI (z13 + 1)) (lv' := [(4, .int (iI (z13 + 1))), (3, .int (iI z10)), (0, .ref (q 27)), (1, .ref (q ta)), (2, .int (iI x2))]) hx hb (dk_at dkX10_measureWays_4 6 rfl) hl (k := 0) rfl (i_inc (by omega)) (by decide) rfl (fun ls hl => ?_)
                refine lv_goto (tgt := 45) hx hb (dk_at dkX10_measureWays_4 7 rfl) (by decide) ?_
                exact ih17 _ (by omega) (z13 + 1) _ _ _ _ (by omega) (fun uq ⟨mm1, mm2, hq⟩ => hk6 _ ⟨mm1, mm2, (u_d_X10_measureWays_6 ⟨gI96.out, hq⟩)⟩) rfl hI (fk.trans (fk.trans (fk.rf) hj14 rfl rfl) hj94 rfl rfl) hP hS (lv_sub hl [0, 1, 2, 3, 4] rfl)
              refine lv_if_ne (tgt := 124) hx hb (dk_at dkX10_measureWays_2 3 rfl) (by decide) (fun c68 => ?_) (fun c68 => ?_)
              · have c68 : ¬ z65 = 0 := mt (i_eq0 (rb rz65 (by decide) (by decide))).mpr c68
                have hw67b := hw67 (by omega)
                clear hw67
                exact J124_69 _ _ _ _ (fun uq ⟨mm1, mm2, hq⟩ => hk2 _ ⟨mm1, mm2 + 1, (u_d_X10_measureWays_2 ⟨gI23.out, ⟨f18, ⟨z26, gz26.out, (Or.inr ⟨c27, ⟨z65, ghw67, (Or.inl ⟨c68, hq⟩)⟩⟩)⟩⟩⟩)⟩) hI (fk.rf) hP hS (lv_sub hl [0, 1, 2, 3, 4] rfl)
              · have c68 : z65 = 0 := (i_eq0 (rb rz65 (by decide) (by decide))).mp c68
                clear hw67
                refine lv_iload_n hx hb (dk_at dkX10_measureWays_2 4 rfl) rfl (lv_at hl 1 rfl) ?_
                refine lv_iload hx hb (dk_at dkX10_measureWays_2 5 rfl) (lv_at hl 0 rfl) ?_
                refine lv_ishr hx hb (dk_at dkX10_measureWays_2 6 rfl) ?_
                refine x_absE (fun z70 gz70 hz70 => ?_)
                refine lv_iconst (v := iI 1) hx hb (dk_at dkX10_measureWays_2 7 rfl) (by decide +kernel) ?_
                refine lv_iand hx hb (dk_at dkX10_measureWays_2 8 rfl) ?_
                refine x_andE (b := 1) (by omega) (fun z71 gz71 hz71 => ?_)
                refine lv_if_ne (tgt := 124) hx hb (dk_at dkX10_measureWays_2 9 rfl) (by decide) (fun c72 => ?_) (fun c72 => ?_)
                · have c72 : ¬ z71 = 0 := mt (i_eq0 (by omega)).mpr c72
                  exact J124_69 _ _ _ _ (fun uq ⟨mm1, mm2, hq⟩ => hk2 _ ⟨mm1, mm2 + 1, (u_d_X10_measureWays_2 ⟨gI23.out, ⟨f18, ⟨z26, gz26.out, (Or.inr ⟨c27, ⟨z65, ghw67, (Or.inr ⟨c68, ⟨z70, gz70.out, ⟨z71, gz71.out, (Or.inl ⟨c72, hq⟩)⟩⟩⟩)⟩⟩)⟩⟩⟩)⟩) hI (fk.rf) hP hS (lv_sub hl [0, 1, 2, 3, 4] rfl)
                · have c72 : z71 = 0 := (i_eq0 (by omega)).mp c72
                  refine lv_aload_n hx hb (dk_at dkX10_measureWays_2 10 rfl) rfl (lv_at hl 2 rfl) ?_
                  refine lv_aload_n hx hb (dk_at dkX10_measureWays_2 11 rfl) rfl (lv_at hl 3 rfl) ?_
                  refine va_get (D := (dC, dI)) (ci := 9) (v := .ref (q (ta + 8))) (C := RX9) (T := TX9) (N := 16) hx hb hts hiX9 hown hK hP ta (wkT hta) rfl 2 (by decide) (hts _ (List.mem_cons_of_mem _ wkq_9_54)) (fun _ h9 => h9) rfl (dk_at dkX10_measureWays_2 12 rfl) ?_
                  refine lv_iload hx hb (dk_at dkX10_measureWays_2 13 rfl) (lv_at hl 0 rfl) ?_
                  have a74 : ∀ k, A3 (ta + 8) k = A (ta + 8) k := fun k => hj2 (ta + 8) k (isT.b2 (o := fun b => List.contains [28] (b + 8)) hta rfl rfl) (isT.b2 (o := fun b => fin2 [] (b + 8) k) hta rfl rfl)
                  have a73 : ∀ k, A15 (ta + 8) k = A (ta + 8) k := fun k => (hj14 (ta + 8) k (isT.b2 (o := fun b => List.contains [28] (b + 8)) hta rfl rfl) (isT.b2 (o := fun b => fin2 [] (b + 8) k) hta rfl rfl)).trans (a74 k)
                  refine x_iald (Wf := WK cB cI cJ cZ cQ q) hx hb hK hP (ta + 8) 1 (wkTf hta) rfl (by omega) (by decide) (dk_at dkX10_measureWays_2 14 rfl) (fun z75 hz75 => ?_)
                  have rz75 : (-2147483648 : Int) ≤ z75 ∧ z75 ≤ 2147483647 := by rw [hz75]; exact irTf hta hI
                  have gz75 := Hd.mk hz75
                  have hz75 : z75 = A (ta + 8) (z13).toNat := hz75.trans (a73 _)
                  refine lv_aload_n hx hb (dk_at dkX10_measureWays_2 15 rfl) rfl (lv_at hl 3 rfl) ?_
                  refine va_get (D := (dC, dI)) (ci := 9) (v := .ref (q (ta + 9))) (C := RX9) (T := TX9) (N := 16) hx hb hts hiX9 hown hK hP ta (wkT hta) rfl 3 (by decide) (hts _ (List.mem_cons_of_mem _ wkq_9_55)) (fun _ h9 => h9) rfl (dk_at dkX10_measureWays_3 0 rfl) ?_
                  refine lv_iload hx hb (dk_at dkX10_measureWays_3 1 rfl) (lv_at hl 0 rfl) ?_
                  have a77 : ∀ k, A3 (ta + 9) k = A (ta + 9) k := fun k => hj2 (ta + 9) k (isT.b2 (o := fun b => List.contains [28] (b + 9)) hta rfl rfl) (isT.b2 (o := fun b => fin2 [] (b + 9) k) hta rfl rfl)
                  have a76 : ∀ k, A15 (ta + 9) k = A (ta + 9) k := fun k => (hj14 (ta + 9) k (isT.b2 (o := fun b => List.contains [28] (b + 9)) hta rfl rfl) (isT.b2 (o := fun b => fin2 [] (b + 9) k) hta rfl rfl)).trans (a77 k)
                  refine x_iald (Wf := WK cB cI cJ cZ cQ q) hx hb hK hP (ta + 9) 1 (wkTs hta) rfl (by omega) (by decide) (dk_at dkX10_measureWays_3 2 rfl) (fun z78 hz78 => ?_)
                  have rz78 : (-2147483648 : Int) ≤ z78 ∧ z78 ≤ 2147483647 := by rw [hz78]; exact irTs hta hI
                  have gz78 := Hd.mk hz78
                  have hz78 : z78 = A (ta + 9) (z13).toNat := hz78.trans (a76 _)
                  refine lv_aload_n hx hb (dk_at dkX10_measureWays_3 3 rfl) rfl (lv_at hl 3 rfl) ?_
                  refine va_get (D := (dC, dI)) (ci := 9) (v := .ref (q (ta + 10))) (C := RX9) (T := TX9) (N := 16) hx hb hts hiX9 hown hK hP ta (wkT hta) rfl 4 (by decide) (hts _ (List.mem_cons_of_mem _ wkq_9_56)) (fun _ h9 => h9) rfl (dk_at dkX10_measureWays_3 4 rfl) ?_
                  refine lv_iload hx hb (dk_at dkX10_measureWays_3 5 rfl) (lv_at hl 0 rfl) ?_
                  have a80 : ∀ k, A3 (ta + 10) k = A (ta + 10) k := fun k => hj2 (ta + 10) k (isT.b2 (o := fun b => List.contains [28] (b + 10)) hta rfl rfl) (isT.b2 (o := fun b => fin2 [] (b + 10) k) hta rfl rfl)
                  have a79 : ∀ k, A15 (ta + 10) k = A (ta + 10) k := fun k => (hj14 (ta + 10) k (isT.b2 (o := fun b => List.contains [28] (b + 10)) hta rfl rfl) (isT.b2 (o := fun b => fin2 [] (b + 10) k) hta rfl rfl)).trans (a80 k)
                  refine x_iald (Wf := WK cB cI cJ cZ cQ q) hx hb hK hP (ta + 10) 1 (wkTm hta) rfl (by omega) (by decide) (dk_at dkX10_measureWays_3 6 rfl) (fun z81 hz81 => ?_)
                  have rz81 : (-2147483648 : Int) ≤ z81 ∧ z81 ≤ 2147483647 := by rw [hz81]; exact irTm hta hI
                  have gz81 := Hd.mk hz81
                  have hz81 : z81 = A (ta + 10) (z13).toNat := hz81.trans (a79 _)
                  refine k_callv (As := [.int (iI z75), .int (iI z78), .int (iI z81)]) (rest := []) ⟨hx, hb, hml, hown, hts⟩ hE (kc_X10_shorten l dC dI cB cI cJ cZ cQ aL aS q _ z75 z78 z81 hI rz75 rz78 rz81) (cwV 3 hts (goodVk wkq_9_59 wkq_10_0 wkq_10_1 wkq_9_51 wkq_10_2) rfl rfl rfl (by decide +kernel) ⟨Nat.le_of_ble_eq_true rfl, Nat.le_of_ble_eq_true rfl⟩) hK hDD hA0 hP hS 27 10 (wkWT) rfl rfl hl.1 (Nat.le_of_ble_eq_true rfl) (dk_at dkX10_measureWays_3 7 rfl) (fun A82 H locs hw83 hP hS => ?_)
                  have ghw83 : q_X10_shorten z75 z78 z81 A15 A82 := hw83
                  obtain ⟨_, hI, hf84, hw83⟩ := hw83
                  clear hw83
                  refine lv_aload_n hx hb (dk_at dkX10_measureWays_3 8 rfl) rfl (lv_at hl 2 rfl) ?_
                  refine lv_aload_n hx hb (dk_at dkX10_measureWays_3 9 rfl) rfl (lv_at hl 3 rfl) ?_
                  refine va_get (D := (dC, dI)) (ci := 9) (v := .ref (q (ta + 9))) (C := RX9) (T := TX9) (N := 16) hx hb hts hiX9 hown hK hP ta (wkT hta) rfl 3 (by decide) (hts _ (List.mem_cons_of_mem _ wkq_9_55)) (fun _ h9 => h9) rfl (dk_at dkX10_measureWays_3 10 rfl) ?_
                  refine lv_iload hx hb (dk_at dkX10_measureWays_3 11 rfl) (lv_at hl 0 rfl) ?_
                  have a85 : ∀ k, A82 (ta + 9) k = A (ta + 9) k := fun k => (hf84 (ta + 9) k (isT.b2 (o := fun b => List.contains [28] (b + 9)) hta rfl rfl) (isT.b2 (o := fun b => fin2 [] (b + 9) k) hta rfl rfl)).trans (a76 k)
                  refine x_iald (Wf := WK cB cI cJ cZ cQ q) hx hb hK hP (ta + 9) 1 (wkTs hta) rfl (by omega) (by decide) (dk_at dkX10_measureWays_3 12 rfl) (fun z86 hz86 => ?_)
                  have rz86 : (-2147483648 : Int) ≤ z86 ∧ z86 ≤ 2147483647 := by rw [hz86]; exact irTs hta hI
                  have gz86 := Hd.mk hz86
                  have hz86 : z86 = A (ta + 9) (z13).toNat := hz86.trans (a85 _)
                  have ez86 : z86 = z78 := hz86.trans hz78.symm
                  refine tp_i (y := iI z78) (congrArg iI ez86) ?_
                  refine lv_aload_n hx hb (dk_at dkX10_measureWays_3 13 rfl) rfl (lv_at hl 3 rfl) ?_
                  refine va_get (D := (dC, dI)) (ci := 9) (v := .ref (q (ta + 8))) (C := RX9) (T := TX9) (N := 16) hx hb hts hiX9 hown hK hP ta (wkT hta) rfl 2 (by decide) (hts _ (List.mem_cons_of_mem _ wkq_9_54)) (fun _ h9 => h9) rfl (dk_at dkX10_measureWays_3 14 rfl) ?_
                  refine lv_iload hx hb (dk_at dkX10_measureWays_3 15 rfl) (lv_at hl 0 rfl) ?_
                  have a87 : ∀ k, A82 (ta + 8) k = A (ta + 8) k := fun k => (hf84 (ta + 8) k (isT.b2 (o := fun b => List.contains [28] (b + 8)) hta rfl rfl) (isT.b2 (o := fun b => fin2 [] (b + 8) k) hta rfl rfl)).trans (a73 k)
                  refine x_iald (Wf := WK cB cI cJ cZ cQ q) hx hb hK hP (ta + 8) 1 (wkTf hta) rfl (by omega) (by decide) (dk_at dkX10_measureWays_4 0 rfl) (fun z88 hz88 => ?_)
                  have rz88 : (-2147483648 : Int) ≤ z88 ∧ z88 ≤ 2147483647 := by rw [hz88]; exact irTf hta hI
                  have gz88 := Hd.mk hz88
                  have hz88 : z88 = A (ta + 8) (z13).toNat := hz88.trans (a87 _)
                  have ez88 : z88 = z75 := hz88.trans hz75.symm
                  refine tp_i (y := iI z75) (congrArg iI ez88) ?_
                  refine lv_aload_n hx hb (dk_at dkX10_measureWays_4 1 rfl) rfl (lv_at hl 3 rfl) ?_
                  refine va_get (D := (dC, dI)) (ci := 9) (v := .ref (q (ta + 10))) (C := RX9) (T := TX9) (N := 16) hx hb hts hiX9 hown hK hP ta (wkT hta) rfl 4 (by decide) (hts _ (List.mem_cons_of_mem _ wkq_9_56)) (fun _ h9 => h9) rfl (dk_at dkX10_measureWays_4 2 rfl) ?_
                  refine lv_iload hx hb (dk_at dkX10_measureWays_4 3 rfl) (lv_at hl 0 rfl) ?_
                  have a89 : ∀ k, A82 (ta + 10) k = A (ta + 10) k := fun k => (hf84 (ta + 10) k (isT.b2 (o := fun b => List.contains [28] (b + 10)) hta rfl rfl) (isT.b2 (o := fun b => fin2 [] (b + 10) k) hta rfl rfl)).trans (a79 k)
                  refine x_iald (Wf := WK cB cI cJ cZ cQ q) hx hb hK hP (ta + 10) 1 (wkTm hta) rfl (by omega) (by decide) (dk_at dkX10_measureWays_4 4 rfl) (fun z90 hz90 => ?_)
                  have rz90 : (-2147483648 : Int) ≤ z90 ∧ z90 ≤ 2147483647 := by rw [hz90]; exact irTm hta hI
                  have gz90 := Hd.mk hz90
                  have hz90 : z90 = A (ta + 10) (z13).toNat := hz90.trans (a89 _)
                  have ez90 : z90 = z81 := hz90.trans hz81.symm
                  refine tp_i (y := iI z81) (congrArg iI ez90) ?_
                  refine k_callv (As := [.int (iI z78), .int (iI z75), .int (iI z81)]) (rest := []) ⟨hx, hb, hml, hown, hts⟩ hE (kc_X10_shorten l dC dI cB cI cJ cZ cQ aL aS q _ z78 z75 z81 hI rz78 rz75 rz81) (cwV 3 hts (goodVk wkq_9_59 wkq_10_0 wkq_10_1 wkq_9_51 wkq_10_2) rfl rfl rfl (by decide +kernel) ⟨Nat.le_of_ble_eq_true rfl, Nat.le_of_ble_eq_true rfl⟩) hK hDD hA0 hP hS 27 10 (wkWT) rfl rfl hl.1 (Nat.le_of_ble_eq_true rfl) (dk_at dkX10_measureWays_4 5 rfl) (fun A91 H locs hw92 hP hS => ?_)
                  have ghw92 : q_X10_shorten z78 z75 z81 A82 A91 := hw92
                  obtain ⟨_, hI, hf93, hw92⟩ := hw92
                  clear hw92
                  exact J124_69 _ _ _ _ (fun uq ⟨mm1, mm2, hq⟩ => hk2 _ ⟨mm1, mm2 + 1, (u_d_X10_measureWays_2 ⟨gI23.out, ⟨f18, ⟨z26, gz26.out, (Or.inr ⟨c27, ⟨z65, ghw67, (Or.inr ⟨c68, ⟨z70, gz70.out, ⟨z71, gz71.out, (Or.inr ⟨c72, ⟨z75, gz75.out, ⟨z78, gz78.out, ⟨z81, gz81.out, ⟨A82, ghw83, ⟨A91, ghw92, hq⟩⟩⟩⟩⟩⟩)⟩⟩⟩)⟩⟩)⟩⟩⟩)⟩) hI (fk.trans (fk.trans (fk.rf) hf84 rfl rfl) hf93 rfl rfl) hP hS (lv_sub hl [0, 1, 2, 3, 4] rfl)
        exact L45_16 _ 0 _ _ _ _ (by omega) (fun uq ⟨mm1, mm2, hq⟩ => hk1 _ ⟨mm1 + 1, (u_d_X10_measureWays_1 ⟨gI8.out, ⟨f6, (Or.inl ⟨c9, ⟨z10, ghw12, ⟨mm2, hq⟩⟩⟩)⟩⟩)⟩) rfl hI (fk.rf) hP hS (lv_sub hl [0, 1, 2, 3, 4] rfl)
      · have c9 : ¬ 64 ≤ z1 := mt (i_le ⟨by decide, by decide⟩ (rb f6 (by decide) (by decide))).mpr c9
        refine lv_aload_n hx hb (dk_at dkX10_measureWays_0 5 rfl) rfl (lv_at hl 1 rfl) ?_
        refine va_get (D := (dC, dI)) (ci := 10) (v := .ref (q 28)) (C := RX10) (T := TX10) (N := 2) hx hb hts hiX10 hown hK hP 27 (wkWT) rfl 0 (by decide) (hts _ (List.mem_cons_of_mem _ wkq_9_53)) (fun _ h9 => h9) rfl (dk_at dkX10_measureWays_0 6 rfl) ?_
        refine lv_iload_n hx hb (dk_at dkX10_measureWays_0 7 rfl) rfl (lv_at hl 0 rfl) ?_
        refine lv_iload_n hx hb (dk_at dkX10_measureWays_0 8 rfl) rfl (lv_at hl 0 rfl) ?_
        refine lv_bipush (v := iI 8) hx hb (dk_at dkX10_measureWays_0 9 rfl) (by decide +kernel) ?_
        refine x_div hx hb (dk_at dkX10_measureWays_0 10 rfl) (by omega) (by omega) (fun z97 hz97 hz97b => ?_)
        refine lv_iload_n hx hb (dk_at dkX10_measureWays_0 11 rfl) rfl (lv_at hl 0 rfl) ?_
        refine lv_bipush (v := iI 8) hx hb (dk_at dkX10_measureWays_0 12 rfl) (by decide +kernel) ?_
        refine x_rem hx hb (dk_at dkX10_measureWays_0 13 rfl) (by omega) (by omega) (fun z98 hz98 hz98b => ?_)
        have gz98 := Hd.mk hz98
        clear hz98
        have J30_100 : ∀ (z101 : Int) (H : Heap) (locs : List Loc) (ls : Array Slot), (0 ≤ z101 ∧ z101 ≤ 1000000) → (∀ (u : St), (∃ mm1 : Nat, (d_X10_measureWays_7 (fun z1' A3' => d_X10_measureWays_1 ta x2 u mm1 z1' A3') z1 A3 u z101)) → r_X10_measureWays ta x2 A u) → va_P (dC, dI) vwCl (WK cB cI cJ cZ cQ q A3) H → va_S AS s.heap H locs → lv_has ls 7 [(3, .int (iI z1)), (0, .ref (q 27)), (1, .ref (q ta)), (2, .int (iI x2))] → W p l e (headSpec ws_kc_X10_measureWays ({ frames := 3, cells := 0, slots := 0, locals := 68 } : Room)).room s m [.ref (q 27), .ref (q ta), .int (iI x2)].toArray below meth c H locs 0 0 Q (F0 m 30 ls [.int (iI z101), .int (iI z1), .ref (q 28)]) := by
          intro z101 H locs ls f103 hk7 hP hS hl
          refine k_iast (Wf := WK cB cI cJ cZ cQ q) hx hb hK hP hDD hS 28 1 (wkWTw) rfl (by omega) (by decide) (dk_at dkX10_measureWays_1 2 rfl) (wsWTw) (fun H locs A104 hA104 hP hS => ?_)
          have hI := isWTw hA104 hI (show (-2147483648 : Int) ≤ z101 ∧ z101 ≤ 2147483647 from (rb f103 (by decide) (by decide)))
          refine lv_iinc (v := iI (z1 + 1)) (lv' := [(3, .int (iI (z1 + 1))), (0, .ref (q 27)), (1, .ref (q ta)), (2, .int (iI x2))]) hx hb (dk_at dkX10_measureWays_1 3 rfl) hl (k := 0) rfl (i_inc (by omega)) (by decide) rfl (fun ls hl => ?_)
          refine lv_goto (tgt := 2) hx hb (dk_at dkX10_measureWays_1 4 rfl) (by decide) ?_
          exact ih5 _ (by omega) (z1 + 1) _ _ _ _ (by omega) (fun uq ⟨mm1, hq⟩ => hk7 _ ⟨mm1, (u_d_X10_measureWays_7 ⟨f103, ⟨A104, hA104, hq⟩⟩)⟩) rfl hI (fk.da (fk.trans (fk.rf) hj2 rfl rfl) hA104 rfl) hP hS (lv_sub hl [0, 1, 2, 3] rfl)
        refine lv_icmp_ne (tgt := 28) hx hb (dk_at dkX10_measureWays_0 14 rfl) (by decide) (fun c99 => ?_) (fun c99 => ?_)
        · have c99 : ¬ z97 = z98 := mt (i_eq (by omega) (by omega)).mpr c99
          refine lv_ldc (v := 1000000) hx hb hown (hts _ (List.mem_cons_of_mem _ wkq_9_46)) (dk_at dkX10_measureWays_1 1 rfl) ?_
          refine tp_i (y := iI 1000000) (by decide +kernel) ?_
          exact J30_100 1000000 _ _ _ (by omega) (fun uq ⟨mm1, hq⟩ => hk1 _ ⟨mm1 + 1, (u_d_X10_measureWays_1 ⟨gI8.out, ⟨f6, (Or.inr ⟨c9, ⟨z97, hz97, ⟨z98, gz98.out, (Or.inl ⟨c99, hq⟩)⟩⟩⟩)⟩⟩)⟩) hP hS (lv_sub hl [0, 1, 2, 3] rfl)
        · have c99 : z97 = z98 := (i_eq (by omega) (by omega)).mp c99
          refine lv_iconst (v := iI 0) hx hb (dk_at dkX10_measureWays_0 15 rfl) (by decide +kernel) ?_
          refine lv_goto (tgt := 30) hx hb (dk_at dkX10_measureWays_1 0 rfl) (by decide) ?_
          exact J30_100 0 _ _ _ (by omega) (fun uq ⟨mm1, hq⟩ => hk1 _ ⟨mm1 + 1, (u_d_X10_measureWays_1 ⟨gI8.out, ⟨f6, (Or.inr ⟨c9, ⟨z97, hz97, ⟨z98, gz98.out, (Or.inr ⟨c99, hq⟩)⟩⟩⟩)⟩⟩)⟩) hP hS (lv_sub hl [0, 1, 2, 3] rfl)
  exact L2_4 _ 0 _ _ _ _ (by omega) (fun uq ⟨mm1, hq⟩ => (u_r_X10_measureWays ⟨mm1, hq⟩)) rfl hI (fk.rf) hP hS (lv_sub hl [0, 1, 2, 3] rfl)

abbrev tr_d_X10_walkOn_2 (K1 : Int → St → Prop) (z1 : Int) (u : St) (A28 : St) : Prop := ((IK A28) ∧ (K1 (z1 + 1) A28))
def d_X10_walkOn_2 (K1 : Int → St → Prop) (z1 : Int) (u : St) (A28 : St) : Prop := tr_d_X10_walkOn_2 K1 z1 u A28
theorem u_d_X10_walkOn_2 {K1 : Int → St → Prop} {z1 : Int} {u : St} {A28 : St} (h : tr_d_X10_walkOn_2 K1 z1 u A28) : d_X10_walkOn_2 K1 z1 u A28 := h
abbrev tr_d_X10_walkOn_1 (x1 : Int) (x2 : Int) (x3 : Int) (x4 : Int) (u : St) (K1 : Int → St → Prop) (z1 : Int) (A3 : St) : Prop := ((IK A3) ∧ ((0 ≤ z1 ∧ z1 ≤ 2147483647) ∧ (((8 ≤ z1) ∧ (u = A3)) ∨ ((¬ 8 ≤ z1) ∧ (∃ z10 : Int, z10 = oShr x1 z1 ∧ (∃ z11 : Int, z11 = oAnd z10 1 ∧ (((z11 = 0) ∧ (d_X10_walkOn_2 K1 z1 u A3)) ∨ ((¬ z11 = 0) ∧ (∃ z14 : Int, z14 = oShl 1 z1 ∧ (∃ z15 : Int, z15 = oOr x2 z14 ∧ (∃ z16 : Int, z16 = oWrap (8 * z15) ∧ (∃ z17 : Int, z17 = oWrap (z16 + z1) ∧ (((z17 < 0) ∧ (d_X10_walkOn_2 K1 z1 u A3)) ∨ ((¬ z17 < 0) ∧ (((2048 ≤ z17) ∧ (d_X10_walkOn_2 K1 z1 u A3)) ∨ ((¬ 2048 ≤ z17) ∧ (∃ z20 : Int, z20 = A3 29 (z17).toNat ∧ (∃ z21 : Int, q_X10_wayOf x3 z1 A3 z21 ∧ (∃ z24 : Int, z24 = oWrap (x4 + z21) ∧ (∃ z25 : Int, (z25 ≤ z20 ∧ z25 ≤ z24 ∧ (z25 = z20 ∨ z25 = z24)) ∧ (∃ A26 : St, A26 = stA A3 29 (z17).toNat z25 ∧ (d_X10_walkOn_2 K1 z1 u A26))))))))))))))))))))))
def d_X10_walkOn_1 (x1 : Int) (x2 : Int) (x3 : Int) (x4 : Int) (u : St) : Nat → Int → St → Prop
  | 0, _, _ => False
  | nn9 + 1, z1, A3 => tr_d_X10_walkOn_1 x1 x2 x3 x4 u (fun z1 A3 => d_X10_walkOn_1 x1 x2 x3 x4 u nn9 z1 A3) z1 A3
theorem u_d_X10_walkOn_1 {x1 : Int} {x2 : Int} {x3 : Int} {x4 : Int} {u : St} {nn9 : Nat} {z1 : Int} {A3 : St} (h : tr_d_X10_walkOn_1 x1 x2 x3 x4 u (fun z1 A3 => d_X10_walkOn_1 x1 x2 x3 x4 u nn9 z1 A3) z1 A3) : d_X10_walkOn_1 x1 x2 x3 x4 u (nn9 + 1) z1 A3 := h
abbrev tr_r_X10_walkOn (x1 : Int) (x2 : Int) (x3 : Int) (x4 : Int) (A : St) (u : St) : Prop := (∃ nn9 : Nat, d_X10_walkOn_1 x1 x2 x3 x4 u nn9 0 A)
def r_X10_walkOn (x1 : Int) (x2 : Int) (x3 : Int) (x4 : Int) (A : St) (u : St) : Prop := tr_r_X10_walkOn x1 x2 x3 x4 A u
theorem u_r_X10_walkOn {x1 : Int} {x2 : Int} {x3 : Int} {x4 : Int} {A : St} {u : St} (h : tr_r_X10_walkOn x1 x2 x3 x4 A u) : r_X10_walkOn x1 x2 x3 x4 A u := h
def q_X10_walkOn (x1 : Int) (x2 : Int) (x3 : Int) (x4 : Int) (A : St) (u : St) : Prop := r_X10_walkOn x1 x2 x3 x4 A u ∧ IK u ∧ fk [29] [] A u ∧ (True)
def ws_kc_X10_walkOn : List Cond := .code yX10_walkOn cX10_walkOn 7 none :: WY
set_option maxHeartbeats 4000000 in
set_option maxRecDepth 100000 in
theorem kc_X10_walkOn (l : Launch) (dC : Nat → ClassId) (dI : Nat → Nat → Nat) (cB cI cJ cZ cQ : ClassId) (aL aS : Nat) (q : Nat → Nat) (A : St) (x1 x2 x3 x4 : Int) (hI : IK A) (hx1 : (-2147483648 : Int) ≤ x1 ∧ x1 ≤ 2147483647) (hx2 : (-2147483648 : Int) ≤ x2 ∧ x2 ≤ 2147483647) (hx3 : (-2147483648 : Int) ≤ x3 ∧ x3 ≤ 2147483647) (hx4 : (-2147483648 : Int) ≤ x4 ∧ x4 ≤ 2147483647) : KMv l yX10_walkOn ws_kc_X10_walkOn ({ frames := 1, cells := 0, slots := 0, locals := 22 } : Room) aL aS (dC, dI) (tyA cB cI cJ cZ cQ) (WK cB cI cJ cZ cQ q) A [.ref (q 27), .int (iI x1), .int (iI x2), .int (iI x3), .int (iI x4)] (fun u => r_X10_walkOn x1 x2 x3 x4 A u ∧ IK u ∧ fk [29] [] A u ∧ (True)) := by
  refine k_metv (cc := cX10_walkOn) (maxL := 7) WK_adr (plainFor_of_name (by decide +kernel)) rfl (Nat.le_of_ble_eq_true rfl) (fun p e s m below meth c Q AS ls hx hb hml hown hts hK hDD hA0 hE RET H locs hP hS hl => ?_)
  have hown : s.vm.findClass RX10 = some m.cls := hown
  have hl : lv_has ls 7 [(0, .ref (q 27)), (1, .int (iI x1)), (2, .int (iI x2)), (3, .int (iI x3)), (4, .int (iI x4))] := hl
  have hiX10 : ∀ w ∈ u_ws RX10 TX10 2, w ∈ ws_kc_X10_walkOn := fun w h => List.mem_cons_of_mem _ (wy_layX10 w h)
  refine lv_iconst (v := iI 0) hx hb (dk_at dkX10_walkOn_0 0 rfl) (by decide +kernel) ?_
  refine lv_istore (lv' := [(5, .int (iI 0)), (0, .ref (q 27)), (1, .int (iI x1)), (2, .int (iI x2)), (3, .int (iI x3)), (4, .int (iI x4))]) hx hb (dk_at dkX10_walkOn_0 1 rfl) hl (by decide) rfl (fun ls hl => ?_)
  have L3_4 : ∀ (n7 : Nat) (z1 : Int) (A3 : St) (H : Heap) (locs : List Loc) (ls : Array Slot), (0 ≤ z1 ∧ z1 ≤ 2147483647) → (∀ (u : St), (∃ mm1 : Nat, (d_X10_walkOn_1 x1 x2 x3 x4 u mm1 z1 A3)) → r_X10_walkOn x1 x2 x3 x4 A u) → ((9 - z1).toNat = n7) → IK A3 → fk [29] [] A A3 → va_P (dC, dI) vwCl (WK cB cI cJ cZ cQ q A3) H → va_S AS s.heap H locs → lv_has ls 7 [(5, .int (iI z1)), (0, .ref (q 27)), (1, .int (iI x1)), (2, .int (iI x2)), (3, .int (iI x3)), (4, .int (iI x4))] → W p l e (headSpec ws_kc_X10_walkOn ({ frames := 1, cells := 0, slots := 0, locals := 22 } : Room)).room s m [.ref (q 27), .int (iI x1), .int (iI x2), .int (iI x3), .int (iI x4)].toArray below meth c H locs 0 0 Q (F0 m 3 ls []) := by
    intro n7
    induction n7 using Nat.strongRecOn with
    | ind n7 ih5 =>
      intro z1 A3 H locs ls f6 hk1 hn7 hI hj2 hP hS hl
      have gI8 : Hd (IK A3) := Hd.mk hI
      refine lv_iload hx hb (dk_at dkX10_walkOn_0 2 rfl) (lv_at hl 0 rfl) ?_
      refine lv_bipush (v := iI 8) hx hb (dk_at dkX10_walkOn_0 3 rfl) (by decide +kernel) ?_
      refine lv_icmp_ge (tgt := 79) hx hb (dk_at dkX10_walkOn_0 4 rfl) (by decide) (fun c9 => ?_) (fun c9 => ?_)
      · have c9 : 8 ≤ z1 := (i_le ⟨by decide, by decide⟩ (rb f6 (by decide) (by decide))).mp c9
        exact RET _ _ _ _ _ ⟨hk1 _ ⟨0 + 1, (u_d_X10_walkOn_1 ⟨gI8.out, ⟨f6, (Or.inl ⟨c9, rfl⟩)⟩⟩)⟩, hI, fk.trans (fk.rf) hj2 rfl rfl, trivial⟩ hP hS (dk_at dkX10_walkOn_2 11 rfl)
      · have c9 : ¬ 8 ≤ z1 := mt (i_le ⟨by decide, by decide⟩ (rb f6 (by decide) (by decide))).mpr c9
        refine lv_iload_n hx hb (dk_at dkX10_walkOn_0 5 rfl) rfl (lv_at hl 2 rfl) ?_
        refine lv_iload hx hb (dk_at dkX10_walkOn_0 6 rfl) (lv_at hl 0 rfl) ?_
        refine lv_ishr hx hb (dk_at dkX10_walkOn_0 7 rfl) ?_
        refine x_absE (fun z10 gz10 hz10 => ?_)
        refine lv_iconst (v := iI 1) hx hb (dk_at dkX10_walkOn_0 8 rfl) (by decide +kernel) ?_
        refine lv_iand hx hb (dk_at dkX10_walkOn_0 9 rfl) ?_
        refine x_andE (b := 1) (by omega) (fun z11 gz11 hz11 => ?_)
        have J73_13 : ∀ (A28 : St) (H : Heap) (locs : List Loc) (ls : Array Slot), (∀ (u : St), (∃ mm1 : Nat, (d_X10_walkOn_2 (fun z1' A3' => d_X10_walkOn_1 x1 x2 x3 x4 u mm1 z1' A3') z1 u A28)) → r_X10_walkOn x1 x2 x3 x4 A u) → IK A28 → fk [29] [] A3 A28 → va_P (dC, dI) vwCl (WK cB cI cJ cZ cQ q A28) H → va_S AS s.heap H locs → lv_has ls 7 [(5, .int (iI z1)), (0, .ref (q 27)), (1, .int (iI x1)), (2, .int (iI x2)), (3, .int (iI x3)), (4, .int (iI x4))] → W p l e (headSpec ws_kc_X10_walkOn ({ frames := 1, cells := 0, slots := 0, locals := 22 } : Room)).room s m [.ref (q 27), .int (iI x1), .int (iI x2), .int (iI x3), .int (iI x4)].toArray below meth c H locs 0 0 Q (F0 m 73 ls []) := by
          intro A28 H locs ls hk2 hI hj27 hP hS hl
          have gI29 : Hd (IK A28) := Hd.mk hI
          refine lv_iinc (v := iI (z1 + 1)) (lv' := [(5, .int (iI (z1 + 1))), (0, .ref (q 27)), (1, .int (iI x1)), (2, .int (iI x2)), (3, .int (iI x3)), (4, .int (iI x4))]) hx hb (dk_at dkX10_walkOn_2 9 rfl) hl (k := 0) rfl (i_inc (by omega)) (by decide) rfl (fun ls hl => ?_)
          refine lv_goto (tgt := 3) hx hb (dk_at dkX10_walkOn_2 10 rfl) (by decide) ?_
          exact ih5 _ (by omega) (z1 + 1) _ _ _ _ (by omega) (fun uq ⟨mm1, hq⟩ => hk2 _ ⟨mm1, (u_d_X10_walkOn_2 ⟨gI29.out, hq⟩)⟩) rfl hI (fk.trans (fk.trans (fk.rf) hj2 rfl rfl) hj27 rfl rfl) hP hS (lv_sub hl [0, 1, 2, 3, 4, 5] rfl)
        refine lv_if_eq (tgt := 73) hx hb (dk_at dkX10_walkOn_0 10 rfl) (by decide) (fun c12 => ?_) (fun c12 => ?_)
        · have c12 : z11 = 0 := (i_eq0 (by omega)).mp c12
          exact J73_13 _ _ _ _ (fun uq ⟨mm1, hq⟩ => hk1 _ ⟨mm1 + 1, (u_d_X10_walkOn_1 ⟨gI8.out, ⟨f6, (Or.inr ⟨c9, ⟨z10, gz10.out, ⟨z11, gz11.out, (Or.inl ⟨c12, hq⟩)⟩⟩⟩)⟩⟩)⟩) hI (fk.rf) hP hS (lv_sub hl [0, 1, 2, 3, 4, 5] rfl)
        · have c12 : ¬ z11 = 0 := mt (i_eq0 (by omega)).mpr c12
          refine lv_iload_n hx hb (dk_at dkX10_walkOn_0 11 rfl) rfl (lv_at hl 3 rfl) ?_
          refine lv_iconst (v := iI 1) hx hb (dk_at dkX10_walkOn_0 12 rfl) (by decide +kernel) ?_
          refine lv_iload hx hb (dk_at dkX10_walkOn_0 13 rfl) (lv_at hl 0 rfl) ?_
          refine lv_ishl hx hb (dk_at dkX10_walkOn_0 14 rfl) ?_
          refine x_absE (fun z14 gz14 hz14 => ?_)
          refine lv_ior hx hb (dk_at dkX10_walkOn_0 15 rfl) ?_
          refine x_absE (fun z15 gz15 hz15 => ?_)
          refine lv_bipush (v := iI 8) hx hb (dk_at dkX10_walkOn_1 0 rfl) (by decide +kernel) ?_
          refine x_mulv (v := 8 * z15) hx hb (dk_at dkX10_walkOn_1 1 rfl) (by omega) ?_
          refine x_absE (fun z16 gz16 hz16 => ?_)
          refine lv_iload hx hb (dk_at dkX10_walkOn_1 2 rfl) (lv_at hl 0 rfl) ?_
          refine x_addv (v := z16 + z1) hx hb (dk_at dkX10_walkOn_1 3 rfl) (by omega) ?_
          refine x_absE (fun z17 gz17 hz17 => ?_)
          refine lv_istore (lv' := [(6, .int (iI z17)), (5, .int (iI z1)), (0, .ref (q 27)), (1, .int (iI x1)), (2, .int (iI x2)), (3, .int (iI x3)), (4, .int (iI x4))]) hx hb (dk_at dkX10_walkOn_1 4 rfl) hl (by decide) rfl (fun ls hl => ?_)
          refine lv_iload hx hb (dk_at dkX10_walkOn_1 5 rfl) (lv_at hl 0 rfl) ?_
          refine lv_if_lt (tgt := 73) hx hb (dk_at dkX10_walkOn_1 6 rfl) (by decide) (fun c18 => ?_) (fun c18 => ?_)
          · have c18 : z17 < 0 := (i_lt0 hz17).mp c18
            exact J73_13 _ _ _ _ (fun uq ⟨mm1, hq⟩ => hk1 _ ⟨mm1 + 1, (u_d_X10_walkOn_1 ⟨gI8.out, ⟨f6, (Or.inr ⟨c9, ⟨z10, gz10.out, ⟨z11, gz11.out, (Or.inr ⟨c12, ⟨z14, gz14.out, ⟨z15, gz15.out, ⟨z16, gz16.out, ⟨z17, gz17.out, (Or.inl ⟨c18, hq⟩)⟩⟩⟩⟩⟩)⟩⟩⟩)⟩⟩)⟩) hI (fk.rf) hP hS (lv_sub hl [1, 2, 3, 4, 5, 6] rfl)
          · have c18 : ¬ z17 < 0 := mt (i_lt0 hz17).mpr c18
            refine lv_iload hx hb (dk_at dkX10_walkOn_1 7 rfl) (lv_at hl 0 rfl) ?_
            refine lv_sipush (v := iI 2048) hx hb (dk_at dkX10_walkOn_1 8 rfl) (by decide +kernel) ?_
            refine lv_icmp_ge (tgt := 73) hx hb (dk_at dkX10_walkOn_1 9 rfl) (by decide) (fun c19 => ?_) (fun c19 => ?_)
            · have c19 : 2048 ≤ z17 := (i_le ⟨by decide, by decide⟩ hz17).mp c19
              exact J73_13 _ _ _ _ (fun uq ⟨mm1, hq⟩ => hk1 _ ⟨mm1 + 1, (u_d_X10_walkOn_1 ⟨gI8.out, ⟨f6, (Or.inr ⟨c9, ⟨z10, gz10.out, ⟨z11, gz11.out, (Or.inr ⟨c12, ⟨z14, gz14.out, ⟨z15, gz15.out, ⟨z16, gz16.out, ⟨z17, gz17.out, (Or.inr ⟨c18, (Or.inl ⟨c19, hq⟩)⟩)⟩⟩⟩⟩⟩)⟩⟩⟩)⟩⟩)⟩) hI (fk.rf) hP hS (lv_sub hl [1, 2, 3, 4, 5, 6] rfl)
            · have c19 : ¬ 2048 ≤ z17 := mt (i_le ⟨by decide, by decide⟩ hz17).mpr c19
              refine lv_aload_n hx hb (dk_at dkX10_walkOn_1 10 rfl) rfl (lv_at hl 2 rfl) ?_
              refine va_get (D := (dC, dI)) (ci := 10) (v := .ref (q 29)) (C := RX10) (T := TX10) (N := 2) hx hb hts hiX10 hown hK hP 27 (wkWT) rfl 1 (by decide) (hts _ (List.mem_cons_of_mem _ wkq_10_12)) (fun _ h9 => h9) rfl (dk_at dkX10_walkOn_1 11 rfl) ?_
              refine lv_iload hx hb (dk_at dkX10_walkOn_1 12 rfl) (lv_at hl 0 rfl) ?_
              refine lv_aload_n hx hb (dk_at dkX10_walkOn_1 13 rfl) rfl (lv_at hl 2 rfl) ?_
              refine va_get (D := (dC, dI)) (ci := 10) (v := .ref (q 29)) (C := RX10) (T := TX10) (N := 2) hx hb hts hiX10 hown hK hP 27 (wkWT) rfl 1 (by decide) (hts _ (List.mem_cons_of_mem _ wkq_10_12)) (fun _ h9 => h9) rfl (dk_at dkX10_walkOn_1 14 rfl) ?_
              refine lv_iload hx hb (dk_at dkX10_walkOn_1 15 rfl) (lv_at hl 0 rfl) ?_
              refine x_iald (Wf := WK cB cI cJ cZ cQ q) hx hb hK hP 29 1 (wkWTl) rfl (by omega) (by decide) (dk_at dkX10_walkOn_2 0 rfl) (fun z20 hz20 => ?_)
              have rz20 : (-2147483648 : Int) ≤ z20 ∧ z20 ≤ 2147483647 := by rw [hz20]; exact irWTl hI
              have gz20 := Hd.mk hz20
              refine lv_iload hx hb (dk_at dkX10_walkOn_2 1 rfl) (lv_at hl 6 rfl) ?_
              refine lv_aload_n hx hb (dk_at dkX10_walkOn_2 2 rfl) rfl (lv_at hl 2 rfl) ?_
              refine lv_iload_n hx hb (dk_at dkX10_walkOn_2 3 rfl) rfl (lv_at hl 5 rfl) ?_
              refine lv_iload hx hb (dk_at dkX10_walkOn_2 4 rfl) (lv_at hl 1 rfl) ?_
              refine k_calli (As := [.int (iI x3), .int (iI z1)]) (rest := [.int (iI x4), .int (iI z20), .int (iI z17), .ref (q 29)]) ⟨hx, hb, hml, hown, hts⟩ hE (kc_X10_wayOf l dC dI cB cI cJ cZ cQ aL aS q _ x3 z1 hI hx3 (rb f6 (by decide) (by decide))) (cwV 2 hts (goodVk wkq_10_4 wkq_10_5 wkq_10_6 wkq_9_51 wkq_10_7) rfl rfl rfl (by decide +kernel) ⟨Nat.le_of_ble_eq_true rfl, Nat.le_of_ble_eq_true rfl⟩) hK hDD hA0 hP hS 27 10 (wkWT) rfl rfl hl.1 (Nat.le_of_ble_eq_true rfl) (dk_at dkX10_walkOn_2 5 rfl) (fun z21 A22 H locs hw23 hP hS => ?_)
              obtain ⟨rfl, hw23⟩ := hw23
              have ghw23 : q_X10_wayOf x3 z1 A3 z21 := hw23
              have hw23 := hw23.2
              refine x_addv (v := x4 + z21) hx hb (dk_at dkX10_walkOn_2 6 rfl) (by omega) ?_
              refine x_absE (fun z24 gz24 hz24 => ?_)
              refine k_min hx hb (hml.trans hl.1.symm) hown (hts _ (List.mem_cons_of_mem _ wkq_10_3)) (hts _ (List.mem_cons_of_mem _ wkq_0_46)) (hts _ (List.mem_cons_of_mem _ wkq_0_47)) (hts _ (List.mem_cons_of_mem _ wkq_0_48)) (Nat.le_of_ble_eq_true rfl) (Nat.le_of_ble_eq_true rfl) (Nat.zero_le _) (Nat.zero_le _) rz20 hz24 (dk_at dkX10_walkOn_2 7 rfl) (fun z25 hz25 => ?_)
              have rz25 : (-2147483648 : Int) ≤ z25 ∧ z25 ≤ 2147483647 := by omega
              have gz25 := Hd.mk hz25
              clear hz25
              refine k_iast (Wf := WK cB cI cJ cZ cQ q) hx hb hK hP hDD hS 29 1 (wkWTl) rfl (by omega) (by decide) (dk_at dkX10_walkOn_2 8 rfl) (wsWTl) (fun H locs A26 hA26 hP hS => ?_)
              have hI := isWTl hA26 hI (show (-2147483648 : Int) ≤ z25 ∧ z25 ≤ 2147483647 from rz25)
              exact J73_13 _ _ _ _ (fun uq ⟨mm1, hq⟩ => hk1 _ ⟨mm1 + 1, (u_d_X10_walkOn_1 ⟨gI8.out, ⟨f6, (Or.inr ⟨c9, ⟨z10, gz10.out, ⟨z11, gz11.out, (Or.inr ⟨c12, ⟨z14, gz14.out, ⟨z15, gz15.out, ⟨z16, gz16.out, ⟨z17, gz17.out, (Or.inr ⟨c18, (Or.inr ⟨c19, ⟨z20, gz20.out, ⟨z21, ghw23, ⟨z24, gz24.out, ⟨z25, gz25.out, ⟨A26, hA26, hq⟩⟩⟩⟩⟩⟩)⟩)⟩⟩⟩⟩⟩)⟩⟩⟩)⟩⟩)⟩) hI (fk.da (fk.rf) hA26 rfl) hP hS (lv_sub hl [1, 2, 3, 4, 5, 6] rfl)
  exact L3_4 _ 0 _ _ _ _ (by omega) (fun uq ⟨mm1, hq⟩ => (u_r_X10_walkOn ⟨mm1, hq⟩)) rfl hI (fk.rf) hP hS (lv_sub hl [0, 1, 2, 3, 4, 5] rfl)

abbrev tr_d_X10_walk_6 (K4 : Int → Int → St → Prop) (z34 : Int) (z : Int) (u : St) (z63 : Int) (A65 : St) : Prop := ((IK A65) ∧ ((-2147483648 ≤ z63 ∧ z63 ≤ 2147483647) ∧ (K4 (z34 + 1) z63 A65)))
def d_X10_walk_6 (K4 : Int → Int → St → Prop) (z34 : Int) (z : Int) (u : St) (z63 : Int) (A65 : St) : Prop := tr_d_X10_walk_6 K4 z34 z u z63 A65
theorem u_d_X10_walk_6 {K4 : Int → Int → St → Prop} {z34 : Int} {z : Int} {u : St} {z63 : Int} {A65 : St} (h : tr_d_X10_walk_6 K4 z34 z u z63 A65) : d_X10_walk_6 K4 z34 z u z63 A65 := h
abbrev tr_d_X10_walk_5 (K4 : Int → Int → St → Prop) (x1 : Int) (z22 : Int) (z34 : Int) (z45 : Int) (A37 : St) (z : Int) (u : St) (z55 : Int) : Prop := ((-2147483648 ≤ z55 ∧ z55 ≤ 2147483647) ∧ (∃ z58 : Int, z58 = oXor z22 (-1) ∧ (∃ z59 : Int, z59 = oAnd x1 z58 ∧ (∃ A60 : St, q_X10_walkOn z59 z22 z34 z45 A37 A60 ∧ (d_X10_walk_6 K4 z34 z u z55 A60)))))
def d_X10_walk_5 (K4 : Int → Int → St → Prop) (x1 : Int) (z22 : Int) (z34 : Int) (z45 : Int) (A37 : St) (z : Int) (u : St) (z55 : Int) : Prop := tr_d_X10_walk_5 K4 x1 z22 z34 z45 A37 z u z55
theorem u_d_X10_walk_5 {K4 : Int → Int → St → Prop} {x1 : Int} {z22 : Int} {z34 : Int} {z45 : Int} {A37 : St} {z : Int} {u : St} {z55 : Int} (h : tr_d_X10_walk_5 K4 x1 z22 z34 z45 A37 z u z55) : d_X10_walk_5 K4 x1 z22 z34 z45 A37 z u z55 := h
abbrev tr_d_X10_walk_4 (K3 : Int → Int → St → Prop) (x1 : Int) (x2 : Int) (z22 : Int) (z : Int) (u : St) (K4 : Int → Int → St → Prop) (z34 : Int) (z35 : Int) (A37 : St) : Prop := ((IK A37) ∧ ((0 ≤ z34 ∧ z34 ≤ 2147483647) ∧ ((-2147483648 ≤ z35 ∧ z35 ≤ 2147483647) ∧ (((8 ≤ z34) ∧ (K3 (z22 + 1) z35 A37)) ∨ ((¬ 8 ≤ z34) ∧ (∃ z45 : Int, z45 = A37 29 (8 * z22 + z34).toNat ∧ (((z45 < 1000000) ∧ (((¬ z22 = x1) ∧ (d_X10_walk_5 K4 x1 z22 z34 z45 A37 z u z35)) ∨ ((z22 = x1) ∧ (∃ z50 : Int, q_X10_wayOf z34 x2 A37 z50 ∧ (∃ z53 : Int, z53 = oWrap (z45 + z50) ∧ (∃ z54 : Int, (z54 ≤ z35 ∧ z54 ≤ z53 ∧ (z54 = z35 ∨ z54 = z53)) ∧ (d_X10_walk_5 K4 x1 z22 z34 z45 A37 z u z54))))))) ∨ ((¬ z45 < 1000000) ∧ (d_X10_walk_6 K4 z34 z u z35 A37)))))))))
def d_X10_walk_4 (K3 : Int → Int → St → Prop) (x1 : Int) (x2 : Int) (z22 : Int) (z : Int) (u : St) : Nat → Int → Int → St → Prop
  | 0, _, _, _ => False
  | nn9 + 1, z34, z35, A37 => tr_d_X10_walk_4 K3 x1 x2 z22 z u (fun z34 z35 A37 => d_X10_walk_4 K3 x1 x2 z22 z u nn9 z34 z35 A37) z34 z35 A37
theorem u_d_X10_walk_4 {K3 : Int → Int → St → Prop} {x1 : Int} {x2 : Int} {z22 : Int} {z : Int} {u : St} {nn9 : Nat} {z34 : Int} {z35 : Int} {A37 : St} (h : tr_d_X10_walk_4 K3 x1 x2 z22 z u (fun z34 z35 A37 => d_X10_walk_4 K3 x1 x2 z22 z u nn9 z34 z35 A37) z34 z35 A37) : d_X10_walk_4 K3 x1 x2 z22 z u (nn9 + 1) z34 z35 A37 := h
abbrev tr_d_X10_walk_3 (x1 : Int) (x2 : Int) (z : Int) (u : St) (K3 : Int → Int → St → Prop) (z22 : Int) (z23 : Int) (A25 : St) : Prop := ((IK A25) ∧ ((0 ≤ z22 ∧ z22 ≤ 2147483647) ∧ ((-2147483648 ≤ z23 ∧ z23 ≤ 2147483647) ∧ (((256 ≤ z22) ∧ (z = z23 ∧ u = A25)) ∨ ((¬ 256 ≤ z22) ∧ (((x1 < z22) ∧ (z = z23 ∧ u = A25)) ∨ ((¬ x1 < z22) ∧ (∃ nn9 : Nat, d_X10_walk_4 K3 x1 x2 z22 z u nn9 0 z23 A25))))))))
def d_X10_walk_3 (x1 : Int) (x2 : Int) (z : Int) (u : St) : Nat → Int → Int → St → Prop
  | 0, _, _, _ => False
  | nn9 + 1, z22, z23, A25 => tr_d_X10_walk_3 x1 x2 z u (fun z22 z23 A25 => d_X10_walk_3 x1 x2 z u nn9 z22 z23 A25) z22 z23 A25
theorem u_d_X10_walk_3 {x1 : Int} {x2 : Int} {z : Int} {u : St} {nn9 : Nat} {z22 : Int} {z23 : Int} {A25 : St} (h : tr_d_X10_walk_3 x1 x2 z u (fun z22 z23 A25 => d_X10_walk_3 x1 x2 z u nn9 z22 z23 A25) z22 z23 A25) : d_X10_walk_3 x1 x2 z u (nn9 + 1) z22 z23 A25 := h
abbrev tr_d_X10_walk_2 (x1 : Int) (x2 : Int) (A3 : St) (z : Int) (u : St) : Prop := (∃ z16 : Int, z16 = oShl 1 x2 ∧ (∃ z17 : Int, z17 = oWrap (8 * z16) ∧ (∃ z18 : Int, z18 = oWrap (z17 + x2) ∧ (((z18 < 0) ∧ (z = 1000000 ∧ u = A3)) ∨ ((¬ z18 < 0) ∧ (((z18 < 2048) ∧ (∃ A21 : St, A21 = stA A3 29 (z18).toNat 0 ∧ (∃ nn9 : Nat, d_X10_walk_3 x1 x2 z u nn9 0 1000000 A21))) ∨ ((¬ z18 < 2048) ∧ (z = 1000000 ∧ u = A3))))))))
def d_X10_walk_2 (x1 : Int) (x2 : Int) (A3 : St) (z : Int) (u : St) : Prop := tr_d_X10_walk_2 x1 x2 A3 z u
theorem u_d_X10_walk_2 {x1 : Int} {x2 : Int} {A3 : St} {z : Int} {u : St} (h : tr_d_X10_walk_2 x1 x2 A3 z u) : d_X10_walk_2 x1 x2 A3 z u := h
abbrev tr_d_X10_walk_1 (x1 : Int) (x2 : Int) (z : Int) (u : St) (K1 : Int → St → Prop) (z1 : Int) (A3 : St) : Prop := ((IK A3) ∧ ((0 ≤ z1 ∧ z1 ≤ 2147483647) ∧ (((2048 ≤ z1) ∧ (d_X10_walk_2 x1 x2 A3 z u)) ∨ ((¬ 2048 ≤ z1) ∧ (∃ z11 : Int, z11 = oWrap (x1 + 1) ∧ (∃ z12 : Int, z12 = oWrap (8 * z11) ∧ (((z12 ≤ z1) ∧ (d_X10_walk_2 x1 x2 A3 z u)) ∨ ((¬ z12 ≤ z1) ∧ (∃ A14 : St, A14 = stA A3 29 (z1).toNat 1000000 ∧ (K1 (z1 + 1) A14))))))))))
def d_X10_walk_1 (x1 : Int) (x2 : Int) (z : Int) (u : St) : Nat → Int → St → Prop
  | 0, _, _ => False
  | nn9 + 1, z1, A3 => tr_d_X10_walk_1 x1 x2 z u (fun z1 A3 => d_X10_walk_1 x1 x2 z u nn9 z1 A3) z1 A3
theorem u_d_X10_walk_1 {x1 : Int} {x2 : Int} {z : Int} {u : St} {nn9 : Nat} {z1 : Int} {A3 : St} (h : tr_d_X10_walk_1 x1 x2 z u (fun z1 A3 => d_X10_walk_1 x1 x2 z u nn9 z1 A3) z1 A3) : d_X10_walk_1 x1 x2 z u (nn9 + 1) z1 A3 := h
abbrev tr_r_X10_walk (x1 : Int) (x2 : Int) (A : St) (z : Int) (u : St) : Prop := (∃ nn9 : Nat, d_X10_walk_1 x1 x2 z u nn9 0 A)
def r_X10_walk (x1 : Int) (x2 : Int) (A : St) (z : Int) (u : St) : Prop := tr_r_X10_walk x1 x2 A z u
theorem u_r_X10_walk {x1 : Int} {x2 : Int} {A : St} {z : Int} {u : St} (h : tr_r_X10_walk x1 x2 A z u) : r_X10_walk x1 x2 A z u := h
def q_X10_walk (x1 : Int) (x2 : Int) (A : St) (z : Int) (u : St) : Prop := r_X10_walk x1 x2 A z u ∧ IK u ∧ fk [29] [] A u ∧ (-2147483648 ≤ z ∧ z ≤ 2147483647)
def ws_kc_X10_walk : List Cond := .code yX10_walk cX10_walk 8 (some .int) :: WY
set_option maxHeartbeats 4000000 in
set_option maxRecDepth 100000 in
theorem kc_X10_walk (l : Launch) (dC : Nat → ClassId) (dI : Nat → Nat → Nat) (cB cI cJ cZ cQ : ClassId) (aL aS : Nat) (q : Nat → Nat) (A : St) (x1 x2 : Int) (hI : IK A) (hx1 : (-2147483648 : Int) ≤ x1 ∧ x1 ≤ 2147483647) (hx2 : (-2147483648 : Int) ≤ x2 ∧ x2 ≤ 2147483647) : KMi l yX10_walk ws_kc_X10_walk ({ frames := 2, cells := 0, slots := 0, locals := 48 } : Room) aL aS (dC, dI) (tyA cB cI cJ cZ cQ) (WK cB cI cJ cZ cQ q) A [.ref (q 27), .int (iI x1), .int (iI x2)] (fun z u => r_X10_walk x1 x2 A z u ∧ IK u ∧ fk [29] [] A u ∧ (-2147483648 ≤ z ∧ z ≤ 2147483647)) := by
  refine k_meti (cc := cX10_walk) (maxL := 8) WK_adr (plainFor_of_name (by decide +kernel)) rfl (Nat.le_of_ble_eq_true rfl) (fun p e s m below meth c Q AS ls hx hb hml hown hts hK hDD hA0 hE RET H locs hP hS hl => ?_)
  have hown : s.vm.findClass RX10 = some m.cls := hown
  have hl : lv_has ls 8 [(0, .ref (q 27)), (1, .int (iI x1)), (2, .int (iI x2))] := hl
  have hiX10 : ∀ w ∈ u_ws RX10 TX10 2, w ∈ ws_kc_X10_walk := fun w h => List.mem_cons_of_mem _ (wy_layX10 w h)
  refine lv_iconst (v := iI 0) hx hb (dk_at dkX10_walk_0 0 rfl) (by decide +kernel) ?_
  refine lv_istore_n (lv' := [(3, .int (iI 0)), (0, .ref (q 27)), (1, .int (iI x1)), (2, .int (iI x2))]) hx hb (dk_at dkX10_walk_0 1 rfl) rfl hl (by decide) rfl (fun ls hl => ?_)
  have L2_4 : ∀ (n7 : Nat) (z1 : Int) (A3 : St) (H : Heap) (locs : List Loc) (ls : Array Slot), (0 ≤ z1 ∧ z1 ≤ 2147483647) → (∀ (z : Int) (u : St), (∃ mm1 : Nat, (d_X10_walk_1 x1 x2 z u mm1 z1 A3)) → r_X10_walk x1 x2 A z u) → ((2049 - z1).toNat = n7) → IK A3 → fk [29] [] A A3 → va_P (dC, dI) vwCl (WK cB cI cJ cZ cQ q A3) H → va_S AS s.heap H locs → lv_has ls 8 [(3, .int (iI z1)), (0, .ref (q 27)), (1, .int (iI x1)), (2, .int (iI x2))] → W p l e (headSpec ws_kc_X10_walk ({ frames := 2, cells := 0, slots := 0, locals := 48 } : Room)).room s m [.ref (q 27), .int (iI x1), .int (iI x2)].toArray below meth c H locs 0 0 Q (F0 m 2 ls []) := by
    intro n7
    induction n7 using Nat.strongRecOn with
    | ind n7 ih5 =>
      intro z1 A3 H locs ls f6 hk1 hn7 hI hj2 hP hS hl
      have gI8 : Hd (IK A3) := Hd.mk hI
      refine lv_iload_n hx hb (dk_at dkX10_walk_0 2 rfl) rfl (lv_at hl 0 rfl) ?_
      refine lv_sipush (v := iI 2048) hx hb (dk_at dkX10_walk_0 3 rfl) (by decide +kernel) ?_
      have J33_10 : ∀ (H : Heap) (locs : List Loc) (ls : Array Slot), (∀ (z : Int) (u : St), (∃ mm1 : Nat, (d_X10_walk_2 x1 x2 A3 z u)) → r_X10_walk x1 x2 A z u) → va_P (dC, dI) vwCl (WK cB cI cJ cZ cQ q A3) H → va_S AS s.heap H locs → lv_has ls 8 [(3, .int (iI z1)), (0, .ref (q 27)), (1, .int (iI x1)), (2, .int (iI x2))] → W p l e (headSpec ws_kc_X10_walk ({ frames := 2, cells := 0, slots := 0, locals := 48 } : Room)).room s m [.ref (q 27), .int (iI x1), .int (iI x2)].toArray below meth c H locs 0 0 Q (F0 m 33 ls []) := by
        intro H locs ls hk2 hP hS hl
        refine lv_iconst (v := iI 1) hx hb (dk_at dkX10_walk_1 3 rfl) (by decide +kernel) ?_
        refine lv_iload_n hx hb (dk_at dkX10_walk_1 4 rfl) rfl (lv_at hl 3 rfl) ?_
        refine lv_ishl hx hb (dk_at dkX10_walk_1 5 rfl) ?_
        refine x_absE (fun z16 gz16 hz16 => ?_)
        refine lv_bipush (v := iI 8) hx hb (dk_at dkX10_walk_1 6 rfl) (by decide +kernel) ?_
        refine x_mulv (v := 8 * z16) hx hb (dk_at dkX10_walk_1 7 rfl) (by omega) ?_
        refine x_absE (fun z17 gz17 hz17 => ?_)
        refine lv_iload_n hx hb (dk_at dkX10_walk_1 8 rfl) rfl (lv_at hl 3 rfl) ?_
        refine x_addv (v := z17 + x2) hx hb (dk_at dkX10_walk_1 9 rfl) (by omega) ?_
        refine x_absE (fun z18 gz18 hz18 => ?_)
        refine lv_istore_n (lv' := [(3, .int (iI z18)), (0, .ref (q 27)), (1, .int (iI x1)), (2, .int (iI x2))]) hx hb (dk_at dkX10_walk_1 10 rfl) rfl hl (by decide) rfl (fun ls hl => ?_)
        refine lv_iload_n hx hb (dk_at dkX10_walk_1 11 rfl) rfl (lv_at hl 0 rfl) ?_
        refine lv_if_lt (tgt := 53) hx hb (dk_at dkX10_walk_1 12 rfl) (by decide) (fun c19 => ?_) (fun c19 => ?_)
        · have c19 : z18 < 0 := (i_lt0 hz18).mp c19
          refine lv_ldc (v := 1000000) hx hb hown (hts _ (List.mem_cons_of_mem _ wkq_9_46)) (dk_at dkX10_walk_2 0 rfl) ?_
          refine tp_i (y := iI 1000000) (by decide +kernel) ?_
          exact RET 1000000 _ _ _ _ _ ⟨hk2 _ _ ⟨0, (u_d_X10_walk_2 ⟨z16, gz16.out, ⟨z17, gz17.out, ⟨z18, gz18.out, (Or.inl ⟨c19, ⟨rfl, rfl⟩⟩)⟩⟩⟩)⟩, hI, fk.trans (fk.rf) hj2 rfl rfl, ⟨by decide, by decide⟩⟩ hP hS (dk_at dkX10_walk_2 1 rfl)
        · have c19 : ¬ z18 < 0 := mt (i_lt0 hz18).mpr c19
          refine lv_iload_n hx hb (dk_at dkX10_walk_1 13 rfl) rfl (lv_at hl 0 rfl) ?_
          refine lv_sipush (v := iI 2048) hx hb (dk_at dkX10_walk_1 14 rfl) (by decide +kernel) ?_
          refine lv_icmp_lt (tgt := 56) hx hb (dk_at dkX10_walk_1 15 rfl) (by decide) (fun c20 => ?_) (fun c20 => ?_)
          · have c20 : z18 < 2048 := (i_lt hz18 ⟨by decide, by decide⟩).mp c20
            refine lv_aload_n hx hb (dk_at dkX10_walk_2 2 rfl) rfl (lv_at hl 1 rfl) ?_
            refine va_get (D := (dC, dI)) (ci := 10) (v := .ref (q 29)) (C := RX10) (T := TX10) (N := 2) hx hb hts hiX10 hown hK hP 27 (wkWT) rfl 1 (by decide) (hts _ (List.mem_cons_of_mem _ wkq_10_12)) (fun _ h9 => h9) rfl (dk_at dkX10_walk_2 3 rfl) ?_
            refine lv_iload_n hx hb (dk_at dkX10_walk_2 4 rfl) rfl (lv_at hl 0 rfl) ?_
            refine lv_iconst (v := iI 0) hx hb (dk_at dkX10_walk_2 5 rfl) (by decide +kernel) ?_
            refine k_iast (Wf := WK cB cI cJ cZ cQ q) hx hb hK hP hDD hS 29 1 (wkWTl) rfl (by omega) (by decide) (dk_at dkX10_walk_2 6 rfl) (wsWTl) (fun H locs A21 hA21 hP hS => ?_)
            have hI := isWTl hA21 hI (show (-2147483648 : Int) ≤ 0 ∧ 0 ≤ 2147483647 from ⟨by decide, by decide⟩)
            refine lv_ldc (v := 1000000) hx hb hown (hts _ (List.mem_cons_of_mem _ wkq_9_46)) (dk_at dkX10_walk_2 7 rfl) ?_
            refine tp_i (y := iI 1000000) (by decide +kernel) ?_
            refine lv_istore (lv' := [(4, .int (iI 1000000)), (3, .int (iI z18)), (0, .ref (q 27)), (1, .int (iI x1)), (2, .int (iI x2))]) hx hb (dk_at dkX10_walk_2 8 rfl) hl (by decide) rfl (fun ls hl => ?_)
            refine lv_iconst (v := iI 0) hx hb (dk_at dkX10_walk_2 9 rfl) (by decide +kernel) ?_
            refine lv_istore (lv' := [(5, .int (iI 0)), (4, .int (iI 1000000)), (3, .int (iI z18)), (0, .ref (q 27)), (1, .int (iI x1)), (2, .int (iI x2))]) hx hb (dk_at dkX10_walk_2 10 rfl) hl (by decide) rfl (fun ls hl => ?_)
            have L70_26 : ∀ (n30 : Nat) (z22 z23 : Int) (A25 : St) (H : Heap) (locs : List Loc) (ls : Array Slot), (0 ≤ z22 ∧ z22 ≤ 2147483647) → (-2147483648 ≤ z23 ∧ z23 ≤ 2147483647) → (∀ (z : Int) (u : St), (∃ mm1 mm3 : Nat, (d_X10_walk_3 x1 x2 z u mm3 z22 z23 A25)) → r_X10_walk x1 x2 A z u) → ((257 - z22).toNat = n30) → IK A25 → fk [29] [] A21 A25 → va_P (dC, dI) vwCl (WK cB cI cJ cZ cQ q A25) H → va_S AS s.heap H locs → lv_has ls 8 [(5, .int (iI z22)), (4, .int (iI z23)), (3, .int (iI z18)), (0, .ref (q 27)), (1, .int (iI x1)), (2, .int (iI x2))] → W p l e (headSpec ws_kc_X10_walk ({ frames := 2, cells := 0, slots := 0, locals := 48 } : Room)).room s m [.ref (q 27), .int (iI x1), .int (iI x2)].toArray below meth c H locs 0 0 Q (F0 m 70 ls []) := by
              intro n30
              induction n30 using Nat.strongRecOn with
              | ind n30 ih27 =>
                intro z22 z23 A25 H locs ls f28 f29 hk3 hn30 hI hj24 hP hS hl
                have gI31 : Hd (IK A25) := Hd.mk hI
                refine lv_iload hx hb (dk_at dkX10_walk_2 11 rfl) (lv_at hl 0 rfl) ?_
                refine lv_sipush (v := iI 256) hx hb (dk_at dkX10_walk_2 12 rfl) (by decide +kernel) ?_
                refine lv_icmp_ge (tgt := 170) hx hb (dk_at dkX10_walk_2 13 rfl) (by decide) (fun c32 => ?_) (fun c32 => ?_)
                · have c32 : 256 ≤ z22 := (i_le ⟨by decide, by decide⟩ (rb f28 (by decide) (by decide))).mp c32
                  refine lv_iload hx hb (dk_at dkX10_walk_5 13 rfl) (lv_at hl 1 rfl) ?_
                  exact RET z23 _ _ _ _ _ ⟨hk3 _ _ ⟨0, 0 + 1, (u_d_X10_walk_3 ⟨gI31.out, ⟨f28, ⟨f29, (Or.inl ⟨c32, ⟨rfl, rfl⟩⟩)⟩⟩⟩)⟩, hI, fk.trans (fk.da (fk.trans (fk.rf) hj2 rfl rfl) hA21 rfl) hj24 rfl rfl, f29⟩ hP hS (dk_at dkX10_walk_5 14 rfl)
                · have c32 : ¬ 256 ≤ z22 := mt (i_le ⟨by decide, by decide⟩ (rb f28 (by decide) (by decide))).mpr c32
                  refine lv_iload hx hb (dk_at dkX10_walk_2 14 rfl) (lv_at hl 0 rfl) ?_
                  refine lv_iload_n hx hb (dk_at dkX10_walk_2 15 rfl) rfl (lv_at hl 4 rfl) ?_
                  refine lv_icmp_gt (tgt := 170) hx hb (dk_at dkX10_walk_3 0 rfl) (by decide) (fun c33 => ?_) (fun c33 => ?_)
                  · have c33 : x1 < z22 := (i_lt hx1 (rb f28 (by decide) (by decide))).mp c33
                    refine lv_iload hx hb (dk_at dkX10_walk_5 13 rfl) (lv_at hl 1 rfl) ?_
                    exact RET z23 _ _ _ _ _ ⟨hk3 _ _ ⟨0, 0 + 1, (u_d_X10_walk_3 ⟨gI31.out, ⟨f28, ⟨f29, (Or.inr ⟨c32, (Or.inl ⟨c33, ⟨rfl, rfl⟩⟩)⟩)⟩⟩⟩)⟩, hI, fk.trans (fk.da (fk.trans (fk.rf) hj2 rfl rfl) hA21 rfl) hj24 rfl rfl, f29⟩ hP hS (dk_at dkX10_walk_5 14 rfl)
                  · have c33 : ¬ x1 < z22 := mt (i_lt hx1 (rb f28 (by decide) (by decide))).mpr c33
                    refine lv_iconst (v := iI 0) hx hb (dk_at dkX10_walk_3 1 rfl) (by decide +kernel) ?_
                    refine lv_istore (lv' := [(6, .int (iI 0)), (5, .int (iI z22)), (4, .int (iI z23)), (3, .int (iI z18)), (0, .ref (q 27)), (1, .int (iI x1)), (2, .int (iI x2))]) hx hb (dk_at dkX10_walk_3 2 rfl) hl (by decide) rfl (fun ls hl => ?_)
                    have L87_38 : ∀ (n42 : Nat) (z34 z35 : Int) (A37 : St) (H : Heap) (locs : List Loc) (ls : Array Slot), (0 ≤ z34 ∧ z34 ≤ 2147483647) → (-2147483648 ≤ z35 ∧ z35 ≤ 2147483647) → (∀ (z : Int) (u : St), (∃ mm1 mm3 mm4 : Nat, (d_X10_walk_4 (fun z22' z23' A25' => d_X10_walk_3 x1 x2 z u mm3 z22' z23' A25') x1 x2 z22 z u mm4 z34 z35 A37)) → r_X10_walk x1 x2 A z u) → ((9 - z34).toNat = n42) → IK A37 → fk [29] [] A25 A37 → va_P (dC, dI) vwCl (WK cB cI cJ cZ cQ q A37) H → va_S AS s.heap H locs → lv_has ls 8 [(6, .int (iI z34)), (5, .int (iI z22)), (4, .int (iI z35)), (3, .int (iI z18)), (0, .ref (q 27)), (1, .int (iI x1)), (2, .int (iI x2))] → W p l e (headSpec ws_kc_X10_walk ({ frames := 2, cells := 0, slots := 0, locals := 48 } : Room)).room s m [.ref (q 27), .int (iI x1), .int (iI x2)].toArray below meth c H locs 0 0 Q (F0 m 87 ls []) := by
                      intro n42
                      induction n42 using Nat.strongRecOn with
                      | ind n42 ih39 =>
                        intro z34 z35 A37 H locs ls f40 f41 hk4 hn42 hI hj36 hP hS hl
                        have gI43 : Hd (IK A37) := Hd.mk hI
                        refine lv_iload hx hb (dk_at dkX10_walk_3 3 rfl) (lv_at hl 0 rfl) ?_
                        refine lv_bipush (v := iI 8) hx hb (dk_at dkX10_walk_3 4 rfl) (by decide +kernel) ?_
                        refine lv_icmp_ge (tgt := 164) hx hb (dk_at dkX10_walk_3 5 rfl) (by decide) (fun c44 => ?_) (fun c44 => ?_)
                        · have c44 : 8 ≤ z34 := (i_le ⟨by decide, by decide⟩ (rb f40 (by decide) (by decide))).mp c44
                          refine lv_iinc (v := iI (z22 + 1)) (lv' := [(5, .int (iI (z22 + 1))), (6, .int (iI z34)), (4, .int (iI z35)), (3, .int (iI z18)), (0, .ref (q 27)), (1, .int (iI x1)), (2, .int (iI x2))]) hx hb (dk_at dkX10_walk_5 11 rfl) hl (k := 1) rfl (i_inc (by omega)) (by decide) rfl (fun ls hl => ?_)
                          refine lv_goto (tgt := 70) hx hb (dk_at dkX10_walk_5 12 rfl) (by decide) ?_
                          exact ih27 _ (by omega) (z22 + 1) z35 _ _ _ _ (by omega) (by omega) (fun zq uq ⟨mm1, mm3, hq⟩ => hk4 _ _ ⟨mm1, mm3, 0 + 1, (u_d_X10_walk_4 ⟨gI43.out, ⟨f40, ⟨f41, (Or.inl ⟨c44, hq⟩)⟩⟩⟩)⟩) rfl hI (fk.trans (fk.trans (fk.rf) hj24 rfl rfl) hj36 rfl rfl) hP hS (lv_sub hl [0, 2, 3, 4, 5, 6] rfl)
                        · have c44 : ¬ 8 ≤ z34 := mt (i_le ⟨by decide, by decide⟩ (rb f40 (by decide) (by decide))).mpr c44
                          refine lv_aload_n hx hb (dk_at dkX10_walk_3 6 rfl) rfl (lv_at hl 4 rfl) ?_
                          refine va_get (D := (dC, dI)) (ci := 10) (v := .ref (q 29)) (C := RX10) (T := TX10) (N := 2) hx hb hts hiX10 hown hK hP 27 (wkWT) rfl 1 (by decide) (hts _ (List.mem_cons_of_mem _ wkq_10_12)) (fun _ h9 => h9) rfl (dk_at dkX10_walk_3 7 rfl) ?_
                          refine lv_iload hx hb (dk_at dkX10_walk_3 8 rfl) (lv_at hl 1 rfl) ?_
                          refine lv_bipush (v := iI 8) hx hb (dk_at dkX10_walk_3 9 rfl) (by decide +kernel) ?_
                          refine x_mulv (v := 8 * z22) hx hb (dk_at dkX10_walk_3 10 rfl) (by omega) ?_
                          refine lv_iload hx hb (dk_at dkX10_walk_3 11 rfl) (lv_at hl 0 rfl) ?_
                          refine x_addv (v := 8 * z22 + z34) hx hb (dk_at dkX10_walk_3 12 rfl) (by omega) ?_
                          refine x_iald (Wf := WK cB cI cJ cZ cQ q) hx hb hK hP 29 1 (wkWTl) rfl (by omega) (by decide) (dk_at dkX10_walk_3 13 rfl) (fun z45 hz45 => ?_)
                          have rz45 : (-2147483648 : Int) ≤ z45 ∧ z45 ≤ 2147483647 := by rw [hz45]; exact irWTl hI
                          have gz45 := Hd.mk hz45
                          refine lv_istore (lv' := [(7, .int (iI z45)), (6, .int (iI z34)), (5, .int (iI z22)), (4, .int (iI z35)), (3, .int (iI z18)), (0, .ref (q 27)), (1, .int (iI x1)), (2, .int (iI x2))]) hx hb (dk_at dkX10_walk_3 14 rfl) hl (by decide) rfl (fun ls hl => ?_)
                          refine lv_iload hx hb (dk_at dkX10_walk_3 15 rfl) (lv_at hl 0 rfl) ?_
                          refine lv_ldc (v := 1000000) hx hb hown (hts _ (List.mem_cons_of_mem _ wkq_9_46)) (dk_at dkX10_walk_4 0 rfl) ?_
                          refine tp_i (y := iI 1000000) (by decide +kernel) ?_
                          have J158_47 : ∀ (z63 : Int) (A65 : St) (H : Heap) (locs : List Loc) (ls : Array Slot), (-2147483648 ≤ z63 ∧ z63 ≤ 2147483647) → (∀ (z : Int) (u : St), (∃ mm1 mm3 mm4 : Nat, (d_X10_walk_6 (fun z34' z35' A37' => d_X10_walk_4 (fun z22' z23' A25' => d_X10_walk_3 x1 x2 z u mm3 z22' z23' A25') x1 x2 z22 z u mm4 z34' z35' A37') z34 z u z63 A65)) → r_X10_walk x1 x2 A z u) → IK A65 → fk [29] [] A37 A65 → va_P (dC, dI) vwCl (WK cB cI cJ cZ cQ q A65) H → va_S AS s.heap H locs → lv_has ls 8 [(7, .int (iI z45)), (6, .int (iI z34)), (5, .int (iI z22)), (4, .int (iI z63)), (3, .int (iI z18)), (0, .ref (q 27)), (1, .int (iI x1)), (2, .int (iI x2))] → W p l e (headSpec ws_kc_X10_walk ({ frames := 2, cells := 0, slots := 0, locals := 48 } : Room)).room s m [.ref (q 27), .int (iI x1), .int (iI x2)].toArray below meth c H locs 0 0 Q (F0 m 158 ls []) := by
                            intro z63 A65 H locs ls f66 hk6 hI hj64 hP hS hl
                            have gI67 : Hd (IK A65) := Hd.mk hI
                            refine lv_iinc (v := iI (z34 + 1)) (lv' := [(6, .int (iI (z34 + 1))), (7, .int (iI z45)), (5, .int (iI z22)), (4, .int (iI z63)), (3, .int (iI z18)), (0, .ref (q 27)), (1, .int (iI x1)), (2, .int (iI x2))]) hx hb (dk_at dkX10_walk_5 9 rfl) hl (k := 1) rfl (i_inc (by omega)) (by decide) rfl (fun ls hl => ?_)
                            refine lv_goto (tgt := 87) hx hb (dk_at dkX10_walk_5 10 rfl) (by decide) ?_
                            exact ih39 _ (by omega) (z34 + 1) z63 _ _ _ _ (by omega) (by omega) (fun zq uq ⟨mm1, mm3, mm4, hq⟩ => hk6 _ _ ⟨mm1, mm3, mm4, (u_d_X10_walk_6 ⟨gI67.out, ⟨f66, hq⟩⟩)⟩) rfl hI (fk.trans (fk.trans (fk.rf) hj36 rfl rfl) hj64 rfl rfl) hP hS (lv_sub hl [0, 2, 3, 4, 5, 6, 7] rfl)
                          refine lv_icmp_lt (tgt := 119) hx hb (dk_at dkX10_walk_4 1 rfl) (by decide) (fun c46 => ?_) (fun c46 => ?_)
                          · have c46 : z45 < 1000000 := (i_lt rz45 ⟨by decide, by decide⟩).mp c46
                            refine lv_iload hx hb (dk_at dkX10_walk_4 3 rfl) (lv_at hl 2 rfl) ?_
                            refine lv_iload_n hx hb (dk_at dkX10_walk_4 4 rfl) rfl (lv_at hl 6 rfl) ?_
                            have J142_49 : ∀ (z55 : Int) (H : Heap) (locs : List Loc) (ls : Array Slot), (-2147483648 ≤ z55 ∧ z55 ≤ 2147483647) → (∀ (z : Int) (u : St), (∃ mm1 mm3 mm4 : Nat, (d_X10_walk_5 (fun z34' z35' A37' => d_X10_walk_4 (fun z22' z23' A25' => d_X10_walk_3 x1 x2 z u mm3 z22' z23' A25') x1 x2 z22 z u mm4 z34' z35' A37') x1 z22 z34 z45 A37 z u z55)) → r_X10_walk x1 x2 A z u) → va_P (dC, dI) vwCl (WK cB cI cJ cZ cQ q A37) H → va_S AS s.heap H locs → lv_has ls 8 [(7, .int (iI z45)), (6, .int (iI z34)), (5, .int (iI z22)), (4, .int (iI z55)), (3, .int (iI z18)), (0, .ref (q 27)), (1, .int (iI x1)), (2, .int (iI x2))] → W p l e (headSpec ws_kc_X10_walk ({ frames := 2, cells := 0, slots := 0, locals := 48 } : Room)).room s m [.ref (q 27), .int (iI x1), .int (iI x2)].toArray below meth c H locs 0 0 Q (F0 m 142 ls []) := by
                              intro z55 H locs ls f57 hk5 hP hS hl
                              refine lv_aload_n hx hb (dk_at dkX10_walk_4 15 rfl) rfl (lv_at hl 5 rfl) ?_
                              refine lv_iload_n hx hb (dk_at dkX10_walk_5 0 rfl) rfl (lv_at hl 6 rfl) ?_
                              refine lv_iload hx hb (dk_at dkX10_walk_5 1 rfl) (lv_at hl 2 rfl) ?_
                              refine lv_iconst (v := iI (-1)) hx hb (dk_at dkX10_walk_5 2 rfl) (by decide +kernel) ?_
                              refine lv_ixor hx hb (dk_at dkX10_walk_5 3 rfl) ?_
                              refine x_absE (fun z58 gz58 hz58 => ?_)
                              refine lv_iand hx hb (dk_at dkX10_walk_5 4 rfl) ?_
                              refine x_absE (fun z59 gz59 hz59 => ?_)
                              refine lv_iload hx hb (dk_at dkX10_walk_5 5 rfl) (lv_at hl 2 rfl) ?_
                              refine lv_iload hx hb (dk_at dkX10_walk_5 6 rfl) (lv_at hl 1 rfl) ?_
                              refine lv_iload hx hb (dk_at dkX10_walk_5 7 rfl) (lv_at hl 0 rfl) ?_
                              refine k_callv (As := [.int (iI z59), .int (iI z22), .int (iI z34), .int (iI z45)]) (rest := []) ⟨hx, hb, hml, hown, hts⟩ hE (kc_X10_walkOn l dC dI cB cI cJ cZ cQ aL aS q _ z59 z22 z34 z45 hI hz59 (rb f28 (by decide) (by decide)) (rb f40 (by decide) (by decide)) rz45) (cwV 4 hts (goodVk wkq_10_13 wkq_10_14 wkq_10_15 wkq_9_51 wkq_10_16) rfl rfl rfl (by decide +kernel) ⟨Nat.le_of_ble_eq_true rfl, Nat.le_of_ble_eq_true rfl⟩) hK hDD hA0 hP hS 27 10 (wkWT) rfl rfl hl.1 (Nat.le_of_ble_eq_true rfl) (dk_at dkX10_walk_5 8 rfl) (fun A60 H locs hw61 hP hS => ?_)
                              have ghw61 : q_X10_walkOn z59 z22 z34 z45 A37 A60 := hw61
                              obtain ⟨_, hI, hf62, hw61⟩ := hw61
                              clear hw61
                              exact J158_47 z55 _ _ _ _ (by omega) (fun zq uq ⟨mm1, mm3, mm4, hq⟩ => hk5 _ _ ⟨mm1, mm3, mm4, (u_d_X10_walk_5 ⟨f57, ⟨z58, gz58.out, ⟨z59, gz59.out, ⟨A60, ghw61, hq⟩⟩⟩⟩)⟩) hI (fk.trans (fk.rf) hf62 rfl rfl) hP hS (lv_sub hl [0, 1, 2, 3, 4, 5, 6, 7] rfl)
                            refine lv_icmp_ne (tgt := 142) hx hb (dk_at dkX10_walk_4 5 rfl) (by decide) (fun c48 => ?_) (fun c48 => ?_)
                            · have c48 : ¬ z22 = x1 := mt (i_eq (rb f28 (by decide) (by decide)) hx1).mpr c48
                              exact J142_49 z35 _ _ _ (by omega) (fun zq uq ⟨mm1, mm3, mm4, hq⟩ => hk4 _ _ ⟨mm1, mm3, mm4 + 1, (u_d_X10_walk_4 ⟨gI43.out, ⟨f40, ⟨f41, (Or.inr ⟨c44, ⟨z45, gz45.out, (Or.inl ⟨c46, (Or.inl ⟨c48, hq⟩)⟩)⟩⟩)⟩⟩⟩)⟩) hP hS (lv_sub hl [0, 1, 2, 3, 4, 5, 6, 7] rfl)
                            · have c48 : z22 = x1 := (i_eq (rb f28 (by decide) (by decide)) hx1).mp c48
                              refine lv_iload hx hb (dk_at dkX10_walk_4 6 rfl) (lv_at hl 3 rfl) ?_
                              refine lv_iload hx hb (dk_at dkX10_walk_4 7 rfl) (lv_at hl 0 rfl) ?_
                              refine lv_aload_n hx hb (dk_at dkX10_walk_4 8 rfl) rfl (lv_at hl 5 rfl) ?_
                              refine lv_iload hx hb (dk_at dkX10_walk_4 9 rfl) (lv_at hl 1 rfl) ?_
                              refine lv_iload_n hx hb (dk_at dkX10_walk_4 10 rfl) rfl (lv_at hl 7 rfl) ?_
                              refine k_calli (As := [.int (iI z34), .int (iI x2)]) (rest := [.int (iI z45), .int (iI z35)]) ⟨hx, hb, hml, hown, hts⟩ hE (kc_X10_wayOf l dC dI cB cI cJ cZ cQ aL aS q _ z34 x2 hI (rb f40 (by decide) (by decide)) hx2) (cwV 2 hts (goodVk wkq_10_4 wkq_10_5 wkq_10_6 wkq_9_51 wkq_10_7) rfl rfl rfl (by decide +kernel) ⟨Nat.le_of_ble_eq_true rfl, Nat.le_of_ble_eq_true rfl⟩) hK hDD hA0 hP hS 27 10 (wkWT) rfl rfl hl.1 (Nat.le_of_ble_eq_true rfl) (dk_at dkX10_walk_4 11 rfl) (fun z50 A51 H locs hw52 hP hS => ?_)
                              obtain ⟨rfl, hw52⟩ := hw52
                              have ghw52 : q_X10_wayOf z34 x2 A37 z50 := hw52
                              have hw52 := hw52.2
                              refine x_addv (v := z45 + z50) hx hb (dk_at dkX10_walk_4 12 rfl) (by omega) ?_
                              refine x_absE (fun z53 gz53 hz53 => ?_)
                              refine k_min hx hb (hml.trans hl.1.symm) hown (hts _ (List.mem_cons_of_mem _ wkq_10_3)) (hts _ (List.mem_cons_of_mem _ wkq_0_46)) (hts _ (List.mem_cons_of_mem _ wkq_0_47)) (hts _ (List.mem_cons_of_mem _ wkq_0_48)) (Nat.le_of_ble_eq_true rfl) (Nat.le_of_ble_eq_true rfl) (Nat.zero_le _) (Nat.zero_le _) f41 hz53 (dk_at dkX10_walk_4 13 rfl) (fun z54 hz54 => ?_)
                              have rz54 : (-2147483648 : Int) ≤ z54 ∧ z54 ≤ 2147483647 := by omega
                              have gz54 := Hd.mk hz54
                              clear hz54
                              refine lv_istore (lv' := [(4, .int (iI z54)), (7, .int (iI z45)), (6, .int (iI z34)), (5, .int (iI z22)), (3, .int (iI z18)), (0, .ref (q 27)), (1, .int (iI x1)), (2, .int (iI x2))]) hx hb (dk_at dkX10_walk_4 14 rfl) hl (by decide) rfl (fun ls hl => ?_)
                              exact J142_49 z54 _ _ _ (by omega) (fun zq uq ⟨mm1, mm3, mm4, hq⟩ => hk4 _ _ ⟨mm1, mm3, mm4 + 1, (u_d_X10_walk_4 ⟨gI43.out, ⟨f40, ⟨f41, (Or.inr ⟨c44, ⟨z45, gz45.out, (Or.inl ⟨c46, (Or.inr ⟨c48, ⟨z50, ghw52, ⟨z53, gz53.out, ⟨z54, gz54.out, hq⟩⟩⟩⟩)⟩)⟩⟩)⟩⟩⟩)⟩) hP hS (lv_sub hl [1, 2, 3, 0, 4, 5, 6, 7] rfl)
                          · have c46 : ¬ z45 < 1000000 := mt (i_lt rz45 ⟨by decide, by decide⟩).mpr c46
                            refine lv_goto (tgt := 158) hx hb (dk_at dkX10_walk_4 2 rfl) (by decide) ?_
                            exact J158_47 z35 _ _ _ _ (by omega) (fun zq uq ⟨mm1, mm3, mm4, hq⟩ => hk4 _ _ ⟨mm1, mm3, mm4 + 1, (u_d_X10_walk_4 ⟨gI43.out, ⟨f40, ⟨f41, (Or.inr ⟨c44, ⟨z45, gz45.out, (Or.inr ⟨c46, hq⟩)⟩⟩)⟩⟩⟩)⟩) hI (fk.rf) hP hS (lv_sub hl [0, 1, 2, 3, 4, 5, 6, 7] rfl)
                    exact L87_38 _ 0 z23 _ _ _ _ (by omega) (by omega) (fun zq uq ⟨mm1, mm3, mm4, hq⟩ => hk3 _ _ ⟨mm1, mm3 + 1, (u_d_X10_walk_3 ⟨gI31.out, ⟨f28, ⟨f29, (Or.inr ⟨c32, (Or.inr ⟨c33, ⟨mm4, hq⟩⟩)⟩)⟩⟩⟩)⟩) rfl hI (fk.rf) hP hS (lv_sub hl [0, 1, 2, 3, 4, 5, 6] rfl)
            exact L70_26 _ 0 1000000 _ _ _ _ (by omega) (by omega) (fun zq uq ⟨mm1, mm3, hq⟩ => hk2 _ _ ⟨mm1, (u_d_X10_walk_2 ⟨z16, gz16.out, ⟨z17, gz17.out, ⟨z18, gz18.out, (Or.inr ⟨c19, (Or.inl ⟨c20, ⟨A21, hA21, ⟨mm3, hq⟩⟩⟩)⟩)⟩⟩⟩)⟩) rfl hI (fk.rf) hP hS (lv_sub hl [0, 1, 2, 3, 4, 5] rfl)
          · have c20 : ¬ z18 < 2048 := mt (i_lt hz18 ⟨by decide, by decide⟩).mpr c20
            refine lv_ldc (v := 1000000) hx hb hown (hts _ (List.mem_cons_of_mem _ wkq_9_46)) (dk_at dkX10_walk_2 0 rfl) ?_
            refine tp_i (y := iI 1000000) (by decide +kernel) ?_
            exact RET 1000000 _ _ _ _ _ ⟨hk2 _ _ ⟨0, (u_d_X10_walk_2 ⟨z16, gz16.out, ⟨z17, gz17.out, ⟨z18, gz18.out, (Or.inr ⟨c19, (Or.inr ⟨c20, ⟨rfl, rfl⟩⟩)⟩)⟩⟩⟩)⟩, hI, fk.trans (fk.rf) hj2 rfl rfl, ⟨by decide, by decide⟩⟩ hP hS (dk_at dkX10_walk_2 1 rfl)
      refine lv_icmp_ge (tgt := 33) hx hb (dk_at dkX10_walk_0 4 rfl) (by decide) (fun c9 => ?_) (fun c9 => ?_)
      · have c9 : 2048 ≤ z1 := (i_le ⟨by decide, by decide⟩ (rb f6 (by decide) (by decide))).mp c9
        exact J33_10 _ _ _ (fun zq uq ⟨mm1, hq⟩ => hk1 _ _ ⟨mm1 + 1, (u_d_X10_walk_1 ⟨gI8.out, ⟨f6, (Or.inl ⟨c9, hq⟩)⟩⟩)⟩) hP hS (lv_sub hl [0, 1, 2, 3] rfl)
      · have c9 : ¬ 2048 ≤ z1 := mt (i_le ⟨by decide, by decide⟩ (rb f6 (by decide) (by decide))).mpr c9
        refine lv_iload_n hx hb (dk_at dkX10_walk_0 5 rfl) rfl (lv_at hl 0 rfl) ?_
        refine lv_iload_n hx hb (dk_at dkX10_walk_0 6 rfl) rfl (lv_at hl 2 rfl) ?_
        refine lv_iconst (v := iI 1) hx hb (dk_at dkX10_walk_0 7 rfl) (by decide +kernel) ?_
        refine x_addv (v := x1 + 1) hx hb (dk_at dkX10_walk_0 8 rfl) (by omega) ?_
        refine x_absE (fun z11 gz11 hz11 => ?_)
        refine lv_bipush (v := iI 8) hx hb (dk_at dkX10_walk_0 9 rfl) (by decide +kernel) ?_
        refine x_mulv (v := 8 * z11) hx hb (dk_at dkX10_walk_0 10 rfl) (by omega) ?_
        refine x_absE (fun z12 gz12 hz12 => ?_)
        refine lv_icmp_ge (tgt := 33) hx hb (dk_at dkX10_walk_0 11 rfl) (by decide) (fun c13 => ?_) (fun c13 => ?_)
        · have c13 : z12 ≤ z1 := (i_le hz12 (rb f6 (by decide) (by decide))).mp c13
          exact J33_10 _ _ _ (fun zq uq ⟨mm1, hq⟩ => hk1 _ _ ⟨mm1 + 1, (u_d_X10_walk_1 ⟨gI8.out, ⟨f6, (Or.inr ⟨c9, ⟨z11, gz11.out, ⟨z12, gz12.out, (Or.inl ⟨c13, hq⟩)⟩⟩⟩)⟩⟩)⟩) hP hS (lv_sub hl [0, 1, 2, 3] rfl)
        · have c13 : ¬ z12 ≤ z1 := mt (i_le hz12 (rb f6 (by decide) (by decide))).mpr c13
          refine lv_aload_n hx hb (dk_at dkX10_walk_0 12 rfl) rfl (lv_at hl 1 rfl) ?_
          refine va_get (D := (dC, dI)) (ci := 10) (v := .ref (q 29)) (C := RX10) (T := TX10) (N := 2) hx hb hts hiX10 hown hK hP 27 (wkWT) rfl 1 (by decide) (hts _ (List.mem_cons_of_mem _ wkq_10_12)) (fun _ h9 => h9) rfl (dk_at dkX10_walk_0 13 rfl) ?_
          refine lv_iload_n hx hb (dk_at dkX10_walk_0 14 rfl) rfl (lv_at hl 0 rfl) ?_
          refine lv_ldc (v := 1000000) hx hb hown (hts _ (List.mem_cons_of_mem _ wkq_9_46)) (dk_at dkX10_walk_0 15 rfl) ?_
          refine tp_i (y := iI 1000000) (by decide +kernel) ?_
          refine k_iast (Wf := WK cB cI cJ cZ cQ q) hx hb hK hP hDD hS 29 1 (wkWTl) rfl (by omega) (by decide) (dk_at dkX10_walk_1 0 rfl) (wsWTl) (fun H locs A14 hA14 hP hS => ?_)
          have hI := isWTl hA14 hI (show (-2147483648 : Int) ≤ 1000000 ∧ 1000000 ≤ 2147483647 from ⟨by decide, by decide⟩)
          refine lv_iinc (v := iI (z1 + 1)) (lv' := [(3, .int (iI (z1 + 1))), (0, .ref (q 27)), (1, .int (iI x1)), (2, .int (iI x2))]) hx hb (dk_at dkX10_walk_1 1 rfl) hl (k := 0) rfl (i_inc (by omega)) (by decide) rfl (fun ls hl => ?_)
          refine lv_goto (tgt := 2) hx hb (dk_at dkX10_walk_1 2 rfl) (by decide) ?_
          exact ih5 _ (by omega) (z1 + 1) _ _ _ _ (by omega) (fun zq uq ⟨mm1, hq⟩ => hk1 _ _ ⟨mm1 + 1, (u_d_X10_walk_1 ⟨gI8.out, ⟨f6, (Or.inr ⟨c9, ⟨z11, gz11.out, ⟨z12, gz12.out, (Or.inr ⟨c13, ⟨A14, hA14, hq⟩⟩)⟩⟩⟩)⟩⟩)⟩) rfl hI (fk.da (fk.trans (fk.rf) hj2 rfl rfl) hA14 rfl) hP hS (lv_sub hl [0, 1, 2, 3] rfl)
  exact L2_4 _ 0 _ _ _ _ (by omega) (fun zq uq ⟨mm1, hq⟩ => (u_r_X10_walk ⟨mm1, hq⟩)) rfl hI (fk.rf) hP hS (lv_sub hl [0, 1, 2, 3] rfl)
theorem dkX10_minutesOf_0 : dkq cX10_minutesOf [(0, .aload_n 1, 1), (1, .getfield 18, 3), (4, .iconst 0, 1), (5, .iaload, 1), (6, .istore 4, 2), (8, .aload_n 1, 1), (9, .iconst 0, 1), (10, .iload_n 2, 1), (11, .invokevirtual 23, 3), (14, .ifCond .ne 5, 3), (17, .iconst (-1), 1), (18, .ireturn, 1), (19, .aload_n 0, 1), (20, .aload_n 1, 1), (21, .iload 4, 2), (23, .invokevirtual 27, 3)] = true := by decide +kernel
theorem dkX10_minutesOf_1 : dkq cX10_minutesOf [(26, .iload_n 3, 1), (27, .iconst 1, 1), (28, .iload 4, 2), (30, .ishl, 1), (31, .iconst 1, 1), (32, .isub, 1), (33, .iand, 1), (34, .iconst 1, 1), (35, .iload_n 2, 1), (36, .ishl, 1), (37, .ior, 1), (38, .istore 5, 2), (40, .aload_n 0, 1), (41, .iload 5, 2), (43, .iload_n 2, 1), (44, .invokevirtual 31, 3)] = true := by decide +kernel
theorem dkX10_minutesOf_2 : dkq cX10_minutesOf [(47, .istore 6, 2), (49, .iload 6, 2), (51, .ldc 35, 2), (53, .if_icmp .ge 8, 3), (56, .iload 6, 2), (58, .goto 4, 3), (61, .iconst (-1), 1), (62, .ireturn, 1)] = true := by decide +kernel
theorem dkX11_feed_0 : dkq cX11_feed [(0, .aload_n 0, 1), (1, .getfield 10, 3), (4, .invokevirtual 81, 3), (7, .ifCond .ne 9, 3), (10, .aload_n 0, 1), (11, .iconst 0, 1), (12, .invokevirtual 85, 3), (15, .ireturn, 1), (16, .aload_n 0, 1), (17, .getfield 10, 3), (20, .iload_n 1, 1), (21, .invokevirtual 89, 3), (24, .aload_n 0, 1), (25, .getfield 10, 3), (28, .iload_n 2, 1), (29, .invokevirtual 89, 3)] = true := by decide +kernel
theorem dkX11_feed_1 : dkq cX11_feed [(32, .aload_n 0, 1), (33, .getfield 10, 3), (36, .iload_n 3, 1), (37, .invokevirtual 89, 3), (40, .aload_n 0, 1), (41, .getfield 10, 3), (44, .iload 4, 2), (46, .invokevirtual 89, 3), (49, .aload_n 0, 1), (50, .getfield 10, 3), (53, .iload 5, 2), (55, .invokevirtual 89, 3), (58, .aload_n 0, 1), (59, .getfield 10, 3), (62, .getfield 93, 3), (65, .ireturn, 1)] = true := by decide +kernel
theorem dkX11_end_0 : dkq cX11_end [(0, .iload_n 1, 1), (1, .ifCond .lt 14, 3), (4, .iload_n 1, 1), (5, .aload_n 0, 1), (6, .getfield 10, 3), (9, .getfield 93, 3), (12, .if_icmp .le 11, 3), (15, .aload_n 0, 1), (16, .iconst 0, 1), (17, .invokevirtual 85, 3), (20, .pop, 1), (21, .iconst 0, 1), (22, .ireturn, 1), (23, .aload_n 0, 1), (24, .getfield 10, 3), (27, .iload_n 1, 1)] = true := by decide +kernel
theorem dkX11_end_1 : dkq cX11_end [(28, .putfield 93, 3), (31, .iconst 1, 1), (32, .ireturn, 1)] = true := by decide +kernel
theorem dkX11_town_0 : dkq cX11_town [(0, .aload_n 0, 1), (1, .getfield 21, 3), (4, .aload_n 0, 1), (5, .getfield 78, 3), (8, .invokevirtual 97, 3), (11, .istore_n 1, 1), (12, .aload_n 0, 1), (13, .getfield 10, 3), (16, .iconst 0, 1), (17, .putfield 93, 3), (20, .iload_n 1, 1), (21, .iconst (-1), 1), (22, .if_icmp .ne 9, 3), (25, .aload_n 0, 1), (26, .iconst 1, 1), (27, .invokevirtual 85, 3)] = true := by decide +kernel
theorem dkX11_town_1 : dkq cX11_town [(30, .ireturn, 1), (31, .aload_n 0, 1), (32, .getfield 74, 3), (35, .astore_n 2, 1), (36, .aload_n 0, 1), (37, .aload_n 0, 1), (38, .getfield 78, 3), (41, .putfield 74, 3), (44, .aload_n 0, 1), (45, .aload_n 2, 1), (46, .putfield 78, 3), (49, .aload_n 0, 1), (50, .getfield 42, 3), (53, .iconst 0, 1), (54, .putfield 101, 3), (57, .iload_n 1, 1)] = true := by decide +kernel
theorem dkX11_town_2 : dkq cX11_town [(58, .ireturn, 1)] = true := by decide +kernel
theorem dkX11_fault_0 : dkq cX11_fault [(0, .iload_n 1, 1), (1, .ifCond .ne 11, 3), (4, .aload_n 0, 1), (5, .getfield 21, 3), (8, .getfield 104, 3), (11, .ireturn, 1), (12, .iload_n 1, 1), (13, .iconst 1, 1), (14, .if_icmp .ne 13, 3), (17, .aload_n 0, 1), (18, .getfield 21, 3), (21, .getfield 107, 3), (24, .goto 4, 3), (27, .iconst (-1), 1), (28, .ireturn, 1)] = true := by decide +kernel
theorem dkX11_has_0 : dkq cX11_has [(0, .iload_n 1, 1), (1, .bipush 8, 2), (3, .if_icmp .ne 14, 3), (6, .aload_n 0, 1), (7, .getfield 74, 3), (10, .invokevirtual 110, 3), (13, .invokestatic 114, 3), (16, .ireturn, 1), (17, .iload_n 1, 1), (18, .bipush 9, 2), (20, .if_icmp .ne 14, 3), (23, .aload_n 0, 1), (24, .getfield 74, 3), (27, .invokevirtual 119, 3), (30, .invokestatic 114, 3), (33, .ireturn, 1)] = true := by decide +kernel
theorem dkX11_has_1 : dkq cX11_has [(34, .iload_n 1, 1), (35, .ifCond .lt 21, 3), (38, .iload_n 1, 1), (39, .bipush 8, 2), (41, .if_icmp .ge 15, 3), (44, .aload_n 0, 1), (45, .getfield 74, 3), (48, .getfield 122, 3), (51, .iload_n 1, 1), (52, .iaload, 1), (53, .goto 4, 3), (56, .iconst (-1), 1), (57, .ireturn, 1)] = true := by decide +kernel
theorem dkX11_letter_0 : dkq cX11_letter [(0, .iload_n 1, 1), (1, .ifCond .lt 30, 3), (4, .iload_n 1, 1), (5, .iconst 5, 1), (6, .if_icmp .ge 25, 3), (9, .aload_n 0, 1), (10, .getfield 74, 3), (13, .iload_n 1, 1), (14, .iload_n 2, 1), (15, .invokevirtual 125, 3), (18, .ifCond .eq 13, 3), (21, .iload_n 3, 1), (22, .ifCond .lt 9, 3), (25, .iload_n 3, 1), (26, .bipush 6, 2), (28, .if_icmp .lt 5, 3)] = true := by decide +kernel
theorem dkX11_letter_1 : dkq cX11_letter [(31, .iconst (-1), 1), (32, .ireturn, 1), (33, .aload_n 0, 1), (34, .getfield 74, 3), (37, .getfield 129, 3), (40, .iload_n 1, 1), (41, .aaload, 1), (42, .iload_n 2, 1), (43, .iaload, 1), (44, .iconst 5, 1), (45, .iload_n 3, 1), (46, .imul, 1), (47, .ishr, 1), (48, .bipush 31, 2), (50, .iand, 1), (51, .istore 4, 2)] = true := by decide +kernel
theorem dkX11_letter_2 : dkq cX11_letter [(53, .iload 4, 2), (55, .ifCond .ne 7, 3), (58, .iconst (-1), 1), (59, .goto 8, 3), (62, .iload 4, 2), (64, .bipush 96, 2), (66, .iadd, 1), (67, .ireturn, 1)] = true := by decide +kernel
theorem dkX11_door_0 : dkq cX11_door [(0, .aload_n 0, 1), (1, .getfield 74, 3), (4, .iconst 1, 1), (5, .iload_n 1, 1), (6, .invokevirtual 125, 3), (9, .ifCond .ne 5, 3), (12, .iconst (-1), 1), (13, .ireturn, 1), (14, .iload_n 2, 1), (15, .tableswitch 137 0 7 #[45, 55, 65, 82, 92, 104, 113, 125], 45), (60, .aload_n 0, 1), (61, .getfield 74, 3), (64, .getfield 133, 3), (67, .iload_n 1, 1), (68, .iaload, 1), (69, .ireturn, 1)] = true := by decide +kernel
theorem dkX11_door_1 : dkq cX11_door [(70, .aload_n 0, 1), (71, .getfield 74, 3), (74, .getfield 136, 3), (77, .iload_n 1, 1), (78, .iaload, 1), (79, .ireturn, 1), (80, .aload_n 0, 1), (81, .getfield 74, 3), (84, .iload_n 1, 1), (85, .invokevirtual 139, 3), (88, .ifCond .eq 7, 3), (91, .iconst 1, 1), (92, .goto 4, 3), (95, .iconst 0, 1), (96, .ireturn, 1), (97, .aload_n 0, 1)] = true := by decide +kernel
theorem dkX11_door_2 : dkq cX11_door [(98, .getfield 74, 3), (101, .getfield 143, 3), (104, .iload_n 1, 1), (105, .iaload, 1), (106, .ireturn, 1), (107, .aload_n 0, 1), (108, .getfield 74, 3), (111, .invokevirtual 110, 3), (114, .iload_n 1, 1), (115, .ishr, 1), (116, .iconst 1, 1), (117, .iand, 1), (118, .ireturn, 1), (119, .aload_n 0, 1), (120, .getfield 74, 3), (123, .iload_n 1, 1)] = true := by decide +kernel
theorem dkX11_door_3 : dkq cX11_door [(124, .invokevirtual 146, 3), (127, .ireturn, 1), (128, .aload_n 0, 1), (129, .getfield 74, 3), (132, .getfield 149, 3), (135, .iload_n 1, 1), (136, .ishr, 1), (137, .iconst 1, 1), (138, .iand, 1), (139, .ireturn, 1), (140, .aload_n 0, 1), (141, .getfield 74, 3), (144, .invokevirtual 119, 3), (147, .iload_n 1, 1), (148, .ishr, 1), (149, .iconst 1, 1)] = true := by decide +kernel
theorem dkX11_door_4 : dkq cX11_door [(150, .iand, 1), (151, .ireturn, 1), (152, .iconst (-1), 1), (153, .ireturn, 1)] = true := by decide +kernel
theorem dkX11_key_0 : dkq cX11_key [(0, .aload_n 0, 1), (1, .getfield 74, 3), (4, .iconst 2, 1), (5, .iload_n 1, 1), (6, .invokevirtual 125, 3), (9, .ifCond .ne 5, 3), (12, .iconst (-1), 1), (13, .ireturn, 1), (14, .iload_n 2, 1), (15, .tableswitch 63 0 2 #[25, 38, 51], 25), (40, .aload_n 0, 1), (41, .getfield 74, 3), (44, .getfield 152, 3), (47, .getfield 155, 3), (50, .iload_n 1, 1), (51, .iaload, 1)] = true := by decide +kernel
theorem dkX11_key_1 : dkq cX11_key [(52, .ireturn, 1), (53, .aload_n 0, 1), (54, .getfield 74, 3), (57, .getfield 152, 3), (60, .getfield 158, 3), (63, .iload_n 1, 1), (64, .iaload, 1), (65, .ireturn, 1), (66, .aload_n 0, 1), (67, .getfield 74, 3), (70, .getfield 152, 3), (73, .iload_n 1, 1), (74, .invokevirtual 161, 3), (77, .ireturn, 1), (78, .iconst (-1), 1), (79, .ireturn, 1)] = true := by decide +kernel
theorem dkX11_in_0 : dkq cX11_in [(0, .aload_n 0, 1), (1, .getfield 74, 3), (4, .iconst 2, 1), (5, .iload_n 1, 1), (6, .invokevirtual 125, 3), (9, .ifCond .ne 5, 3), (12, .iconst (-1), 1), (13, .ireturn, 1), (14, .aload_n 0, 1), (15, .getfield 74, 3), (18, .getfield 152, 3), (21, .iload_n 1, 1), (22, .iload_n 2, 1), (23, .invokevirtual 164, 3), (26, .ireturn, 1)] = true := by decide +kernel
theorem dkX11_person_0 : dkq cX11_person [(0, .aload_n 0, 1), (1, .getfield 74, 3), (4, .iconst 3, 1), (5, .iload_n 1, 1), (6, .invokevirtual 125, 3), (9, .ifCond .ne 5, 3), (12, .iconst (-1), 1), (13, .ireturn, 1), (14, .iload_n 2, 1), (15, .tableswitch 80 0 3 #[29, 42, 51, 67], 29), (44, .aload_n 0, 1), (45, .getfield 74, 3), (48, .getfield 152, 3), (51, .getfield 168, 3), (54, .iload_n 1, 1), (55, .iaload, 1)] = true := by decide +kernel
theorem dkX11_person_1 : dkq cX11_person [(56, .ireturn, 1), (57, .aload_n 0, 1), (58, .getfield 74, 3), (61, .iload_n 1, 1), (62, .invokevirtual 171, 3), (65, .ireturn, 1), (66, .aload_n 0, 1), (67, .getfield 28, 3), (70, .aload_n 0, 1), (71, .getfield 74, 3), (74, .iload_n 1, 1), (75, .invokevirtual 174, 3), (78, .invokestatic 114, 3), (81, .ireturn, 1), (82, .aload_n 0, 1), (83, .getfield 28, 3)] = true := by decide +kernel
theorem dkX11_person_2 : dkq cX11_person [(86, .aload_n 0, 1), (87, .getfield 74, 3), (90, .iload_n 1, 1), (91, .invokevirtual 174, 3), (94, .ireturn, 1), (95, .iconst (-1), 1), (96, .ireturn, 1)] = true := by decide +kernel
theorem dkX11_go_0 : dkq cX11_go [(0, .aload_n 0, 1), (1, .aload_n 0, 1), (2, .getfield 74, 3), (5, .iload_n 1, 1), (6, .iload_n 2, 1), (7, .invokevirtual 178, 3), (10, .invokevirtual 181, 3), (13, .ireturn, 1)] = true := by decide +kernel
theorem dkX11_open_0 : dkq cX11_open [(0, .aload_n 0, 1), (1, .aload_n 0, 1), (2, .getfield 74, 3), (5, .iload_n 1, 1), (6, .iload_n 2, 1), (7, .invokevirtual 184, 3), (10, .invokevirtual 181, 3), (13, .ireturn, 1)] = true := by decide +kernel
theorem dkX11_shut_0 : dkq cX11_shut [(0, .aload_n 0, 1), (1, .aload_n 0, 1), (2, .getfield 74, 3), (5, .iload_n 1, 1), (6, .iload_n 2, 1), (7, .iload_n 3, 1), (8, .invokevirtual 187, 3), (11, .invokevirtual 181, 3), (14, .ireturn, 1)] = true := by decide +kernel
theorem dkX11_refused_0 : dkq cX11_refused [(0, .iload_n 1, 1), (1, .ifCond .lt 19, 3), (4, .iload_n 1, 1), (5, .bipush 6, 2), (7, .if_icmp .ge 13, 3), (10, .aload_n 0, 1), (11, .getfield 67, 3), (14, .iload_n 1, 1), (15, .dup2, 1), (16, .iaload, 1), (17, .iconst 1, 1), (18, .iadd, 1), (19, .iastore, 1), (20, .iconst (-1), 1), (21, .ireturn, 1)] = true := by decide +kernel
theorem dkX11_actAnswer_0 : dkq cX11_actAnswer [(0, .iload_n 1, 1), (1, .iconst (-1), 1), (2, .if_icmp .ne 11, 3), (5, .aload_n 0, 1), (6, .iconst 2, 1), (7, .invokevirtual 85, 3), (10, .goto 4, 3), (13, .iload_n 1, 1), (14, .ireturn, 1)] = true := by decide +kernel
