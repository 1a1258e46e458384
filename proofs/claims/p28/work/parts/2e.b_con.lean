abbrev tr_d_X2_firstCrossing_3 (K2 : Int → Prop) (z10 : Int) (z : Int) : Prop := (K2 (z10 + 1))
def d_X2_firstCrossing_3 (K2 : Int → Prop) (z10 : Int) (z : Int) : Prop := tr_d_X2_firstCrossing_3 K2 z10 z
theorem u_d_X2_firstCrossing_3 {K2 : Int → Prop} {z10 : Int} {z : Int} (h : tr_d_X2_firstCrossing_3 K2 z10 z) : d_X2_firstCrossing_3 K2 z10 z := h
abbrev tr_d_X2_firstCrossing_2 (K1 : Int → Prop) (ta : Nat) (x2 : Int) (z1 : Int) (z8 : Int) (A : St) (z : Int) (K2 : Int → Prop) (z10 : Int) : Prop := ((0 ≤ z10 ∧ z10 ≤ 2147483647) ∧ (((z8 ≤ z10) ∧ (K1 (z1 + 1))) ∨ ((¬ z8 ≤ z10) ∧ (((z1 = z10) ∧ (d_X2_firstCrossing_3 K2 z10 z)) ∨ ((¬ z1 = z10) ∧ (∃ z21 : Int, q_X2_areCrossing ta z1 z10 A z21 ∧ (((z21 = 0) ∧ (d_X2_firstCrossing_3 K2 z10 z)) ∨ ((¬ z21 = 0) ∧ (((x2 = 0) ∧ (z = z1)) ∨ ((¬ x2 = 0) ∧ (z = z10)))))))))))
def d_X2_firstCrossing_2 (K1 : Int → Prop) (ta : Nat) (x2 : Int) (z1 : Int) (z8 : Int) (A : St) (z : Int) : Nat → Int → Prop
  | 0, _ => False
  | nn9 + 1, z10 => tr_d_X2_firstCrossing_2 K1 ta x2 z1 z8 A z (fun z10 => d_X2_firstCrossing_2 K1 ta x2 z1 z8 A z nn9 z10) z10
theorem u_d_X2_firstCrossing_2 {K1 : Int → Prop} {ta : Nat} {x2 : Int} {z1 : Int} {z8 : Int} {A : St} {z : Int} {nn9 : Nat} {z10 : Int} (h : tr_d_X2_firstCrossing_2 K1 ta x2 z1 z8 A z (fun z10 => d_X2_firstCrossing_2 K1 ta x2 z1 z8 A z nn9 z10) z10) : d_X2_firstCrossing_2 K1 ta x2 z1 z8 A z (nn9 + 1) z10 := h
abbrev tr_d_X2_firstCrossing_1 (ta : Nat) (x2 : Int) (A : St) (z : Int) (K1 : Int → Prop) (z1 : Int) : Prop := ((0 ≤ z1 ∧ z1 ≤ 2147483647) ∧ (∃ z8 : Int, z8 = A (ta + 1) (6 : Int).toNat ∧ (((z8 ≤ z1) ∧ (z = (-1))) ∨ ((¬ z8 ≤ z1) ∧ (∃ nn9 : Nat, d_X2_firstCrossing_2 K1 ta x2 z1 z8 A z nn9 0)))))
def d_X2_firstCrossing_1 (ta : Nat) (x2 : Int) (A : St) (z : Int) : Nat → Int → Prop
  | 0, _ => False
  | nn9 + 1, z1 => tr_d_X2_firstCrossing_1 ta x2 A z (fun z1 => d_X2_firstCrossing_1 ta x2 A z nn9 z1) z1
theorem u_d_X2_firstCrossing_1 {ta : Nat} {x2 : Int} {A : St} {z : Int} {nn9 : Nat} {z1 : Int} (h : tr_d_X2_firstCrossing_1 ta x2 A z (fun z1 => d_X2_firstCrossing_1 ta x2 A z nn9 z1) z1) : d_X2_firstCrossing_1 ta x2 A z (nn9 + 1) z1 := h
abbrev tr_r_X2_firstCrossing (ta : Nat) (x2 : Int) (A : St) (z : Int) : Prop := (∃ nn9 : Nat, d_X2_firstCrossing_1 ta x2 A z nn9 0)
def r_X2_firstCrossing (ta : Nat) (x2 : Int) (A : St) (z : Int) : Prop := tr_r_X2_firstCrossing ta x2 A z
theorem u_r_X2_firstCrossing {ta : Nat} {x2 : Int} {A : St} {z : Int} (h : tr_r_X2_firstCrossing ta x2 A z) : r_X2_firstCrossing ta x2 A z := h
def q_X2_firstCrossing (ta : Nat) (x2 : Int) (A : St) (z : Int) : Prop := r_X2_firstCrossing ta x2 A z ∧ (-2147483648 ≤ z ∧ z ≤ 2147483647)
def ws_kc_X2_firstCrossing : List Cond := .code yX2_firstCrossing cX2_firstCrossing 5 (some .int) :: WY
set_option maxHeartbeats 4000000 in
set_option maxRecDepth 100000 in
theorem kc_X2_firstCrossing (l : Launch) (dC : Nat → ClassId) (dI : Nat → Nat → Nat) (cB cI cJ cZ cQ : ClassId) (aL aS : Nat) (q : Nat → Nat) (A : St) (ta : Nat) (x2 : Int) (hI : IK A) (hta : isT ta) (hx2 : (0 : Int) ≤ x2 ∧ x2 ≤ 1) : KMi l yX2_firstCrossing ws_kc_X2_firstCrossing ({ frames := 2, cells := 0, slots := 0, locals := 48 } : Room) aL aS (dC, dI) (tyA cB cI cJ cZ cQ) (WK cB cI cJ cZ cQ q) A [.ref (q 20), .ref (q ta), .int (iI x2)] (fun z u => A = u ∧ r_X2_firstCrossing ta x2 A z ∧ (-2147483648 ≤ z ∧ z ≤ 2147483647)) := by
  refine k_meti (cc := cX2_firstCrossing) (maxL := 5) WK_adr (plainFor_of_name (by decide +kernel)) rfl (Nat.le_of_ble_eq_true rfl) (fun p e s m below meth c Q AS ls hx hb hml hown hts hK hDD hA0 hE RET H locs hP hS hl => ?_)
  have hown : s.vm.findClass RX2 = some m.cls := hown
  have hl : lv_has ls 5 [(0, .ref (q 20)), (1, .ref (q ta)), (2, .int (iI x2))] := hl
  have hiX9 : ∀ w ∈ u_ws RX9 TX9 16, w ∈ ws_kc_X2_firstCrossing := fun w h => List.mem_cons_of_mem _ (wy_layX9 w h)
  refine lv_iconst (v := iI 0) hx hb (dk_at dkX2_firstCrossing_0 0 rfl) (by decide +kernel) ?_
  refine lv_istore_n (lv' := [(3, .int (iI 0)), (0, .ref (q 20)), (1, .ref (q ta)), (2, .int (iI x2))]) hx hb (dk_at dkX2_firstCrossing_0 1 rfl) rfl hl (by decide) rfl (fun ls hl => ?_)
  have L2_3 : ∀ (n7 : Nat) (z1 : Int) (H : Heap) (locs : List Loc) (ls : Array Slot), (0 ≤ z1 ∧ z1 ≤ 2147483647) → (∀ (z : Int), (∃ mm1 : Nat, (d_X2_firstCrossing_1 ta x2 A z mm1 z1)) → r_X2_firstCrossing ta x2 A z) → ((7 - z1).toNat = n7) → va_P (dC, dI) vwCl (WK cB cI cJ cZ cQ q A) H → va_S AS s.heap H locs → lv_has ls 5 [(3, .int (iI z1)), (0, .ref (q 20)), (1, .ref (q ta)), (2, .int (iI x2))] → W p l e (headSpec ws_kc_X2_firstCrossing ({ frames := 2, cells := 0, slots := 0, locals := 48 } : Room)).room s m [.ref (q 20), .ref (q ta), .int (iI x2)].toArray below meth c H locs 0 0 Q (F0 m 2 ls []) := by
    intro n7
    induction n7 using Nat.strongRecOn with
    | ind n7 ih4 =>
      intro z1 H locs ls f5 hk1 hn7 hP hS hl
      refine lv_iload_n hx hb (dk_at dkX2_firstCrossing_0 2 rfl) rfl (lv_at hl 0 rfl) ?_
      refine lv_aload_n hx hb (dk_at dkX2_firstCrossing_0 3 rfl) rfl (lv_at hl 2 rfl) ?_
      refine va_get (D := (dC, dI)) (ci := 9) (v := .ref (q (ta + 1))) (C := RX9) (T := TX9) (N := 16) hx hb hts hiX9 hown hK hP ta (wkT hta) rfl 0 (by decide) (hts _ (List.mem_cons_of_mem _ wkq_3_31)) (fun _ h9 => h9) rfl (dk_at dkX2_firstCrossing_0 4 rfl) ?_
      refine lv_bipush (v := iI 6) hx hb (dk_at dkX2_firstCrossing_0 5 rfl) (by decide +kernel) ?_
      refine x_iald (Wf := WK cB cI cJ cZ cQ q) hx hb hK hP (ta + 1) 1 (wkTc hta) rfl (by decide) (by decide) (dk_at dkX2_firstCrossing_0 6 rfl) (fun z8 hz8 => ?_)
      have rz8 : (0 : Int) ≤ z8 ∧ z8 ≤ 6 := by rw [hz8]; exact irTc6 hta hI
      have gz8 := Hd.mk hz8
      refine lv_icmp_ge (tgt := 67) hx hb (dk_at dkX2_firstCrossing_0 7 rfl) (by decide) (fun c9 => ?_) (fun c9 => ?_)
      · have c9 : z8 ≤ z1 := (i_le (rb rz8 (by decide) (by decide)) (rb f5 (by decide) (by decide))).mp c9
        refine lv_iconst (v := iI (-1)) hx hb (dk_at dkX2_firstCrossing_2 2 rfl) (by decide +kernel) ?_
        exact RET (-1) _ _ _ _ _ ⟨rfl, hk1 _ ⟨0 + 1, (u_d_X2_firstCrossing_1 ⟨f5, ⟨z8, gz8.out, (Or.inl ⟨c9, rfl⟩)⟩⟩)⟩, ⟨by decide, by decide⟩⟩ hP hS (dk_at dkX2_firstCrossing_2 3 rfl)
      · have c9 : ¬ z8 ≤ z1 := mt (i_le (rb rz8 (by decide) (by decide)) (rb f5 (by decide) (by decide))).mpr c9
        refine lv_iconst (v := iI 0) hx hb (dk_at dkX2_firstCrossing_0 8 rfl) (by decide +kernel) ?_
        refine lv_istore (lv' := [(4, .int (iI 0)), (3, .int (iI z1)), (0, .ref (q 20)), (1, .ref (q ta)), (2, .int (iI x2))]) hx hb (dk_at dkX2_firstCrossing_0 9 rfl) hl (by decide) rfl (fun ls hl => ?_)
        have L16_12 : ∀ (n16 : Nat) (z10 : Int) (H : Heap) (locs : List Loc) (ls : Array Slot), (0 ≤ z10 ∧ z10 ≤ 2147483647) → (∀ (z : Int), (∃ mm1 mm2 : Nat, (d_X2_firstCrossing_2 (fun z1' => d_X2_firstCrossing_1 ta x2 A z mm1 z1') ta x2 z1 z8 A z mm2 z10)) → r_X2_firstCrossing ta x2 A z) → ((7 - z10).toNat = n16) → va_P (dC, dI) vwCl (WK cB cI cJ cZ cQ q A) H → va_S AS s.heap H locs → lv_has ls 5 [(4, .int (iI z10)), (3, .int (iI z1)), (0, .ref (q 20)), (1, .ref (q ta)), (2, .int (iI x2))] → W p l e (headSpec ws_kc_X2_firstCrossing ({ frames := 2, cells := 0, slots := 0, locals := 48 } : Room)).room s m [.ref (q 20), .ref (q ta), .int (iI x2)].toArray below meth c H locs 0 0 Q (F0 m 16 ls []) := by
          intro n16
          induction n16 using Nat.strongRecOn with
          | ind n16 ih13 =>
            intro z10 H locs ls f14 hk2 hn16 hP hS hl
            refine lv_iload hx hb (dk_at dkX2_firstCrossing_0 10 rfl) (lv_at hl 0 rfl) ?_
            refine lv_aload_n hx hb (dk_at dkX2_firstCrossing_0 11 rfl) rfl (lv_at hl 3 rfl) ?_
            refine va_get (D := (dC, dI)) (ci := 9) (v := .ref (q (ta + 1))) (C := RX9) (T := TX9) (N := 16) hx hb hts hiX9 hown hK hP ta (wkT hta) rfl 0 (by decide) (hts _ (List.mem_cons_of_mem _ wkq_3_31)) (fun _ h9 => h9) rfl (dk_at dkX2_firstCrossing_0 12 rfl) ?_
            refine lv_bipush (v := iI 6) hx hb (dk_at dkX2_firstCrossing_0 13 rfl) (by decide +kernel) ?_
            refine x_iald (Wf := WK cB cI cJ cZ cQ q) hx hb hK hP (ta + 1) 1 (wkTc hta) rfl (by decide) (by decide) (dk_at dkX2_firstCrossing_0 14 rfl) (fun z17 hz17 => ?_)
            have rz17 : (0 : Int) ≤ z17 ∧ z17 ≤ 6 := by rw [hz17]; exact irTc6 hta hI
            have gz17 := Hd.mk hz17
            have ez17 : z17 = z8 := hz17.trans hz8.symm
            refine tp_i (y := iI z8) (congrArg iI ez17) ?_
            refine lv_icmp_ge (tgt := 61) hx hb (dk_at dkX2_firstCrossing_0 15 rfl) (by decide) (fun c18 => ?_) (fun c18 => ?_)
            · have c18 : z8 ≤ z10 := (i_le (rb rz8 (by decide) (by decide)) (rb f14 (by decide) (by decide))).mp c18
              refine lv_iinc (v := iI (z1 + 1)) (lv' := [(3, .int (iI (z1 + 1))), (4, .int (iI z10)), (0, .ref (q 20)), (1, .ref (q ta)), (2, .int (iI x2))]) hx hb (dk_at dkX2_firstCrossing_2 0 rfl) hl (k := 1) rfl (i_inc (by omega)) (by decide) rfl (fun ls hl => ?_)
              refine lv_goto (tgt := 2) hx hb (dk_at dkX2_firstCrossing_2 1 rfl) (by decide) ?_
              exact ih4 _ (by omega) (z1 + 1) _ _ _ (by omega) (fun zq ⟨mm1, hq⟩ => hk2 _ ⟨mm1, 0 + 1, (u_d_X2_firstCrossing_2 ⟨f14, (Or.inl ⟨c18, hq⟩)⟩)⟩) rfl hP hS (lv_sub hl [0, 2, 3, 4] rfl)
            · have c18 : ¬ z8 ≤ z10 := mt (i_le (rb rz8 (by decide) (by decide)) (rb f14 (by decide) (by decide))).mpr c18
              refine lv_iload_n hx hb (dk_at dkX2_firstCrossing_1 0 rfl) rfl (lv_at hl 1 rfl) ?_
              refine lv_iload hx hb (dk_at dkX2_firstCrossing_1 1 rfl) (lv_at hl 0 rfl) ?_
              have J55_20 : ∀ (H : Heap) (locs : List Loc) (ls : Array Slot), (∀ (z : Int), (∃ mm1 mm2 : Nat, (d_X2_firstCrossing_3 (fun z10' => d_X2_firstCrossing_2 (fun z1' => d_X2_firstCrossing_1 ta x2 A z mm1 z1') ta x2 z1 z8 A z mm2 z10') z10 z)) → r_X2_firstCrossing ta x2 A z) → va_P (dC, dI) vwCl (WK cB cI cJ cZ cQ q A) H → va_S AS s.heap H locs → lv_has ls 5 [(4, .int (iI z10)), (3, .int (iI z1)), (0, .ref (q 20)), (1, .ref (q ta)), (2, .int (iI x2))] → W p l e (headSpec ws_kc_X2_firstCrossing ({ frames := 2, cells := 0, slots := 0, locals := 48 } : Room)).room s m [.ref (q 20), .ref (q ta), .int (iI x2)].toArray below meth c H locs 0 0 Q (F0 m 55 ls []) := by
                intro H locs ls hk3 hP hS hl
                refine lv_iinc (v := iI (z10 + 1)) (lv' := [(4, .int (iI (z10 + 1))), (3, .int (iI z1)), (0, .ref (q 20)), (1, .ref (q ta)), (2, .int (iI x2))]) hx hb (dk_at dkX2_firstCrossing_1 14 rfl) hl (k := 0) rfl (i_inc (by omega)) (by decide) rfl (fun ls hl => ?_)
                refine lv_goto (tgt := 16) hx hb (dk_at dkX2_firstCrossing_1 15 rfl) (by decide) ?_
                exact ih13 _ (by omega) (z10 + 1) _ _ _ (by omega) (fun zq ⟨mm1, mm2, hq⟩ => hk3 _ ⟨mm1, mm2, (u_d_X2_firstCrossing_3 hq)⟩) rfl hP hS (lv_sub hl [0, 1, 2, 3, 4] rfl)
              refine lv_icmp_eq (tgt := 55) hx hb (dk_at dkX2_firstCrossing_1 2 rfl) (by decide) (fun c19 => ?_) (fun c19 => ?_)
              · have c19 : z1 = z10 := (i_eq (rb f5 (by decide) (by decide)) (rb f14 (by decide) (by decide))).mp c19
                exact J55_20 _ _ _ (fun zq ⟨mm1, mm2, hq⟩ => hk2 _ ⟨mm1, mm2 + 1, (u_d_X2_firstCrossing_2 ⟨f14, (Or.inr ⟨c18, (Or.inl ⟨c19, hq⟩)⟩)⟩)⟩) hP hS (lv_sub hl [0, 1, 2, 3, 4] rfl)
              · have c19 : ¬ z1 = z10 := mt (i_eq (rb f5 (by decide) (by decide)) (rb f14 (by decide) (by decide))).mpr c19
                refine lv_aload_n hx hb (dk_at dkX2_firstCrossing_1 3 rfl) rfl (lv_at hl 3 rfl) ?_
                refine lv_iload_n hx hb (dk_at dkX2_firstCrossing_1 4 rfl) rfl (lv_at hl 1 rfl) ?_
                refine lv_iload hx hb (dk_at dkX2_firstCrossing_1 5 rfl) (lv_at hl 0 rfl) ?_
                refine k_callSi (As := [.ref (q ta), .int (iI z1), .int (iI z10)]) (rest := []) ⟨hx, hb, hml, hown, hts⟩ hE (kc_X2_areCrossing l dC dI cB cI cJ cZ cQ aL aS q _ ta z1 z10 hI hta (rb f5 (by decide) (by decide)) (rb f14 (by decide) (by decide))) (va_cwS 3 hts (goodSk wkq_3_32 wkq_3_33 wkq_3_34 wkq_3_35) rfl rfl rfl (by decide +kernel) ⟨Nat.le_of_ble_eq_true rfl, Nat.le_of_ble_eq_true rfl⟩) hK hDD hA0 hP hS rfl hl.1 (Nat.le_of_ble_eq_true rfl) (dk_at dkX2_firstCrossing_1 6 rfl) (fun z21 A22 H locs hw23 hP hS => ?_)
                obtain ⟨rfl, hw23⟩ := hw23
                have ghw23 : q_X2_areCrossing ta z1 z10 A z21 := hw23
                have hw23 := hw23.2
                refine lv_if_eq (tgt := 55) hx hb (dk_at dkX2_firstCrossing_1 7 rfl) (by decide) (fun c24 => ?_) (fun c24 => ?_)
                · have c24 : z21 = 0 := (i_eq0 (rb hw23 (by decide) (by decide))).mp c24
                  exact J55_20 _ _ _ (fun zq ⟨mm1, mm2, hq⟩ => hk2 _ ⟨mm1, mm2 + 1, (u_d_X2_firstCrossing_2 ⟨f14, (Or.inr ⟨c18, (Or.inr ⟨c19, ⟨z21, ghw23, (Or.inl ⟨c24, hq⟩)⟩⟩)⟩)⟩)⟩) hP hS (lv_sub hl [0, 1, 2, 3, 4] rfl)
                · have c24 : ¬ z21 = 0 := mt (i_eq0 (rb hw23 (by decide) (by decide))).mpr c24
                  refine lv_iload_n hx hb (dk_at dkX2_firstCrossing_1 8 rfl) rfl (lv_at hl 4 rfl) ?_
                  refine lv_if_eq (tgt := 53) hx hb (dk_at dkX2_firstCrossing_1 9 rfl) (by decide) (fun c25 => ?_) (fun c25 => ?_)
                  · have c25 : x2 = 0 := (i_eq0 (rb hx2 (by decide) (by decide))).mp c25
                    refine lv_iload_n hx hb (dk_at dkX2_firstCrossing_1 12 rfl) rfl (lv_at hl 1 rfl) ?_
                    exact RET z1 _ _ _ _ _ ⟨rfl, hk2 _ ⟨0, 0 + 1, (u_d_X2_firstCrossing_2 ⟨f14, (Or.inr ⟨c18, (Or.inr ⟨c19, ⟨z21, ghw23, (Or.inr ⟨c24, (Or.inl ⟨c25, rfl⟩)⟩)⟩⟩)⟩)⟩)⟩, (rb f5 (by decide) (by decide))⟩ hP hS (dk_at dkX2_firstCrossing_1 13 rfl)
                  · have c25 : ¬ x2 = 0 := mt (i_eq0 (rb hx2 (by decide) (by decide))).mpr c25
                    refine lv_iload hx hb (dk_at dkX2_firstCrossing_1 10 rfl) (lv_at hl 0 rfl) ?_
                    refine lv_goto (tgt := 54) hx hb (dk_at dkX2_firstCrossing_1 11 rfl) (by decide) ?_
                    exact RET z10 _ _ _ _ _ ⟨rfl, hk2 _ ⟨0, 0 + 1, (u_d_X2_firstCrossing_2 ⟨f14, (Or.inr ⟨c18, (Or.inr ⟨c19, ⟨z21, ghw23, (Or.inr ⟨c24, (Or.inr ⟨c25, rfl⟩)⟩)⟩⟩)⟩)⟩)⟩, (rb f14 (by decide) (by decide))⟩ hP hS (dk_at dkX2_firstCrossing_1 13 rfl)
        exact L16_12 _ 0 _ _ _ (by omega) (fun zq ⟨mm1, mm2, hq⟩ => hk1 _ ⟨mm1 + 1, (u_d_X2_firstCrossing_1 ⟨f5, ⟨z8, gz8.out, (Or.inr ⟨c9, ⟨mm2, hq⟩⟩)⟩⟩)⟩) rfl hP hS (lv_sub hl [0, 1, 2, 3, 4] rfl)
  exact L2_3 _ 0 _ _ _ (by omega) (fun zq ⟨mm1, hq⟩ => (u_r_X2_firstCrossing ⟨mm1, hq⟩)) rfl hP hS (lv_sub hl [0, 1, 2, 3] rfl)

abbrev tr_d_X2_canTake_2 (K1 : Int → Prop) (z1 : Int) (z : Int) : Prop := (K1 (z1 + 1))
def d_X2_canTake_2 (K1 : Int → Prop) (z1 : Int) (z : Int) : Prop := tr_d_X2_canTake_2 K1 z1 z
theorem u_d_X2_canTake_2 {K1 : Int → Prop} {z1 : Int} {z : Int} (h : tr_d_X2_canTake_2 K1 z1 z) : d_X2_canTake_2 K1 z1 z := h
abbrev tr_d_X2_canTake_1 (ta : Nat) (x2 : Int) (x3 : Int) (A : St) (z : Int) (K1 : Int → Prop) (z1 : Int) : Prop := ((0 ≤ z1 ∧ z1 ≤ 2147483647) ∧ (((x2 ≤ z1) ∧ (z = 1)) ∨ ((¬ x2 ≤ z1) ∧ (((6 ≤ z1) ∧ (z = 1)) ∨ ((¬ 6 ≤ z1) ∧ (∃ z9 : Int, z9 = A 21 (z1).toNat ∧ (((¬ z9 = x3) ∧ (d_X2_canTake_2 K1 z1 z)) ∨ ((z9 = x3) ∧ (∃ z12 : Int, q_X2_areCrossing ta z1 x2 A z12 ∧ (((z12 = 0) ∧ (d_X2_canTake_2 K1 z1 z)) ∨ ((¬ z12 = 0) ∧ (z = 0))))))))))))
def d_X2_canTake_1 (ta : Nat) (x2 : Int) (x3 : Int) (A : St) (z : Int) : Nat → Int → Prop
  | 0, _ => False
  | nn9 + 1, z1 => tr_d_X2_canTake_1 ta x2 x3 A z (fun z1 => d_X2_canTake_1 ta x2 x3 A z nn9 z1) z1
theorem u_d_X2_canTake_1 {ta : Nat} {x2 : Int} {x3 : Int} {A : St} {z : Int} {nn9 : Nat} {z1 : Int} (h : tr_d_X2_canTake_1 ta x2 x3 A z (fun z1 => d_X2_canTake_1 ta x2 x3 A z nn9 z1) z1) : d_X2_canTake_1 ta x2 x3 A z (nn9 + 1) z1 := h
abbrev tr_r_X2_canTake (ta : Nat) (x2 : Int) (x3 : Int) (A : St) (z : Int) : Prop := (∃ nn9 : Nat, d_X2_canTake_1 ta x2 x3 A z nn9 0)
def r_X2_canTake (ta : Nat) (x2 : Int) (x3 : Int) (A : St) (z : Int) : Prop := tr_r_X2_canTake ta x2 x3 A z
theorem u_r_X2_canTake {ta : Nat} {x2 : Int} {x3 : Int} {A : St} {z : Int} (h : tr_r_X2_canTake ta x2 x3 A z) : r_X2_canTake ta x2 x3 A z := h
def q_X2_canTake (ta : Nat) (x2 : Int) (x3 : Int) (A : St) (z : Int) : Prop := r_X2_canTake ta x2 x3 A z ∧ (0 ≤ z ∧ z ≤ 1)
def ws_kc_X2_canTake : List Cond := .code yX2_canTake cX2_canTake 5 (some .boolean) :: WY
set_option maxHeartbeats 4000000 in
set_option maxRecDepth 100000 in
theorem kc_X2_canTake (l : Launch) (dC : Nat → ClassId) (dI : Nat → Nat → Nat) (cB cI cJ cZ cQ : ClassId) (aL aS : Nat) (q : Nat → Nat) (A : St) (ta : Nat) (x2 x3 : Int) (hI : IK A) (hta : isT ta) (hx2 : (-2147483648 : Int) ≤ x2 ∧ x2 ≤ 2147483647) (hx3 : (-2147483648 : Int) ≤ x3 ∧ x3 ≤ 2147483647) : KMi l yX2_canTake ws_kc_X2_canTake ({ frames := 2, cells := 0, slots := 0, locals := 48 } : Room) aL aS (dC, dI) (tyA cB cI cJ cZ cQ) (WK cB cI cJ cZ cQ q) A [.ref (q 20), .ref (q ta), .int (iI x2), .int (iI x3)] (fun z u => A = u ∧ r_X2_canTake ta x2 x3 A z ∧ (0 ≤ z ∧ z ≤ 1)) := by
  refine k_metz (cc := cX2_canTake) (maxL := 5) WK_adr (plainFor_of_name (by decide +kernel)) rfl (Nat.le_of_ble_eq_true rfl) (fun z u h => h.2.2) (fun p e s m below meth c Q AS ls hx hb hml hown hts hK hDD hA0 hE RET H locs hP hS hl => ?_)
  have hown : s.vm.findClass RX2 = some m.cls := hown
  have hl : lv_has ls 5 [(0, .ref (q 20)), (1, .ref (q ta)), (2, .int (iI x2)), (3, .int (iI x3))] := hl
  have hiX2 : ∀ w ∈ u_ws RX2 TX2 1, w ∈ ws_kc_X2_canTake := fun w h => List.mem_cons_of_mem _ (wy_layX2 w h)
  refine lv_iconst (v := iI 0) hx hb (dk_at dkX2_canTake_0 0 rfl) (by decide +kernel) ?_
  refine lv_istore (lv' := [(4, .int (iI 0)), (0, .ref (q 20)), (1, .ref (q ta)), (2, .int (iI x2)), (3, .int (iI x3))]) hx hb (dk_at dkX2_canTake_0 1 rfl) hl (by decide) rfl (fun ls hl => ?_)
  have L3_3 : ∀ (n6 : Nat) (z1 : Int) (H : Heap) (locs : List Loc) (ls : Array Slot), (0 ≤ z1 ∧ z1 ≤ 2147483647) → (∀ (z : Int), (∃ mm1 : Nat, (d_X2_canTake_1 ta x2 x3 A z mm1 z1)) → r_X2_canTake ta x2 x3 A z) → ((2147483648 - z1).toNat = n6) → va_P (dC, dI) vwCl (WK cB cI cJ cZ cQ q A) H → va_S AS s.heap H locs → lv_has ls 5 [(4, .int (iI z1)), (0, .ref (q 20)), (1, .ref (q ta)), (2, .int (iI x2)), (3, .int (iI x3))] → W p l e (headSpec ws_kc_X2_canTake ({ frames := 2, cells := 0, slots := 0, locals := 48 } : Room)).room s m [.ref (q 20), .ref (q ta), .int (iI x2), .int (iI x3)].toArray below meth c H locs 0 0 Q (F0 m 3 ls []) := by
    intro n6
    induction n6 using Nat.strongRecOn with
    | ind n6 ih4 =>
      intro z1 H locs ls f5 hk1 hn6 hP hS hl
      refine lv_iload hx hb (dk_at dkX2_canTake_0 2 rfl) (lv_at hl 0 rfl) ?_
      refine lv_iload_n hx hb (dk_at dkX2_canTake_0 3 rfl) rfl (lv_at hl 3 rfl) ?_
      refine lv_icmp_ge (tgt := 45) hx hb (dk_at dkX2_canTake_0 4 rfl) (by decide) (fun c7 => ?_) (fun c7 => ?_)
      · have c7 : x2 ≤ z1 := (i_le hx2 (rb f5 (by decide) (by decide))).mp c7
        refine lv_iconst (v := iI 1) hx hb (dk_at dkX2_canTake_1 7 rfl) (by decide +kernel) ?_
        exact RET 1 _ _ _ _ _ ⟨rfl, hk1 _ ⟨0 + 1, (u_d_X2_canTake_1 ⟨f5, (Or.inl ⟨c7, rfl⟩)⟩)⟩, ⟨by decide, by decide⟩⟩ hP hS (dk_at dkX2_canTake_1 8 rfl)
      · have c7 : ¬ x2 ≤ z1 := mt (i_le hx2 (rb f5 (by decide) (by decide))).mpr c7
        refine lv_iload hx hb (dk_at dkX2_canTake_0 5 rfl) (lv_at hl 0 rfl) ?_
        refine lv_bipush (v := iI 6) hx hb (dk_at dkX2_canTake_0 6 rfl) (by decide +kernel) ?_
        refine lv_icmp_ge (tgt := 45) hx hb (dk_at dkX2_canTake_0 7 rfl) (by decide) (fun c8 => ?_) (fun c8 => ?_)
        · have c8 : 6 ≤ z1 := (i_le ⟨by decide, by decide⟩ (rb f5 (by decide) (by decide))).mp c8
          refine lv_iconst (v := iI 1) hx hb (dk_at dkX2_canTake_1 7 rfl) (by decide +kernel) ?_
          exact RET 1 _ _ _ _ _ ⟨rfl, hk1 _ ⟨0 + 1, (u_d_X2_canTake_1 ⟨f5, (Or.inr ⟨c7, (Or.inl ⟨c8, rfl⟩)⟩)⟩)⟩, ⟨by decide, by decide⟩⟩ hP hS (dk_at dkX2_canTake_1 8 rfl)
        · have c8 : ¬ 6 ≤ z1 := mt (i_le ⟨by decide, by decide⟩ (rb f5 (by decide) (by decide))).mpr c8
          refine lv_aload_n hx hb (dk_at dkX2_canTake_0 8 rfl) rfl (lv_at hl 1 rfl) ?_
          refine va_get (D := (dC, dI)) (ci := 2) (v := .ref (q 21)) (C := RX2) (T := TX2) (N := 1) hx hb hts hiX2 hown hK hP 20 (wkHR) rfl 0 (by decide) (hts _ (List.mem_cons_of_mem _ wkq_3_45)) (fun _ h9 => h9) rfl (dk_at dkX2_canTake_0 9 rfl) ?_
          refine lv_iload hx hb (dk_at dkX2_canTake_0 10 rfl) (lv_at hl 0 rfl) ?_
          refine x_iald (Wf := WK cB cI cJ cZ cQ q) hx hb hK hP 21 1 (wkHRk) rfl (by omega) (by decide) (dk_at dkX2_canTake_0 11 rfl) (fun z9 hz9 => ?_)
          have rz9 : (-2147483648 : Int) ≤ z9 ∧ z9 ≤ 2147483647 := by rw [hz9]; exact irHRk hI
          have gz9 := Hd.mk hz9
          refine lv_iload_n hx hb (dk_at dkX2_canTake_0 12 rfl) rfl (lv_at hl 4 rfl) ?_
          have J39_11 : ∀ (H : Heap) (locs : List Loc) (ls : Array Slot), (∀ (z : Int), (∃ mm1 : Nat, (d_X2_canTake_2 (fun z1' => d_X2_canTake_1 ta x2 x3 A z mm1 z1') z1 z)) → r_X2_canTake ta x2 x3 A z) → va_P (dC, dI) vwCl (WK cB cI cJ cZ cQ q A) H → va_S AS s.heap H locs → lv_has ls 5 [(4, .int (iI z1)), (0, .ref (q 20)), (1, .ref (q ta)), (2, .int (iI x2)), (3, .int (iI x3))] → W p l e (headSpec ws_kc_X2_canTake ({ frames := 2, cells := 0, slots := 0, locals := 48 } : Room)).room s m [.ref (q 20), .ref (q ta), .int (iI x2), .int (iI x3)].toArray below meth c H locs 0 0 Q (F0 m 39 ls []) := by
            intro H locs ls hk2 hP hS hl
            refine lv_iinc (v := iI (z1 + 1)) (lv' := [(4, .int (iI (z1 + 1))), (0, .ref (q 20)), (1, .ref (q ta)), (2, .int (iI x2)), (3, .int (iI x3))]) hx hb (dk_at dkX2_canTake_1 5 rfl) hl (k := 0) rfl (i_inc (by omega)) (by decide) rfl (fun ls hl => ?_)
            refine lv_goto (tgt := 3) hx hb (dk_at dkX2_canTake_1 6 rfl) (by decide) ?_
            exact ih4 _ (by omega) (z1 + 1) _ _ _ (by omega) (fun zq ⟨mm1, hq⟩ => hk2 _ ⟨mm1, (u_d_X2_canTake_2 hq)⟩) rfl hP hS (lv_sub hl [0, 1, 2, 3, 4] rfl)
          refine lv_icmp_ne (tgt := 39) hx hb (dk_at dkX2_canTake_0 13 rfl) (by decide) (fun c10 => ?_) (fun c10 => ?_)
          · have c10 : ¬ z9 = x3 := mt (i_eq rz9 hx3).mpr c10
            exact J39_11 _ _ _ (fun zq ⟨mm1, hq⟩ => hk1 _ ⟨mm1 + 1, (u_d_X2_canTake_1 ⟨f5, (Or.inr ⟨c7, (Or.inr ⟨c8, ⟨z9, gz9.out, (Or.inl ⟨c10, hq⟩)⟩⟩)⟩)⟩)⟩) hP hS (lv_sub hl [0, 1, 2, 3, 4] rfl)
          · have c10 : z9 = x3 := (i_eq rz9 hx3).mp c10
            refine lv_aload_n hx hb (dk_at dkX2_canTake_0 14 rfl) rfl (lv_at hl 2 rfl) ?_
            refine lv_iload hx hb (dk_at dkX2_canTake_0 15 rfl) (lv_at hl 0 rfl) ?_
            refine lv_iload_n hx hb (dk_at dkX2_canTake_1 0 rfl) rfl (lv_at hl 3 rfl) ?_
            refine k_callSi (As := [.ref (q ta), .int (iI z1), .int (iI x2)]) (rest := []) ⟨hx, hb, hml, hown, hts⟩ hE (kc_X2_areCrossing l dC dI cB cI cJ cZ cQ aL aS q _ ta z1 x2 hI hta (rb f5 (by decide) (by decide)) hx2) (va_cwS 3 hts (goodSk wkq_3_32 wkq_3_33 wkq_3_34 wkq_3_35) rfl rfl rfl (by decide +kernel) ⟨Nat.le_of_ble_eq_true rfl, Nat.le_of_ble_eq_true rfl⟩) hK hDD hA0 hP hS rfl hl.1 (Nat.le_of_ble_eq_true rfl) (dk_at dkX2_canTake_1 1 rfl) (fun z12 A13 H locs hw14 hP hS => ?_)
            obtain ⟨rfl, hw14⟩ := hw14
            have ghw14 : q_X2_areCrossing ta z1 x2 A z12 := hw14
            have hw14 := hw14.2
            refine lv_if_eq (tgt := 39) hx hb (dk_at dkX2_canTake_1 2 rfl) (by decide) (fun c15 => ?_) (fun c15 => ?_)
            · have c15 : z12 = 0 := (i_eq0 (rb hw14 (by decide) (by decide))).mp c15
              exact J39_11 _ _ _ (fun zq ⟨mm1, hq⟩ => hk1 _ ⟨mm1 + 1, (u_d_X2_canTake_1 ⟨f5, (Or.inr ⟨c7, (Or.inr ⟨c8, ⟨z9, gz9.out, (Or.inr ⟨c10, ⟨z12, ghw14, (Or.inl ⟨c15, hq⟩)⟩⟩)⟩⟩)⟩)⟩)⟩) hP hS (lv_sub hl [0, 1, 2, 3, 4] rfl)
            · have c15 : ¬ z12 = 0 := mt (i_eq0 (rb hw14 (by decide) (by decide))).mpr c15
              refine lv_iconst (v := iI 0) hx hb (dk_at dkX2_canTake_1 3 rfl) (by decide +kernel) ?_
              exact RET 0 _ _ _ _ _ ⟨rfl, hk1 _ ⟨0 + 1, (u_d_X2_canTake_1 ⟨f5, (Or.inr ⟨c7, (Or.inr ⟨c8, ⟨z9, gz9.out, (Or.inr ⟨c10, ⟨z12, ghw14, (Or.inr ⟨c15, rfl⟩)⟩⟩)⟩⟩)⟩)⟩)⟩, ⟨by decide, by decide⟩⟩ hP hS (dk_at dkX2_canTake_1 4 rfl)
  exact L3_3 _ 0 _ _ _ (by omega) (fun zq ⟨mm1, hq⟩ => (u_r_X2_canTake ⟨mm1, hq⟩)) rfl hP hS (lv_sub hl [0, 1, 2, 3, 4] rfl)

abbrev tr_r_X2_giveKeys_2_6 (ta : Nat) (x3 : Int) (A : St) (z : Int) (u : St) : Prop := (∃ z1 : Int, z1 = A (ta + 1) (6 : Int).toNat ∧ (z = 1 ∧ u = A))
def r_X2_giveKeys_2_6 (ta : Nat) (x3 : Int) (A : St) (z : Int) (u : St) : Prop := tr_r_X2_giveKeys_2_6 ta x3 A z u
theorem u_r_X2_giveKeys_2_6 {ta : Nat} {x3 : Int} {A : St} {z : Int} {u : St} (h : tr_r_X2_giveKeys_2_6 ta x3 A z u) : r_X2_giveKeys_2_6 ta x3 A z u := h
def q_X2_giveKeys_2_6 (ta : Nat) (x3 : Int) (A : St) (z : Int) (u : St) : Prop := r_X2_giveKeys_2_6 ta x3 A z u ∧ IK u ∧ fk [21] [] A u ∧ (0 ≤ z ∧ z ≤ 1)
def ws_kc_X2_giveKeys_2_6 : List Cond := .code yX2_giveKeys cX2_giveKeys 5 (some .boolean) :: WY
set_option maxHeartbeats 4000000 in
set_option maxRecDepth 100000 in
theorem kc_X2_giveKeys_2_6 (l : Launch) (dC : Nat → ClassId) (dI : Nat → Nat → Nat) (cB cI cJ cZ cQ : ClassId) (aL aS : Nat) (q : Nat → Nat) (A : St) (ta : Nat) (x3 : Int) (hI : IK A) (hta : isT ta) (hx3 : (-2147483648 : Int) ≤ x3 ∧ x3 ≤ 2147483647) : KMi l yX2_giveKeys ws_kc_X2_giveKeys_2_6 ({ frames := 0, cells := 0, slots := 0, locals := 0 } : Room) aL aS (dC, dI) (tyA cB cI cJ cZ cQ) (WK cB cI cJ cZ cQ q) A [.ref (q 20), .ref (q ta), .int (iI 6), .int (iI x3)] (fun z u => r_X2_giveKeys_2_6 ta x3 A z u ∧ IK u ∧ fk [21] [] A u ∧ (0 ≤ z ∧ z ≤ 1)) := by
  refine k_metz (cc := cX2_giveKeys) (maxL := 5) WK_adr (plainFor_of_name (by decide +kernel)) rfl (Nat.le_of_ble_eq_true rfl) (fun z u h => h.2.2.2) (fun p e s m below meth c Q AS ls hx hb hml hown hts hK hDD hA0 hE RET H locs hP hS hl => ?_)
  have hown : s.vm.findClass RX2 = some m.cls := hown
  have hl : lv_has ls 5 [(0, .ref (q 20)), (1, .ref (q ta)), (2, .int (iI 6)), (3, .int (iI x3))] := hl
  have hiX9 : ∀ w ∈ u_ws RX9 TX9 16, w ∈ ws_kc_X2_giveKeys_2_6 := fun w h => List.mem_cons_of_mem _ (wy_layX9 w h)
  refine lv_iload_n hx hb (dk_at dkX2_giveKeys_0 0 rfl) rfl (lv_at hl 2 rfl) ?_
  refine lv_aload_n hx hb (dk_at dkX2_giveKeys_0 1 rfl) rfl (lv_at hl 1 rfl) ?_
  refine va_get (D := (dC, dI)) (ci := 9) (v := .ref (q (ta + 1))) (C := RX9) (T := TX9) (N := 16) hx hb hts hiX9 hown hK hP ta (wkT hta) rfl 0 (by decide) (hts _ (List.mem_cons_of_mem _ wkq_3_31)) (fun _ h9 => h9) rfl (dk_at dkX2_giveKeys_0 2 rfl) ?_
  refine lv_bipush (v := iI 6) hx hb (dk_at dkX2_giveKeys_0 3 rfl) (by decide +kernel) ?_
  refine x_iald (Wf := WK cB cI cJ cZ cQ q) hx hb hK hP (ta + 1) 1 (wkTc hta) rfl (by decide) (by decide) (dk_at dkX2_giveKeys_0 4 rfl) (fun z1 hz1 => ?_)
  have rz1 : (0 : Int) ≤ z1 ∧ z1 ≤ 6 := by rw [hz1]; exact irTc6 hta hI
  have gz1 := Hd.mk hz1
  refine lv_icmp_ge (tgt := 17) hx hb (dk_at dkX2_giveKeys_0 5 rfl) (by decide) (fun _ => ?_) (fun c2 => False.elim (by have c2 : ¬ z1 ≤ 6 := mt (i_le (rb rz1 (by decide) (by decide)) ⟨by decide, by decide⟩).mpr c2; omega))
  refine lv_iconst (v := iI 1) hx hb (dk_at dkX2_giveKeys_0 9 rfl) (by decide +kernel) ?_
  exact RET 1 _ _ _ _ _ ⟨(u_r_X2_giveKeys_2_6 ⟨z1, gz1.out, ⟨rfl, rfl⟩⟩), hI, fk.rf, ⟨by decide, by decide⟩⟩ hP hS (dk_at dkX2_giveKeys_0 10 rfl)

abbrev tr_d_X2_giveKeys_2_5_2 (K1 : Int → St → Prop) (z4 : Int) (z : Int) (u : St) (A25 : St) : Prop := ((IK A25) ∧ (K1 (z4 + 1) A25))
def d_X2_giveKeys_2_5_2 (K1 : Int → St → Prop) (z4 : Int) (z : Int) (u : St) (A25 : St) : Prop := tr_d_X2_giveKeys_2_5_2 K1 z4 z u A25
theorem u_d_X2_giveKeys_2_5_2 {K1 : Int → St → Prop} {z4 : Int} {z : Int} {u : St} {A25 : St} (h : tr_d_X2_giveKeys_2_5_2 K1 z4 z u A25) : d_X2_giveKeys_2_5_2 K1 z4 z u A25 := h
abbrev tr_d_X2_giveKeys_2_5_1 (ta : Nat) (x3 : Int) (z : Int) (u : St) (K1 : Int → St → Prop) (z4 : Int) (A6 : St) : Prop := ((IK A6) ∧ ((0 ≤ z4 ∧ z4 ≤ 2147483647) ∧ (((x3 ≤ z4) ∧ (z = 0 ∧ u = A6)) ∨ ((¬ x3 ≤ z4) ∧ (∃ z13 : Int, q_X2_canTake ta 5 z4 A6 z13 ∧ (((z13 = 0) ∧ (d_X2_giveKeys_2_5_2 K1 z4 z u A6)) ∨ ((¬ z13 = 0) ∧ (∃ A18 : St, A18 = stA A6 21 (5 : Int).toNat z4 ∧ (∃ z19 : Int, ∃ A20 : St, q_X2_giveKeys_2_6 ta x3 A18 z19 A20 ∧ (((z19 = 0) ∧ (d_X2_giveKeys_2_5_2 K1 z4 z u A20)) ∨ ((¬ z19 = 0) ∧ (z = 1 ∧ u = A20))))))))))))
def d_X2_giveKeys_2_5_1 (ta : Nat) (x3 : Int) (z : Int) (u : St) : Nat → Int → St → Prop
  | 0, _, _ => False
  | nn9 + 1, z4, A6 => tr_d_X2_giveKeys_2_5_1 ta x3 z u (fun z4 A6 => d_X2_giveKeys_2_5_1 ta x3 z u nn9 z4 A6) z4 A6
theorem u_d_X2_giveKeys_2_5_1 {ta : Nat} {x3 : Int} {z : Int} {u : St} {nn9 : Nat} {z4 : Int} {A6 : St} (h : tr_d_X2_giveKeys_2_5_1 ta x3 z u (fun z4 A6 => d_X2_giveKeys_2_5_1 ta x3 z u nn9 z4 A6) z4 A6) : d_X2_giveKeys_2_5_1 ta x3 z u (nn9 + 1) z4 A6 := h
abbrev tr_r_X2_giveKeys_2_5 (ta : Nat) (x3 : Int) (A : St) (z : Int) (u : St) : Prop := (∃ z1 : Int, z1 = A (ta + 1) (6 : Int).toNat ∧ (((z1 ≤ 5) ∧ (z = 1 ∧ u = A)) ∨ ((¬ z1 ≤ 5) ∧ (∃ nn9 : Nat, d_X2_giveKeys_2_5_1 ta x3 z u nn9 0 A))))
def r_X2_giveKeys_2_5 (ta : Nat) (x3 : Int) (A : St) (z : Int) (u : St) : Prop := tr_r_X2_giveKeys_2_5 ta x3 A z u
theorem u_r_X2_giveKeys_2_5 {ta : Nat} {x3 : Int} {A : St} {z : Int} {u : St} (h : tr_r_X2_giveKeys_2_5 ta x3 A z u) : r_X2_giveKeys_2_5 ta x3 A z u := h
def q_X2_giveKeys_2_5 (ta : Nat) (x3 : Int) (A : St) (z : Int) (u : St) : Prop := r_X2_giveKeys_2_5 ta x3 A z u ∧ IK u ∧ fk [21] [] A u ∧ (0 ≤ z ∧ z ≤ 1)
def ws_kc_X2_giveKeys_2_5 : List Cond := .code yX2_giveKeys cX2_giveKeys 5 (some .boolean) :: WY
set_option maxHeartbeats 4000000 in
set_option maxRecDepth 100000 in
theorem kc_X2_giveKeys_2_5 (l : Launch) (dC : Nat → ClassId) (dI : Nat → Nat → Nat) (cB cI cJ cZ cQ : ClassId) (aL aS : Nat) (q : Nat → Nat) (A : St) (ta : Nat) (x3 : Int) (hI : IK A) (hta : isT ta) (hx3 : (-2147483648 : Int) ≤ x3 ∧ x3 ≤ 2147483647) : KMi l yX2_giveKeys ws_kc_X2_giveKeys_2_5 ({ frames := 3, cells := 0, slots := 0, locals := 72 } : Room) aL aS (dC, dI) (tyA cB cI cJ cZ cQ) (WK cB cI cJ cZ cQ q) A [.ref (q 20), .ref (q ta), .int (iI 5), .int (iI x3)] (fun z u => r_X2_giveKeys_2_5 ta x3 A z u ∧ IK u ∧ fk [21] [] A u ∧ (0 ≤ z ∧ z ≤ 1)) := by
  refine k_metz (cc := cX2_giveKeys) (maxL := 5) WK_adr (plainFor_of_name (by decide +kernel)) rfl (Nat.le_of_ble_eq_true rfl) (fun z u h => h.2.2.2) (fun p e s m below meth c Q AS ls hx hb hml hown hts hK hDD hA0 hE RET H locs hP hS hl => ?_)
  have hown : s.vm.findClass RX2 = some m.cls := hown
  have hl : lv_has ls 5 [(0, .ref (q 20)), (1, .ref (q ta)), (2, .int (iI 5)), (3, .int (iI x3))] := hl
  have hiX9 : ∀ w ∈ u_ws RX9 TX9 16, w ∈ ws_kc_X2_giveKeys_2_5 := fun w h => List.mem_cons_of_mem _ (wy_layX9 w h)
  have hiX2 : ∀ w ∈ u_ws RX2 TX2 1, w ∈ ws_kc_X2_giveKeys_2_5 := fun w h => List.mem_cons_of_mem _ (wy_layX2 w h)
  refine lv_iload_n hx hb (dk_at dkX2_giveKeys_0 0 rfl) rfl (lv_at hl 2 rfl) ?_
  refine lv_aload_n hx hb (dk_at dkX2_giveKeys_0 1 rfl) rfl (lv_at hl 1 rfl) ?_
  refine va_get (D := (dC, dI)) (ci := 9) (v := .ref (q (ta + 1))) (C := RX9) (T := TX9) (N := 16) hx hb hts hiX9 hown hK hP ta (wkT hta) rfl 0 (by decide) (hts _ (List.mem_cons_of_mem _ wkq_3_31)) (fun _ h9 => h9) rfl (dk_at dkX2_giveKeys_0 2 rfl) ?_
  refine lv_bipush (v := iI 6) hx hb (dk_at dkX2_giveKeys_0 3 rfl) (by decide +kernel) ?_
  refine x_iald (Wf := WK cB cI cJ cZ cQ q) hx hb hK hP (ta + 1) 1 (wkTc hta) rfl (by decide) (by decide) (dk_at dkX2_giveKeys_0 4 rfl) (fun z1 hz1 => ?_)
  have rz1 : (0 : Int) ≤ z1 ∧ z1 ≤ 6 := by rw [hz1]; exact irTc6 hta hI
  have gz1 := Hd.mk hz1
  refine lv_icmp_ge (tgt := 17) hx hb (dk_at dkX2_giveKeys_0 5 rfl) (by decide) (fun c2 => ?_) (fun c2 => ?_)
  · have c2 : z1 ≤ 5 := (i_le (rb rz1 (by decide) (by decide)) ⟨by decide, by decide⟩).mp c2
    refine lv_iconst (v := iI 1) hx hb (dk_at dkX2_giveKeys_0 9 rfl) (by decide +kernel) ?_
    exact RET 1 _ _ _ _ _ ⟨(u_r_X2_giveKeys_2_5 ⟨z1, gz1.out, (Or.inl ⟨c2, ⟨rfl, rfl⟩⟩)⟩), hI, fk.rf, ⟨by decide, by decide⟩⟩ hP hS (dk_at dkX2_giveKeys_0 10 rfl)
  · have c2 : ¬ z1 ≤ 5 := mt (i_le (rb rz1 (by decide) (by decide)) ⟨by decide, by decide⟩).mpr c2
    refine lv_iload_n hx hb (dk_at dkX2_giveKeys_0 6 rfl) rfl (lv_at hl 2 rfl) ?_
    refine lv_bipush (v := iI 6) hx hb (dk_at dkX2_giveKeys_0 7 rfl) (by decide +kernel) ?_
    refine lv_icmp_lt (tgt := 19) hx hb (dk_at dkX2_giveKeys_0 8 rfl) (by decide) (fun _ => ?_) (fun c3 => absurd c3 (by decide +kernel))
    refine lv_iconst (v := iI 0) hx hb (dk_at dkX2_giveKeys_0 11 rfl) (by decide +kernel) ?_
    refine lv_istore (lv' := [(4, .int (iI 0)), (0, .ref (q 20)), (1, .ref (q ta)), (2, .int (iI 5)), (3, .int (iI x3))]) hx hb (dk_at dkX2_giveKeys_0 12 rfl) hl (by decide) rfl (fun ls hl => ?_)
    have L22_7 : ∀ (n10 : Nat) (z4 : Int) (A6 : St) (H : Heap) (locs : List Loc) (ls : Array Slot), (0 ≤ z4 ∧ z4 ≤ 2147483647) → (∀ (z : Int) (u : St), (∃ mm1 : Nat, (d_X2_giveKeys_2_5_1 ta x3 z u mm1 z4 A6)) → r_X2_giveKeys_2_5 ta x3 A z u) → ((2147483648 - z4).toNat = n10) → IK A6 → fk [21] [] A A6 → va_P (dC, dI) vwCl (WK cB cI cJ cZ cQ q A6) H → va_S AS s.heap H locs → lv_has ls 5 [(4, .int (iI z4)), (0, .ref (q 20)), (1, .ref (q ta)), (2, .int (iI 5)), (3, .int (iI x3))] → W p l e (headSpec ws_kc_X2_giveKeys_2_5 ({ frames := 3, cells := 0, slots := 0, locals := 72 } : Room)).room s m [.ref (q 20), .ref (q ta), .int (iI 5), .int (iI x3)].toArray below meth c H locs 0 0 Q (F0 m 22 ls []) := by
      intro n10
      induction n10 using Nat.strongRecOn with
      | ind n10 ih8 =>
        intro z4 A6 H locs ls f9 hk1 hn10 hI hj5 hP hS hl
        have gI11 : Hd (IK A6) := Hd.mk hI
        refine lv_iload hx hb (dk_at dkX2_giveKeys_0 13 rfl) (lv_at hl 0 rfl) ?_
        refine lv_iload_n hx hb (dk_at dkX2_giveKeys_0 14 rfl) rfl (lv_at hl 4 rfl) ?_
        refine lv_icmp_ge (tgt := 67) hx hb (dk_at dkX2_giveKeys_0 15 rfl) (by decide) (fun c12 => ?_) (fun c12 => ?_)
        · have c12 : x3 ≤ z4 := (i_le hx3 (rb f9 (by decide) (by decide))).mp c12
          refine lv_iconst (v := iI 0) hx hb (dk_at dkX2_giveKeys_2 7 rfl) (by decide +kernel) ?_
          exact RET 0 _ _ _ _ _ ⟨hk1 _ _ ⟨0 + 1, (u_d_X2_giveKeys_2_5_1 ⟨gI11.out, ⟨f9, (Or.inl ⟨c12, ⟨rfl, rfl⟩⟩)⟩⟩)⟩, hI, fk.trans (fk.rf) hj5 rfl rfl, ⟨by decide, by decide⟩⟩ hP hS (dk_at dkX2_giveKeys_2 8 rfl)
        · have c12 : ¬ x3 ≤ z4 := mt (i_le hx3 (rb f9 (by decide) (by decide))).mpr c12
          refine lv_aload_n hx hb (dk_at dkX2_giveKeys_1 0 rfl) rfl (lv_at hl 1 rfl) ?_
          refine lv_aload_n hx hb (dk_at dkX2_giveKeys_1 1 rfl) rfl (lv_at hl 2 rfl) ?_
          refine lv_iload_n hx hb (dk_at dkX2_giveKeys_1 2 rfl) rfl (lv_at hl 3 rfl) ?_
          refine lv_iload hx hb (dk_at dkX2_giveKeys_1 3 rfl) (lv_at hl 0 rfl) ?_
          refine k_calli (As := [.ref (q ta), .int (iI 5), .int (iI z4)]) (rest := []) ⟨hx, hb, hml, hown, hts⟩ hE (kc_X2_canTake l dC dI cB cI cJ cZ cQ aL aS q _ ta 5 z4 hI hta ⟨by decide, by decide⟩ (rb f9 (by decide) (by decide))) (cwV 3 hts (goodVk wkq_3_46 wkq_3_47 wkq_3_48 wkq_3_34 wkq_3_49) rfl rfl rfl (by decide +kernel) ⟨Nat.le_of_ble_eq_true rfl, Nat.le_of_ble_eq_true rfl⟩) hK hDD hA0 hP hS 20 2 (wkHR) rfl rfl hl.1 (Nat.le_of_ble_eq_true rfl) (dk_at dkX2_giveKeys_1 4 rfl) (fun z13 A14 H locs hw15 hP hS => ?_)
          obtain ⟨rfl, hw15⟩ := hw15
          have ghw15 : q_X2_canTake ta 5 z4 A6 z13 := hw15
          have hw15 := hw15.2
          have J61_17 : ∀ (A25 : St) (H : Heap) (locs : List Loc) (ls : Array Slot), (∀ (z : Int) (u : St), (∃ mm1 : Nat, (d_X2_giveKeys_2_5_2 (fun z4' A6' => d_X2_giveKeys_2_5_1 ta x3 z u mm1 z4' A6') z4 z u A25)) → r_X2_giveKeys_2_5 ta x3 A z u) → IK A25 → fk [21] [] A6 A25 → va_P (dC, dI) vwCl (WK cB cI cJ cZ cQ q A25) H → va_S AS s.heap H locs → lv_has ls 5 [(4, .int (iI z4)), (0, .ref (q 20)), (1, .ref (q ta)), (2, .int (iI 5)), (3, .int (iI x3))] → W p l e (headSpec ws_kc_X2_giveKeys_2_5 ({ frames := 3, cells := 0, slots := 0, locals := 72 } : Room)).room s m [.ref (q 20), .ref (q ta), .int (iI 5), .int (iI x3)].toArray below meth c H locs 0 0 Q (F0 m 61 ls []) := by
            intro A25 H locs ls hk2 hI hj24 hP hS hl
            have gI26 : Hd (IK A25) := Hd.mk hI
            refine lv_iinc (v := iI (z4 + 1)) (lv' := [(4, .int (iI (z4 + 1))), (0, .ref (q 20)), (1, .ref (q ta)), (2, .int (iI 5)), (3, .int (iI x3))]) hx hb (dk_at dkX2_giveKeys_2 5 rfl) hl (k := 0) rfl (i_inc (by omega)) (by decide) rfl (fun ls hl => ?_)
            refine lv_goto (tgt := 22) hx hb (dk_at dkX2_giveKeys_2 6 rfl) (by decide) ?_
            exact ih8 _ (by omega) (z4 + 1) _ _ _ _ (by omega) (fun zq uq ⟨mm1, hq⟩ => hk2 _ _ ⟨mm1, (u_d_X2_giveKeys_2_5_2 ⟨gI26.out, hq⟩)⟩) rfl hI (fk.trans (fk.trans (fk.rf) hj5 rfl rfl) hj24 rfl rfl) hP hS (lv_sub hl [0, 1, 2, 3, 4] rfl)
          refine lv_if_eq (tgt := 61) hx hb (dk_at dkX2_giveKeys_1 5 rfl) (by decide) (fun c16 => ?_) (fun c16 => ?_)
          · have c16 : z13 = 0 := (i_eq0 (rb hw15 (by decide) (by decide))).mp c16
            exact J61_17 _ _ _ _ (fun zq uq ⟨mm1, hq⟩ => hk1 _ _ ⟨mm1 + 1, (u_d_X2_giveKeys_2_5_1 ⟨gI11.out, ⟨f9, (Or.inr ⟨c12, ⟨z13, ghw15, (Or.inl ⟨c16, hq⟩)⟩⟩)⟩⟩)⟩) hI (fk.rf) hP hS (lv_sub hl [0, 1, 2, 3, 4] rfl)
          · have c16 : ¬ z13 = 0 := mt (i_eq0 (rb hw15 (by decide) (by decide))).mpr c16
            refine lv_aload_n hx hb (dk_at dkX2_giveKeys_1 6 rfl) rfl (lv_at hl 1 rfl) ?_
            refine va_get (D := (dC, dI)) (ci := 2) (v := .ref (q 21)) (C := RX2) (T := TX2) (N := 1) hx hb hts hiX2 hown hK hP 20 (wkHR) rfl 0 (by decide) (hts _ (List.mem_cons_of_mem _ wkq_3_45)) (fun _ h9 => h9) rfl (dk_at dkX2_giveKeys_1 7 rfl) ?_
            refine lv_iload_n hx hb (dk_at dkX2_giveKeys_1 8 rfl) rfl (lv_at hl 3 rfl) ?_
            refine lv_iload hx hb (dk_at dkX2_giveKeys_1 9 rfl) (lv_at hl 0 rfl) ?_
            refine k_iast (Wf := WK cB cI cJ cZ cQ q) hx hb hK hP hDD hS 21 1 (wkHRk) rfl (by decide) (by decide) (dk_at dkX2_giveKeys_1 10 rfl) (wsHRk) (fun H locs A18 hA18 hP hS => ?_)
            have hI := isHRk hA18 hI (show (-2147483648 : Int) ≤ z4 ∧ z4 ≤ 2147483647 from (rb f9 (by decide) (by decide)))
            refine lv_aload_n hx hb (dk_at dkX2_giveKeys_1 11 rfl) rfl (lv_at hl 1 rfl) ?_
            refine lv_aload_n hx hb (dk_at dkX2_giveKeys_1 12 rfl) rfl (lv_at hl 2 rfl) ?_
            refine lv_iload_n hx hb (dk_at dkX2_giveKeys_1 13 rfl) rfl (lv_at hl 3 rfl) ?_
            refine lv_iconst (v := iI 1) hx hb (dk_at dkX2_giveKeys_1 14 rfl) (by decide +kernel) ?_
            refine x_addv (v := 6) hx hb (dk_at dkX2_giveKeys_1 15 rfl) (by omega) ?_
            refine lv_iload_n hx hb (dk_at dkX2_giveKeys_2 0 rfl) rfl (lv_at hl 4 rfl) ?_
            refine k_calli (As := [.ref (q ta), .int (iI 6), .int (iI x3)]) (rest := []) ⟨hx, hb, hml, hown, hts⟩ hE (kc_X2_giveKeys_2_6 l dC dI cB cI cJ cZ cQ aL aS q _ ta x3 hI hta hx3) (cwV 3 hts (goodVk wkq_3_41 wkq_3_42 wkq_3_43 wkq_3_34 wkq_3_44) rfl rfl rfl (by decide +kernel) ⟨Nat.le_of_ble_eq_true rfl, Nat.le_of_ble_eq_true rfl⟩) hK hDD hA0 hP hS 20 2 (wkHR) rfl rfl hl.1 (Nat.le_of_ble_eq_true rfl) (dk_at dkX2_giveKeys_2 1 rfl) (fun z19 A20 H locs hw21 hP hS => ?_)
            have ghw21 : q_X2_giveKeys_2_6 ta x3 A18 z19 A20 := hw21
            obtain ⟨_, hI, hf22, hw21⟩ := hw21
            refine lv_if_eq (tgt := 61) hx hb (dk_at dkX2_giveKeys_2 2 rfl) (by decide) (fun c23 => ?_) (fun c23 => ?_)
            · have c23 : z19 = 0 := (i_eq0 (rb hw21 (by decide) (by decide))).mp c23
              exact J61_17 _ _ _ _ (fun zq uq ⟨mm1, hq⟩ => hk1 _ _ ⟨mm1 + 1, (u_d_X2_giveKeys_2_5_1 ⟨gI11.out, ⟨f9, (Or.inr ⟨c12, ⟨z13, ghw15, (Or.inr ⟨c16, ⟨A18, hA18, ⟨z19, A20, ghw21, (Or.inl ⟨c23, hq⟩)⟩⟩⟩)⟩⟩)⟩⟩)⟩) hI (fk.trans (fk.da (fk.rf) hA18 rfl) hf22 rfl rfl) hP hS (lv_sub hl [0, 1, 2, 3, 4] rfl)
            · have c23 : ¬ z19 = 0 := mt (i_eq0 (rb hw21 (by decide) (by decide))).mpr c23
              refine lv_iconst (v := iI 1) hx hb (dk_at dkX2_giveKeys_2 3 rfl) (by decide +kernel) ?_
              exact RET 1 _ _ _ _ _ ⟨hk1 _ _ ⟨0 + 1, (u_d_X2_giveKeys_2_5_1 ⟨gI11.out, ⟨f9, (Or.inr ⟨c12, ⟨z13, ghw15, (Or.inr ⟨c16, ⟨A18, hA18, ⟨z19, A20, ghw21, (Or.inr ⟨c23, ⟨rfl, rfl⟩⟩)⟩⟩⟩)⟩⟩)⟩⟩)⟩, hI, fk.trans (fk.da (fk.trans (fk.rf) hj5 rfl rfl) hA18 rfl) hf22 rfl rfl, ⟨by decide, by decide⟩⟩ hP hS (dk_at dkX2_giveKeys_2 4 rfl)
    exact L22_7 _ 0 _ _ _ _ (by omega) (fun zq uq ⟨mm1, hq⟩ => (u_r_X2_giveKeys_2_5 ⟨z1, gz1.out, (Or.inr ⟨c2, ⟨mm1, hq⟩⟩)⟩)) rfl hI (fk.rf) hP hS (lv_sub hl [0, 1, 2, 3, 4] rfl)

abbrev tr_d_X2_giveKeys_2_4_2 (K1 : Int → St → Prop) (z4 : Int) (z : Int) (u : St) (A25 : St) : Prop := ((IK A25) ∧ (K1 (z4 + 1) A25))
def d_X2_giveKeys_2_4_2 (K1 : Int → St → Prop) (z4 : Int) (z : Int) (u : St) (A25 : St) : Prop := tr_d_X2_giveKeys_2_4_2 K1 z4 z u A25
theorem u_d_X2_giveKeys_2_4_2 {K1 : Int → St → Prop} {z4 : Int} {z : Int} {u : St} {A25 : St} (h : tr_d_X2_giveKeys_2_4_2 K1 z4 z u A25) : d_X2_giveKeys_2_4_2 K1 z4 z u A25 := h
abbrev tr_d_X2_giveKeys_2_4_1 (ta : Nat) (x3 : Int) (z : Int) (u : St) (K1 : Int → St → Prop) (z4 : Int) (A6 : St) : Prop := ((IK A6) ∧ ((0 ≤ z4 ∧ z4 ≤ 2147483647) ∧ (((x3 ≤ z4) ∧ (z = 0 ∧ u = A6)) ∨ ((¬ x3 ≤ z4) ∧ (∃ z13 : Int, q_X2_canTake ta 4 z4 A6 z13 ∧ (((z13 = 0) ∧ (d_X2_giveKeys_2_4_2 K1 z4 z u A6)) ∨ ((¬ z13 = 0) ∧ (∃ A18 : St, A18 = stA A6 21 (4 : Int).toNat z4 ∧ (∃ z19 : Int, ∃ A20 : St, q_X2_giveKeys_2_5 ta x3 A18 z19 A20 ∧ (((z19 = 0) ∧ (d_X2_giveKeys_2_4_2 K1 z4 z u A20)) ∨ ((¬ z19 = 0) ∧ (z = 1 ∧ u = A20))))))))))))
def d_X2_giveKeys_2_4_1 (ta : Nat) (x3 : Int) (z : Int) (u : St) : Nat → Int → St → Prop
  | 0, _, _ => False
  | nn9 + 1, z4, A6 => tr_d_X2_giveKeys_2_4_1 ta x3 z u (fun z4 A6 => d_X2_giveKeys_2_4_1 ta x3 z u nn9 z4 A6) z4 A6
theorem u_d_X2_giveKeys_2_4_1 {ta : Nat} {x3 : Int} {z : Int} {u : St} {nn9 : Nat} {z4 : Int} {A6 : St} (h : tr_d_X2_giveKeys_2_4_1 ta x3 z u (fun z4 A6 => d_X2_giveKeys_2_4_1 ta x3 z u nn9 z4 A6) z4 A6) : d_X2_giveKeys_2_4_1 ta x3 z u (nn9 + 1) z4 A6 := h
abbrev tr_r_X2_giveKeys_2_4 (ta : Nat) (x3 : Int) (A : St) (z : Int) (u : St) : Prop := (∃ z1 : Int, z1 = A (ta + 1) (6 : Int).toNat ∧ (((z1 ≤ 4) ∧ (z = 1 ∧ u = A)) ∨ ((¬ z1 ≤ 4) ∧ (∃ nn9 : Nat, d_X2_giveKeys_2_4_1 ta x3 z u nn9 0 A))))
def r_X2_giveKeys_2_4 (ta : Nat) (x3 : Int) (A : St) (z : Int) (u : St) : Prop := tr_r_X2_giveKeys_2_4 ta x3 A z u
theorem u_r_X2_giveKeys_2_4 {ta : Nat} {x3 : Int} {A : St} {z : Int} {u : St} (h : tr_r_X2_giveKeys_2_4 ta x3 A z u) : r_X2_giveKeys_2_4 ta x3 A z u := h
def q_X2_giveKeys_2_4 (ta : Nat) (x3 : Int) (A : St) (z : Int) (u : St) : Prop := r_X2_giveKeys_2_4 ta x3 A z u ∧ IK u ∧ fk [21] [] A u ∧ (0 ≤ z ∧ z ≤ 1)
def ws_kc_X2_giveKeys_2_4 : List Cond := .code yX2_giveKeys cX2_giveKeys 5 (some .boolean) :: WY
set_option maxHeartbeats 4000000 in
set_option maxRecDepth 100000 in
theorem kc_X2_giveKeys_2_4 (l : Launch) (dC : Nat → ClassId) (dI : Nat → Nat → Nat) (cB cI cJ cZ cQ : ClassId) (aL aS : Nat) (q : Nat → Nat) (A : St) (ta : Nat) (x3 : Int) (hI : IK A) (hta : isT ta) (hx3 : (-2147483648 : Int) ≤ x3 ∧ x3 ≤ 2147483647) : KMi l yX2_giveKeys ws_kc_X2_giveKeys_2_4 ({ frames := 4, cells := 0, slots := 0, locals := 96 } : Room) aL aS (dC, dI) (tyA cB cI cJ cZ cQ) (WK cB cI cJ cZ cQ q) A [.ref (q 20), .ref (q ta), .int (iI 4), .int (iI x3)] (fun z u => r_X2_giveKeys_2_4 ta x3 A z u ∧ IK u ∧ fk [21] [] A u ∧ (0 ≤ z ∧ z ≤ 1)) := by
  refine k_metz (cc := cX2_giveKeys) (maxL := 5) WK_adr (plainFor_of_name (by decide +kernel)) rfl (Nat.le_of_ble_eq_true rfl) (fun z u h => h.2.2.2) (fun p e s m below meth c Q AS ls hx hb hml hown hts hK hDD hA0 hE RET H locs hP hS hl => ?_)
  have hown : s.vm.findClass RX2 = some m.cls := hown
  have hl : lv_has ls 5 [(0, .ref (q 20)), (1, .ref (q ta)), (2, .int (iI 4)), (3, .int (iI x3))] := hl
  have hiX9 : ∀ w ∈ u_ws RX9 TX9 16, w ∈ ws_kc_X2_giveKeys_2_4 := fun w h => List.mem_cons_of_mem _ (wy_layX9 w h)
  have hiX2 : ∀ w ∈ u_ws RX2 TX2 1, w ∈ ws_kc_X2_giveKeys_2_4 := fun w h => List.mem_cons_of_mem _ (wy_layX2 w h)
  refine lv_iload_n hx hb (dk_at dkX2_giveKeys_0 0 rfl) rfl (lv_at hl 2 rfl) ?_
  refine lv_aload_n hx hb (dk_at dkX2_giveKeys_0 1 rfl) rfl (lv_at hl 1 rfl) ?_
  refine va_get (D := (dC, dI)) (ci := 9) (v := .ref (q (ta + 1))) (C := RX9) (T := TX9) (N := 16) hx hb hts hiX9 hown hK hP ta (wkT hta) rfl 0 (by decide) (hts _ (List.mem_cons_of_mem _ wkq_3_31)) (fun _ h9 => h9) rfl (dk_at dkX2_giveKeys_0 2 rfl) ?_
  refine lv_bipush (v := iI 6) hx hb (dk_at dkX2_giveKeys_0 3 rfl) (by decide +kernel) ?_
  refine x_iald (Wf := WK cB cI cJ cZ cQ q) hx hb hK hP (ta + 1) 1 (wkTc hta) rfl (by decide) (by decide) (dk_at dkX2_giveKeys_0 4 rfl) (fun z1 hz1 => ?_)
  have rz1 : (0 : Int) ≤ z1 ∧ z1 ≤ 6 := by rw [hz1]; exact irTc6 hta hI
  have gz1 := Hd.mk hz1
  refine lv_icmp_ge (tgt := 17) hx hb (dk_at dkX2_giveKeys_0 5 rfl) (by decide) (fun c2 => ?_) (fun c2 => ?_)
  · have c2 : z1 ≤ 4 := (i_le (rb rz1 (by decide) (by decide)) ⟨by decide, by decide⟩).mp c2
    refine lv_iconst (v := iI 1) hx hb (dk_at dkX2_giveKeys_0 9 rfl) (by decide +kernel) ?_
    exact RET 1 _ _ _ _ _ ⟨(u_r_X2_giveKeys_2_4 ⟨z1, gz1.out, (Or.inl ⟨c2, ⟨rfl, rfl⟩⟩)⟩), hI, fk.rf, ⟨by decide, by decide⟩⟩ hP hS (dk_at dkX2_giveKeys_0 10 rfl)
  · have c2 : ¬ z1 ≤ 4 := mt (i_le (rb rz1 (by decide) (by decide)) ⟨by decide, by decide⟩).mpr c2
    refine lv_iload_n hx hb (dk_at dkX2_giveKeys_0 6 rfl) rfl (lv_at hl 2 rfl) ?_
    refine lv_bipush (v := iI 6) hx hb (dk_at dkX2_giveKeys_0 7 rfl) (by decide +kernel) ?_
    refine lv_icmp_lt (tgt := 19) hx hb (dk_at dkX2_giveKeys_0 8 rfl) (by decide) (fun _ => ?_) (fun c3 => absurd c3 (by decide +kernel))
    refine lv_iconst (v := iI 0) hx hb (dk_at dkX2_giveKeys_0 11 rfl) (by decide +kernel) ?_
    refine lv_istore (lv' := [(4, .int (iI 0)), (0, .ref (q 20)), (1, .ref (q ta)), (2, .int (iI 4)), (3, .int (iI x3))]) hx hb (dk_at dkX2_giveKeys_0 12 rfl) hl (by decide) rfl (fun ls hl => ?_)
    have L22_7 : ∀ (n10 : Nat) (z4 : Int) (A6 : St) (H : Heap) (locs : List Loc) (ls : Array Slot), (0 ≤ z4 ∧ z4 ≤ 2147483647) → (∀ (z : Int) (u : St), (∃ mm1 : Nat, (d_X2_giveKeys_2_4_1 ta x3 z u mm1 z4 A6)) → r_X2_giveKeys_2_4 ta x3 A z u) → ((2147483648 - z4).toNat = n10) → IK A6 → fk [21] [] A A6 → va_P (dC, dI) vwCl (WK cB cI cJ cZ cQ q A6) H → va_S AS s.heap H locs → lv_has ls 5 [(4, .int (iI z4)), (0, .ref (q 20)), (1, .ref (q ta)), (2, .int (iI 4)), (3, .int (iI x3))] → W p l e (headSpec ws_kc_X2_giveKeys_2_4 ({ frames := 4, cells := 0, slots := 0, locals := 96 } : Room)).room s m [.ref (q 20), .ref (q ta), .int (iI 4), .int (iI x3)].toArray below meth c H locs 0 0 Q (F0 m 22 ls []) := by
      intro n10
      induction n10 using Nat.strongRecOn with
      | ind n10 ih8 =>
        intro z4 A6 H locs ls f9 hk1 hn10 hI hj5 hP hS hl
        have gI11 : Hd (IK A6) := Hd.mk hI
        refine lv_iload hx hb (dk_at dkX2_giveKeys_0 13 rfl) (lv_at hl 0 rfl) ?_
        refine lv_iload_n hx hb (dk_at dkX2_giveKeys_0 14 rfl) rfl (lv_at hl 4 rfl) ?_
        refine lv_icmp_ge (tgt := 67) hx hb (dk_at dkX2_giveKeys_0 15 rfl) (by decide) (fun c12 => ?_) (fun c12 => ?_)
        · have c12 : x3 ≤ z4 := (i_le hx3 (rb f9 (by decide) (by decide))).mp c12
          refine lv_iconst (v := iI 0) hx hb (dk_at dkX2_giveKeys_2 7 rfl) (by decide +kernel) ?_
          exact RET 0 _ _ _ _ _ ⟨hk1 _ _ ⟨0 + 1, (u_d_X2_giveKeys_2_4_1 ⟨gI11.out, ⟨f9, (Or.inl ⟨c12, ⟨rfl, rfl⟩⟩)⟩⟩)⟩, hI, fk.trans (fk.rf) hj5 rfl rfl, ⟨by decide, by decide⟩⟩ hP hS (dk_at dkX2_giveKeys_2 8 rfl)
        · have c12 : ¬ x3 ≤ z4 := mt (i_le hx3 (rb f9 (by decide) (by decide))).mpr c12
          refine lv_aload_n hx hb (dk_at dkX2_giveKeys_1 0 rfl) rfl (lv_at hl 1 rfl) ?_
          refine lv_aload_n hx hb (dk_at dkX2_giveKeys_1 1 rfl) rfl (lv_at hl 2 rfl) ?_
          refine lv_iload_n hx hb (dk_at dkX2_giveKeys_1 2 rfl) rfl (lv_at hl 3 rfl) ?_
          refine lv_iload hx hb (dk_at dkX2_giveKeys_1 3 rfl) (lv_at hl 0 rfl) ?_
          refine k_calli (As := [.ref (q ta), .int (iI 4), .int (iI z4)]) (rest := []) ⟨hx, hb, hml, hown, hts⟩ hE (kc_X2_canTake l dC dI cB cI cJ cZ cQ aL aS q _ ta 4 z4 hI hta ⟨by decide, by decide⟩ (rb f9 (by decide) (by decide))) (cwV 3 hts (goodVk wkq_3_46 wkq_3_47 wkq_3_48 wkq_3_34 wkq_3_49) rfl rfl rfl (by decide +kernel) ⟨Nat.le_of_ble_eq_true rfl, Nat.le_of_ble_eq_true rfl⟩) hK hDD hA0 hP hS 20 2 (wkHR) rfl rfl hl.1 (Nat.le_of_ble_eq_true rfl) (dk_at dkX2_giveKeys_1 4 rfl) (fun z13 A14 H locs hw15 hP hS => ?_)
          obtain ⟨rfl, hw15⟩ := hw15
          have ghw15 : q_X2_canTake ta 4 z4 A6 z13 := hw15
          have hw15 := hw15.2
          have J61_17 : ∀ (A25 : St) (H : Heap) (locs : List Loc) (ls : Array Slot), (∀ (z : Int) (u : St), (∃ mm1 : Nat, (d_X2_giveKeys_2_4_2 (fun z4' A6' => d_X2_giveKeys_2_4_1 ta x3 z u mm1 z4' A6') z4 z u A25)) → r_X2_giveKeys_2_4 ta x3 A z u) → IK A25 → fk [21] [] A6 A25 → va_P (dC, dI) vwCl (WK cB cI cJ cZ cQ q A25) H → va_S AS s.heap H locs → lv_has ls 5 [(4, .int (iI z4)), (0, .ref (q 20)), (1, .ref (q ta)), (2, .int (iI 4)), (3, .int (iI x3))] → W p l e (headSpec ws_kc_X2_giveKeys_2_4 ({ frames := 4, cells := 0, slots := 0, locals := 96 } : Room)).room s m [.ref (q 20), .ref (q ta), .int (iI 4), .int (iI x3)].toArray below meth c H locs 0 0 Q (F0 m 61 ls []) := by
            intro A25 H locs ls hk2 hI hj24 hP hS hl
            have gI26 : Hd (IK A25) := Hd.mk hI
            refine lv_iinc (v := iI (z4 + 1)) (lv' := [(4, .int (iI (z4 + 1))), (0, .ref (q 20)), (1, .ref (q ta)), (2, .int (iI 4)), (3, .int (iI x3))]) hx hb (dk_at dkX2_giveKeys_2 5 rfl) hl (k := 0) rfl (i_inc (by omega)) (by decide) rfl (fun ls hl => ?_)
            refine lv_goto (tgt := 22) hx hb (dk_at dkX2_giveKeys_2 6 rfl) (by decide) ?_
            exact ih8 _ (by omega) (z4 + 1) _ _ _ _ (by omega) (fun zq uq ⟨mm1, hq⟩ => hk2 _ _ ⟨mm1, (u_d_X2_giveKeys_2_4_2 ⟨gI26.out, hq⟩)⟩) rfl hI (fk.trans (fk.trans (fk.rf) hj5 rfl rfl) hj24 rfl rfl) hP hS (lv_sub hl [0, 1, 2, 3, 4] rfl)
          refine lv_if_eq (tgt := 61) hx hb (dk_at dkX2_giveKeys_1 5 rfl) (by decide) (fun c16 => ?_) (fun c16 => ?_)
          · have c16 : z13 = 0 := (i_eq0 (rb hw15 (by decide) (by decide))).mp c16
            exact J61_17 _ _ _ _ (fun zq uq ⟨mm1, hq⟩ => hk1 _ _ ⟨mm1 + 1, (u_d_X2_giveKeys_2_4_1 ⟨gI11.out, ⟨f9, (Or.inr ⟨c12, ⟨z13, ghw15, (Or.inl ⟨c16, hq⟩)⟩⟩)⟩⟩)⟩) hI (fk.rf) hP hS (lv_sub hl [0, 1, 2, 3, 4] rfl)
          · have c16 : ¬ z13 = 0 := mt (i_eq0 (rb hw15 (by decide) (by decide))).mpr c16
            refine lv_aload_n hx hb (dk_at dkX2_giveKeys_1 6 rfl) rfl (lv_at hl 1 rfl) ?_
            refine va_get (D := (dC, dI)) (ci := 2) (v := .ref (q 21)) (C := RX2) (T := TX2) (N := 1) hx hb hts hiX2 hown hK hP 20 (wkHR) rfl 0 (by decide) (hts _ (List.mem_cons_of_mem _ wkq_3_45)) (fun _ h9 => h9) rfl (dk_at dkX2_giveKeys_1 7 rfl) ?_
            refine lv_iload_n hx hb (dk_at dkX2_giveKeys_1 8 rfl) rfl (lv_at hl 3 rfl) ?_
            refine lv_iload hx hb (dk_at dkX2_giveKeys_1 9 rfl) (lv_at hl 0 rfl) ?_
            refine k_iast (Wf := WK cB cI cJ cZ cQ q) hx hb hK hP hDD hS 21 1 (wkHRk) rfl (by decide) (by decide) (dk_at dkX2_giveKeys_1 10 rfl) (wsHRk) (fun H locs A18 hA18 hP hS => ?_)
            have hI := isHRk hA18 hI (show (-2147483648 : Int) ≤ z4 ∧ z4 ≤ 2147483647 from (rb f9 (by decide) (by decide)))
            refine lv_aload_n hx hb (dk_at dkX2_giveKeys_1 11 rfl) rfl (lv_at hl 1 rfl) ?_
            refine lv_aload_n hx hb (dk_at dkX2_giveKeys_1 12 rfl) rfl (lv_at hl 2 rfl) ?_
            refine lv_iload_n hx hb (dk_at dkX2_giveKeys_1 13 rfl) rfl (lv_at hl 3 rfl) ?_
            refine lv_iconst (v := iI 1) hx hb (dk_at dkX2_giveKeys_1 14 rfl) (by decide +kernel) ?_
            refine x_addv (v := 5) hx hb (dk_at dkX2_giveKeys_1 15 rfl) (by omega) ?_
            refine lv_iload_n hx hb (dk_at dkX2_giveKeys_2 0 rfl) rfl (lv_at hl 4 rfl) ?_
            refine k_calli (As := [.ref (q ta), .int (iI 5), .int (iI x3)]) (rest := []) ⟨hx, hb, hml, hown, hts⟩ hE (kc_X2_giveKeys_2_5 l dC dI cB cI cJ cZ cQ aL aS q _ ta x3 hI hta hx3) (cwV 3 hts (goodVk wkq_3_41 wkq_3_42 wkq_3_43 wkq_3_34 wkq_3_44) rfl rfl rfl (by decide +kernel) ⟨Nat.le_of_ble_eq_true rfl, Nat.le_of_ble_eq_true rfl⟩) hK hDD hA0 hP hS 20 2 (wkHR) rfl rfl hl.1 (Nat.le_of_ble_eq_true rfl) (dk_at dkX2_giveKeys_2 1 rfl) (fun z19 A20 H locs hw21 hP hS => ?_)
            have ghw21 : q_X2_giveKeys_2_5 ta x3 A18 z19 A20 := hw21
            obtain ⟨_, hI, hf22, hw21⟩ := hw21
            refine lv_if_eq (tgt := 61) hx hb (dk_at dkX2_giveKeys_2 2 rfl) (by decide) (fun c23 => ?_) (fun c23 => ?_)
            · have c23 : z19 = 0 := (i_eq0 (rb hw21 (by decide) (by decide))).mp c23
              exact J61_17 _ _ _ _ (fun zq uq ⟨mm1, hq⟩ => hk1 _ _ ⟨mm1 + 1, (u_d_X2_giveKeys_2_4_1 ⟨gI11.out, ⟨f9, (Or.inr ⟨c12, ⟨z13, ghw15, (Or.inr ⟨c16, ⟨A18, hA18, ⟨z19, A20, ghw21, (Or.inl ⟨c23, hq⟩)⟩⟩⟩)⟩⟩)⟩⟩)⟩) hI (fk.trans (fk.da (fk.rf) hA18 rfl) hf22 rfl rfl) hP hS (lv_sub hl [0, 1, 2, 3, 4] rfl)
            · have c23 : ¬ z19 = 0 := mt (i_eq0 (rb hw21 (by decide) (by decide))).mpr c23
              refine lv_iconst (v := iI 1) hx hb (dk_at dkX2_giveKeys_2 3 rfl) (by decide +kernel) ?_
              exact RET 1 _ _ _ _ _ ⟨hk1 _ _ ⟨0 + 1, (u_d_X2_giveKeys_2_4_1 ⟨gI11.out, ⟨f9, (Or.inr ⟨c12, ⟨z13, ghw15, (Or.inr ⟨c16, ⟨A18, hA18, ⟨z19, A20, ghw21, (Or.inr ⟨c23, ⟨rfl, rfl⟩⟩)⟩⟩⟩)⟩⟩)⟩⟩)⟩, hI, fk.trans (fk.da (fk.trans (fk.rf) hj5 rfl rfl) hA18 rfl) hf22 rfl rfl, ⟨by decide, by decide⟩⟩ hP hS (dk_at dkX2_giveKeys_2 4 rfl)
    exact L22_7 _ 0 _ _ _ _ (by omega) (fun zq uq ⟨mm1, hq⟩ => (u_r_X2_giveKeys_2_4 ⟨z1, gz1.out, (Or.inr ⟨c2, ⟨mm1, hq⟩⟩)⟩)) rfl hI (fk.rf) hP hS (lv_sub hl [0, 1, 2, 3, 4] rfl)

abbrev tr_d_X2_giveKeys_2_3_2 (K1 : Int → St → Prop) (z4 : Int) (z : Int) (u : St) (A25 : St) : Prop := ((IK A25) ∧ (K1 (z4 + 1) A25))
def d_X2_giveKeys_2_3_2 (K1 : Int → St → Prop) (z4 : Int) (z : Int) (u : St) (A25 : St) : Prop := tr_d_X2_giveKeys_2_3_2 K1 z4 z u A25
theorem u_d_X2_giveKeys_2_3_2 {K1 : Int → St → Prop} {z4 : Int} {z : Int} {u : St} {A25 : St} (h : tr_d_X2_giveKeys_2_3_2 K1 z4 z u A25) : d_X2_giveKeys_2_3_2 K1 z4 z u A25 := h
abbrev tr_d_X2_giveKeys_2_3_1 (ta : Nat) (x3 : Int) (z : Int) (u : St) (K1 : Int → St → Prop) (z4 : Int) (A6 : St) : Prop := ((IK A6) ∧ ((0 ≤ z4 ∧ z4 ≤ 2147483647) ∧ (((x3 ≤ z4) ∧ (z = 0 ∧ u = A6)) ∨ ((¬ x3 ≤ z4) ∧ (∃ z13 : Int, q_X2_canTake ta 3 z4 A6 z13 ∧ (((z13 = 0) ∧ (d_X2_giveKeys_2_3_2 K1 z4 z u A6)) ∨ ((¬ z13 = 0) ∧ (∃ A18 : St, A18 = stA A6 21 (3 : Int).toNat z4 ∧ (∃ z19 : Int, ∃ A20 : St, q_X2_giveKeys_2_4 ta x3 A18 z19 A20 ∧ (((z19 = 0) ∧ (d_X2_giveKeys_2_3_2 K1 z4 z u A20)) ∨ ((¬ z19 = 0) ∧ (z = 1 ∧ u = A20))))))))))))
def d_X2_giveKeys_2_3_1 (ta : Nat) (x3 : Int) (z : Int) (u : St) : Nat → Int → St → Prop
  | 0, _, _ => False
  | nn9 + 1, z4, A6 => tr_d_X2_giveKeys_2_3_1 ta x3 z u (fun z4 A6 => d_X2_giveKeys_2_3_1 ta x3 z u nn9 z4 A6) z4 A6
theorem u_d_X2_giveKeys_2_3_1 {ta : Nat} {x3 : Int} {z : Int} {u : St} {nn9 : Nat} {z4 : Int} {A6 : St} (h : tr_d_X2_giveKeys_2_3_1 ta x3 z u (fun z4 A6 => d_X2_giveKeys_2_3_1 ta x3 z u nn9 z4 A6) z4 A6) : d_X2_giveKeys_2_3_1 ta x3 z u (nn9 + 1) z4 A6 := h
abbrev tr_r_X2_giveKeys_2_3 (ta : Nat) (x3 : Int) (A : St) (z : Int) (u : St) : Prop := (∃ z1 : Int, z1 = A (ta + 1) (6 : Int).toNat ∧ (((z1 ≤ 3) ∧ (z = 1 ∧ u = A)) ∨ ((¬ z1 ≤ 3) ∧ (∃ nn9 : Nat, d_X2_giveKeys_2_3_1 ta x3 z u nn9 0 A))))
def r_X2_giveKeys_2_3 (ta : Nat) (x3 : Int) (A : St) (z : Int) (u : St) : Prop := tr_r_X2_giveKeys_2_3 ta x3 A z u
theorem u_r_X2_giveKeys_2_3 {ta : Nat} {x3 : Int} {A : St} {z : Int} {u : St} (h : tr_r_X2_giveKeys_2_3 ta x3 A z u) : r_X2_giveKeys_2_3 ta x3 A z u := h
def q_X2_giveKeys_2_3 (ta : Nat) (x3 : Int) (A : St) (z : Int) (u : St) : Prop := r_X2_giveKeys_2_3 ta x3 A z u ∧ IK u ∧ fk [21] [] A u ∧ (0 ≤ z ∧ z ≤ 1)
def ws_kc_X2_giveKeys_2_3 : List Cond := .code yX2_giveKeys cX2_giveKeys 5 (some .boolean) :: WY
set_option maxHeartbeats 4000000 in
set_option maxRecDepth 100000 in
theorem kc_X2_giveKeys_2_3 (l : Launch) (dC : Nat → ClassId) (dI : Nat → Nat → Nat) (cB cI cJ cZ cQ : ClassId) (aL aS : Nat) (q : Nat → Nat) (A : St) (ta : Nat) (x3 : Int) (hI : IK A) (hta : isT ta) (hx3 : (-2147483648 : Int) ≤ x3 ∧ x3 ≤ 2147483647) : KMi l yX2_giveKeys ws_kc_X2_giveKeys_2_3 ({ frames := 5, cells := 0, slots := 0, locals := 120 } : Room) aL aS (dC, dI) (tyA cB cI cJ cZ cQ) (WK cB cI cJ cZ cQ q) A [.ref (q 20), .ref (q ta), .int (iI 3), .int (iI x3)] (fun z u => r_X2_giveKeys_2_3 ta x3 A z u ∧ IK u ∧ fk [21] [] A u ∧ (0 ≤ z ∧ z ≤ 1)) := by
  refine k_metz (cc := cX2_giveKeys) (maxL := 5) WK_adr (plainFor_of_name (by decide +kernel)) rfl (Nat.le_of_ble_eq_true rfl) (fun z u h => h.2.2.2) (fun p e s m below meth c Q AS ls hx hb hml hown hts hK hDD hA0 hE RET H locs hP hS hl => ?_)
  have hown : s.vm.findClass RX2 = some m.cls := hown
  have hl : lv_has ls 5 [(0, .ref (q 20)), (1, .ref (q ta)), (2, .int (iI 3)), (3, .int (iI x3))] := hl
  have hiX9 : ∀ w ∈ u_ws RX9 TX9 16, w ∈ ws_kc_X2_giveKeys_2_3 := fun w h => List.mem_cons_of_mem _ (wy_layX9 w h)
  have hiX2 : ∀ w ∈ u_ws RX2 TX2 1, w ∈ ws_kc_X2_giveKeys_2_3 := fun w h => List.mem_cons_of_mem _ (wy_layX2 w h)
  refine lv_iload_n hx hb (dk_at dkX2_giveKeys_0 0 rfl) rfl (lv_at hl 2 rfl) ?_
  refine lv_aload_n hx hb (dk_at dkX2_giveKeys_0 1 rfl) rfl (lv_at hl 1 rfl) ?_
  refine va_get (D := (dC, dI)) (ci := 9) (v := .ref (q (ta + 1))) (C := RX9) (T := TX9) (N := 16) hx hb hts hiX9 hown hK hP ta (wkT hta) rfl 0 (by decide) (hts _ (List.mem_cons_of_mem _ wkq_3_31)) (fun _ h9 => h9) rfl (dk_at dkX2_giveKeys_0 2 rfl) ?_
  refine lv_bipush (v := iI 6) hx hb (dk_at dkX2_giveKeys_0 3 rfl) (by decide +kernel) ?_
  refine x_iald (Wf := WK cB cI cJ cZ cQ q) hx hb hK hP (ta + 1) 1 (wkTc hta) rfl (by decide) (by decide) (dk_at dkX2_giveKeys_0 4 rfl) (fun z1 hz1 => ?_)
  have rz1 : (0 : Int) ≤ z1 ∧ z1 ≤ 6 := by rw [hz1]; exact irTc6 hta hI
  have gz1 := Hd.mk hz1
  refine lv_icmp_ge (tgt := 17) hx hb (dk_at dkX2_giveKeys_0 5 rfl) (by decide) (fun c2 => ?_) (fun c2 => ?_)
  · have c2 : z1 ≤ 3 := (i_le (rb rz1 (by decide) (by decide)) ⟨by decide, by decide⟩).mp c2
    refine lv_iconst (v := iI 1) hx hb (dk_at dkX2_giveKeys_0 9 rfl) (by decide +kernel) ?_
    exact RET 1 _ _ _ _ _ ⟨(u_r_X2_giveKeys_2_3 ⟨z1, gz1.out, (Or.inl ⟨c2, ⟨rfl, rfl⟩⟩)⟩), hI, fk.rf, ⟨by decide, by decide⟩⟩ hP hS (dk_at dkX2_giveKeys_0 10 rfl)
  · have c2 : ¬ z1 ≤ 3 := mt (i_le (rb rz1 (by decide) (by decide)) ⟨by decide, by decide⟩).mpr c2
    refine lv_iload_n hx hb (dk_at dkX2_giveKeys_0 6 rfl) rfl (lv_at hl 2 rfl) ?_
    refine lv_bipush (v := iI 6) hx hb (dk_at dkX2_giveKeys_0 7 rfl) (by decide +kernel) ?_
    refine lv_icmp_lt (tgt := 19) hx hb (dk_at dkX2_giveKeys_0 8 rfl) (by decide) (fun _ => ?_) (fun c3 => absurd c3 (by decide +kernel))
    refine lv_iconst (v := iI 0) hx hb (dk_at dkX2_giveKeys_0 11 rfl) (by decide +kernel) ?_
    refine lv_istore (lv' := [(4, .int (iI 0)), (0, .ref (q 20)), (1, .ref (q ta)), (2, .int (iI 3)), (3, .int (iI x3))]) hx hb (dk_at dkX2_giveKeys_0 12 rfl) hl (by decide) rfl (fun ls hl => ?_)
    have L22_7 : ∀ (n10 : Nat) (z4 : Int) (A6 : St) (H : Heap) (locs : List Loc) (ls : Array Slot), (0 ≤ z4 ∧ z4 ≤ 2147483647) → (∀ (z : Int) (u : St), (∃ mm1 : Nat, (d_X2_giveKeys_2_3_1 ta x3 z u mm1 z4 A6)) → r_X2_giveKeys_2_3 ta x3 A z u) → ((2147483648 - z4).toNat = n10) → IK A6 → fk [21] [] A A6 → va_P (dC, dI) vwCl (WK cB cI cJ cZ cQ q A6) H → va_S AS s.heap H locs → lv_has ls 5 [(4, .int (iI z4)), (0, .ref (q 20)), (1, .ref (q ta)), (2, .int (iI 3)), (3, .int (iI x3))] → W p l e (headSpec ws_kc_X2_giveKeys_2_3 ({ frames := 5, cells := 0, slots := 0, locals := 120 } : Room)).room s m [.ref (q 20), .ref (q ta), .int (iI 3), .int (iI x3)].toArray below meth c H locs 0 0 Q (F0 m 22 ls []) := by
      intro n10
      induction n10 using Nat.strongRecOn with
      | ind n10 ih8 =>
        intro z4 A6 H locs ls f9 hk1 hn10 hI hj5 hP hS hl
        have gI11 : Hd (IK A6) := Hd.mk hI
        refine lv_iload hx hb (dk_at dkX2_giveKeys_0 13 rfl) (lv_at hl 0 rfl) ?_
        refine lv_iload_n hx hb (dk_at dkX2_giveKeys_0 14 rfl) rfl (lv_at hl 4 rfl) ?_
        refine lv_icmp_ge (tgt := 67) hx hb (dk_at dkX2_giveKeys_0 15 rfl) (by decide) (fun c12 => ?_) (fun c12 => ?_)
        · have c12 : x3 ≤ z4 := (i_le hx3 (rb f9 (by decide) (by decide))).mp c12
          refine lv_iconst (v := iI 0) hx hb (dk_at dkX2_giveKeys_2 7 rfl) (by decide +kernel) ?_
          exact RET 0 _ _ _ _ _ ⟨hk1 _ _ ⟨0 + 1, (u_d_X2_giveKeys_2_3_1 ⟨gI11.out, ⟨f9, (Or.inl ⟨c12, ⟨rfl, rfl⟩⟩)⟩⟩)⟩, hI, fk.trans (fk.rf) hj5 rfl rfl, ⟨by decide, by decide⟩⟩ hP hS (dk_at dkX2_giveKeys_2 8 rfl)
        · have c12 : ¬ x3 ≤ z4 := mt (i_le hx3 (rb f9 (by decide) (by decide))).mpr c12
          refine lv_aload_n hx hb (dk_at dkX2_giveKeys_1 0 rfl) rfl (lv_at hl 1 rfl) ?_
          refine lv_aload_n hx hb (dk_at dkX2_giveKeys_1 1 rfl) rfl (lv_at hl 2 rfl) ?_
          refine lv_iload_n hx hb (dk_at dkX2_giveKeys_1 2 rfl) rfl (lv_at hl 3 rfl) ?_
          refine lv_iload hx hb (dk_at dkX2_giveKeys_1 3 rfl) (lv_at hl 0 rfl) ?_
          refine k_calli (As := [.ref (q ta), .int (iI 3), .int (iI z4)]) (rest := []) ⟨hx, hb, hml, hown, hts⟩ hE (kc_X2_canTake l dC dI cB cI cJ cZ cQ aL aS q _ ta 3 z4 hI hta ⟨by decide, by decide⟩ (rb f9 (by decide) (by decide))) (cwV 3 hts (goodVk wkq_3_46 wkq_3_47 wkq_3_48 wkq_3_34 wkq_3_49) rfl rfl rfl (by decide +kernel) ⟨Nat.le_of_ble_eq_true rfl, Nat.le_of_ble_eq_true rfl⟩) hK hDD hA0 hP hS 20 2 (wkHR) rfl rfl hl.1 (Nat.le_of_ble_eq_true rfl) (dk_at dkX2_giveKeys_1 4 rfl) (fun z13 A14 H locs hw15 hP hS => ?_)
          obtain ⟨rfl, hw15⟩ := hw15
          have ghw15 : q_X2_canTake ta 3 z4 A6 z13 := hw15
          have hw15 := hw15.2
          have J61_17 : ∀ (A25 : St) (H : Heap) (locs : List Loc) (ls : Array Slot), (∀ (z : Int) (u : St), (∃ mm1 : Nat, (d_X2_giveKeys_2_3_2 (fun z4' A6' => d_X2_giveKeys_2_3_1 ta x3 z u mm1 z4' A6') z4 z u A25)) → r_X2_giveKeys_2_3 ta x3 A z u) → IK A25 → fk [21] [] A6 A25 → va_P (dC, dI) vwCl (WK cB cI cJ cZ cQ q A25) H → va_S AS s.heap H locs → lv_has ls 5 [(4, .int (iI z4)), (0, .ref (q 20)), (1, .ref (q ta)), (2, .int (iI 3)), (3, .int (iI x3))] → W p l e (headSpec ws_kc_X2_giveKeys_2_3 ({ frames := 5, cells := 0, slots := 0, locals := 120 } : Room)).room s m [.ref (q 20), .ref (q ta), .int (iI 3), .int (iI x3)].toArray below meth c H locs 0 0 Q (F0 m 61 ls []) := by
            intro A25 H locs ls hk2 hI hj24 hP hS hl
            have gI26 : Hd (IK A25) := Hd.mk hI
            refine lv_iinc (v := iI (z4 + 1)) (lv' := [(4, .int (iI (z4 + 1))), (0, .ref (q 20)), (1, .ref (q ta)), (2, .int (iI 3)), (3, .int (iI x3))]) hx hb (dk_at dkX2_giveKeys_2 5 rfl) hl (k := 0) rfl (i_inc (by omega)) (by decide) rfl (fun ls hl => ?_)
            refine lv_goto (tgt := 22) hx hb (dk_at dkX2_giveKeys_2 6 rfl) (by decide) ?_
            exact ih8 _ (by omega) (z4 + 1) _ _ _ _ (by omega) (fun zq uq ⟨mm1, hq⟩ => hk2 _ _ ⟨mm1, (u_d_X2_giveKeys_2_3_2 ⟨gI26.out, hq⟩)⟩) rfl hI (fk.trans (fk.trans (fk.rf) hj5 rfl rfl) hj24 rfl rfl) hP hS (lv_sub hl [0, 1, 2, 3, 4] rfl)
          refine lv_if_eq (tgt := 61) hx hb (dk_at dkX2_giveKeys_1 5 rfl) (by decide) (fun c16 => ?_) (fun c16 => ?_)
          · have c16 : z13 = 0 := (i_eq0 (rb hw15 (by decide) (by decide))).mp c16
            exact J61_17 _ _ _ _ (fun zq uq ⟨mm1, hq⟩ => hk1 _ _ ⟨mm1 + 1, (u_d_X2_giveKeys_2_3_1 ⟨gI11.out, ⟨f9, (Or.inr ⟨c12, ⟨z13, ghw15, (Or.inl ⟨c16, hq⟩)⟩⟩)⟩⟩)⟩) hI (fk.rf) hP hS (lv_sub hl [0, 1, 2, 3, 4] rfl)
          · have c16 : ¬ z13 = 0 := mt (i_eq0 (rb hw15 (by decide) (by decide))).mpr c16
            refine lv_aload_n hx hb (dk_at dkX2_giveKeys_1 6 rfl) rfl (lv_at hl 1 rfl) ?_
            refine va_get (D := (dC, dI)) (ci := 2) (v := .ref (q 21)) (C := RX2) (T := TX2) (N := 1) hx hb hts hiX2 hown hK hP 20 (wkHR) rfl 0 (by decide) (hts _ (List.mem_cons_of_mem _ wkq_3_45)) (fun _ h9 => h9) rfl (dk_at dkX2_giveKeys_1 7 rfl) ?_
            refine lv_iload_n hx hb (dk_at dkX2_giveKeys_1 8 rfl) rfl (lv_at hl 3 rfl) ?_
            refine lv_iload hx hb (dk_at dkX2_giveKeys_1 9 rfl) (lv_at hl 0 rfl) ?_
            refine k_iast (Wf := WK cB cI cJ cZ cQ q) hx hb hK hP hDD hS 21 1 (wkHRk) rfl (by decide) (by decide) (dk_at dkX2_giveKeys_1 10 rfl) (wsHRk) (fun H locs A18 hA18 hP hS => ?_)
            have hI := isHRk hA18 hI (show (-2147483648 : Int) ≤ z4 ∧ z4 ≤ 2147483647 from (rb f9 (by decide) (by decide)))
            refine lv_aload_n hx hb (dk_at dkX2_giveKeys_1 11 rfl) rfl (lv_at hl 1 rfl) ?_
            refine lv_aload_n hx hb (dk_at dkX2_giveKeys_1 12 rfl) rfl (lv_at hl 2 rfl) ?_
            refine lv_iload_n hx hb (dk_at dkX2_giveKeys_1 13 rfl) rfl (lv_at hl 3 rfl) ?_
            refine lv_iconst (v := iI 1) hx hb (dk_at dkX2_giveKeys_1 14 rfl) (by decide +kernel) ?_
            refine x_addv (v := 4) hx hb (dk_at dkX2_giveKeys_1 15 rfl) (by omega) ?_
            refine lv_iload_n hx hb (dk_at dkX2_giveKeys_2 0 rfl) rfl (lv_at hl 4 rfl) ?_
            refine k_calli (As := [.ref (q ta), .int (iI 4), .int (iI x3)]) (rest := []) ⟨hx, hb, hml, hown, hts⟩ hE (kc_X2_giveKeys_2_4 l dC dI cB cI cJ cZ cQ aL aS q _ ta x3 hI hta hx3) (cwV 3 hts (goodVk wkq_3_41 wkq_3_42 wkq_3_43 wkq_3_34 wkq_3_44) rfl rfl rfl (by decide +kernel) ⟨Nat.le_of_ble_eq_true rfl, Nat.le_of_ble_eq_true rfl⟩) hK hDD hA0 hP hS 20 2 (wkHR) rfl rfl hl.1 (Nat.le_of_ble_eq_true rfl) (dk_at dkX2_giveKeys_2 1 rfl) (fun z19 A20 H locs hw21 hP hS => ?_)
            have ghw21 : q_X2_giveKeys_2_4 ta x3 A18 z19 A20 := hw21
            obtain ⟨_, hI, hf22, hw21⟩ := hw21
            refine lv_if_eq (tgt := 61) hx hb (dk_at dkX2_giveKeys_2 2 rfl) (by decide) (fun c23 => ?_) (fun c23 => ?_)
            · have c23 : z19 = 0 := (i_eq0 (rb hw21 (by decide) (by decide))).mp c23
              exact J61_17 _ _ _ _ (fun zq uq ⟨mm1, hq⟩ => hk1 _ _ ⟨mm1 + 1, (u_d_X2_giveKeys_2_3_1 ⟨gI11.out, ⟨f9, (Or.inr ⟨c12, ⟨z13, ghw15, (Or.inr ⟨c16, ⟨A18, hA18, ⟨z19, A20, ghw21, (Or.inl ⟨c23, hq⟩)⟩⟩⟩)⟩⟩)⟩⟩)⟩) hI (fk.trans (fk.da (fk.rf) hA18 rfl) hf22 rfl rfl) hP hS (lv_sub hl [0, 1, 2, 3, 4] rfl)
            · have c23 : ¬ z19 = 0 := mt (i_eq0 (rb hw21 (by decide) (by decide))).mpr c23
              refine lv_iconst (v := iI 1) hx hb (dk_at dkX2_giveKeys_2 3 rfl) (by decide +kernel) ?_
              exact RET 1 _ _ _ _ _ ⟨hk1 _ _ ⟨0 + 1, (u_d_X2_giveKeys_2_3_1 ⟨gI11.out, ⟨f9, (Or.inr ⟨c12, ⟨z13, ghw15, (Or.inr ⟨c16, ⟨A18, hA18, ⟨z19, A20, ghw21, (Or.inr ⟨c23, ⟨rfl, rfl⟩⟩)⟩⟩⟩)⟩⟩)⟩⟩)⟩, hI, fk.trans (fk.da (fk.trans (fk.rf) hj5 rfl rfl) hA18 rfl) hf22 rfl rfl, ⟨by decide, by decide⟩⟩ hP hS (dk_at dkX2_giveKeys_2 4 rfl)
    exact L22_7 _ 0 _ _ _ _ (by omega) (fun zq uq ⟨mm1, hq⟩ => (u_r_X2_giveKeys_2_3 ⟨z1, gz1.out, (Or.inr ⟨c2, ⟨mm1, hq⟩⟩)⟩)) rfl hI (fk.rf) hP hS (lv_sub hl [0, 1, 2, 3, 4] rfl)

abbrev tr_d_X2_giveKeys_2_2_2 (K1 : Int → St → Prop) (z4 : Int) (z : Int) (u : St) (A25 : St) : Prop := ((IK A25) ∧ (K1 (z4 + 1) A25))
def d_X2_giveKeys_2_2_2 (K1 : Int → St → Prop) (z4 : Int) (z : Int) (u : St) (A25 : St) : Prop := tr_d_X2_giveKeys_2_2_2 K1 z4 z u A25
theorem u_d_X2_giveKeys_2_2_2 {K1 : Int → St → Prop} {z4 : Int} {z : Int} {u : St} {A25 : St} (h : tr_d_X2_giveKeys_2_2_2 K1 z4 z u A25) : d_X2_giveKeys_2_2_2 K1 z4 z u A25 := h
abbrev tr_d_X2_giveKeys_2_2_1 (ta : Nat) (x3 : Int) (z : Int) (u : St) (K1 : Int → St → Prop) (z4 : Int) (A6 : St) : Prop := ((IK A6) ∧ ((0 ≤ z4 ∧ z4 ≤ 2147483647) ∧ (((x3 ≤ z4) ∧ (z = 0 ∧ u = A6)) ∨ ((¬ x3 ≤ z4) ∧ (∃ z13 : Int, q_X2_canTake ta 2 z4 A6 z13 ∧ (((z13 = 0) ∧ (d_X2_giveKeys_2_2_2 K1 z4 z u A6)) ∨ ((¬ z13 = 0) ∧ (∃ A18 : St, A18 = stA A6 21 (2 : Int).toNat z4 ∧ (∃ z19 : Int, ∃ A20 : St, q_X2_giveKeys_2_3 ta x3 A18 z19 A20 ∧ (((z19 = 0) ∧ (d_X2_giveKeys_2_2_2 K1 z4 z u A20)) ∨ ((¬ z19 = 0) ∧ (z = 1 ∧ u = A20))))))))))))
def d_X2_giveKeys_2_2_1 (ta : Nat) (x3 : Int) (z : Int) (u : St) : Nat → Int → St → Prop
  | 0, _, _ => False
  | nn9 + 1, z4, A6 => tr_d_X2_giveKeys_2_2_1 ta x3 z u (fun z4 A6 => d_X2_giveKeys_2_2_1 ta x3 z u nn9 z4 A6) z4 A6
theorem u_d_X2_giveKeys_2_2_1 {ta : Nat} {x3 : Int} {z : Int} {u : St} {nn9 : Nat} {z4 : Int} {A6 : St} (h : tr_d_X2_giveKeys_2_2_1 ta x3 z u (fun z4 A6 => d_X2_giveKeys_2_2_1 ta x3 z u nn9 z4 A6) z4 A6) : d_X2_giveKeys_2_2_1 ta x3 z u (nn9 + 1) z4 A6 := h
abbrev tr_r_X2_giveKeys_2_2 (ta : Nat) (x3 : Int) (A : St) (z : Int) (u : St) : Prop := (∃ z1 : Int, z1 = A (ta + 1) (6 : Int).toNat ∧ (((z1 ≤ 2) ∧ (z = 1 ∧ u = A)) ∨ ((¬ z1 ≤ 2) ∧ (∃ nn9 : Nat, d_X2_giveKeys_2_2_1 ta x3 z u nn9 0 A))))
def r_X2_giveKeys_2_2 (ta : Nat) (x3 : Int) (A : St) (z : Int) (u : St) : Prop := tr_r_X2_giveKeys_2_2 ta x3 A z u
theorem u_r_X2_giveKeys_2_2 {ta : Nat} {x3 : Int} {A : St} {z : Int} {u : St} (h : tr_r_X2_giveKeys_2_2 ta x3 A z u) : r_X2_giveKeys_2_2 ta x3 A z u := h
def q_X2_giveKeys_2_2 (ta : Nat) (x3 : Int) (A : St) (z : Int) (u : St) : Prop := r_X2_giveKeys_2_2 ta x3 A z u ∧ IK u ∧ fk [21] [] A u ∧ (0 ≤ z ∧ z ≤ 1)
def ws_kc_X2_giveKeys_2_2 : List Cond := .code yX2_giveKeys cX2_giveKeys 5 (some .boolean) :: WY
set_option maxHeartbeats 4000000 in
set_option maxRecDepth 100000 in
theorem kc_X2_giveKeys_2_2 (l : Launch) (dC : Nat → ClassId) (dI : Nat → Nat → Nat) (cB cI cJ cZ cQ : ClassId) (aL aS : Nat) (q : Nat → Nat) (A : St) (ta : Nat) (x3 : Int) (hI : IK A) (hta : isT ta) (hx3 : (-2147483648 : Int) ≤ x3 ∧ x3 ≤ 2147483647) : KMi l yX2_giveKeys ws_kc_X2_giveKeys_2_2 ({ frames := 6, cells := 0, slots := 0, locals := 144 } : Room) aL aS (dC, dI) (tyA cB cI cJ cZ cQ) (WK cB cI cJ cZ cQ q) A [.ref (q 20), .ref (q ta), .int (iI 2), .int (iI x3)] (fun z u => r_X2_giveKeys_2_2 ta x3 A z u ∧ IK u ∧ fk [21] [] A u ∧ (0 ≤ z ∧ z ≤ 1)) := by
  refine k_metz (cc := cX2_giveKeys) (maxL := 5) WK_adr (plainFor_of_name (by decide +kernel)) rfl (Nat.le_of_ble_eq_true rfl) (fun z u h => h.2.2.2) (fun p e s m below meth c Q AS ls hx hb hml hown hts hK hDD hA0 hE RET H locs hP hS hl => ?_)
  have hown : s.vm.findClass RX2 = some m.cls := hown
  have hl : lv_has ls 5 [(0, .ref (q 20)), (1, .ref (q ta)), (2, .int (iI 2)), (3, .int (iI x3))] := hl
  have hiX9 : ∀ w ∈ u_ws RX9 TX9 16, w ∈ ws_kc_X2_giveKeys_2_2 := fun w h => List.mem_cons_of_mem _ (wy_layX9 w h)
  have hiX2 : ∀ w ∈ u_ws RX2 TX2 1, w ∈ ws_kc_X2_giveKeys_2_2 := fun w h => List.mem_cons_of_mem _ (wy_layX2 w h)
  refine lv_iload_n hx hb (dk_at dkX2_giveKeys_0 0 rfl) rfl (lv_at hl 2 rfl) ?_
  refine lv_aload_n hx hb (dk_at dkX2_giveKeys_0 1 rfl) rfl (lv_at hl 1 rfl) ?_
  refine va_get (D := (dC, dI)) (ci := 9) (v := .ref (q (ta + 1))) (C := RX9) (T := TX9) (N := 16) hx hb hts hiX9 hown hK hP ta (wkT hta) rfl 0 (by decide) (hts _ (List.mem_cons_of_mem _ wkq_3_31)) (fun _ h9 => h9) rfl (dk_at dkX2_giveKeys_0 2 rfl) ?_
  refine lv_bipush (v := iI 6) hx hb (dk_at dkX2_giveKeys_0 3 rfl) (by decide +kernel) ?_
  refine x_iald (Wf := WK cB cI cJ cZ cQ q) hx hb hK hP (ta + 1) 1 (wkTc hta) rfl (by decide) (by decide) (dk_at dkX2_giveKeys_0 4 rfl) (fun z1 hz1 => ?_)
  have rz1 : (0 : Int) ≤ z1 ∧ z1 ≤ 6 := by rw [hz1]; exact irTc6 hta hI
  have gz1 := Hd.mk hz1
  refine lv_icmp_ge (tgt := 17) hx hb (dk_at dkX2_giveKeys_0 5 rfl) (by decide) (fun c2 => ?_) (fun c2 => ?_)
  · have c2 : z1 ≤ 2 := (i_le (rb rz1 (by decide) (by decide)) ⟨by decide, by decide⟩).mp c2
    refine lv_iconst (v := iI 1) hx hb (dk_at dkX2_giveKeys_0 9 rfl) (by decide +kernel) ?_
    exact RET 1 _ _ _ _ _ ⟨(u_r_X2_giveKeys_2_2 ⟨z1, gz1.out, (Or.inl ⟨c2, ⟨rfl, rfl⟩⟩)⟩), hI, fk.rf, ⟨by decide, by decide⟩⟩ hP hS (dk_at dkX2_giveKeys_0 10 rfl)
  · have c2 : ¬ z1 ≤ 2 := mt (i_le (rb rz1 (by decide) (by decide)) ⟨by decide, by decide⟩).mpr c2
    refine lv_iload_n hx hb (dk_at dkX2_giveKeys_0 6 rfl) rfl (lv_at hl 2 rfl) ?_
    refine lv_bipush (v := iI 6) hx hb (dk_at dkX2_giveKeys_0 7 rfl) (by decide +kernel) ?_
    refine lv_icmp_lt (tgt := 19) hx hb (dk_at dkX2_giveKeys_0 8 rfl) (by decide) (fun _ => ?_) (fun c3 => absurd c3 (by decide +kernel))
    refine lv_iconst (v := iI 0) hx hb (dk_at dkX2_giveKeys_0 11 rfl) (by decide +kernel) ?_
    refine lv_istore (lv' := [(4, .int (iI 0)), (0, .ref (q 20)), (1, .ref (q ta)), (2, .int (iI 2)), (3, .int (iI x3))]) hx hb (dk_at dkX2_giveKeys_0 12 rfl) hl (by decide) rfl (fun ls hl => ?_)
    have L22_7 : ∀ (n10 : Nat) (z4 : Int) (A6 : St) (H : Heap) (locs : List Loc) (ls : Array Slot), (0 ≤ z4 ∧ z4 ≤ 2147483647) → (∀ (z : Int) (u : St), (∃ mm1 : Nat, (d_X2_giveKeys_2_2_1 ta x3 z u mm1 z4 A6)) → r_X2_giveKeys_2_2 ta x3 A z u) → ((2147483648 - z4).toNat = n10) → IK A6 → fk [21] [] A A6 → va_P (dC, dI) vwCl (WK cB cI cJ cZ cQ q A6) H → va_S AS s.heap H locs → lv_has ls 5 [(4, .int (iI z4)), (0, .ref (q 20)), (1, .ref (q ta)), (2, .int (iI 2)), (3, .int (iI x3))] → W p l e (headSpec ws_kc_X2_giveKeys_2_2 ({ frames := 6, cells := 0, slots := 0, locals := 144 } : Room)).room s m [.ref (q 20), .ref (q ta), .int (iI 2), .int (iI x3)].toArray below meth c H locs 0 0 Q (F0 m 22 ls []) := by
      intro n10
      induction n10 using Nat.strongRecOn with
      | ind n10 ih8 =>
        intro z4 A6 H locs ls f9 hk1 hn10 hI hj5 hP hS hl
        have gI11 : Hd (IK A6) := Hd.mk hI
        refine lv_iload hx hb (dk_at dkX2_giveKeys_0 13 rfl) (lv_at hl 0 rfl) ?_
        refine lv_iload_n hx hb (dk_at dkX2_giveKeys_0 14 rfl) rfl (lv_at hl 4 rfl) ?_
        refine lv_icmp_ge (tgt := 67) hx hb (dk_at dkX2_giveKeys_0 15 rfl) (by decide) (fun c12 => ?_) (fun c12 => ?_)
        · have c12 : x3 ≤ z4 := (i_le hx3 (rb f9 (by decide) (by decide))).mp c12
          refine lv_iconst (v := iI 0) hx hb (dk_at dkX2_giveKeys_2 7 rfl) (by decide +kernel) ?_
          exact RET 0 _ _ _ _ _ ⟨hk1 _ _ ⟨0 + 1, (u_d_X2_giveKeys_2_2_1 ⟨gI11.out, ⟨f9, (Or.inl ⟨c12, ⟨rfl, rfl⟩⟩)⟩⟩)⟩, hI, fk.trans (fk.rf) hj5 rfl rfl, ⟨by decide, by decide⟩⟩ hP hS (dk_at dkX2_giveKeys_2 8 rfl)
        · have c12 : ¬ x3 ≤ z4 := mt (i_le hx3 (rb f9 (by decide) (by decide))).mpr c12
          refine lv_aload_n hx hb (dk_at dkX2_giveKeys_1 0 rfl) rfl (lv_at hl 1 rfl) ?_
          refine lv_aload_n hx hb (dk_at dkX2_giveKeys_1 1 rfl) rfl (lv_at hl 2 rfl) ?_
          refine lv_iload_n hx hb (dk_at dkX2_giveKeys_1 2 rfl) rfl (lv_at hl 3 rfl) ?_
          refine lv_iload hx hb (dk_at dkX2_giveKeys_1 3 rfl) (lv_at hl 0 rfl) ?_
          refine k_calli (As := [.ref (q ta), .int (iI 2), .int (iI z4)]) (rest := []) ⟨hx, hb, hml, hown, hts⟩ hE (kc_X2_canTake l dC dI cB cI cJ cZ cQ aL aS q _ ta 2 z4 hI hta ⟨by decide, by decide⟩ (rb f9 (by decide) (by decide))) (cwV 3 hts (goodVk wkq_3_46 wkq_3_47 wkq_3_48 wkq_3_34 wkq_3_49) rfl rfl rfl (by decide +kernel) ⟨Nat.le_of_ble_eq_true rfl, Nat.le_of_ble_eq_true rfl⟩) hK hDD hA0 hP hS 20 2 (wkHR) rfl rfl hl.1 (Nat.le_of_ble_eq_true rfl) (dk_at dkX2_giveKeys_1 4 rfl) (fun z13 A14 H locs hw15 hP hS => ?_)
          obtain ⟨rfl, hw15⟩ := hw15
          have ghw15 : q_X2_canTake ta 2 z4 A6 z13 := hw15
          have hw15 := hw15.2
          have J61_17 : ∀ (A25 : St) (H : Heap) (locs : List Loc) (ls : Array Slot), (∀ (z : Int) (u : St), (∃ mm1 : Nat, (d_X2_giveKeys_2_2_2 (fun z4' A6' => d_X2_giveKeys_2_2_1 ta x3 z u mm1 z4' A6') z4 z u A25)) → r_X2_giveKeys_2_2 ta x3 A z u) → IK A25 → fk [21] [] A6 A25 → va_P (dC, dI) vwCl (WK cB cI cJ cZ cQ q A25) H → va_S AS s.heap H locs → lv_has ls 5 [(4, .int (iI z4)), (0, .ref (q 20)), (1, .ref (q ta)), (2, .int (iI 2)), (3, .int (iI x3))] → W p l e (headSpec ws_kc_X2_giveKeys_2_2 ({ frames := 6, cells := 0, slots := 0, locals := 144 } : Room)).room s m [.ref (q 20), .ref (q ta), .int (iI 2), .int (iI x3)].toArray below meth c H locs 0 0 Q (F0 m 61 ls []) := by
            intro A25 H locs ls hk2 hI hj24 hP hS hl
            have gI26 : Hd (IK A25) := Hd.mk hI
            refine lv_iinc (v := iI (z4 + 1)) (lv' := [(4, .int (iI (z4 + 1))), (0, .ref (q 20)), (1, .ref (q ta)), (2, .int (iI 2)), (3, .int (iI x3))]) hx hb (dk_at dkX2_giveKeys_2 5 rfl) hl (k := 0) rfl (i_inc (by omega)) (by decide) rfl (fun ls hl => ?_)
            refine lv_goto (tgt := 22) hx hb (dk_at dkX2_giveKeys_2 6 rfl) (by decide) ?_
            exact ih8 _ (by omega) (z4 + 1) _ _ _ _ (by omega) (fun zq uq ⟨mm1, hq⟩ => hk2 _ _ ⟨mm1, (u_d_X2_giveKeys_2_2_2 ⟨gI26.out, hq⟩)⟩) rfl hI (fk.trans (fk.trans (fk.rf) hj5 rfl rfl) hj24 rfl rfl) hP hS (lv_sub hl [0, 1, 2, 3, 4] rfl)
          refine lv_if_eq (tgt := 61) hx hb (dk_at dkX2_giveKeys_1 5 rfl) (by decide) (fun c16 => ?_) (fun c16 => ?_)
          · have c16 : z13 = 0 := (i_eq0 (rb hw15 (by decide) (by decide))).mp c16
            exact J61_17 _ _ _ _ (fun zq uq ⟨mm1, hq⟩ => hk1 _ _ ⟨mm1 + 1, (u_d_X2_giveKeys_2_2_1 ⟨gI11.out, ⟨f9, (Or.inr ⟨c12, ⟨z13, ghw15, (Or.inl ⟨c16, hq⟩)⟩⟩)⟩⟩)⟩) hI (fk.rf) hP hS (lv_sub hl [0, 1, 2, 3, 4] rfl)
          · have c16 : ¬ z13 = 0 := mt (i_eq0 (rb hw15 (by decide) (by decide))).mpr c16
            refine lv_aload_n hx hb (dk_at dkX2_giveKeys_1 6 rfl) rfl (lv_at hl 1 rfl) ?_
            refine va_get (D := (dC, dI)) (ci := 2) (v := .ref (q 21)) (C := RX2) (T := TX2) (N := 1) hx hb hts hiX2 hown hK hP 20 (wkHR) rfl 0 (by decide) (hts _ (List.mem_cons_of_mem _ wkq_3_45)) (fun _ h9 => h9) rfl (dk_at dkX2_giveKeys_1 7 rfl) ?_
            refine lv_iload_n hx hb (dk_at dkX2_giveKeys_1 8 rfl) rfl (lv_at hl 3 rfl) ?_
            refine lv_iload hx hb (dk_at dkX2_giveKeys_1 9 rfl) (lv_at hl 0 rfl) ?_
            refine k_iast (Wf := WK cB cI cJ cZ cQ q) hx hb hK hP hDD hS 21 1 (wkHRk) rfl (by decide) (by decide) (dk_at dkX2_giveKeys_1 10 rfl) (wsHRk) (fun H locs A18 hA18 hP hS => ?_)
            have hI := isHRk hA18 hI (show (-2147483648 : Int) ≤ z4 ∧ z4 ≤ 2147483647 from (rb f9 (by decide) (by decide)))
            refine lv_aload_n hx hb (dk_at dkX2_giveKeys_1 11 rfl) rfl (lv_at hl 1 rfl) ?_
            refine lv_aload_n hx hb (dk_at dkX2_giveKeys_1 12 rfl) rfl (lv_at hl 2 rfl) ?_
            refine lv_iload_n hx hb (dk_at dkX2_giveKeys_1 13 rfl) rfl (lv_at hl 3 rfl) ?_
            refine lv_iconst (v := iI 1) hx hb (dk_at dkX2_giveKeys_1 14 rfl) (by decide +kernel) ?_
            refine x_addv (v := 3) hx hb (dk_at dkX2_giveKeys_1 15 rfl) (by omega) ?_
            refine lv_iload_n hx hb (dk_at dkX2_giveKeys_2 0 rfl) rfl (lv_at hl 4 rfl) ?_
            refine k_calli (As := [.ref (q ta), .int (iI 3), .int (iI x3)]) (rest := []) ⟨hx, hb, hml, hown, hts⟩ hE (kc_X2_giveKeys_2_3 l dC dI cB cI cJ cZ cQ aL aS q _ ta x3 hI hta hx3) (cwV 3 hts (goodVk wkq_3_41 wkq_3_42 wkq_3_43 wkq_3_34 wkq_3_44) rfl rfl rfl (by decide +kernel) ⟨Nat.le_of_ble_eq_true rfl, Nat.le_of_ble_eq_true rfl⟩) hK hDD hA0 hP hS 20 2 (wkHR) rfl rfl hl.1 (Nat.le_of_ble_eq_true rfl) (dk_at dkX2_giveKeys_2 1 rfl) (fun z19 A20 H locs hw21 hP hS => ?_)
            have ghw21 : q_X2_giveKeys_2_3 ta x3 A18 z19 A20 := hw21
            obtain ⟨_, hI, hf22, hw21⟩ := hw21
            refine lv_if_eq (tgt := 61) hx hb (dk_at dkX2_giveKeys_2 2 rfl) (by decide) (fun c23 => ?_) (fun c23 => ?_)
            · have c23 : z19 = 0 := (i_eq0 (rb hw21 (by decide) (by decide))).mp c23
              exact J61_17 _ _ _ _ (fun zq uq ⟨mm1, hq⟩ => hk1 _ _ ⟨mm1 + 1, (u_d_X2_giveKeys_2_2_1 ⟨gI11.out, ⟨f9, (Or.inr ⟨c12, ⟨z13, ghw15, (Or.inr ⟨c16, ⟨A18, hA18, ⟨z19, A20, ghw21, (Or.inl ⟨c23, hq⟩)⟩⟩⟩)⟩⟩)⟩⟩)⟩) hI (fk.trans (fk.da (fk.rf) hA18 rfl) hf22 rfl rfl) hP hS (lv_sub hl [0, 1, 2, 3, 4] rfl)
            · have c23 : ¬ z19 = 0 := mt (i_eq0 (rb hw21 (by decide) (by decide))).mpr c23
              refine lv_iconst (v := iI 1) hx hb (dk_at dkX2_giveKeys_2 3 rfl) (by decide +kernel) ?_
              exact RET 1 _ _ _ _ _ ⟨hk1 _ _ ⟨0 + 1, (u_d_X2_giveKeys_2_2_1 ⟨gI11.out, ⟨f9, (Or.inr ⟨c12, ⟨z13, ghw15, (Or.inr ⟨c16, ⟨A18, hA18, ⟨z19, A20, ghw21, (Or.inr ⟨c23, ⟨rfl, rfl⟩⟩)⟩⟩⟩)⟩⟩)⟩⟩)⟩, hI, fk.trans (fk.da (fk.trans (fk.rf) hj5 rfl rfl) hA18 rfl) hf22 rfl rfl, ⟨by decide, by decide⟩⟩ hP hS (dk_at dkX2_giveKeys_2 4 rfl)
    exact L22_7 _ 0 _ _ _ _ (by omega) (fun zq uq ⟨mm1, hq⟩ => (u_r_X2_giveKeys_2_2 ⟨z1, gz1.out, (Or.inr ⟨c2, ⟨mm1, hq⟩⟩)⟩)) rfl hI (fk.rf) hP hS (lv_sub hl [0, 1, 2, 3, 4] rfl)

abbrev tr_d_X2_giveKeys_2_1_2 (K1 : Int → St → Prop) (z4 : Int) (z : Int) (u : St) (A25 : St) : Prop := ((IK A25) ∧ (K1 (z4 + 1) A25))
def d_X2_giveKeys_2_1_2 (K1 : Int → St → Prop) (z4 : Int) (z : Int) (u : St) (A25 : St) : Prop := tr_d_X2_giveKeys_2_1_2 K1 z4 z u A25
theorem u_d_X2_giveKeys_2_1_2 {K1 : Int → St → Prop} {z4 : Int} {z : Int} {u : St} {A25 : St} (h : tr_d_X2_giveKeys_2_1_2 K1 z4 z u A25) : d_X2_giveKeys_2_1_2 K1 z4 z u A25 := h
abbrev tr_d_X2_giveKeys_2_1_1 (ta : Nat) (x3 : Int) (z : Int) (u : St) (K1 : Int → St → Prop) (z4 : Int) (A6 : St) : Prop := ((IK A6) ∧ ((0 ≤ z4 ∧ z4 ≤ 2147483647) ∧ (((x3 ≤ z4) ∧ (z = 0 ∧ u = A6)) ∨ ((¬ x3 ≤ z4) ∧ (∃ z13 : Int, q_X2_canTake ta 1 z4 A6 z13 ∧ (((z13 = 0) ∧ (d_X2_giveKeys_2_1_2 K1 z4 z u A6)) ∨ ((¬ z13 = 0) ∧ (∃ A18 : St, A18 = stA A6 21 (1 : Int).toNat z4 ∧ (∃ z19 : Int, ∃ A20 : St, q_X2_giveKeys_2_2 ta x3 A18 z19 A20 ∧ (((z19 = 0) ∧ (d_X2_giveKeys_2_1_2 K1 z4 z u A20)) ∨ ((¬ z19 = 0) ∧ (z = 1 ∧ u = A20))))))))))))
def d_X2_giveKeys_2_1_1 (ta : Nat) (x3 : Int) (z : Int) (u : St) : Nat → Int → St → Prop
  | 0, _, _ => False
  | nn9 + 1, z4, A6 => tr_d_X2_giveKeys_2_1_1 ta x3 z u (fun z4 A6 => d_X2_giveKeys_2_1_1 ta x3 z u nn9 z4 A6) z4 A6
theorem u_d_X2_giveKeys_2_1_1 {ta : Nat} {x3 : Int} {z : Int} {u : St} {nn9 : Nat} {z4 : Int} {A6 : St} (h : tr_d_X2_giveKeys_2_1_1 ta x3 z u (fun z4 A6 => d_X2_giveKeys_2_1_1 ta x3 z u nn9 z4 A6) z4 A6) : d_X2_giveKeys_2_1_1 ta x3 z u (nn9 + 1) z4 A6 := h
abbrev tr_r_X2_giveKeys_2_1 (ta : Nat) (x3 : Int) (A : St) (z : Int) (u : St) : Prop := (∃ z1 : Int, z1 = A (ta + 1) (6 : Int).toNat ∧ (((z1 ≤ 1) ∧ (z = 1 ∧ u = A)) ∨ ((¬ z1 ≤ 1) ∧ (∃ nn9 : Nat, d_X2_giveKeys_2_1_1 ta x3 z u nn9 0 A))))
def r_X2_giveKeys_2_1 (ta : Nat) (x3 : Int) (A : St) (z : Int) (u : St) : Prop := tr_r_X2_giveKeys_2_1 ta x3 A z u
theorem u_r_X2_giveKeys_2_1 {ta : Nat} {x3 : Int} {A : St} {z : Int} {u : St} (h : tr_r_X2_giveKeys_2_1 ta x3 A z u) : r_X2_giveKeys_2_1 ta x3 A z u := h
def q_X2_giveKeys_2_1 (ta : Nat) (x3 : Int) (A : St) (z : Int) (u : St) : Prop := r_X2_giveKeys_2_1 ta x3 A z u ∧ IK u ∧ fk [21] [] A u ∧ (0 ≤ z ∧ z ≤ 1)
def ws_kc_X2_giveKeys_2_1 : List Cond := .code yX2_giveKeys cX2_giveKeys 5 (some .boolean) :: WY
set_option maxHeartbeats 4000000 in
set_option maxRecDepth 100000 in
theorem kc_X2_giveKeys_2_1 (l : Launch) (dC : Nat → ClassId) (dI : Nat → Nat → Nat) (cB cI cJ cZ cQ : ClassId) (aL aS : Nat) (q : Nat → Nat) (A : St) (ta : Nat) (x3 : Int) (hI : IK A) (hta : isT ta) (hx3 : (-2147483648 : Int) ≤ x3 ∧ x3 ≤ 2147483647) : KMi l yX2_giveKeys ws_kc_X2_giveKeys_2_1 ({ frames := 7, cells := 0, slots := 0, locals := 168 } : Room) aL aS (dC, dI) (tyA cB cI cJ cZ cQ) (WK cB cI cJ cZ cQ q) A [.ref (q 20), .ref (q ta), .int (iI 1), .int (iI x3)] (fun z u => r_X2_giveKeys_2_1 ta x3 A z u ∧ IK u ∧ fk [21] [] A u ∧ (0 ≤ z ∧ z ≤ 1)) := by
  refine k_metz (cc := cX2_giveKeys) (maxL := 5) WK_adr (plainFor_of_name (by decide +kernel)) rfl (Nat.le_of_ble_eq_true rfl) (fun z u h => h.2.2.2) (fun p e s m below meth c Q AS ls hx hb hml hown hts hK hDD hA0 hE RET H locs hP hS hl => ?_)
  have hown : s.vm.findClass RX2 = some m.cls := hown
  have hl : lv_has ls 5 [(0, .ref (q 20)), (1, .ref (q ta)), (2, .int (iI 1)), (3, .int (iI x3))] := hl
  have hiX9 : ∀ w ∈ u_ws RX9 TX9 16, w ∈ ws_kc_X2_giveKeys_2_1 := fun w h => List.mem_cons_of_mem _ (wy_layX9 w h)
  have hiX2 : ∀ w ∈ u_ws RX2 TX2 1, w ∈ ws_kc_X2_giveKeys_2_1 := fun w h => List.mem_cons_of_mem _ (wy_layX2 w h)
  refine lv_iload_n hx hb (dk_at dkX2_giveKeys_0 0 rfl) rfl (lv_at hl 2 rfl) ?_
  refine lv_aload_n hx hb (dk_at dkX2_giveKeys_0 1 rfl) rfl (lv_at hl 1 rfl) ?_
  refine va_get (D := (dC, dI)) (ci := 9) (v := .ref (q (ta + 1))) (C := RX9) (T := TX9) (N := 16) hx hb hts hiX9 hown hK hP ta (wkT hta) rfl 0 (by decide) (hts _ (List.mem_cons_of_mem _ wkq_3_31)) (fun _ h9 => h9) rfl (dk_at dkX2_giveKeys_0 2 rfl) ?_
  refine lv_bipush (v := iI 6) hx hb (dk_at dkX2_giveKeys_0 3 rfl) (by decide +kernel) ?_
  refine x_iald (Wf := WK cB cI cJ cZ cQ q) hx hb hK hP (ta + 1) 1 (wkTc hta) rfl (by decide) (by decide) (dk_at dkX2_giveKeys_0 4 rfl) (fun z1 hz1 => ?_)
  have rz1 : (0 : Int) ≤ z1 ∧ z1 ≤ 6 := by rw [hz1]; exact irTc6 hta hI
  have gz1 := Hd.mk hz1
  refine lv_icmp_ge (tgt := 17) hx hb (dk_at dkX2_giveKeys_0 5 rfl) (by decide) (fun c2 => ?_) (fun c2 => ?_)
  · have c2 : z1 ≤ 1 := (i_le (rb rz1 (by decide) (by decide)) ⟨by decide, by decide⟩).mp c2
    refine lv_iconst (v := iI 1) hx hb (dk_at dkX2_giveKeys_0 9 rfl) (by decide +kernel) ?_
    exact RET 1 _ _ _ _ _ ⟨(u_r_X2_giveKeys_2_1 ⟨z1, gz1.out, (Or.inl ⟨c2, ⟨rfl, rfl⟩⟩)⟩), hI, fk.rf, ⟨by decide, by decide⟩⟩ hP hS (dk_at dkX2_giveKeys_0 10 rfl)
  · have c2 : ¬ z1 ≤ 1 := mt (i_le (rb rz1 (by decide) (by decide)) ⟨by decide, by decide⟩).mpr c2
    refine lv_iload_n hx hb (dk_at dkX2_giveKeys_0 6 rfl) rfl (lv_at hl 2 rfl) ?_
    refine lv_bipush (v := iI 6) hx hb (dk_at dkX2_giveKeys_0 7 rfl) (by decide +kernel) ?_
    refine lv_icmp_lt (tgt := 19) hx hb (dk_at dkX2_giveKeys_0 8 rfl) (by decide) (fun _ => ?_) (fun c3 => absurd c3 (by decide +kernel))
    refine lv_iconst (v := iI 0) hx hb (dk_at dkX2_giveKeys_0 11 rfl) (by decide +kernel) ?_
    refine lv_istore (lv' := [(4, .int (iI 0)), (0, .ref (q 20)), (1, .ref (q ta)), (2, .int (iI 1)), (3, .int (iI x3))]) hx hb (dk_at dkX2_giveKeys_0 12 rfl) hl (by decide) rfl (fun ls hl => ?_)
    have L22_7 : ∀ (n10 : Nat) (z4 : Int) (A6 : St) (H : Heap) (locs : List Loc) (ls : Array Slot), (0 ≤ z4 ∧ z4 ≤ 2147483647) → (∀ (z : Int) (u : St), (∃ mm1 : Nat, (d_X2_giveKeys_2_1_1 ta x3 z u mm1 z4 A6)) → r_X2_giveKeys_2_1 ta x3 A z u) → ((2147483648 - z4).toNat = n10) → IK A6 → fk [21] [] A A6 → va_P (dC, dI) vwCl (WK cB cI cJ cZ cQ q A6) H → va_S AS s.heap H locs → lv_has ls 5 [(4, .int (iI z4)), (0, .ref (q 20)), (1, .ref (q ta)), (2, .int (iI 1)), (3, .int (iI x3))] → W p l e (headSpec ws_kc_X2_giveKeys_2_1 ({ frames := 7, cells := 0, slots := 0, locals := 168 } : Room)).room s m [.ref (q 20), .ref (q ta), .int (iI 1), .int (iI x3)].toArray below meth c H locs 0 0 Q (F0 m 22 ls []) := by
      intro n10
      induction n10 using Nat.strongRecOn with
      | ind n10 ih8 =>
        intro z4 A6 H locs ls f9 hk1 hn10 hI hj5 hP hS hl
        have gI11 : Hd (IK A6) := Hd.mk hI
        refine lv_iload hx hb (dk_at dkX2_giveKeys_0 13 rfl) (lv_at hl 0 rfl) ?_
        refine lv_iload_n hx hb (dk_at dkX2_giveKeys_0 14 rfl) rfl (lv_at hl 4 rfl) ?_
        refine lv_icmp_ge (tgt := 67) hx hb (dk_at dkX2_giveKeys_0 15 rfl) (by decide) (fun c12 => ?_) (fun c12 => ?_)
        · have c12 : x3 ≤ z4 := (i_le hx3 (rb f9 (by decide) (by decide))).mp c12
          refine lv_iconst (v := iI 0) hx hb (dk_at dkX2_giveKeys_2 7 rfl) (by decide +kernel) ?_
          exact RET 0 _ _ _ _ _ ⟨hk1 _ _ ⟨0 + 1, (u_d_X2_giveKeys_2_1_1 ⟨gI11.out, ⟨f9, (Or.inl ⟨c12, ⟨rfl, rfl⟩⟩)⟩⟩)⟩, hI, fk.trans (fk.rf) hj5 rfl rfl, ⟨by decide, by decide⟩⟩ hP hS (dk_at dkX2_giveKeys_2 8 rfl)
        · have c12 : ¬ x3 ≤ z4 := mt (i_le hx3 (rb f9 (by decide) (by decide))).mpr c12
          refine lv_aload_n hx hb (dk_at dkX2_giveKeys_1 0 rfl) rfl (lv_at hl 1 rfl) ?_
          refine lv_aload_n hx hb (dk_at dkX2_giveKeys_1 1 rfl) rfl (lv_at hl 2 rfl) ?_
          refine lv_iload_n hx hb (dk_at dkX2_giveKeys_1 2 rfl) rfl (lv_at hl 3 rfl) ?_
          refine lv_iload hx hb (dk_at dkX2_giveKeys_1 3 rfl) (lv_at hl 0 rfl) ?_
          refine k_calli (As := [.ref (q ta), .int (iI 1), .int (iI z4)]) (rest := []) ⟨hx, hb, hml, hown, hts⟩ hE (kc_X2_canTake l dC dI cB cI cJ cZ cQ aL aS q _ ta 1 z4 hI hta ⟨by decide, by decide⟩ (rb f9 (by decide) (by decide))) (cwV 3 hts (goodVk wkq_3_46 wkq_3_47 wkq_3_48 wkq_3_34 wkq_3_49) rfl rfl rfl (by decide +kernel) ⟨Nat.le_of_ble_eq_true rfl, Nat.le_of_ble_eq_true rfl⟩) hK hDD hA0 hP hS 20 2 (wkHR) rfl rfl hl.1 (Nat.le_of_ble_eq_true rfl) (dk_at dkX2_giveKeys_1 4 rfl) (fun z13 A14 H locs hw15 hP hS => ?_)
          obtain ⟨rfl, hw15⟩ := hw15
          have ghw15 : q_X2_canTake ta 1 z4 A6 z13 := hw15
          have hw15 := hw15.2
          have J61_17 : ∀ (A25 : St) (H : Heap) (locs : List Loc) (ls : Array Slot), (∀ (z : Int) (u : St), (∃ mm1 : Nat, (d_X2_giveKeys_2_1_2 (fun z4' A6' => d_X2_giveKeys_2_1_1 ta x3 z u mm1 z4' A6') z4 z u A25)) → r_X2_giveKeys_2_1 ta x3 A z u) → IK A25 → fk [21] [] A6 A25 → va_P (dC, dI) vwCl (WK cB cI cJ cZ cQ q A25) H → va_S AS s.heap H locs → lv_has ls 5 [(4, .int (iI z4)), (0, .ref (q 20)), (1, .ref (q ta)), (2, .int (iI 1)), (3, .int (iI x3))] → W p l e (headSpec ws_kc_X2_giveKeys_2_1 ({ frames := 7, cells := 0, slots := 0, locals := 168 } : Room)).room s m [.ref (q 20), .ref (q ta), .int (iI 1), .int (iI x3)].toArray below meth c H locs 0 0 Q (F0 m 61 ls []) := by
            intro A25 H locs ls hk2 hI hj24 hP hS hl
            have gI26 : Hd (IK A25) := Hd.mk hI
            refine lv_iinc (v := iI (z4 + 1)) (lv' := [(4, .int (iI (z4 + 1))), (0, .ref (q 20)), (1, .ref (q ta)), (2, .int (iI 1)), (3, .int (iI x3))]) hx hb (dk_at dkX2_giveKeys_2 5 rfl) hl (k := 0) rfl (i_inc (by omega)) (by decide) rfl (fun ls hl => ?_)
            refine lv_goto (tgt := 22) hx hb (dk_at dkX2_giveKeys_2 6 rfl) (by decide) ?_
            exact ih8 _ (by omega) (z4 + 1) _ _ _ _ (by omega) (fun zq uq ⟨mm1, hq⟩ => hk2 _ _ ⟨mm1, (u_d_X2_giveKeys_2_1_2 ⟨gI26.out, hq⟩)⟩) rfl hI (fk.trans (fk.trans (fk.rf) hj5 rfl rfl) hj24 rfl rfl) hP hS (lv_sub hl [0, 1, 2, 3, 4] rfl)
          refine lv_if_eq (tgt := 61) hx hb (dk_at dkX2_giveKeys_1 5 rfl) (by decide) (fun c16 => ?_) (fun c16 => ?_)
          · have c16 : z13 = 0 := (i_eq0 (rb hw15 (by decide) (by decide))).mp c16
            exact J61_17 _ _ _ _ (fun zq uq ⟨mm1, hq⟩ => hk1 _ _ ⟨mm1 + 1, (u_d_X2_giveKeys_2_1_1 ⟨gI11.out, ⟨f9, (Or.inr ⟨c12, ⟨z13, ghw15, (Or.inl ⟨c16, hq⟩)⟩⟩)⟩⟩)⟩) hI (fk.rf) hP hS (lv_sub hl [0, 1, 2, 3, 4] rfl)
          · have c16 : ¬ z13 = 0 := mt (i_eq0 (rb hw15 (by decide) (by decide))).mpr c16
            refine lv_aload_n hx hb (dk_at dkX2_giveKeys_1 6 rfl) rfl (lv_at hl 1 rfl) ?_
            refine va_get (D := (dC, dI)) (ci := 2) (v := .ref (q 21)) (C := RX2) (T := TX2) (N := 1) hx hb hts hiX2 hown hK hP 20 (wkHR) rfl 0 (by decide) (hts _ (List.mem_cons_of_mem _ wkq_3_45)) (fun _ h9 => h9) rfl (dk_at dkX2_giveKeys_1 7 rfl) ?_
            refine lv_iload_n hx hb (dk_at dkX2_giveKeys_1 8 rfl) rfl (lv_at hl 3 rfl) ?_
            refine lv_iload hx hb (dk_at dkX2_giveKeys_1 9 rfl) (lv_at hl 0 rfl) ?_
            refine k_iast (Wf := WK cB cI cJ cZ cQ q) hx hb hK hP hDD hS 21 1 (wkHRk) rfl (by decide) (by decide) (dk_at dkX2_giveKeys_1 10 rfl) (wsHRk) (fun H locs A18 hA18 hP hS => ?_)
            have hI := isHRk hA18 hI (show (-2147483648 : Int) ≤ z4 ∧ z4 ≤ 2147483647 from (rb f9 (by decide) (by decide)))
            refine lv_aload_n hx hb (dk_at dkX2_giveKeys_1 11 rfl) rfl (lv_at hl 1 rfl) ?_
            refine lv_aload_n hx hb (dk_at dkX2_giveKeys_1 12 rfl) rfl (lv_at hl 2 rfl) ?_
            refine lv_iload_n hx hb (dk_at dkX2_giveKeys_1 13 rfl) rfl (lv_at hl 3 rfl) ?_
            refine lv_iconst (v := iI 1) hx hb (dk_at dkX2_giveKeys_1 14 rfl) (by decide +kernel) ?_
            refine x_addv (v := 2) hx hb (dk_at dkX2_giveKeys_1 15 rfl) (by omega) ?_
            refine lv_iload_n hx hb (dk_at dkX2_giveKeys_2 0 rfl) rfl (lv_at hl 4 rfl) ?_
            refine k_calli (As := [.ref (q ta), .int (iI 2), .int (iI x3)]) (rest := []) ⟨hx, hb, hml, hown, hts⟩ hE (kc_X2_giveKeys_2_2 l dC dI cB cI cJ cZ cQ aL aS q _ ta x3 hI hta hx3) (cwV 3 hts (goodVk wkq_3_41 wkq_3_42 wkq_3_43 wkq_3_34 wkq_3_44) rfl rfl rfl (by decide +kernel) ⟨Nat.le_of_ble_eq_true rfl, Nat.le_of_ble_eq_true rfl⟩) hK hDD hA0 hP hS 20 2 (wkHR) rfl rfl hl.1 (Nat.le_of_ble_eq_true rfl) (dk_at dkX2_giveKeys_2 1 rfl) (fun z19 A20 H locs hw21 hP hS => ?_)
            have ghw21 : q_X2_giveKeys_2_2 ta x3 A18 z19 A20 := hw21
            obtain ⟨_, hI, hf22, hw21⟩ := hw21
            refine lv_if_eq (tgt := 61) hx hb (dk_at dkX2_giveKeys_2 2 rfl) (by decide) (fun c23 => ?_) (fun c23 => ?_)
            · have c23 : z19 = 0 := (i_eq0 (rb hw21 (by decide) (by decide))).mp c23
              exact J61_17 _ _ _ _ (fun zq uq ⟨mm1, hq⟩ => hk1 _ _ ⟨mm1 + 1, (u_d_X2_giveKeys_2_1_1 ⟨gI11.out, ⟨f9, (Or.inr ⟨c12, ⟨z13, ghw15, (Or.inr ⟨c16, ⟨A18, hA18, ⟨z19, A20, ghw21, (Or.inl ⟨c23, hq⟩)⟩⟩⟩)⟩⟩)⟩⟩)⟩) hI (fk.trans (fk.da (fk.rf) hA18 rfl) hf22 rfl rfl) hP hS (lv_sub hl [0, 1, 2, 3, 4] rfl)
            · have c23 : ¬ z19 = 0 := mt (i_eq0 (rb hw21 (by decide) (by decide))).mpr c23
              refine lv_iconst (v := iI 1) hx hb (dk_at dkX2_giveKeys_2 3 rfl) (by decide +kernel) ?_
              exact RET 1 _ _ _ _ _ ⟨hk1 _ _ ⟨0 + 1, (u_d_X2_giveKeys_2_1_1 ⟨gI11.out, ⟨f9, (Or.inr ⟨c12, ⟨z13, ghw15, (Or.inr ⟨c16, ⟨A18, hA18, ⟨z19, A20, ghw21, (Or.inr ⟨c23, ⟨rfl, rfl⟩⟩)⟩⟩⟩)⟩⟩)⟩⟩)⟩, hI, fk.trans (fk.da (fk.trans (fk.rf) hj5 rfl rfl) hA18 rfl) hf22 rfl rfl, ⟨by decide, by decide⟩⟩ hP hS (dk_at dkX2_giveKeys_2 4 rfl)
    exact L22_7 _ 0 _ _ _ _ (by omega) (fun zq uq ⟨mm1, hq⟩ => (u_r_X2_giveKeys_2_1 ⟨z1, gz1.out, (Or.inr ⟨c2, ⟨mm1, hq⟩⟩)⟩)) rfl hI (fk.rf) hP hS (lv_sub hl [0, 1, 2, 3, 4] rfl)

abbrev tr_d_X2_giveKeys_2_0_2 (K1 : Int → St → Prop) (z4 : Int) (z : Int) (u : St) (A25 : St) : Prop := ((IK A25) ∧ (K1 (z4 + 1) A25))
def d_X2_giveKeys_2_0_2 (K1 : Int → St → Prop) (z4 : Int) (z : Int) (u : St) (A25 : St) : Prop := tr_d_X2_giveKeys_2_0_2 K1 z4 z u A25
theorem u_d_X2_giveKeys_2_0_2 {K1 : Int → St → Prop} {z4 : Int} {z : Int} {u : St} {A25 : St} (h : tr_d_X2_giveKeys_2_0_2 K1 z4 z u A25) : d_X2_giveKeys_2_0_2 K1 z4 z u A25 := h
abbrev tr_d_X2_giveKeys_2_0_1 (ta : Nat) (x3 : Int) (z : Int) (u : St) (K1 : Int → St → Prop) (z4 : Int) (A6 : St) : Prop := ((IK A6) ∧ ((0 ≤ z4 ∧ z4 ≤ 2147483647) ∧ (((x3 ≤ z4) ∧ (z = 0 ∧ u = A6)) ∨ ((¬ x3 ≤ z4) ∧ (∃ z13 : Int, q_X2_canTake ta 0 z4 A6 z13 ∧ (((z13 = 0) ∧ (d_X2_giveKeys_2_0_2 K1 z4 z u A6)) ∨ ((¬ z13 = 0) ∧ (∃ A18 : St, A18 = stA A6 21 (0 : Int).toNat z4 ∧ (∃ z19 : Int, ∃ A20 : St, q_X2_giveKeys_2_1 ta x3 A18 z19 A20 ∧ (((z19 = 0) ∧ (d_X2_giveKeys_2_0_2 K1 z4 z u A20)) ∨ ((¬ z19 = 0) ∧ (z = 1 ∧ u = A20))))))))))))
def d_X2_giveKeys_2_0_1 (ta : Nat) (x3 : Int) (z : Int) (u : St) : Nat → Int → St → Prop
  | 0, _, _ => False
  | nn9 + 1, z4, A6 => tr_d_X2_giveKeys_2_0_1 ta x3 z u (fun z4 A6 => d_X2_giveKeys_2_0_1 ta x3 z u nn9 z4 A6) z4 A6
theorem u_d_X2_giveKeys_2_0_1 {ta : Nat} {x3 : Int} {z : Int} {u : St} {nn9 : Nat} {z4 : Int} {A6 : St} (h : tr_d_X2_giveKeys_2_0_1 ta x3 z u (fun z4 A6 => d_X2_giveKeys_2_0_1 ta x3 z u nn9 z4 A6) z4 A6) : d_X2_giveKeys_2_0_1 ta x3 z u (nn9 + 1) z4 A6 := h
abbrev tr_r_X2_giveKeys_2_0 (ta : Nat) (x3 : Int) (A : St) (z : Int) (u : St) : Prop := (∃ z1 : Int, z1 = A (ta + 1) (6 : Int).toNat ∧ (((z1 ≤ 0) ∧ (z = 1 ∧ u = A)) ∨ ((¬ z1 ≤ 0) ∧ (∃ nn9 : Nat, d_X2_giveKeys_2_0_1 ta x3 z u nn9 0 A))))
def r_X2_giveKeys_2_0 (ta : Nat) (x3 : Int) (A : St) (z : Int) (u : St) : Prop := tr_r_X2_giveKeys_2_0 ta x3 A z u
theorem u_r_X2_giveKeys_2_0 {ta : Nat} {x3 : Int} {A : St} {z : Int} {u : St} (h : tr_r_X2_giveKeys_2_0 ta x3 A z u) : r_X2_giveKeys_2_0 ta x3 A z u := h
def q_X2_giveKeys_2_0 (ta : Nat) (x3 : Int) (A : St) (z : Int) (u : St) : Prop := r_X2_giveKeys_2_0 ta x3 A z u ∧ IK u ∧ fk [21] [] A u ∧ (0 ≤ z ∧ z ≤ 1)
def ws_kc_X2_giveKeys_2_0 : List Cond := .code yX2_giveKeys cX2_giveKeys 5 (some .boolean) :: WY
set_option maxHeartbeats 4000000 in
set_option maxRecDepth 100000 in
theorem kc_X2_giveKeys_2_0 (l : Launch) (dC : Nat → ClassId) (dI : Nat → Nat → Nat) (cB cI cJ cZ cQ : ClassId) (aL aS : Nat) (q : Nat → Nat) (A : St) (ta : Nat) (x3 : Int) (hI : IK A) (hta : isT ta) (hx3 : (-2147483648 : Int) ≤ x3 ∧ x3 ≤ 2147483647) : KMi l yX2_giveKeys ws_kc_X2_giveKeys_2_0 ({ frames := 8, cells := 0, slots := 0, locals := 192 } : Room) aL aS (dC, dI) (tyA cB cI cJ cZ cQ) (WK cB cI cJ cZ cQ q) A [.ref (q 20), .ref (q ta), .int (iI 0), .int (iI x3)] (fun z u => r_X2_giveKeys_2_0 ta x3 A z u ∧ IK u ∧ fk [21] [] A u ∧ (0 ≤ z ∧ z ≤ 1)) := by
  refine k_metz (cc := cX2_giveKeys) (maxL := 5) WK_adr (plainFor_of_name (by decide +kernel)) rfl (Nat.le_of_ble_eq_true rfl) (fun z u h => h.2.2.2) (fun p e s m below meth c Q AS ls hx hb hml hown hts hK hDD hA0 hE RET H locs hP hS hl => ?_)
  have hown : s.vm.findClass RX2 = some m.cls := hown
  have hl : lv_has ls 5 [(0, .ref (q 20)), (1, .ref (q ta)), (2, .int (iI 0)), (3, .int (iI x3))] := hl
  have hiX9 : ∀ w ∈ u_ws RX9 TX9 16, w ∈ ws_kc_X2_giveKeys_2_0 := fun w h => List.mem_cons_of_mem _ (wy_layX9 w h)
  have hiX2 : ∀ w ∈ u_ws RX2 TX2 1, w ∈ ws_kc_X2_giveKeys_2_0 := fun w h => List.mem_cons_of_mem _ (wy_layX2 w h)
  refine lv_iload_n hx hb (dk_at dkX2_giveKeys_0 0 rfl) rfl (lv_at hl 2 rfl) ?_
  refine lv_aload_n hx hb (dk_at dkX2_giveKeys_0 1 rfl) rfl (lv_at hl 1 rfl) ?_
  refine va_get (D := (dC, dI)) (ci := 9) (v := .ref (q (ta + 1))) (C := RX9) (T := TX9) (N := 16) hx hb hts hiX9 hown hK hP ta (wkT hta) rfl 0 (by decide) (hts _ (List.mem_cons_of_mem _ wkq_3_31)) (fun _ h9 => h9) rfl (dk_at dkX2_giveKeys_0 2 rfl) ?_
  refine lv_bipush (v := iI 6) hx hb (dk_at dkX2_giveKeys_0 3 rfl) (by decide +kernel) ?_
  refine x_iald (Wf := WK cB cI cJ cZ cQ q) hx hb hK hP (ta + 1) 1 (wkTc hta) rfl (by decide) (by decide) (dk_at dkX2_giveKeys_0 4 rfl) (fun z1 hz1 => ?_)
  have rz1 : (0 : Int) ≤ z1 ∧ z1 ≤ 6 := by rw [hz1]; exact irTc6 hta hI
  have gz1 := Hd.mk hz1
  refine lv_icmp_ge (tgt := 17) hx hb (dk_at dkX2_giveKeys_0 5 rfl) (by decide) (fun c2 => ?_) (fun c2 => ?_)
  · have c2 : z1 ≤ 0 := (i_le (rb rz1 (by decide) (by decide)) ⟨by decide, by decide⟩).mp c2
    refine lv_iconst (v := iI 1) hx hb (dk_at dkX2_giveKeys_0 9 rfl) (by decide +kernel) ?_
    exact RET 1 _ _ _ _ _ ⟨(u_r_X2_giveKeys_2_0 ⟨z1, gz1.out, (Or.inl ⟨c2, ⟨rfl, rfl⟩⟩)⟩), hI, fk.rf, ⟨by decide, by decide⟩⟩ hP hS (dk_at dkX2_giveKeys_0 10 rfl)
  · have c2 : ¬ z1 ≤ 0 := mt (i_le (rb rz1 (by decide) (by decide)) ⟨by decide, by decide⟩).mpr c2
    refine lv_iload_n hx hb (dk_at dkX2_giveKeys_0 6 rfl) rfl (lv_at hl 2 rfl) ?_
    refine lv_bipush (v := iI 6) hx hb (dk_at dkX2_giveKeys_0 7 rfl) (by decide +kernel) ?_
    refine lv_icmp_lt (tgt := 19) hx hb (dk_at dkX2_giveKeys_0 8 rfl) (by decide) (fun _ => ?_) (fun c3 => absurd c3 (by decide +kernel))
    refine lv_iconst (v := iI 0) hx hb (dk_at dkX2_giveKeys_0 11 rfl) (by decide +kernel) ?_
    refine lv_istore (lv' := [(4, .int (iI 0)), (0, .ref (q 20)), (1, .ref (q ta)), (2, .int (iI 0)), (3, .int (iI x3))]) hx hb (dk_at dkX2_giveKeys_0 12 rfl) hl (by decide) rfl (fun ls hl => ?_)
    have L22_7 : ∀ (n10 : Nat) (z4 : Int) (A6 : St) (H : Heap) (locs : List Loc) (ls : Array Slot), (0 ≤ z4 ∧ z4 ≤ 2147483647) → (∀ (z : Int) (u : St), (∃ mm1 : Nat, (d_X2_giveKeys_2_0_1 ta x3 z u mm1 z4 A6)) → r_X2_giveKeys_2_0 ta x3 A z u) → ((2147483648 - z4).toNat = n10) → IK A6 → fk [21] [] A A6 → va_P (dC, dI) vwCl (WK cB cI cJ cZ cQ q A6) H → va_S AS s.heap H locs → lv_has ls 5 [(4, .int (iI z4)), (0, .ref (q 20)), (1, .ref (q ta)), (2, .int (iI 0)), (3, .int (iI x3))] → W p l e (headSpec ws_kc_X2_giveKeys_2_0 ({ frames := 8, cells := 0, slots := 0, locals := 192 } : Room)).room s m [.ref (q 20), .ref (q ta), .int (iI 0), .int (iI x3)].toArray below meth c H locs 0 0 Q (F0 m 22 ls []) := by
      intro n10
      induction n10 using Nat.strongRecOn with
      | ind n10 ih8 =>
        intro z4 A6 H locs ls f9 hk1 hn10 hI hj5 hP hS hl
        have gI11 : Hd (IK A6) := Hd.mk hI
        refine lv_iload hx hb (dk_at dkX2_giveKeys_0 13 rfl) (lv_at hl 0 rfl) ?_
        refine lv_iload_n hx hb (dk_at dkX2_giveKeys_0 14 rfl) rfl (lv_at hl 4 rfl) ?_
        refine lv_icmp_ge (tgt := 67) hx hb (dk_at dkX2_giveKeys_0 15 rfl) (by decide) (fun c12 => ?_) (fun c12 => ?_)
        · have c12 : x3 ≤ z4 := (i_le hx3 (rb f9 (by decide) (by decide))).mp c12
          refine lv_iconst (v := iI 0) hx hb (dk_at dkX2_giveKeys_2 7 rfl) (by decide +kernel) ?_
          exact RET 0 _ _ _ _ _ ⟨hk1 _ _ ⟨0 + 1, (u_d_X2_giveKeys_2_0_1 ⟨gI11.out, ⟨f9, (Or.inl ⟨c12, ⟨rfl, rfl⟩⟩)⟩⟩)⟩, hI, fk.trans (fk.rf) hj5 rfl rfl, ⟨by decide, by decide⟩⟩ hP hS (dk_at dkX2_giveKeys_2 8 rfl)
        · have c12 : ¬ x3 ≤ z4 := mt (i_le hx3 (rb f9 (by decide) (by decide))).mpr c12
          refine lv_aload_n hx hb (dk_at dkX2_giveKeys_1 0 rfl) rfl (lv_at hl 1 rfl) ?_
          refine lv_aload_n hx hb (dk_at dkX2_giveKeys_1 1 rfl) rfl (lv_at hl 2 rfl) ?_
          refine lv_iload_n hx hb (dk_at dkX2_giveKeys_1 2 rfl) rfl (lv_at hl 3 rfl) ?_
          refine lv_iload hx hb (dk_at dkX2_giveKeys_1 3 rfl) (lv_at hl 0 rfl) ?_
          refine k_calli (As := [.ref (q ta), .int (iI 0), .int (iI z4)]) (rest := []) ⟨hx, hb, hml, hown, hts⟩ hE (kc_X2_canTake l dC dI cB cI cJ cZ cQ aL aS q _ ta 0 z4 hI hta ⟨by decide, by decide⟩ (rb f9 (by decide) (by decide))) (cwV 3 hts (goodVk wkq_3_46 wkq_3_47 wkq_3_48 wkq_3_34 wkq_3_49) rfl rfl rfl (by decide +kernel) ⟨Nat.le_of_ble_eq_true rfl, Nat.le_of_ble_eq_true rfl⟩) hK hDD hA0 hP hS 20 2 (wkHR) rfl rfl hl.1 (Nat.le_of_ble_eq_true rfl) (dk_at dkX2_giveKeys_1 4 rfl) (fun z13 A14 H locs hw15 hP hS => ?_)
          obtain ⟨rfl, hw15⟩ := hw15
          have ghw15 : q_X2_canTake ta 0 z4 A6 z13 := hw15
          have hw15 := hw15.2
          have J61_17 : ∀ (A25 : St) (H : Heap) (locs : List Loc) (ls : Array Slot), (∀ (z : Int) (u : St), (∃ mm1 : Nat, (d_X2_giveKeys_2_0_2 (fun z4' A6' => d_X2_giveKeys_2_0_1 ta x3 z u mm1 z4' A6') z4 z u A25)) → r_X2_giveKeys_2_0 ta x3 A z u) → IK A25 → fk [21] [] A6 A25 → va_P (dC, dI) vwCl (WK cB cI cJ cZ cQ q A25) H → va_S AS s.heap H locs → lv_has ls 5 [(4, .int (iI z4)), (0, .ref (q 20)), (1, .ref (q ta)), (2, .int (iI 0)), (3, .int (iI x3))] → W p l e (headSpec ws_kc_X2_giveKeys_2_0 ({ frames := 8, cells := 0, slots := 0, locals := 192 } : Room)).room s m [.ref (q 20), .ref (q ta), .int (iI 0), .int (iI x3)].toArray below meth c H locs 0 0 Q (F0 m 61 ls []) := by
            intro A25 H locs ls hk2 hI hj24 hP hS hl
            have gI26 : Hd (IK A25) := Hd.mk hI
            refine lv_iinc (v := iI (z4 + 1)) (lv' := [(4, .int (iI (z4 + 1))), (0, .ref (q 20)), (1, .ref (q ta)), (2, .int (iI 0)), (3, .int (iI x3))]) hx hb (dk_at dkX2_giveKeys_2 5 rfl) hl (k := 0) rfl (i_inc (by omega)) (by decide) rfl (fun ls hl => ?_)
            refine lv_goto (tgt := 22) hx hb (dk_at dkX2_giveKeys_2 6 rfl) (by decide) ?_
            exact ih8 _ (by omega) (z4 + 1) _ _ _ _ (by omega) (fun zq uq ⟨mm1, hq⟩ => hk2 _ _ ⟨mm1, (u_d_X2_giveKeys_2_0_2 ⟨gI26.out, hq⟩)⟩) rfl hI (fk.trans (fk.trans (fk.rf) hj5 rfl rfl) hj24 rfl rfl) hP hS (lv_sub hl [0, 1, 2, 3, 4] rfl)
          refine lv_if_eq (tgt := 61) hx hb (dk_at dkX2_giveKeys_1 5 rfl) (by decide) (fun c16 => ?_) (fun c16 => ?_)
          · have c16 : z13 = 0 := (i_eq0 (rb hw15 (by decide) (by decide))).mp c16
            exact J61_17 _ _ _ _ (fun zq uq ⟨mm1, hq⟩ => hk1 _ _ ⟨mm1 + 1, (u_d_X2_giveKeys_2_0_1 ⟨gI11.out, ⟨f9, (Or.inr ⟨c12, ⟨z13, ghw15, (Or.inl ⟨c16, hq⟩)⟩⟩)⟩⟩)⟩) hI (fk.rf) hP hS (lv_sub hl [0, 1, 2, 3, 4] rfl)
          · have c16 : ¬ z13 = 0 := mt (i_eq0 (rb hw15 (by decide) (by decide))).mpr c16
            refine lv_aload_n hx hb (dk_at dkX2_giveKeys_1 6 rfl) rfl (lv_at hl 1 rfl) ?_
            refine va_get (D := (dC, dI)) (ci := 2) (v := .ref (q 21)) (C := RX2) (T := TX2) (N := 1) hx hb hts hiX2 hown hK hP 20 (wkHR) rfl 0 (by decide) (hts _ (List.mem_cons_of_mem _ wkq_3_45)) (fun _ h9 => h9) rfl (dk_at dkX2_giveKeys_1 7 rfl) ?_
            refine lv_iload_n hx hb (dk_at dkX2_giveKeys_1 8 rfl) rfl (lv_at hl 3 rfl) ?_
            refine lv_iload hx hb (dk_at dkX2_giveKeys_1 9 rfl) (lv_at hl 0 rfl) ?_
            refine k_iast (Wf := WK cB cI cJ cZ cQ q) hx hb hK hP hDD hS 21 1 (wkHRk) rfl (by decide) (by decide) (dk_at dkX2_giveKeys_1 10 rfl) (wsHRk) (fun H locs A18 hA18 hP hS => ?_)
            have hI := isHRk hA18 hI (show (-2147483648 : Int) ≤ z4 ∧ z4 ≤ 2147483647 from (rb f9 (by decide) (by decide)))
            refine lv_aload_n hx hb (dk_at dkX2_giveKeys_1 11 rfl) rfl (lv_at hl 1 rfl) ?_
            refine lv_aload_n hx hb (dk_at dkX2_giveKeys_1 12 rfl) rfl (lv_at hl 2 rfl) ?_
            refine lv_iload_n hx hb (dk_at dkX2_giveKeys_1 13 rfl) rfl (lv_at hl 3 rfl) ?_
            refine lv_iconst (v := iI 1) hx hb (dk_at dkX2_giveKeys_1 14 rfl) (by decide +kernel) ?_
            refine x_addv (v := 1) hx hb (dk_at dkX2_giveKeys_1 15 rfl) (by omega) ?_
            refine lv_iload_n hx hb (dk_at dkX2_giveKeys_2 0 rfl) rfl (lv_at hl 4 rfl) ?_
            refine k_calli (As := [.ref (q ta), .int (iI 1), .int (iI x3)]) (rest := []) ⟨hx, hb, hml, hown, hts⟩ hE (kc_X2_giveKeys_2_1 l dC dI cB cI cJ cZ cQ aL aS q _ ta x3 hI hta hx3) (cwV 3 hts (goodVk wkq_3_41 wkq_3_42 wkq_3_43 wkq_3_34 wkq_3_44) rfl rfl rfl (by decide +kernel) ⟨Nat.le_of_ble_eq_true rfl, Nat.le_of_ble_eq_true rfl⟩) hK hDD hA0 hP hS 20 2 (wkHR) rfl rfl hl.1 (Nat.le_of_ble_eq_true rfl) (dk_at dkX2_giveKeys_2 1 rfl) (fun z19 A20 H locs hw21 hP hS => ?_)
            have ghw21 : q_X2_giveKeys_2_1 ta x3 A18 z19 A20 := hw21
            obtain ⟨_, hI, hf22, hw21⟩ := hw21
            refine lv_if_eq (tgt := 61) hx hb (dk_at dkX2_giveKeys_2 2 rfl) (by decide) (fun c23 => ?_) (fun c23 => ?_)
            · have c23 : z19 = 0 := (i_eq0 (rb hw21 (by decide) (by decide))).mp c23
              exact J61_17 _ _ _ _ (fun zq uq ⟨mm1, hq⟩ => hk1 _ _ ⟨mm1 + 1, (u_d_X2_giveKeys_2_0_1 ⟨gI11.out, ⟨f9, (Or.inr ⟨c12, ⟨z13, ghw15, (Or.inr ⟨c16, ⟨A18, hA18, ⟨z19, A20, ghw21, (Or.inl ⟨c23, hq⟩)⟩⟩⟩)⟩⟩)⟩⟩)⟩) hI (fk.trans (fk.da (fk.rf) hA18 rfl) hf22 rfl rfl) hP hS (lv_sub hl [0, 1, 2, 3, 4] rfl)
            · have c23 : ¬ z19 = 0 := mt (i_eq0 (rb hw21 (by decide) (by decide))).mpr c23
              refine lv_iconst (v := iI 1) hx hb (dk_at dkX2_giveKeys_2 3 rfl) (by decide +kernel) ?_
              exact RET 1 _ _ _ _ _ ⟨hk1 _ _ ⟨0 + 1, (u_d_X2_giveKeys_2_0_1 ⟨gI11.out, ⟨f9, (Or.inr ⟨c12, ⟨z13, ghw15, (Or.inr ⟨c16, ⟨A18, hA18, ⟨z19, A20, ghw21, (Or.inr ⟨c23, ⟨rfl, rfl⟩⟩)⟩⟩⟩)⟩⟩)⟩⟩)⟩, hI, fk.trans (fk.da (fk.trans (fk.rf) hj5 rfl rfl) hA18 rfl) hf22 rfl rfl, ⟨by decide, by decide⟩⟩ hP hS (dk_at dkX2_giveKeys_2 4 rfl)
    exact L22_7 _ 0 _ _ _ _ (by omega) (fun zq uq ⟨mm1, hq⟩ => (u_r_X2_giveKeys_2_0 ⟨z1, gz1.out, (Or.inr ⟨c2, ⟨mm1, hq⟩⟩)⟩)) rfl hI (fk.rf) hP hS (lv_sub hl [0, 1, 2, 3, 4] rfl)

abbrev tr_d_X2_fewestKeys_1 (ta : Nat) (z : Int) (u : St) (K1 : Int → St → Prop) (z1 : Int) (A3 : St) : Prop := ((IK A3) ∧ ((0 ≤ z1 ∧ z1 ≤ 2147483647) ∧ (((6 < z1) ∧ (z = (-1) ∧ u = A3)) ∨ ((¬ 6 < z1) ∧ (∃ z10 : Int, ∃ A11 : St, q_X2_giveKeys_2_0 ta z1 A3 z10 A11 ∧ (((z10 = 0) ∧ (K1 (z1 + 1) A11)) ∨ ((¬ z10 = 0) ∧ (z = z1 ∧ u = A11))))))))
def d_X2_fewestKeys_1 (ta : Nat) (z : Int) (u : St) : Nat → Int → St → Prop
  | 0, _, _ => False
  | nn9 + 1, z1, A3 => tr_d_X2_fewestKeys_1 ta z u (fun z1 A3 => d_X2_fewestKeys_1 ta z u nn9 z1 A3) z1 A3
theorem u_d_X2_fewestKeys_1 {ta : Nat} {z : Int} {u : St} {nn9 : Nat} {z1 : Int} {A3 : St} (h : tr_d_X2_fewestKeys_1 ta z u (fun z1 A3 => d_X2_fewestKeys_1 ta z u nn9 z1 A3) z1 A3) : d_X2_fewestKeys_1 ta z u (nn9 + 1) z1 A3 := h
abbrev tr_r_X2_fewestKeys (ta : Nat) (A : St) (z : Int) (u : St) : Prop := (∃ nn9 : Nat, d_X2_fewestKeys_1 ta z u nn9 0 A)
def r_X2_fewestKeys (ta : Nat) (A : St) (z : Int) (u : St) : Prop := tr_r_X2_fewestKeys ta A z u
theorem u_r_X2_fewestKeys {ta : Nat} {A : St} {z : Int} {u : St} (h : tr_r_X2_fewestKeys ta A z u) : r_X2_fewestKeys ta A z u := h
def q_X2_fewestKeys (ta : Nat) (A : St) (z : Int) (u : St) : Prop := r_X2_fewestKeys ta A z u ∧ IK u ∧ fk [21] [] A u ∧ (-2147483648 ≤ z ∧ z ≤ 2147483647)
def ws_kc_X2_fewestKeys : List Cond := .code yX2_fewestKeys cX2_fewestKeys 3 (some .int) :: WY
set_option maxHeartbeats 4000000 in
set_option maxRecDepth 100000 in
theorem kc_X2_fewestKeys (l : Launch) (dC : Nat → ClassId) (dI : Nat → Nat → Nat) (cB cI cJ cZ cQ : ClassId) (aL aS : Nat) (q : Nat → Nat) (A : St) (ta : Nat) (hI : IK A) (hta : isT ta) : KMi l yX2_fewestKeys ws_kc_X2_fewestKeys ({ frames := 9, cells := 0, slots := 0, locals := 216 } : Room) aL aS (dC, dI) (tyA cB cI cJ cZ cQ) (WK cB cI cJ cZ cQ q) A [.ref (q 20), .ref (q ta)] (fun z u => r_X2_fewestKeys ta A z u ∧ IK u ∧ fk [21] [] A u ∧ (-2147483648 ≤ z ∧ z ≤ 2147483647)) := by
  refine k_meti (cc := cX2_fewestKeys) (maxL := 3) WK_adr (plainFor_of_name (by decide +kernel)) rfl (Nat.le_of_ble_eq_true rfl) (fun p e s m below meth c Q AS ls hx hb hml hown hts hK hDD hA0 hE RET H locs hP hS hl => ?_)
  have hown : s.vm.findClass RX2 = some m.cls := hown
  have hl : lv_has ls 3 [(0, .ref (q 20)), (1, .ref (q ta))] := hl
  refine lv_iconst (v := iI 0) hx hb (dk_at dkX2_fewestKeys_0 0 rfl) (by decide +kernel) ?_
  refine lv_istore_n (lv' := [(2, .int (iI 0)), (0, .ref (q 20)), (1, .ref (q ta))]) hx hb (dk_at dkX2_fewestKeys_0 1 rfl) rfl hl (by decide) rfl (fun ls hl => ?_)
  have L2_4 : ∀ (n7 : Nat) (z1 : Int) (A3 : St) (H : Heap) (locs : List Loc) (ls : Array Slot), (0 ≤ z1 ∧ z1 ≤ 2147483647) → (∀ (z : Int) (u : St), (∃ mm1 : Nat, (d_X2_fewestKeys_1 ta z u mm1 z1 A3)) → r_X2_fewestKeys ta A z u) → ((7 - z1).toNat = n7) → IK A3 → fk [21] [] A A3 → va_P (dC, dI) vwCl (WK cB cI cJ cZ cQ q A3) H → va_S AS s.heap H locs → lv_has ls 3 [(2, .int (iI z1)), (0, .ref (q 20)), (1, .ref (q ta))] → W p l e (headSpec ws_kc_X2_fewestKeys ({ frames := 9, cells := 0, slots := 0, locals := 216 } : Room)).room s m [.ref (q 20), .ref (q ta)].toArray below meth c H locs 0 0 Q (F0 m 2 ls []) := by
    intro n7
    induction n7 using Nat.strongRecOn with
    | ind n7 ih5 =>
      intro z1 A3 H locs ls f6 hk1 hn7 hI hj2 hP hS hl
      have gI8 : Hd (IK A3) := Hd.mk hI
      refine lv_iload_n hx hb (dk_at dkX2_fewestKeys_0 2 rfl) rfl (lv_at hl 0 rfl) ?_
      refine lv_bipush (v := iI 6) hx hb (dk_at dkX2_fewestKeys_0 3 rfl) (by decide +kernel) ?_
      refine lv_icmp_gt (tgt := 26) hx hb (dk_at dkX2_fewestKeys_0 4 rfl) (by decide) (fun c9 => ?_) (fun c9 => ?_)
      · have c9 : 6 < z1 := (i_lt ⟨by decide, by decide⟩ (rb f6 (by decide) (by decide))).mp c9
        refine lv_iconst (v := iI (-1)) hx hb (dk_at dkX2_fewestKeys_0 15 rfl) (by decide +kernel) ?_
        exact RET (-1) _ _ _ _ _ ⟨hk1 _ _ ⟨0 + 1, (u_d_X2_fewestKeys_1 ⟨gI8.out, ⟨f6, (Or.inl ⟨c9, ⟨rfl, rfl⟩⟩)⟩⟩)⟩, hI, fk.trans (fk.rf) hj2 rfl rfl, ⟨by decide, by decide⟩⟩ hP hS (dk_at dkX2_fewestKeys_1 0 rfl)
      · have c9 : ¬ 6 < z1 := mt (i_lt ⟨by decide, by decide⟩ (rb f6 (by decide) (by decide))).mpr c9
        refine lv_aload_n hx hb (dk_at dkX2_fewestKeys_0 5 rfl) rfl (lv_at hl 1 rfl) ?_
        refine lv_aload_n hx hb (dk_at dkX2_fewestKeys_0 6 rfl) rfl (lv_at hl 2 rfl) ?_
        refine lv_iconst (v := iI 0) hx hb (dk_at dkX2_fewestKeys_0 7 rfl) (by decide +kernel) ?_
        refine lv_iload_n hx hb (dk_at dkX2_fewestKeys_0 8 rfl) rfl (lv_at hl 0 rfl) ?_
        refine k_calli (As := [.ref (q ta), .int (iI 0), .int (iI z1)]) (rest := []) ⟨hx, hb, hml, hown, hts⟩ hE (kc_X2_giveKeys_2_0 l dC dI cB cI cJ cZ cQ aL aS q _ ta z1 hI hta (rb f6 (by decide) (by decide))) (cwV 3 hts (goodVk wkq_3_41 wkq_3_42 wkq_3_43 wkq_3_34 wkq_3_44) rfl rfl rfl (by decide +kernel) ⟨Nat.le_of_ble_eq_true rfl, Nat.le_of_ble_eq_true rfl⟩) hK hDD hA0 hP hS 20 2 (wkHR) rfl rfl hl.1 (Nat.le_of_ble_eq_true rfl) (dk_at dkX2_fewestKeys_0 9 rfl) (fun z10 A11 H locs hw12 hP hS => ?_)
        have ghw12 : q_X2_giveKeys_2_0 ta z1 A3 z10 A11 := hw12
        obtain ⟨_, hI, hf13, hw12⟩ := hw12
        refine lv_if_eq (tgt := 20) hx hb (dk_at dkX2_fewestKeys_0 10 rfl) (by decide) (fun c14 => ?_) (fun c14 => ?_)
        · have c14 : z10 = 0 := (i_eq0 (rb hw12 (by decide) (by decide))).mp c14
          refine lv_iinc (v := iI (z1 + 1)) (lv' := [(2, .int (iI (z1 + 1))), (0, .ref (q 20)), (1, .ref (q ta))]) hx hb (dk_at dkX2_fewestKeys_0 13 rfl) hl (k := 0) rfl (i_inc (by omega)) (by decide) rfl (fun ls hl => ?_)
          refine lv_goto (tgt := 2) hx hb (dk_at dkX2_fewestKeys_0 14 rfl) (by decide) ?_
          exact ih5 _ (by omega) (z1 + 1) _ _ _ _ (by omega) (fun zq uq ⟨mm1, hq⟩ => hk1 _ _ ⟨mm1 + 1, (u_d_X2_fewestKeys_1 ⟨gI8.out, ⟨f6, (Or.inr ⟨c9, ⟨z10, A11, ghw12, (Or.inl ⟨c14, hq⟩)⟩⟩)⟩⟩)⟩) rfl hI (fk.trans (fk.trans (fk.rf) hj2 rfl rfl) hf13 rfl rfl) hP hS (lv_sub hl [0, 1, 2] rfl)
        · have c14 : ¬ z10 = 0 := mt (i_eq0 (rb hw12 (by decide) (by decide))).mpr c14
          refine lv_iload_n hx hb (dk_at dkX2_fewestKeys_0 11 rfl) rfl (lv_at hl 0 rfl) ?_
          exact RET z1 _ _ _ _ _ ⟨hk1 _ _ ⟨0 + 1, (u_d_X2_fewestKeys_1 ⟨gI8.out, ⟨f6, (Or.inr ⟨c9, ⟨z10, A11, ghw12, (Or.inr ⟨c14, ⟨rfl, rfl⟩⟩)⟩⟩)⟩⟩)⟩, hI, fk.trans (fk.trans (fk.rf) hj2 rfl rfl) hf13 rfl rfl, (rb f6 (by decide) (by decide))⟩ hP hS (dk_at dkX2_fewestKeys_0 12 rfl)
  exact L2_4 _ 0 _ _ _ _ (by omega) (fun zq uq ⟨mm1, hq⟩ => (u_r_X2_fewestKeys ⟨mm1, hq⟩)) rfl hI (fk.rf) hP hS (lv_sub hl [0, 1, 2] rfl)

abbrev tr_r_X2_isAhead (ta : Nat) (x2 : Int) (x3 : Int) (A : St) (z : Int) : Prop := (∃ z1 : Int, z1 = A (ta + 14) (x2).toNat ∧ (∃ z2 : Int, z2 = A (ta + 14) (x3).toNat ∧ (((z1 = z2) ∧ (∃ z4 : Int, z4 = A (ta + 15) (x2).toNat ∧ (∃ z5 : Int, z5 = A (ta + 15) (x3).toNat ∧ (((z4 = z5) ∧ (((x3 ≤ x2) ∧ (z = 0)) ∨ ((¬ x3 ≤ x2) ∧ (z = 1)))) ∨ ((¬ z4 = z5) ∧ (((z4 ≤ z5) ∧ (z = 0)) ∨ ((¬ z4 ≤ z5) ∧ (z = 1)))))))) ∨ ((¬ z1 = z2) ∧ (((z2 ≤ z1) ∧ (z = 0)) ∨ ((¬ z2 ≤ z1) ∧ (z = 1)))))))
def r_X2_isAhead (ta : Nat) (x2 : Int) (x3 : Int) (A : St) (z : Int) : Prop := tr_r_X2_isAhead ta x2 x3 A z
theorem u_r_X2_isAhead {ta : Nat} {x2 : Int} {x3 : Int} {A : St} {z : Int} (h : tr_r_X2_isAhead ta x2 x3 A z) : r_X2_isAhead ta x2 x3 A z := h
def q_X2_isAhead (ta : Nat) (x2 : Int) (x3 : Int) (A : St) (z : Int) : Prop := r_X2_isAhead ta x2 x3 A z ∧ (0 ≤ z ∧ z ≤ 1)
def ws_kc_X2_isAhead : List Cond := .code yX2_isAhead cX2_isAhead 3 (some .boolean) :: WY
set_option maxHeartbeats 4000000 in
set_option maxRecDepth 100000 in
theorem kc_X2_isAhead (l : Launch) (dC : Nat → ClassId) (dI : Nat → Nat → Nat) (cB cI cJ cZ cQ : ClassId) (aL aS : Nat) (q : Nat → Nat) (A : St) (ta : Nat) (x2 x3 : Int) (hI : IK A) (hta : isT ta) (hx2 : (0 : Int) ≤ x2 ∧ x2 ≤ 5) (hx3 : (0 : Int) ≤ x3 ∧ x3 ≤ 5) : KMi l yX2_isAhead ws_kc_X2_isAhead ({ frames := 0, cells := 0, slots := 0, locals := 0 } : Room) aL aS (dC, dI) (tyA cB cI cJ cZ cQ) (WK cB cI cJ cZ cQ q) A [.ref (q ta), .int (iI x2), .int (iI x3)] (fun z u => A = u ∧ r_X2_isAhead ta x2 x3 A z ∧ (0 ≤ z ∧ z ≤ 1)) := by
  refine k_metz (cc := cX2_isAhead) (maxL := 3) WK_adr (plainFor_of_name (by decide +kernel)) rfl (Nat.le_of_ble_eq_true rfl) (fun z u h => h.2.2) (fun p e s m below meth c Q AS ls hx hb hml hown hts hK hDD hA0 hE RET H locs hP hS hl => ?_)
  have hown : s.vm.findClass RX2 = some m.cls := hown
  have hl : lv_has ls 3 [(0, .ref (q ta)), (1, .int (iI x2)), (2, .int (iI x3))] := hl
  have hiX9 : ∀ w ∈ u_ws RX9 TX9 16, w ∈ ws_kc_X2_isAhead := fun w h => List.mem_cons_of_mem _ (wy_layX9 w h)
  refine lv_aload_n hx hb (dk_at dkX2_isAhead_0 0 rfl) rfl (lv_at hl 0 rfl) ?_
  refine va_get (D := (dC, dI)) (ci := 9) (v := .ref (q (ta + 14))) (C := RX9) (T := TX9) (N := 16) hx hb hts hiX9 hown hK hP ta (wkT hta) rfl 8 (by decide) (hts _ (List.mem_cons_of_mem _ wkq_3_36)) (fun _ h9 => h9) rfl (dk_at dkX2_isAhead_0 1 rfl) ?_
  refine lv_iload_n hx hb (dk_at dkX2_isAhead_0 2 rfl) rfl (lv_at hl 1 rfl) ?_
  refine x_iald (Wf := WK cB cI cJ cZ cQ q) hx hb hK hP (ta + 14) 1 (wkTmb hta) rfl (by omega) (by decide) (dk_at dkX2_isAhead_0 3 rfl) (fun z1 hz1 => ?_)
  have rz1 : (-2147483648 : Int) ≤ z1 ∧ z1 ≤ 2147483647 := by rw [hz1]; exact irTmb hta hI
  have gz1 := Hd.mk hz1
  refine lv_aload_n hx hb (dk_at dkX2_isAhead_0 4 rfl) rfl (lv_at hl 0 rfl) ?_
  refine va_get (D := (dC, dI)) (ci := 9) (v := .ref (q (ta + 14))) (C := RX9) (T := TX9) (N := 16) hx hb hts hiX9 hown hK hP ta (wkT hta) rfl 8 (by decide) (hts _ (List.mem_cons_of_mem _ wkq_3_36)) (fun _ h9 => h9) rfl (dk_at dkX2_isAhead_0 5 rfl) ?_
  refine lv_iload_n hx hb (dk_at dkX2_isAhead_0 6 rfl) rfl (lv_at hl 2 rfl) ?_
  refine x_iald (Wf := WK cB cI cJ cZ cQ q) hx hb hK hP (ta + 14) 1 (wkTmb hta) rfl (by omega) (by decide) (dk_at dkX2_isAhead_0 7 rfl) (fun z2 hz2 => ?_)
  have rz2 : (-2147483648 : Int) ≤ z2 ∧ z2 ≤ 2147483647 := by rw [hz2]; exact irTmb hta hI
  have gz2 := Hd.mk hz2
  refine lv_icmp_eq (tgt := 36) hx hb (dk_at dkX2_isAhead_0 8 rfl) (by decide) (fun c3 => ?_) (fun c3 => ?_)
  · have c3 : z1 = z2 := (i_eq rz1 rz2).mp c3
    refine lv_aload_n hx hb (dk_at dkX2_isAhead_1 6 rfl) rfl (lv_at hl 0 rfl) ?_
    refine va_get (D := (dC, dI)) (ci := 9) (v := .ref (q (ta + 15))) (C := RX9) (T := TX9) (N := 16) hx hb hts hiX9 hown hK hP ta (wkT hta) rfl 9 (by decide) (hts _ (List.mem_cons_of_mem _ wkq_3_37)) (fun _ h9 => h9) rfl (dk_at dkX2_isAhead_1 7 rfl) ?_
    refine lv_iload_n hx hb (dk_at dkX2_isAhead_1 8 rfl) rfl (lv_at hl 1 rfl) ?_
    refine x_iald (Wf := WK cB cI cJ cZ cQ q) hx hb hK hP (ta + 15) 1 (wkTme hta) rfl (by omega) (by decide) (dk_at dkX2_isAhead_1 9 rfl) (fun z4 hz4 => ?_)
    have rz4 : (-2147483648 : Int) ≤ z4 ∧ z4 ≤ 2147483647 := by rw [hz4]; exact irTme hta hI
    have gz4 := Hd.mk hz4
    refine lv_aload_n hx hb (dk_at dkX2_isAhead_1 10 rfl) rfl (lv_at hl 0 rfl) ?_
    refine va_get (D := (dC, dI)) (ci := 9) (v := .ref (q (ta + 15))) (C := RX9) (T := TX9) (N := 16) hx hb hts hiX9 hown hK hP ta (wkT hta) rfl 9 (by decide) (hts _ (List.mem_cons_of_mem _ wkq_3_37)) (fun _ h9 => h9) rfl (dk_at dkX2_isAhead_1 11 rfl) ?_
    refine lv_iload_n hx hb (dk_at dkX2_isAhead_1 12 rfl) rfl (lv_at hl 2 rfl) ?_
    refine x_iald (Wf := WK cB cI cJ cZ cQ q) hx hb hK hP (ta + 15) 1 (wkTme hta) rfl (by omega) (by decide) (dk_at dkX2_isAhead_1 13 rfl) (fun z5 hz5 => ?_)
    have rz5 : (-2147483648 : Int) ≤ z5 ∧ z5 ≤ 2147483647 := by rw [hz5]; exact irTme hta hI
    have gz5 := Hd.mk hz5
    refine lv_icmp_eq (tgt := 72) hx hb (dk_at dkX2_isAhead_1 14 rfl) (by decide) (fun c6 => ?_) (fun c6 => ?_)
    · have c6 : z4 = z5 := (i_eq rz4 rz5).mp c6
      refine lv_iload_n hx hb (dk_at dkX2_isAhead_2 12 rfl) rfl (lv_at hl 1 rfl) ?_
      refine lv_iload_n hx hb (dk_at dkX2_isAhead_2 13 rfl) rfl (lv_at hl 2 rfl) ?_
      refine lv_icmp_ge (tgt := 81) hx hb (dk_at dkX2_isAhead_2 14 rfl) (by decide) (fun c7 => ?_) (fun c7 => ?_)
      · have c7 : x3 ≤ x2 := (i_le (rb hx3 (by decide) (by decide)) (rb hx2 (by decide) (by decide))).mp c7
        refine lv_iconst (v := iI 0) hx hb (dk_at dkX2_isAhead_3 1 rfl) (by decide +kernel) ?_
        exact RET 0 _ _ _ _ _ ⟨rfl, (u_r_X2_isAhead ⟨z1, gz1.out, ⟨z2, gz2.out, (Or.inl ⟨c3, ⟨z4, gz4.out, ⟨z5, gz5.out, (Or.inl ⟨c6, (Or.inl ⟨c7, rfl⟩)⟩)⟩⟩⟩)⟩⟩), ⟨by decide, by decide⟩⟩ hP hS (dk_at dkX2_isAhead_3 2 rfl)
      · have c7 : ¬ x3 ≤ x2 := mt (i_le (rb hx3 (by decide) (by decide)) (rb hx2 (by decide) (by decide))).mpr c7
        refine lv_iconst (v := iI 1) hx hb (dk_at dkX2_isAhead_2 15 rfl) (by decide +kernel) ?_
        refine lv_goto (tgt := 82) hx hb (dk_at dkX2_isAhead_3 0 rfl) (by decide) ?_
        exact RET 1 _ _ _ _ _ ⟨rfl, (u_r_X2_isAhead ⟨z1, gz1.out, ⟨z2, gz2.out, (Or.inl ⟨c3, ⟨z4, gz4.out, ⟨z5, gz5.out, (Or.inl ⟨c6, (Or.inr ⟨c7, rfl⟩)⟩)⟩⟩⟩)⟩⟩), ⟨by decide, by decide⟩⟩ hP hS (dk_at dkX2_isAhead_3 2 rfl)
    · have c6 : ¬ z4 = z5 := mt (i_eq rz4 rz5).mpr c6
      refine lv_aload_n hx hb (dk_at dkX2_isAhead_1 15 rfl) rfl (lv_at hl 0 rfl) ?_
      refine va_get (D := (dC, dI)) (ci := 9) (v := .ref (q (ta + 15))) (C := RX9) (T := TX9) (N := 16) hx hb hts hiX9 hown hK hP ta (wkT hta) rfl 9 (by decide) (hts _ (List.mem_cons_of_mem _ wkq_3_37)) (fun _ h9 => h9) rfl (dk_at dkX2_isAhead_2 0 rfl) ?_
      refine lv_iload_n hx hb (dk_at dkX2_isAhead_2 1 rfl) rfl (lv_at hl 1 rfl) ?_
      refine x_iald (Wf := WK cB cI cJ cZ cQ q) hx hb hK hP (ta + 15) 1 (wkTme hta) rfl (by omega) (by decide) (dk_at dkX2_isAhead_2 2 rfl) (fun z8 hz8 => ?_)
      have rz8 : (-2147483648 : Int) ≤ z8 ∧ z8 ≤ 2147483647 := by rw [hz8]; exact irTme hta hI
      have gz8 := Hd.mk hz8
      have ez8 : z8 = z4 := hz8.trans hz4.symm
      refine tp_i (y := iI z4) (congrArg iI ez8) ?_
      refine lv_aload_n hx hb (dk_at dkX2_isAhead_2 3 rfl) rfl (lv_at hl 0 rfl) ?_
      refine va_get (D := (dC, dI)) (ci := 9) (v := .ref (q (ta + 15))) (C := RX9) (T := TX9) (N := 16) hx hb hts hiX9 hown hK hP ta (wkT hta) rfl 9 (by decide) (hts _ (List.mem_cons_of_mem _ wkq_3_37)) (fun _ h9 => h9) rfl (dk_at dkX2_isAhead_2 4 rfl) ?_
      refine lv_iload_n hx hb (dk_at dkX2_isAhead_2 5 rfl) rfl (lv_at hl 2 rfl) ?_
      refine x_iald (Wf := WK cB cI cJ cZ cQ q) hx hb hK hP (ta + 15) 1 (wkTme hta) rfl (by omega) (by decide) (dk_at dkX2_isAhead_2 6 rfl) (fun z9 hz9 => ?_)
      have rz9 : (-2147483648 : Int) ≤ z9 ∧ z9 ≤ 2147483647 := by rw [hz9]; exact irTme hta hI
      have gz9 := Hd.mk hz9
      have ez9 : z9 = z5 := hz9.trans hz5.symm
      refine tp_i (y := iI z5) (congrArg iI ez9) ?_
      refine lv_icmp_le (tgt := 70) hx hb (dk_at dkX2_isAhead_2 7 rfl) (by decide) (fun c10 => ?_) (fun c10 => ?_)
      · have c10 : z4 ≤ z5 := (i_le rz4 rz5).mp c10
        refine lv_iconst (v := iI 0) hx hb (dk_at dkX2_isAhead_2 10 rfl) (by decide +kernel) ?_
        exact RET 0 _ _ _ _ _ ⟨rfl, (u_r_X2_isAhead ⟨z1, gz1.out, ⟨z2, gz2.out, (Or.inl ⟨c3, ⟨z4, gz4.out, ⟨z5, gz5.out, (Or.inr ⟨c6, (Or.inl ⟨c10, rfl⟩)⟩)⟩⟩⟩)⟩⟩), ⟨by decide, by decide⟩⟩ hP hS (dk_at dkX2_isAhead_2 11 rfl)
      · have c10 : ¬ z4 ≤ z5 := mt (i_le rz4 rz5).mpr c10
        refine lv_iconst (v := iI 1) hx hb (dk_at dkX2_isAhead_2 8 rfl) (by decide +kernel) ?_
        refine lv_goto (tgt := 71) hx hb (dk_at dkX2_isAhead_2 9 rfl) (by decide) ?_
        exact RET 1 _ _ _ _ _ ⟨rfl, (u_r_X2_isAhead ⟨z1, gz1.out, ⟨z2, gz2.out, (Or.inl ⟨c3, ⟨z4, gz4.out, ⟨z5, gz5.out, (Or.inr ⟨c6, (Or.inr ⟨c10, rfl⟩)⟩)⟩⟩⟩)⟩⟩), ⟨by decide, by decide⟩⟩ hP hS (dk_at dkX2_isAhead_2 11 rfl)
  · have c3 : ¬ z1 = z2 := mt (i_eq rz1 rz2).mpr c3
    refine lv_aload_n hx hb (dk_at dkX2_isAhead_0 9 rfl) rfl (lv_at hl 0 rfl) ?_
    refine va_get (D := (dC, dI)) (ci := 9) (v := .ref (q (ta + 14))) (C := RX9) (T := TX9) (N := 16) hx hb hts hiX9 hown hK hP ta (wkT hta) rfl 8 (by decide) (hts _ (List.mem_cons_of_mem _ wkq_3_36)) (fun _ h9 => h9) rfl (dk_at dkX2_isAhead_0 10 rfl) ?_
    refine lv_iload_n hx hb (dk_at dkX2_isAhead_0 11 rfl) rfl (lv_at hl 1 rfl) ?_
    refine x_iald (Wf := WK cB cI cJ cZ cQ q) hx hb hK hP (ta + 14) 1 (wkTmb hta) rfl (by omega) (by decide) (dk_at dkX2_isAhead_0 12 rfl) (fun z11 hz11 => ?_)
    have rz11 : (-2147483648 : Int) ≤ z11 ∧ z11 ≤ 2147483647 := by rw [hz11]; exact irTmb hta hI
    have gz11 := Hd.mk hz11
    have ez11 : z11 = z1 := hz11.trans hz1.symm
    refine tp_i (y := iI z1) (congrArg iI ez11) ?_
    refine lv_aload_n hx hb (dk_at dkX2_isAhead_0 13 rfl) rfl (lv_at hl 0 rfl) ?_
    refine va_get (D := (dC, dI)) (ci := 9) (v := .ref (q (ta + 14))) (C := RX9) (T := TX9) (N := 16) hx hb hts hiX9 hown hK hP ta (wkT hta) rfl 8 (by decide) (hts _ (List.mem_cons_of_mem _ wkq_3_36)) (fun _ h9 => h9) rfl (dk_at dkX2_isAhead_0 14 rfl) ?_
    refine lv_iload_n hx hb (dk_at dkX2_isAhead_0 15 rfl) rfl (lv_at hl 2 rfl) ?_
    refine x_iald (Wf := WK cB cI cJ cZ cQ q) hx hb hK hP (ta + 14) 1 (wkTmb hta) rfl (by omega) (by decide) (dk_at dkX2_isAhead_1 0 rfl) (fun z12 hz12 => ?_)
    have rz12 : (-2147483648 : Int) ≤ z12 ∧ z12 ≤ 2147483647 := by rw [hz12]; exact irTmb hta hI
    have gz12 := Hd.mk hz12
    have ez12 : z12 = z2 := hz12.trans hz2.symm
    refine tp_i (y := iI z2) (congrArg iI ez12) ?_
    refine lv_icmp_ge (tgt := 34) hx hb (dk_at dkX2_isAhead_1 1 rfl) (by decide) (fun c13 => ?_) (fun c13 => ?_)
    · have c13 : z2 ≤ z1 := (i_le rz2 rz1).mp c13
      refine lv_iconst (v := iI 0) hx hb (dk_at dkX2_isAhead_1 4 rfl) (by decide +kernel) ?_
      exact RET 0 _ _ _ _ _ ⟨rfl, (u_r_X2_isAhead ⟨z1, gz1.out, ⟨z2, gz2.out, (Or.inr ⟨c3, (Or.inl ⟨c13, rfl⟩)⟩)⟩⟩), ⟨by decide, by decide⟩⟩ hP hS (dk_at dkX2_isAhead_1 5 rfl)
    · have c13 : ¬ z2 ≤ z1 := mt (i_le rz2 rz1).mpr c13
      refine lv_iconst (v := iI 1) hx hb (dk_at dkX2_isAhead_1 2 rfl) (by decide +kernel) ?_
      refine lv_goto (tgt := 35) hx hb (dk_at dkX2_isAhead_1 3 rfl) (by decide) ?_
      exact RET 1 _ _ _ _ _ ⟨rfl, (u_r_X2_isAhead ⟨z1, gz1.out, ⟨z2, gz2.out, (Or.inr ⟨c3, (Or.inr ⟨c13, rfl⟩)⟩)⟩⟩), ⟨by decide, by decide⟩⟩ hP hS (dk_at dkX2_isAhead_1 5 rfl)

abbrev tr_d_X2_inOrder_3 (K2 : Int → Int → Prop) (z10 : Int) (z : Int) (z28 : Int) : Prop := ((-2147483648 ≤ z28 ∧ z28 ≤ 2147483647) ∧ (K2 (z10 + 1) z28))
def d_X2_inOrder_3 (K2 : Int → Int → Prop) (z10 : Int) (z : Int) (z28 : Int) : Prop := tr_d_X2_inOrder_3 K2 z10 z z28
theorem u_d_X2_inOrder_3 {K2 : Int → Int → Prop} {z10 : Int} {z : Int} {z28 : Int} (h : tr_d_X2_inOrder_3 K2 z10 z z28) : d_X2_inOrder_3 K2 z10 z z28 := h
abbrev tr_d_X2_inOrder_2 (K1 : Int → Prop) (ta : Nat) (x2 : Int) (z1 : Int) (z8 : Int) (A : St) (z : Int) (K2 : Int → Int → Prop) (z10 : Int) (z11 : Int) : Prop := ((0 ≤ z10 ∧ z10 ≤ 2147483647) ∧ ((-2147483648 ≤ z11 ∧ z11 ≤ 2147483647) ∧ (((z8 ≤ z10) ∧ (((¬ z11 = x2) ∧ (K1 (z1 + 1))) ∨ ((z11 = x2) ∧ (z = z1)))) ∨ ((¬ z8 ≤ z10) ∧ (∃ z22 : Int, q_X2_isAhead ta z10 z1 A z22 ∧ (((z22 = 0) ∧ (d_X2_inOrder_3 K2 z10 z z11)) ∨ ((¬ z22 = 0) ∧ (∃ z27 : Int, z27 = oWrap (z11 + 1) ∧ (d_X2_inOrder_3 K2 z10 z z27)))))))))
def d_X2_inOrder_2 (K1 : Int → Prop) (ta : Nat) (x2 : Int) (z1 : Int) (z8 : Int) (A : St) (z : Int) : Nat → Int → Int → Prop
  | 0, _, _ => False
  | nn9 + 1, z10, z11 => tr_d_X2_inOrder_2 K1 ta x2 z1 z8 A z (fun z10 z11 => d_X2_inOrder_2 K1 ta x2 z1 z8 A z nn9 z10 z11) z10 z11
theorem u_d_X2_inOrder_2 {K1 : Int → Prop} {ta : Nat} {x2 : Int} {z1 : Int} {z8 : Int} {A : St} {z : Int} {nn9 : Nat} {z10 : Int} {z11 : Int} (h : tr_d_X2_inOrder_2 K1 ta x2 z1 z8 A z (fun z10 z11 => d_X2_inOrder_2 K1 ta x2 z1 z8 A z nn9 z10 z11) z10 z11) : d_X2_inOrder_2 K1 ta x2 z1 z8 A z (nn9 + 1) z10 z11 := h
abbrev tr_d_X2_inOrder_1 (ta : Nat) (x2 : Int) (A : St) (z : Int) (K1 : Int → Prop) (z1 : Int) : Prop := ((0 ≤ z1 ∧ z1 ≤ 2147483647) ∧ (∃ z8 : Int, z8 = A (ta + 1) (6 : Int).toNat ∧ (((z8 ≤ z1) ∧ (z = (-1))) ∨ ((¬ z8 ≤ z1) ∧ (∃ nn9 : Nat, d_X2_inOrder_2 K1 ta x2 z1 z8 A z nn9 0 0)))))
def d_X2_inOrder_1 (ta : Nat) (x2 : Int) (A : St) (z : Int) : Nat → Int → Prop
  | 0, _ => False
  | nn9 + 1, z1 => tr_d_X2_inOrder_1 ta x2 A z (fun z1 => d_X2_inOrder_1 ta x2 A z nn9 z1) z1
theorem u_d_X2_inOrder_1 {ta : Nat} {x2 : Int} {A : St} {z : Int} {nn9 : Nat} {z1 : Int} (h : tr_d_X2_inOrder_1 ta x2 A z (fun z1 => d_X2_inOrder_1 ta x2 A z nn9 z1) z1) : d_X2_inOrder_1 ta x2 A z (nn9 + 1) z1 := h
abbrev tr_r_X2_inOrder (ta : Nat) (x2 : Int) (A : St) (z : Int) : Prop := (∃ nn9 : Nat, d_X2_inOrder_1 ta x2 A z nn9 0)
def r_X2_inOrder (ta : Nat) (x2 : Int) (A : St) (z : Int) : Prop := tr_r_X2_inOrder ta x2 A z
theorem u_r_X2_inOrder {ta : Nat} {x2 : Int} {A : St} {z : Int} (h : tr_r_X2_inOrder ta x2 A z) : r_X2_inOrder ta x2 A z := h
def q_X2_inOrder (ta : Nat) (x2 : Int) (A : St) (z : Int) : Prop := r_X2_inOrder ta x2 A z ∧ (-2147483648 ≤ z ∧ z ≤ 2147483647)
def ws_kc_X2_inOrder : List Cond := .code yX2_inOrder cX2_inOrder 6 (some .int) :: WY
set_option maxHeartbeats 4000000 in
set_option maxRecDepth 100000 in
theorem kc_X2_inOrder (l : Launch) (dC : Nat → ClassId) (dI : Nat → Nat → Nat) (cB cI cJ cZ cQ : ClassId) (aL aS : Nat) (q : Nat → Nat) (A : St) (ta : Nat) (x2 : Int) (hI : IK A) (hta : isT ta) (hx2 : (-2147483648 : Int) ≤ x2 ∧ x2 ≤ 2147483647) : KMi l yX2_inOrder ws_kc_X2_inOrder ({ frames := 1, cells := 0, slots := 0, locals := 22 } : Room) aL aS (dC, dI) (tyA cB cI cJ cZ cQ) (WK cB cI cJ cZ cQ q) A [.ref (q 20), .ref (q ta), .int (iI x2)] (fun z u => A = u ∧ r_X2_inOrder ta x2 A z ∧ (-2147483648 ≤ z ∧ z ≤ 2147483647)) := by
  refine k_meti (cc := cX2_inOrder) (maxL := 6) WK_adr (plainFor_of_name (by decide +kernel)) rfl (Nat.le_of_ble_eq_true rfl) (fun p e s m below meth c Q AS ls hx hb hml hown hts hK hDD hA0 hE RET H locs hP hS hl => ?_)
  have hown : s.vm.findClass RX2 = some m.cls := hown
  have hl : lv_has ls 6 [(0, .ref (q 20)), (1, .ref (q ta)), (2, .int (iI x2))] := hl
  have hiX9 : ∀ w ∈ u_ws RX9 TX9 16, w ∈ ws_kc_X2_inOrder := fun w h => List.mem_cons_of_mem _ (wy_layX9 w h)
  refine lv_iconst (v := iI 0) hx hb (dk_at dkX2_inOrder_0 0 rfl) (by decide +kernel) ?_
  refine lv_istore_n (lv' := [(3, .int (iI 0)), (0, .ref (q 20)), (1, .ref (q ta)), (2, .int (iI x2))]) hx hb (dk_at dkX2_inOrder_0 1 rfl) rfl hl (by decide) rfl (fun ls hl => ?_)
  have L2_3 : ∀ (n7 : Nat) (z1 : Int) (H : Heap) (locs : List Loc) (ls : Array Slot), (0 ≤ z1 ∧ z1 ≤ 2147483647) → (∀ (z : Int), (∃ mm1 : Nat, (d_X2_inOrder_1 ta x2 A z mm1 z1)) → r_X2_inOrder ta x2 A z) → ((7 - z1).toNat = n7) → va_P (dC, dI) vwCl (WK cB cI cJ cZ cQ q A) H → va_S AS s.heap H locs → lv_has ls 6 [(3, .int (iI z1)), (0, .ref (q 20)), (1, .ref (q ta)), (2, .int (iI x2))] → W p l e (headSpec ws_kc_X2_inOrder ({ frames := 1, cells := 0, slots := 0, locals := 22 } : Room)).room s m [.ref (q 20), .ref (q ta), .int (iI x2)].toArray below meth c H locs 0 0 Q (F0 m 2 ls []) := by
    intro n7
    induction n7 using Nat.strongRecOn with
    | ind n7 ih4 =>
      intro z1 H locs ls f5 hk1 hn7 hP hS hl
      refine lv_iload_n hx hb (dk_at dkX2_inOrder_0 2 rfl) rfl (lv_at hl 0 rfl) ?_
      refine lv_aload_n hx hb (dk_at dkX2_inOrder_0 3 rfl) rfl (lv_at hl 2 rfl) ?_
      refine va_get (D := (dC, dI)) (ci := 9) (v := .ref (q (ta + 1))) (C := RX9) (T := TX9) (N := 16) hx hb hts hiX9 hown hK hP ta (wkT hta) rfl 0 (by decide) (hts _ (List.mem_cons_of_mem _ wkq_3_31)) (fun _ h9 => h9) rfl (dk_at dkX2_inOrder_0 4 rfl) ?_
      refine lv_bipush (v := iI 6) hx hb (dk_at dkX2_inOrder_0 5 rfl) (by decide +kernel) ?_
      refine x_iald (Wf := WK cB cI cJ cZ cQ q) hx hb hK hP (ta + 1) 1 (wkTc hta) rfl (by decide) (by decide) (dk_at dkX2_inOrder_0 6 rfl) (fun z8 hz8 => ?_)
      have rz8 : (0 : Int) ≤ z8 ∧ z8 ≤ 6 := by rw [hz8]; exact irTc6 hta hI
      have gz8 := Hd.mk hz8
      refine lv_icmp_ge (tgt := 64) hx hb (dk_at dkX2_inOrder_0 7 rfl) (by decide) (fun c9 => ?_) (fun c9 => ?_)
      · have c9 : z8 ≤ z1 := (i_le (rb rz8 (by decide) (by decide)) (rb f5 (by decide) (by decide))).mp c9
        refine lv_iconst (v := iI (-1)) hx hb (dk_at dkX2_inOrder_2 1 rfl) (by decide +kernel) ?_
        exact RET (-1) _ _ _ _ _ ⟨rfl, hk1 _ ⟨0 + 1, (u_d_X2_inOrder_1 ⟨f5, ⟨z8, gz8.out, (Or.inl ⟨c9, rfl⟩)⟩⟩)⟩, ⟨by decide, by decide⟩⟩ hP hS (dk_at dkX2_inOrder_2 2 rfl)
      · have c9 : ¬ z8 ≤ z1 := mt (i_le (rb rz8 (by decide) (by decide)) (rb f5 (by decide) (by decide))).mpr c9
        refine lv_iconst (v := iI 0) hx hb (dk_at dkX2_inOrder_0 8 rfl) (by decide +kernel) ?_
        refine lv_istore (lv' := [(4, .int (iI 0)), (3, .int (iI z1)), (0, .ref (q 20)), (1, .ref (q ta)), (2, .int (iI x2))]) hx hb (dk_at dkX2_inOrder_0 9 rfl) hl (by decide) rfl (fun ls hl => ?_)
        refine lv_iconst (v := iI 0) hx hb (dk_at dkX2_inOrder_0 10 rfl) (by decide +kernel) ?_
        refine lv_istore (lv' := [(5, .int (iI 0)), (4, .int (iI 0)), (3, .int (iI z1)), (0, .ref (q 20)), (1, .ref (q ta)), (2, .int (iI x2))]) hx hb (dk_at dkX2_inOrder_0 11 rfl) hl (by decide) rfl (fun ls hl => ?_)
        have L19_13 : ∀ (n18 : Nat) (z10 z11 : Int) (H : Heap) (locs : List Loc) (ls : Array Slot), (0 ≤ z10 ∧ z10 ≤ 2147483647) → (-2147483648 ≤ z11 ∧ z11 ≤ 2147483647) → (∀ (z : Int), (∃ mm1 mm2 : Nat, (d_X2_inOrder_2 (fun z1' => d_X2_inOrder_1 ta x2 A z mm1 z1') ta x2 z1 z8 A z mm2 z10 z11)) → r_X2_inOrder ta x2 A z) → ((7 - z10).toNat = n18) → va_P (dC, dI) vwCl (WK cB cI cJ cZ cQ q A) H → va_S AS s.heap H locs → lv_has ls 6 [(5, .int (iI z10)), (4, .int (iI z11)), (3, .int (iI z1)), (0, .ref (q 20)), (1, .ref (q ta)), (2, .int (iI x2))] → W p l e (headSpec ws_kc_X2_inOrder ({ frames := 1, cells := 0, slots := 0, locals := 22 } : Room)).room s m [.ref (q 20), .ref (q ta), .int (iI x2)].toArray below meth c H locs 0 0 Q (F0 m 19 ls []) := by
          intro n18
          induction n18 using Nat.strongRecOn with
          | ind n18 ih14 =>
            intro z10 z11 H locs ls f15 f16 hk2 hn18 hP hS hl
            refine lv_iload hx hb (dk_at dkX2_inOrder_0 12 rfl) (lv_at hl 0 rfl) ?_
            refine lv_aload_n hx hb (dk_at dkX2_inOrder_0 13 rfl) rfl (lv_at hl 4 rfl) ?_
            refine va_get (D := (dC, dI)) (ci := 9) (v := .ref (q (ta + 1))) (C := RX9) (T := TX9) (N := 16) hx hb hts hiX9 hown hK hP ta (wkT hta) rfl 0 (by decide) (hts _ (List.mem_cons_of_mem _ wkq_3_31)) (fun _ h9 => h9) rfl (dk_at dkX2_inOrder_0 14 rfl) ?_
            refine lv_bipush (v := iI 6) hx hb (dk_at dkX2_inOrder_0 15 rfl) (by decide +kernel) ?_
            refine x_iald (Wf := WK cB cI cJ cZ cQ q) hx hb hK hP (ta + 1) 1 (wkTc hta) rfl (by decide) (by decide) (dk_at dkX2_inOrder_1 0 rfl) (fun z19 hz19 => ?_)
            have rz19 : (0 : Int) ≤ z19 ∧ z19 ≤ 6 := by rw [hz19]; exact irTc6 hta hI
            have gz19 := Hd.mk hz19
            have ez19 : z19 = z8 := hz19.trans hz8.symm
            refine tp_i (y := iI z8) (congrArg iI ez19) ?_
            refine lv_icmp_ge (tgt := 50) hx hb (dk_at dkX2_inOrder_1 1 rfl) (by decide) (fun c20 => ?_) (fun c20 => ?_)
            · have c20 : z8 ≤ z10 := (i_le (rb rz8 (by decide) (by decide)) (rb f15 (by decide) (by decide))).mp c20
              refine lv_iload hx hb (dk_at dkX2_inOrder_1 10 rfl) (lv_at hl 1 rfl) ?_
              refine lv_iload_n hx hb (dk_at dkX2_inOrder_1 11 rfl) rfl (lv_at hl 5 rfl) ?_
              refine lv_icmp_ne (tgt := 58) hx hb (dk_at dkX2_inOrder_1 12 rfl) (by decide) (fun c21 => ?_) (fun c21 => ?_)
              · have c21 : ¬ z11 = x2 := mt (i_eq f16 hx2).mpr c21
                refine lv_iinc (v := iI (z1 + 1)) (lv' := [(3, .int (iI (z1 + 1))), (5, .int (iI z10)), (4, .int (iI z11)), (0, .ref (q 20)), (1, .ref (q ta)), (2, .int (iI x2))]) hx hb (dk_at dkX2_inOrder_1 15 rfl) hl (k := 2) rfl (i_inc (by omega)) (by decide) rfl (fun ls hl => ?_)
                refine lv_goto (tgt := 2) hx hb (dk_at dkX2_inOrder_2 0 rfl) (by decide) ?_
                exact ih4 _ (by omega) (z1 + 1) _ _ _ (by omega) (fun zq ⟨mm1, hq⟩ => hk2 _ ⟨mm1, 0 + 1, (u_d_X2_inOrder_2 ⟨f15, ⟨f16, (Or.inl ⟨c20, (Or.inl ⟨c21, hq⟩)⟩)⟩⟩)⟩) rfl hP hS (lv_sub hl [0, 3, 4, 5] rfl)
              · have c21 : z11 = x2 := (i_eq f16 hx2).mp c21
                refine lv_iload_n hx hb (dk_at dkX2_inOrder_1 13 rfl) rfl (lv_at hl 2 rfl) ?_
                exact RET z1 _ _ _ _ _ ⟨rfl, hk2 _ ⟨0, 0 + 1, (u_d_X2_inOrder_2 ⟨f15, ⟨f16, (Or.inl ⟨c20, (Or.inr ⟨c21, rfl⟩)⟩)⟩⟩)⟩, (rb f5 (by decide) (by decide))⟩ hP hS (dk_at dkX2_inOrder_1 14 rfl)
            · have c20 : ¬ z8 ≤ z10 := mt (i_le (rb rz8 (by decide) (by decide)) (rb f15 (by decide) (by decide))).mpr c20
              refine lv_aload_n hx hb (dk_at dkX2_inOrder_1 2 rfl) rfl (lv_at hl 4 rfl) ?_
              refine lv_iload hx hb (dk_at dkX2_inOrder_1 3 rfl) (lv_at hl 0 rfl) ?_
              refine lv_iload_n hx hb (dk_at dkX2_inOrder_1 4 rfl) rfl (lv_at hl 2 rfl) ?_
              refine k_callSi (As := [.ref (q ta), .int (iI z10), .int (iI z1)]) (rest := []) ⟨hx, hb, hml, hown, hts⟩ hE (kc_X2_isAhead l dC dI cB cI cJ cZ cQ aL aS q _ ta z10 z1 hI hta (by omega) (by omega)) (va_cwS 3 hts (goodSk wkq_3_51 wkq_3_52 wkq_3_34 wkq_3_53) rfl rfl rfl (by decide +kernel) ⟨Nat.le_of_ble_eq_true rfl, Nat.le_of_ble_eq_true rfl⟩) hK hDD hA0 hP hS rfl hl.1 (Nat.le_of_ble_eq_true rfl) (dk_at dkX2_inOrder_1 5 rfl) (fun z22 A23 H locs hw24 hP hS => ?_)
              obtain ⟨rfl, hw24⟩ := hw24
              have ghw24 : q_X2_isAhead ta z10 z1 A z22 := hw24
              have hw24 := hw24.2
              have J44_26 : ∀ (z28 : Int) (H : Heap) (locs : List Loc) (ls : Array Slot), (-2147483648 ≤ z28 ∧ z28 ≤ 2147483647) → (∀ (z : Int), (∃ mm1 mm2 : Nat, (d_X2_inOrder_3 (fun z10' z11' => d_X2_inOrder_2 (fun z1' => d_X2_inOrder_1 ta x2 A z mm1 z1') ta x2 z1 z8 A z mm2 z10' z11') z10 z z28)) → r_X2_inOrder ta x2 A z) → va_P (dC, dI) vwCl (WK cB cI cJ cZ cQ q A) H → va_S AS s.heap H locs → lv_has ls 6 [(5, .int (iI z10)), (4, .int (iI z28)), (3, .int (iI z1)), (0, .ref (q 20)), (1, .ref (q ta)), (2, .int (iI x2))] → W p l e (headSpec ws_kc_X2_inOrder ({ frames := 1, cells := 0, slots := 0, locals := 22 } : Room)).room s m [.ref (q 20), .ref (q ta), .int (iI x2)].toArray below meth c H locs 0 0 Q (F0 m 44 ls []) := by
                intro z28 H locs ls f30 hk3 hP hS hl
                refine lv_iinc (v := iI (z10 + 1)) (lv' := [(5, .int (iI (z10 + 1))), (4, .int (iI z28)), (3, .int (iI z1)), (0, .ref (q 20)), (1, .ref (q ta)), (2, .int (iI x2))]) hx hb (dk_at dkX2_inOrder_1 8 rfl) hl (k := 0) rfl (i_inc (by omega)) (by decide) rfl (fun ls hl => ?_)
                refine lv_goto (tgt := 19) hx hb (dk_at dkX2_inOrder_1 9 rfl) (by decide) ?_
                exact ih14 _ (by omega) (z10 + 1) z28 _ _ _ (by omega) (by omega) (fun zq ⟨mm1, mm2, hq⟩ => hk3 _ ⟨mm1, mm2, (u_d_X2_inOrder_3 ⟨f30, hq⟩)⟩) rfl hP hS (lv_sub hl [0, 1, 2, 3, 4, 5] rfl)
              refine lv_if_eq (tgt := 44) hx hb (dk_at dkX2_inOrder_1 6 rfl) (by decide) (fun c25 => ?_) (fun c25 => ?_)
              · have c25 : z22 = 0 := (i_eq0 (rb hw24 (by decide) (by decide))).mp c25
                exact J44_26 z11 _ _ _ (by omega) (fun zq ⟨mm1, mm2, hq⟩ => hk2 _ ⟨mm1, mm2 + 1, (u_d_X2_inOrder_2 ⟨f15, ⟨f16, (Or.inr ⟨c20, ⟨z22, ghw24, (Or.inl ⟨c25, hq⟩)⟩⟩)⟩⟩)⟩) hP hS (lv_sub hl [0, 1, 2, 3, 4, 5] rfl)
              · have c25 : ¬ z22 = 0 := mt (i_eq0 (rb hw24 (by decide) (by decide))).mpr c25
                obtain ⟨z27, gz27, hz27, ez27⟩ := i_wrapE (z11 + 1)
                refine lv_iinc (v := iI z27) (lv' := [(4, .int (iI z27)), (5, .int (iI z10)), (3, .int (iI z1)), (0, .ref (q 20)), (1, .ref (q ta)), (2, .int (iI x2))]) hx hb (dk_at dkX2_inOrder_1 7 rfl) hl (k := 1) rfl ((i_inc (by omega)).trans ez27) (by decide) rfl (fun ls hl => ?_)
                exact J44_26 z27 _ _ _ (by omega) (fun zq ⟨mm1, mm2, hq⟩ => hk2 _ ⟨mm1, mm2 + 1, (u_d_X2_inOrder_2 ⟨f15, ⟨f16, (Or.inr ⟨c20, ⟨z22, ghw24, (Or.inr ⟨c25, ⟨z27, gz27.out, hq⟩⟩)⟩⟩)⟩⟩)⟩) hP hS (lv_sub hl [1, 0, 2, 3, 4, 5] rfl)
        exact L19_13 _ 0 0 _ _ _ (by omega) (by omega) (fun zq ⟨mm1, mm2, hq⟩ => hk1 _ ⟨mm1 + 1, (u_d_X2_inOrder_1 ⟨f5, ⟨z8, gz8.out, (Or.inr ⟨c9, ⟨mm2, hq⟩⟩)⟩⟩)⟩) rfl hP hS (lv_sub hl [0, 1, 2, 3, 4, 5] rfl)
  exact L2_3 _ 0 _ _ _ (by omega) (fun zq ⟨mm1, hq⟩ => (u_r_X2_inOrder ⟨mm1, hq⟩)) rfl hP hS (lv_sub hl [0, 1, 2, 3] rfl)
theorem dkX3_begin_0 : dkq cX3_begin [(0, .aload_n 0, 1), (1, .iconst 0, 1), (2, .putfield 9, 3), (5, .aload_n 0, 1), (6, .iconst (-1), 1), (7, .putfield 24, 3), (10, .aload_n 0, 1), (11, .iconst 0, 1), (12, .putfield 27, 3), (15, .return_, 1)] = true := by decide +kernel
theorem dkX3_pass_0 : dkq cX3_pass [(0, .aload_n 0, 1), (1, .iconst 0, 1), (2, .putfield 27, 3), (5, .return_, 1)] = true := by decide +kernel
theorem dkX3_isSign_0 : dkq cX3_isSign [(0, .aload_n 0, 1), (1, .getfield 15, 3), (4, .iconst 3, 1), (5, .if_icmp .ne 15, 3), (8, .aload_n 0, 1), (9, .getfield 21, 3), (12, .iload_n 1, 1), (13, .if_icmp .ne 7, 3), (16, .iconst 1, 1), (17, .goto 4, 3), (20, .iconst 0, 1), (21, .ireturn, 1)] = true := by decide +kernel
theorem dkX3_look_0 : dkq cX3_look [(0, .aload_n 0, 1), (1, .getfield 27, 3), (4, .ifCond .eq 4, 3), (7, .return_, 1), (8, .aload_n 0, 1), (9, .iconst 1, 1), (10, .putfield 27, 3), (13, .aload_n 0, 1), (14, .getfield 9, 3), (17, .aload_n 0, 1), (18, .getfield 31, 3), (21, .getfield 35, 3), (24, .if_icmp .ge 60, 3), (27, .aload_n 0, 1), (28, .getfield 9, 3), (31, .sipush 1600, 3)] = true := by decide +kernel
theorem dkX3_look_1 : dkq cX3_look [(34, .if_icmp .ge 50, 3), (37, .aload_n 0, 1), (38, .getfield 31, 3), (41, .getfield 40, 3), (44, .aload_n 0, 1), (45, .getfield 9, 3), (48, .baload, 1), (49, .bipush 10, 2), (51, .if_icmp .eq 20, 3), (54, .aload_n 0, 1), (55, .getfield 31, 3), (58, .getfield 40, 3), (61, .aload_n 0, 1), (62, .getfield 9, 3), (65, .baload, 1), (66, .bipush 32, 2)] = true := by decide +kernel
theorem dkX3_look_2 : dkq cX3_look [(68, .if_icmp .ne 16, 3), (71, .aload_n 0, 1), (72, .dup, 1), (73, .getfield 9, 3), (76, .iconst 1, 1), (77, .iadd, 1), (78, .putfield 9, 3), (81, .goto (-68), 3), (84, .aload_n 0, 1), (85, .aload_n 0, 1), (86, .getfield 9, 3), (89, .putfield 18, 3), (92, .aload_n 0, 1), (93, .getfield 9, 3), (96, .aload_n 0, 1), (97, .getfield 31, 3)] = true := by decide +kernel
theorem dkX3_look_3 : dkq cX3_look [(100, .getfield 35, 3), (103, .if_icmp .ge 13, 3), (106, .aload_n 0, 1), (107, .getfield 9, 3), (110, .sipush 1600, 3), (113, .if_icmp .lt 9, 3), (116, .aload_n 0, 1), (117, .iconst 0, 1), (118, .putfield 15, 3), (121, .return_, 1), (122, .aload_n 0, 1), (123, .aload_n 0, 1), (124, .getfield 31, 3), (127, .getfield 40, 3), (130, .aload_n 0, 1), (131, .getfield 9, 3)] = true := by decide +kernel
theorem dkX3_look_4 : dkq cX3_look [(134, .baload, 1), (135, .putfield 21, 3), (138, .aload_n 0, 1), (139, .getfield 21, 3), (142, .bipush 97, 2), (144, .if_icmp .lt 26, 3), (147, .aload_n 0, 1), (148, .getfield 21, 3), (151, .bipush 122, 2), (153, .if_icmp .gt 17, 3), (156, .aload_n 0, 1), (157, .iconst 1, 1), (158, .bipush 97, 2), (160, .bipush 122, 2), (162, .bipush 6, 2), (164, .invokevirtual 44, 3)] = true := by decide +kernel
theorem dkX3_look_5 : dkq cX3_look [(167, .goto 49, 3), (170, .aload_n 0, 1), (171, .getfield 21, 3), (174, .bipush 48, 2), (176, .if_icmp .lt 25, 3), (179, .aload_n 0, 1), (180, .getfield 21, 3), (183, .bipush 57, 2), (185, .if_icmp .gt 16, 3), (188, .aload_n 0, 1), (189, .iconst 2, 1), (190, .bipush 48, 2), (192, .bipush 57, 2), (194, .iconst 4, 1), (195, .invokevirtual 44, 3), (198, .goto 18, 3)] = true := by decide +kernel
theorem dkX3_look_6 : dkq cX3_look [(201, .aload_n 0, 1), (202, .iconst 3, 1), (203, .putfield 15, 3), (206, .aload_n 0, 1), (207, .dup, 1), (208, .getfield 9, 3), (211, .iconst 1, 1), (212, .iadd, 1), (213, .putfield 9, 3), (216, .return_, 1)] = true := by decide +kernel
theorem dkX3_cut_0 : dkq cX3_cut [(0, .aload_n 0, 1), (1, .aload_n 0, 1), (2, .getfield 18, 3), (5, .aload_n 0, 1), (6, .getfield 24, 3), (9, .if_icmp .ne 7, 3), (12, .iconst 4, 1), (13, .goto 4, 3), (16, .iload_n 1, 1), (17, .putfield 15, 3), (20, .aload_n 0, 1), (21, .iconst 0, 1), (22, .putfield 21, 3), (25, .aload_n 0, 1), (26, .getfield 9, 3), (29, .aload_n 0, 1)] = true := by decide +kernel
theorem dkX3_cut_1 : dkq cX3_cut [(30, .getfield 31, 3), (33, .getfield 35, 3), (36, .if_icmp .ge 145, 3), (39, .aload_n 0, 1), (40, .getfield 9, 3), (43, .sipush 1600, 3), (46, .if_icmp .ge 135, 3), (49, .aload_n 0, 1), (50, .getfield 31, 3), (53, .getfield 40, 3), (56, .aload_n 0, 1), (57, .getfield 9, 3), (60, .baload, 1), (61, .iload_n 2, 1), (62, .if_icmp .lt 119, 3), (65, .aload_n 0, 1)] = true := by decide +kernel
theorem dkX3_cut_2 : dkq cX3_cut [(66, .getfield 31, 3), (69, .getfield 40, 3), (72, .aload_n 0, 1), (73, .getfield 9, 3), (76, .baload, 1), (77, .iload_n 3, 1), (78, .if_icmp .gt 103, 3), (81, .aload_n 0, 1), (82, .getfield 9, 3), (85, .aload_n 0, 1), (86, .getfield 18, 3), (89, .isub, 1), (90, .iload 4, 2), (92, .if_icmp .lt 17, 3), (95, .aload_n 0, 1), (96, .iconst 4, 1)] = true := by decide +kernel
theorem dkX3_cut_3 : dkq cX3_cut [(97, .putfield 15, 3), (100, .aload_n 0, 1), (101, .aload_n 0, 1), (102, .getfield 9, 3), (105, .putfield 18, 3), (108, .return_, 1), (109, .aload_n 0, 1), (110, .getfield 31, 3), (113, .getfield 40, 3), (116, .aload_n 0, 1), (117, .getfield 9, 3), (120, .baload, 1), (121, .iload_n 2, 1), (122, .isub, 1), (123, .istore 5, 2), (125, .aload_n 0, 1)] = true := by decide +kernel
theorem dkX3_cut_4 : dkq cX3_cut [(126, .iload_n 1, 1), (127, .iconst 2, 1), (128, .if_icmp .ne 16, 3), (131, .aload_n 0, 1), (132, .getfield 21, 3), (135, .bipush 10, 2), (137, .imul, 1), (138, .iload 5, 2), (140, .iadd, 1), (141, .goto 24, 3), (144, .aload_n 0, 1), (145, .getfield 21, 3), (148, .iload 5, 2), (150, .iconst 1, 1), (151, .iadd, 1), (152, .iconst 5, 1)] = true := by decide +kernel
theorem dkX3_cut_5 : dkq cX3_cut [(153, .aload_n 0, 1), (154, .getfield 9, 3), (157, .aload_n 0, 1), (158, .getfield 18, 3), (161, .isub, 1), (162, .imul, 1), (163, .ishl, 1), (164, .ior, 1), (165, .putfield 21, 3), (168, .aload_n 0, 1), (169, .dup, 1), (170, .getfield 9, 3), (173, .iconst 1, 1), (174, .iadd, 1), (175, .putfield 9, 3), (178, .goto (-153), 3)] = true := by decide +kernel
theorem dkX3_cut_6 : dkq cX3_cut [(181, .aload_n 0, 1), (182, .aload_n 0, 1), (183, .getfield 9, 3), (186, .putfield 24, 3), (189, .return_, 1)] = true := by decide +kernel
theorem dkX4_write_0 : dkq cX4_write [(0, .aload_n 0, 1), (1, .iconst 0, 1), (2, .putfield 22, 3), (5, .iconst 0, 1), (6, .istore_n 2, 1), (7, .iload_n 2, 1), (8, .aload_n 1, 1), (9, .getfield 26, 3), (12, .iconst 3, 1), (13, .iaload, 1), (14, .if_icmp .ge 22, 3), (17, .aload_n 0, 1), (18, .aload_n 1, 1), (19, .getfield 31, 3), (22, .getfield 34, 3), (25, .iload_n 2, 1)] = true := by decide +kernel
theorem dkX4_write_1 : dkq cX4_write [(26, .iaload, 1), (27, .invokevirtual 37, 3), (30, .iinc 2 1, 3), (33, .goto (-26), 3), (36, .iconst 0, 1), (37, .istore_n 2, 1), (38, .iload_n 2, 1), (39, .aload_n 1, 1), (40, .getfield 26, 3), (43, .iconst 2, 1), (44, .iaload, 1), (45, .if_icmp .ge 69, 3), (48, .aload_n 0, 1), (49, .aload_n 1, 1), (50, .getfield 31, 3), (53, .getfield 41, 3)] = true := by decide +kernel
theorem dkX4_write_2 : dkq cX4_write [(56, .iload_n 2, 1), (57, .iaload, 1), (58, .invokevirtual 37, 3), (61, .aload_n 0, 1), (62, .aload_n 1, 1), (63, .getfield 31, 3), (66, .getfield 44, 3), (69, .iload_n 2, 1), (70, .iaload, 1), (71, .invokevirtual 37, 3), (74, .iconst 0, 1), (75, .istore_n 3, 1), (76, .iload_n 3, 1), (77, .aload_n 1, 1), (78, .getfield 31, 3), (81, .getfield 44, 3)] = true := by decide +kernel
theorem dkX4_write_3 : dkq cX4_write [(84, .iload_n 2, 1), (85, .iaload, 1), (86, .if_icmp .ge 22, 3), (89, .aload_n 0, 1), (90, .aload_n 1, 1), (91, .getfield 31, 3), (94, .iload_n 2, 1), (95, .iload_n 3, 1), (96, .invokevirtual 47, 3), (99, .invokevirtual 37, 3), (102, .iinc 3 1, 3), (105, .goto (-29), 3), (108, .iinc 2 1, 3), (111, .goto (-73), 3), (114, .bipush 19, 2), (116, .istore_n 2, 1)] = true := by decide +kernel
theorem dkX4_write_4 : dkq cX4_write [(117, .iconst 0, 1), (118, .istore_n 3, 1), (119, .iload_n 3, 1), (120, .aload_n 0, 1), (121, .getfield 22, 3), (124, .if_icmp .ge 26, 3), (127, .iload_n 3, 1), (128, .bipush 36, 2), (130, .if_icmp .ge 20, 3), (133, .iload_n 2, 1), (134, .aload_n 0, 1), (135, .getfield 11, 3), (138, .iload_n 3, 1), (139, .iaload, 1), (140, .invokestatic 51, 3), (143, .istore_n 2, 1)] = true := by decide +kernel
theorem dkX4_write_5 : dkq cX4_write [(144, .iinc 3 1, 3), (147, .goto (-28), 3), (150, .aload_n 0, 1), (151, .iload_n 2, 1), (152, .invokevirtual 37, 3), (155, .aload_n 0, 1), (156, .getfield 22, 3), (159, .ireturn, 1)] = true := by decide +kernel
theorem dkX4_put_0 : dkq cX4_put [(0, .aload_n 0, 1), (1, .getfield 22, 3), (4, .ifCond .lt 32, 3), (7, .aload_n 0, 1), (8, .getfield 22, 3), (11, .bipush 36, 2), (13, .if_icmp .ge 23, 3), (16, .aload_n 0, 1), (17, .getfield 11, 3), (20, .aload_n 0, 1), (21, .getfield 22, 3), (24, .iload_n 1, 1), (25, .iastore, 1), (26, .aload_n 0, 1), (27, .dup, 1), (28, .getfield 22, 3)] = true := by decide +kernel
theorem dkX4_put_1 : dkq cX4_put [(31, .iconst 1, 1), (32, .iadd, 1), (33, .putfield 22, 3), (36, .return_, 1)] = true := by decide +kernel
theorem dkX4_summed_0 : dkq cX4_summed [(0, .iconst 3, 1), (1, .iload_n 0, 1), (2, .imul, 1), (3, .iload_n 1, 1), (4, .iadd, 1), (5, .sipush 233, 3), (8, .irem, 1), (9, .ireturn, 1)] = true := by decide +kernel
theorem dkX6_copyFrom_0 : dkq cX6_copyFrom [(0, .iconst 0, 1), (1, .istore_n 2, 1), (2, .iload_n 2, 1), (3, .iconst 3, 1), (4, .if_icmp .ge 21, 3), (7, .aload_n 0, 1), (8, .getfield 9, 3), (11, .iload_n 2, 1), (12, .aload_n 1, 1), (13, .getfield 9, 3), (16, .iload_n 2, 1), (17, .iaload, 1), (18, .iastore, 1), (19, .iinc 2 1, 3), (22, .goto (-20), 3), (25, .iconst 0, 1)] = true := by decide +kernel
theorem dkX6_copyFrom_1 : dkq cX6_copyFrom [(26, .istore_n 2, 1), (27, .iload_n 2, 1), (28, .iconst 4, 1), (29, .if_icmp .ge 63, 3), (32, .aload_n 0, 1), (33, .getfield 15, 3), (36, .iload_n 2, 1), (37, .aload_n 1, 1), (38, .getfield 15, 3), (41, .iload_n 2, 1), (42, .iaload, 1), (43, .iastore, 1), (44, .aload_n 0, 1), (45, .getfield 18, 3), (48, .iload_n 2, 1), (49, .aload_n 1, 1)] = true := by decide +kernel
theorem dkX6_copyFrom_2 : dkq cX6_copyFrom [(50, .getfield 18, 3), (53, .iload_n 2, 1), (54, .iaload, 1), (55, .iastore, 1), (56, .iconst 0, 1), (57, .istore_n 3, 1), (58, .iload_n 3, 1), (59, .bipush 6, 2), (61, .if_icmp .ge 25, 3), (64, .aload_n 0, 1), (65, .getfield 23, 3), (68, .iload_n 2, 1), (69, .aaload, 1), (70, .iload_n 3, 1), (71, .aload_n 1, 1), (72, .getfield 23, 3)] = true := by decide +kernel
theorem dkX6_copyFrom_3 : dkq cX6_copyFrom [(75, .iload_n 2, 1), (76, .aaload, 1), (77, .iload_n 3, 1), (78, .iaload, 1), (79, .iastore, 1), (80, .iinc 3 1, 3), (83, .goto (-25), 3), (86, .iinc 2 1, 3), (89, .goto (-62), 3), (92, .return_, 1)] = true := by decide +kernel
