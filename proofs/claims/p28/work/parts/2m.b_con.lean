abbrev tr_d_X9_hasDoorAt_2 (K1 : Int → Prop) (z1 : Int) (z : Int) : Prop := (K1 (z1 + 1))
def d_X9_hasDoorAt_2 (K1 : Int → Prop) (z1 : Int) (z : Int) : Prop := tr_d_X9_hasDoorAt_2 K1 z1 z
theorem u_d_X9_hasDoorAt_2 {K1 : Int → Prop} {z1 : Int} {z : Int} (h : tr_d_X9_hasDoorAt_2 K1 z1 z) : d_X9_hasDoorAt_2 K1 z1 z := h
abbrev tr_d_X9_hasDoorAt_1 (ta : Nat) (x1 : Int) (A : St) (z : Int) (K1 : Int → Prop) (z1 : Int) : Prop := ((0 ≤ z1 ∧ z1 ≤ 2147483647) ∧ (∃ z8 : Int, z8 = A (ta + 1) (1 : Int).toNat ∧ (((z8 ≤ z1) ∧ (z = 0)) ∨ ((¬ z8 ≤ z1) ∧ (∃ z10 : Int, q_X9_isBox ta z1 A z10 ∧ (((¬ z10 = 0) ∧ (d_X9_hasDoorAt_2 K1 z1 z)) ∨ ((z10 = 0) ∧ (∃ z15 : Int, q_X9_isAt ta z1 x1 A z15 ∧ (((z15 = 0) ∧ (d_X9_hasDoorAt_2 K1 z1 z)) ∨ ((¬ z15 = 0) ∧ (z = 1)))))))))))
def d_X9_hasDoorAt_1 (ta : Nat) (x1 : Int) (A : St) (z : Int) : Nat → Int → Prop
  | 0, _ => False
  | nn9 + 1, z1 => tr_d_X9_hasDoorAt_1 ta x1 A z (fun z1 => d_X9_hasDoorAt_1 ta x1 A z nn9 z1) z1
theorem u_d_X9_hasDoorAt_1 {ta : Nat} {x1 : Int} {A : St} {z : Int} {nn9 : Nat} {z1 : Int} (h : tr_d_X9_hasDoorAt_1 ta x1 A z (fun z1 => d_X9_hasDoorAt_1 ta x1 A z nn9 z1) z1) : d_X9_hasDoorAt_1 ta x1 A z (nn9 + 1) z1 := h
abbrev tr_r_X9_hasDoorAt (ta : Nat) (x1 : Int) (A : St) (z : Int) : Prop := (∃ nn9 : Nat, d_X9_hasDoorAt_1 ta x1 A z nn9 0)
def r_X9_hasDoorAt (ta : Nat) (x1 : Int) (A : St) (z : Int) : Prop := tr_r_X9_hasDoorAt ta x1 A z
theorem u_r_X9_hasDoorAt {ta : Nat} {x1 : Int} {A : St} {z : Int} (h : tr_r_X9_hasDoorAt ta x1 A z) : r_X9_hasDoorAt ta x1 A z := h
def q_X9_hasDoorAt (ta : Nat) (x1 : Int) (A : St) (z : Int) : Prop := r_X9_hasDoorAt ta x1 A z ∧ (0 ≤ z ∧ z ≤ 1)
def ws_kc_X9_hasDoorAt : List Cond := .code yX9_hasDoorAt cX9_hasDoorAt 3 (some .boolean) :: WY
set_option maxHeartbeats 4000000 in
set_option maxRecDepth 100000 in
theorem kc_X9_hasDoorAt (l : Launch) (dC : Nat → ClassId) (dI : Nat → Nat → Nat) (cB cI cJ cZ cQ : ClassId) (aL aS : Nat) (q : Nat → Nat) (A : St) (ta : Nat) (x1 : Int) (hI : IK A) (hta : isT ta) (hx1 : (-2147483648 : Int) ≤ x1 ∧ x1 ≤ 2147483647) : KMi l yX9_hasDoorAt ws_kc_X9_hasDoorAt ({ frames := 1, cells := 0, slots := 0, locals := 22 } : Room) aL aS (dC, dI) (tyA cB cI cJ cZ cQ) (WK cB cI cJ cZ cQ q) A [.ref (q ta), .int (iI x1)] (fun z u => A = u ∧ r_X9_hasDoorAt ta x1 A z ∧ (0 ≤ z ∧ z ≤ 1)) := by
  refine k_metz (cc := cX9_hasDoorAt) (maxL := 3) WK_adr (plainFor_of_name (by decide +kernel)) rfl (Nat.le_of_ble_eq_true rfl) (fun z u h => h.2.2) (fun p e s m below meth c Q AS ls hx hb hml hown hts hK hDD hA0 hE RET H locs hP hS hl => ?_)
  have hown : s.vm.findClass RX9 = some m.cls := hown
  have hl : lv_has ls 3 [(0, .ref (q ta)), (1, .int (iI x1))] := hl
  have hiX9 : ∀ w ∈ u_ws RX9 TX9 16, w ∈ ws_kc_X9_hasDoorAt := fun w h => List.mem_cons_of_mem _ (wy_layX9 w h)
  refine lv_iconst (v := iI 0) hx hb (dk_at dkX9_hasDoorAt_0 0 rfl) (by decide +kernel) ?_
  refine lv_istore_n (lv' := [(2, .int (iI 0)), (0, .ref (q ta)), (1, .int (iI x1))]) hx hb (dk_at dkX9_hasDoorAt_0 1 rfl) rfl hl (by decide) rfl (fun ls hl => ?_)
  have L2_3 : ∀ (n7 : Nat) (z1 : Int) (H : Heap) (locs : List Loc) (ls : Array Slot), (0 ≤ z1 ∧ z1 ≤ 2147483647) → (∀ (z : Int), (∃ mm1 : Nat, (d_X9_hasDoorAt_1 ta x1 A z mm1 z1)) → r_X9_hasDoorAt ta x1 A z) → ((11 - z1).toNat = n7) → va_P (dC, dI) vwCl (WK cB cI cJ cZ cQ q A) H → va_S AS s.heap H locs → lv_has ls 3 [(2, .int (iI z1)), (0, .ref (q ta)), (1, .int (iI x1))] → W p l e (headSpec ws_kc_X9_hasDoorAt ({ frames := 1, cells := 0, slots := 0, locals := 22 } : Room)).room s m [.ref (q ta), .int (iI x1)].toArray below meth c H locs 0 0 Q (F0 m 2 ls []) := by
    intro n7
    induction n7 using Nat.strongRecOn with
    | ind n7 ih4 =>
      intro z1 H locs ls f5 hk1 hn7 hP hS hl
      refine lv_iload_n hx hb (dk_at dkX9_hasDoorAt_0 2 rfl) rfl (lv_at hl 0 rfl) ?_
      refine lv_aload_n hx hb (dk_at dkX9_hasDoorAt_0 3 rfl) rfl (lv_at hl 1 rfl) ?_
      refine va_get (D := (dC, dI)) (ci := 9) (v := .ref (q (ta + 1))) (C := RX9) (T := TX9) (N := 16) hx hb hts hiX9 hown hK hP ta (wkT hta) rfl 0 (by decide) (hts _ (List.mem_cons_of_mem _ wkq_0_8)) (fun _ h9 => h9) rfl (dk_at dkX9_hasDoorAt_0 4 rfl) ?_
      refine lv_iconst (v := iI 1) hx hb (dk_at dkX9_hasDoorAt_0 5 rfl) (by decide +kernel) ?_
      refine x_iald (Wf := WK cB cI cJ cZ cQ q) hx hb hK hP (ta + 1) 1 (wkTc hta) rfl (by decide) (by decide) (dk_at dkX9_hasDoorAt_0 6 rfl) (fun z8 hz8 => ?_)
      have rz8 : (0 : Int) ≤ z8 ∧ z8 ≤ 10 := by rw [hz8]; exact irTc1 hta hI
      have gz8 := Hd.mk hz8
      refine lv_icmp_ge (tgt := 37) hx hb (dk_at dkX9_hasDoorAt_0 7 rfl) (by decide) (fun c9 => ?_) (fun c9 => ?_)
      · have c9 : z8 ≤ z1 := (i_le (rb rz8 (by decide) (by decide)) (rb f5 (by decide) (by decide))).mp c9
        refine lv_iconst (v := iI 0) hx hb (dk_at dkX9_hasDoorAt_1 5 rfl) (by decide +kernel) ?_
        exact RET 0 _ _ _ _ _ ⟨rfl, hk1 _ ⟨0 + 1, (u_d_X9_hasDoorAt_1 ⟨f5, ⟨z8, gz8.out, (Or.inl ⟨c9, rfl⟩)⟩⟩)⟩, ⟨by decide, by decide⟩⟩ hP hS (dk_at dkX9_hasDoorAt_1 6 rfl)
      · have c9 : ¬ z8 ≤ z1 := mt (i_le (rb rz8 (by decide) (by decide)) (rb f5 (by decide) (by decide))).mpr c9
        refine lv_aload_n hx hb (dk_at dkX9_hasDoorAt_0 8 rfl) rfl (lv_at hl 1 rfl) ?_
        refine lv_iload_n hx hb (dk_at dkX9_hasDoorAt_0 9 rfl) rfl (lv_at hl 0 rfl) ?_
        refine k_calli (As := [.int (iI z1)]) (rest := []) ⟨hx, hb, hml, hown, hts⟩ hE (kc_X9_isBox l dC dI cB cI cJ cZ cQ aL aS q _ ta z1 hI hta (rb f5 (by decide) (by decide))) (cwV 1 hts (goodVk wkq_8_48 wkq_1_6 wkq_1_7 wkq_0_6 wkq_1_8) rfl rfl rfl (by decide +kernel) ⟨Nat.le_of_ble_eq_true rfl, Nat.le_of_ble_eq_true rfl⟩) hK hDD hA0 hP hS ta 9 (wkT hta) rfl rfl hl.1 (Nat.le_of_ble_eq_true rfl) (dk_at dkX9_hasDoorAt_0 10 rfl) (fun z10 A11 H locs hw12 hP hS => ?_)
        obtain ⟨rfl, hw12⟩ := hw12
        have ghw12 : q_X9_isBox ta z1 A z10 := hw12
        have hw12 := hw12.2
        have rz10 : 0 ≤ z10 ∧ z10 ≤ 1 := hw12.1
        have hw12 := hw12.2
        have J31_14 : ∀ (H : Heap) (locs : List Loc) (ls : Array Slot), (∀ (z : Int), (∃ mm1 : Nat, (d_X9_hasDoorAt_2 (fun z1' => d_X9_hasDoorAt_1 ta x1 A z mm1 z1') z1 z)) → r_X9_hasDoorAt ta x1 A z) → va_P (dC, dI) vwCl (WK cB cI cJ cZ cQ q A) H → va_S AS s.heap H locs → lv_has ls 3 [(2, .int (iI z1)), (0, .ref (q ta)), (1, .int (iI x1))] → W p l e (headSpec ws_kc_X9_hasDoorAt ({ frames := 1, cells := 0, slots := 0, locals := 22 } : Room)).room s m [.ref (q ta), .int (iI x1)].toArray below meth c H locs 0 0 Q (F0 m 31 ls []) := by
          intro H locs ls hk2 hP hS hl
          clear hw12
          refine lv_iinc (v := iI (z1 + 1)) (lv' := [(2, .int (iI (z1 + 1))), (0, .ref (q ta)), (1, .int (iI x1))]) hx hb (dk_at dkX9_hasDoorAt_1 3 rfl) hl (k := 0) rfl (i_inc (by omega)) (by decide) rfl (fun ls hl => ?_)
          refine lv_goto (tgt := 2) hx hb (dk_at dkX9_hasDoorAt_1 4 rfl) (by decide) ?_
          exact ih4 _ (by omega) (z1 + 1) _ _ _ (by omega) (fun zq ⟨mm1, hq⟩ => hk2 _ ⟨mm1, (u_d_X9_hasDoorAt_2 hq)⟩) rfl hP hS (lv_sub hl [0, 1, 2] rfl)
        refine lv_if_ne (tgt := 31) hx hb (dk_at dkX9_hasDoorAt_0 11 rfl) (by decide) (fun c13 => ?_) (fun c13 => ?_)
        · have c13 : ¬ z10 = 0 := mt (i_eq0 (rb rz10 (by decide) (by decide))).mpr c13
          have hw12b := hw12 (by omega)
          clear hw12
          exact J31_14 _ _ _ (fun zq ⟨mm1, hq⟩ => hk1 _ ⟨mm1 + 1, (u_d_X9_hasDoorAt_1 ⟨f5, ⟨z8, gz8.out, (Or.inr ⟨c9, ⟨z10, ghw12, (Or.inl ⟨c13, hq⟩)⟩⟩)⟩⟩)⟩) hP hS (lv_sub hl [0, 1, 2] rfl)
        · have c13 : z10 = 0 := (i_eq0 (rb rz10 (by decide) (by decide))).mp c13
          clear hw12
          refine lv_aload_n hx hb (dk_at dkX9_hasDoorAt_0 12 rfl) rfl (lv_at hl 1 rfl) ?_
          refine lv_iload_n hx hb (dk_at dkX9_hasDoorAt_0 13 rfl) rfl (lv_at hl 0 rfl) ?_
          refine lv_iload_n hx hb (dk_at dkX9_hasDoorAt_0 14 rfl) rfl (lv_at hl 2 rfl) ?_
          refine k_calli (As := [.int (iI z1), .int (iI x1)]) (rest := []) ⟨hx, hb, hml, hown, hts⟩ hE (kc_X9_isAt l dC dI cB cI cJ cZ cQ aL aS q _ ta z1 x1 hI hta (rb f5 (by decide) (by decide)) hx1) (cwV 2 hts (goodVk wkq_8_49 wkq_1_11 wkq_1_12 wkq_0_6 wkq_1_13) rfl rfl rfl (by decide +kernel) ⟨Nat.le_of_ble_eq_true rfl, Nat.le_of_ble_eq_true rfl⟩) hK hDD hA0 hP hS ta 9 (wkT hta) rfl rfl hl.1 (Nat.le_of_ble_eq_true rfl) (dk_at dkX9_hasDoorAt_0 15 rfl) (fun z15 A16 H locs hw17 hP hS => ?_)
          obtain ⟨rfl, hw17⟩ := hw17
          have ghw17 : q_X9_isAt ta z1 x1 A z15 := hw17
          have hw17 := hw17.2
          have rz15 : 0 ≤ z15 ∧ z15 ≤ 1 := hw17.1
          have hw17 := hw17.2
          refine lv_if_eq (tgt := 31) hx hb (dk_at dkX9_hasDoorAt_1 0 rfl) (by decide) (fun c18 => ?_) (fun c18 => ?_)
          · have c18 : z15 = 0 := (i_eq0 (rb rz15 (by decide) (by decide))).mp c18
            clear hw17
            exact J31_14 _ _ _ (fun zq ⟨mm1, hq⟩ => hk1 _ ⟨mm1 + 1, (u_d_X9_hasDoorAt_1 ⟨f5, ⟨z8, gz8.out, (Or.inr ⟨c9, ⟨z10, ghw12, (Or.inr ⟨c13, ⟨z15, ghw17, (Or.inl ⟨c18, hq⟩)⟩⟩)⟩⟩)⟩⟩)⟩) hP hS (lv_sub hl [0, 1, 2] rfl)
          · have c18 : ¬ z15 = 0 := mt (i_eq0 (rb rz15 (by decide) (by decide))).mpr c18
            have hw17b := hw17 (by omega)
            clear hw17
            refine lv_iconst (v := iI 1) hx hb (dk_at dkX9_hasDoorAt_1 1 rfl) (by decide +kernel) ?_
            exact RET 1 _ _ _ _ _ ⟨rfl, hk1 _ ⟨0 + 1, (u_d_X9_hasDoorAt_1 ⟨f5, ⟨z8, gz8.out, (Or.inr ⟨c9, ⟨z10, ghw12, (Or.inr ⟨c13, ⟨z15, ghw17, (Or.inr ⟨c18, rfl⟩)⟩⟩)⟩⟩)⟩⟩)⟩, ⟨by decide, by decide⟩⟩ hP hS (dk_at dkX9_hasDoorAt_1 2 rfl)
  exact L2_3 _ 0 _ _ _ (by omega) (fun zq ⟨mm1, hq⟩ => (u_r_X9_hasDoorAt ⟨mm1, hq⟩)) rfl hP hS (lv_sub hl [0, 1, 2] rfl)

abbrev tr_d_X9_shutMask_1 (ta : Nat) (A : St) (z : Int) (K1 : Int → Int → Prop) (z2 : Int) (z3 : Int) : Prop := ((0 ≤ z2 ∧ z2 ≤ 2147483647) ∧ ((-2147483648 ≤ z3 ∧ z3 ≤ 2147483647) ∧ (∃ z11 : Int, z11 = A (ta + 1) (2 : Int).toNat ∧ (((z11 ≤ z2) ∧ (z = z3)) ∨ ((¬ z11 ≤ z2) ∧ (∃ z13 : Int, q_X6_rowMask (ta + 22) z2 A z13 ∧ (∃ z16 : Int, z16 = oOr z3 z13 ∧ (K1 (z2 + 1) z16))))))))
def d_X9_shutMask_1 (ta : Nat) (A : St) (z : Int) : Nat → Int → Int → Prop
  | 0, _, _ => False
  | nn9 + 1, z2, z3 => tr_d_X9_shutMask_1 ta A z (fun z2 z3 => d_X9_shutMask_1 ta A z nn9 z2 z3) z2 z3
theorem u_d_X9_shutMask_1 {ta : Nat} {A : St} {z : Int} {nn9 : Nat} {z2 : Int} {z3 : Int} (h : tr_d_X9_shutMask_1 ta A z (fun z2 z3 => d_X9_shutMask_1 ta A z nn9 z2 z3) z2 z3) : d_X9_shutMask_1 ta A z (nn9 + 1) z2 z3 := h
abbrev tr_r_X9_shutMask (ta : Nat) (A : St) (z : Int) : Prop := (∃ nn9 : Nat, d_X9_shutMask_1 ta A z nn9 0 (A ta 15))
def r_X9_shutMask (ta : Nat) (A : St) (z : Int) : Prop := tr_r_X9_shutMask ta A z
theorem u_r_X9_shutMask {ta : Nat} {A : St} {z : Int} (h : tr_r_X9_shutMask ta A z) : r_X9_shutMask ta A z := h
def q_X9_shutMask (ta : Nat) (A : St) (z : Int) : Prop := r_X9_shutMask ta A z ∧ (-2147483648 ≤ z ∧ z ≤ 2147483647)
def ws_kc_X9_shutMask : List Cond := .code yX9_shutMask cX9_shutMask 3 (some .int) :: WY
set_option maxHeartbeats 4000000 in
set_option maxRecDepth 100000 in
theorem kc_X9_shutMask (l : Launch) (dC : Nat → ClassId) (dI : Nat → Nat → Nat) (cB cI cJ cZ cQ : ClassId) (aL aS : Nat) (q : Nat → Nat) (A : St) (ta : Nat) (hI : IK A) (hta : isT ta) : KMi l yX9_shutMask ws_kc_X9_shutMask ({ frames := 2, cells := 0, slots := 0, locals := 46 } : Room) aL aS (dC, dI) (tyA cB cI cJ cZ cQ) (WK cB cI cJ cZ cQ q) A [.ref (q ta)] (fun z u => A = u ∧ r_X9_shutMask ta A z ∧ (-2147483648 ≤ z ∧ z ≤ 2147483647)) := by
  refine k_meti (cc := cX9_shutMask) (maxL := 3) WK_adr (plainFor_of_name (by decide +kernel)) rfl (Nat.le_of_ble_eq_true rfl) (fun p e s m below meth c Q AS ls hx hb hml hown hts hK hDD hA0 hE RET H locs hP hS hl => ?_)
  have hown : s.vm.findClass RX9 = some m.cls := hown
  have hl : lv_has ls 3 [(0, .ref (q ta))] := hl
  have hiX9 : ∀ w ∈ u_ws RX9 TX9 16, w ∈ ws_kc_X9_shutMask := fun w h => List.mem_cons_of_mem _ (wy_layX9 w h)
  refine lv_aload_n hx hb (dk_at dkX9_shutMask_0 0 rfl) rfl (lv_at hl 0 rfl) ?_
  have r1 : (-2147483648 : Int) ≤ (A ta 15) ∧ (A ta 15) ≤ 2147483647 := irT_15 hta hI
  refine va_get (D := (dC, dI)) (ci := 9) (v := .int (iI (A ta 15))) (C := RX9) (T := TX9) (N := 16) hx hb hts hiX9 hown hK hP ta (wkT hta) rfl 15 (by decide) (hts _ (List.mem_cons_of_mem _ wkq_5_18)) (fun _ h9 => h9) rfl (dk_at dkX9_shutMask_0 1 rfl) ?_
  refine lv_istore_n (lv' := [(1, .int (iI (A ta 15))), (0, .ref (q ta))]) hx hb (dk_at dkX9_shutMask_0 2 rfl) rfl hl (by decide) rfl (fun ls hl => ?_)
  refine lv_iconst (v := iI 0) hx hb (dk_at dkX9_shutMask_0 3 rfl) (by decide +kernel) ?_
  refine lv_istore_n (lv' := [(2, .int (iI 0)), (1, .int (iI (A ta 15))), (0, .ref (q ta))]) hx hb (dk_at dkX9_shutMask_0 4 rfl) rfl hl (by decide) rfl (fun ls hl => ?_)
  have L7_5 : ∀ (n10 : Nat) (z2 z3 : Int) (H : Heap) (locs : List Loc) (ls : Array Slot), (0 ≤ z2 ∧ z2 ≤ 2147483647) → (-2147483648 ≤ z3 ∧ z3 ≤ 2147483647) → (∀ (z : Int), (∃ mm1 : Nat, (d_X9_shutMask_1 ta A z mm1 z2 z3)) → r_X9_shutMask ta A z) → ((5 - z2).toNat = n10) → va_P (dC, dI) vwCl (WK cB cI cJ cZ cQ q A) H → va_S AS s.heap H locs → lv_has ls 3 [(2, .int (iI z2)), (1, .int (iI z3)), (0, .ref (q ta))] → W p l e (headSpec ws_kc_X9_shutMask ({ frames := 2, cells := 0, slots := 0, locals := 46 } : Room)).room s m [.ref (q ta)].toArray below meth c H locs 0 0 Q (F0 m 7 ls []) := by
    intro n10
    induction n10 using Nat.strongRecOn with
    | ind n10 ih6 =>
      intro z2 z3 H locs ls f7 f8 hk1 hn10 hP hS hl
      refine lv_iload_n hx hb (dk_at dkX9_shutMask_0 5 rfl) rfl (lv_at hl 0 rfl) ?_
      refine lv_aload_n hx hb (dk_at dkX9_shutMask_0 6 rfl) rfl (lv_at hl 2 rfl) ?_
      refine va_get (D := (dC, dI)) (ci := 9) (v := .ref (q (ta + 1))) (C := RX9) (T := TX9) (N := 16) hx hb hts hiX9 hown hK hP ta (wkT hta) rfl 0 (by decide) (hts _ (List.mem_cons_of_mem _ wkq_0_8)) (fun _ h9 => h9) rfl (dk_at dkX9_shutMask_0 7 rfl) ?_
      refine lv_iconst (v := iI 2) hx hb (dk_at dkX9_shutMask_0 8 rfl) (by decide +kernel) ?_
      refine x_iald (Wf := WK cB cI cJ cZ cQ q) hx hb hK hP (ta + 1) 1 (wkTc hta) rfl (by decide) (by decide) (dk_at dkX9_shutMask_0 9 rfl) (fun z11 hz11 => ?_)
      have rz11 : (0 : Int) ≤ z11 ∧ z11 ≤ 4 := by rw [hz11]; exact irTc2 hta hI
      have gz11 := Hd.mk hz11
      refine lv_icmp_ge (tgt := 34) hx hb (dk_at dkX9_shutMask_0 10 rfl) (by decide) (fun c12 => ?_) (fun c12 => ?_)
      · have c12 : z11 ≤ z2 := (i_le (rb rz11 (by decide) (by decide)) (rb f7 (by decide) (by decide))).mp c12
        refine lv_iload_n hx hb (dk_at dkX9_shutMask_1 4 rfl) rfl (lv_at hl 1 rfl) ?_
        exact RET z3 _ _ _ _ _ ⟨rfl, hk1 _ ⟨0 + 1, (u_d_X9_shutMask_1 ⟨f7, ⟨f8, ⟨z11, gz11.out, (Or.inl ⟨c12, rfl⟩)⟩⟩⟩)⟩, f8⟩ hP hS (dk_at dkX9_shutMask_1 5 rfl)
      · have c12 : ¬ z11 ≤ z2 := mt (i_le (rb rz11 (by decide) (by decide)) (rb f7 (by decide) (by decide))).mpr c12
        refine lv_iload_n hx hb (dk_at dkX9_shutMask_0 11 rfl) rfl (lv_at hl 1 rfl) ?_
        refine lv_aload_n hx hb (dk_at dkX9_shutMask_0 12 rfl) rfl (lv_at hl 2 rfl) ?_
        refine va_get (D := (dC, dI)) (ci := 9) (v := .ref (q (ta + 22))) (C := RX9) (T := TX9) (N := 16) hx hb hts hiX9 hown hK hP ta (wkT hta) rfl 14 (by decide) (hts _ (List.mem_cons_of_mem _ wkq_0_9)) (fun _ h9 => h9) rfl (dk_at dkX9_shutMask_0 13 rfl) ?_
        refine lv_iload_n hx hb (dk_at dkX9_shutMask_0 14 rfl) rfl (lv_at hl 0 rfl) ?_
        refine k_calli (As := [.int (iI z2)]) (rest := [.int (iI z3)]) ⟨hx, hb, hml, hown, hts⟩ hE (kc_X6_rowMask l dC dI cB cI cJ cZ cQ aL aS q _ (ta + 22) z2 hI hta.s (rb f7 (by decide) (by decide))) (cwV 1 hts (goodVk wkq_8_51 wkq_0_50 wkq_0_51 wkq_0_52 wkq_0_53) rfl rfl rfl (by decide +kernel) ⟨Nat.le_of_ble_eq_true rfl, Nat.le_of_ble_eq_true rfl⟩) hK hDD hA0 hP hS (ta + 22) 6 (wkS hta.s) rfl rfl hl.1 (Nat.le_of_ble_eq_true rfl) (dk_at dkX9_shutMask_0 15 rfl) (fun z13 A14 H locs hw15 hP hS => ?_)
        obtain ⟨rfl, hw15⟩ := hw15
        have ghw15 : q_X6_rowMask (ta + 22) z2 A z13 := hw15
        have hw15 := hw15.2
        refine lv_ior hx hb (dk_at dkX9_shutMask_1 0 rfl) ?_
        refine x_absE (fun z16 gz16 hz16 => ?_)
        refine lv_istore_n (lv' := [(1, .int (iI z16)), (2, .int (iI z2)), (0, .ref (q ta))]) hx hb (dk_at dkX9_shutMask_1 1 rfl) rfl hl (by decide) rfl (fun ls hl => ?_)
        refine lv_iinc (v := iI (z2 + 1)) (lv' := [(2, .int (iI (z2 + 1))), (1, .int (iI z16)), (0, .ref (q ta))]) hx hb (dk_at dkX9_shutMask_1 2 rfl) hl (k := 1) rfl (i_inc (by omega)) (by decide) rfl (fun ls hl => ?_)
        refine lv_goto (tgt := 7) hx hb (dk_at dkX9_shutMask_1 3 rfl) (by decide) ?_
        exact ih6 _ (by omega) (z2 + 1) z16 _ _ _ (by omega) (by omega) (fun zq ⟨mm1, hq⟩ => hk1 _ ⟨mm1 + 1, (u_d_X9_shutMask_1 ⟨f7, ⟨f8, ⟨z11, gz11.out, (Or.inr ⟨c12, ⟨z13, ghw15, ⟨z16, gz16.out, hq⟩⟩⟩)⟩⟩⟩)⟩) rfl hP hS (lv_sub hl [0, 1, 2] rfl)
  exact L7_5 _ 0 (A ta 15) _ _ _ (by omega) (by omega) (fun zq ⟨mm1, hq⟩ => (u_r_X9_shutMask ⟨mm1, hq⟩)) rfl hP hS (lv_sub hl [0, 1, 2] rfl)

abbrev tr_d_X9_deadMask_2 (K1 : Int → Int → Prop) (z2 : Int) (z : Int) (z20 : Int) : Prop := ((-2147483648 ≤ z20 ∧ z20 ≤ 2147483647) ∧ (K1 (z2 + 1) z20))
def d_X9_deadMask_2 (K1 : Int → Int → Prop) (z2 : Int) (z : Int) (z20 : Int) : Prop := tr_d_X9_deadMask_2 K1 z2 z z20
theorem u_d_X9_deadMask_2 {K1 : Int → Int → Prop} {z2 : Int} {z : Int} {z20 : Int} (h : tr_d_X9_deadMask_2 K1 z2 z z20) : d_X9_deadMask_2 K1 z2 z z20 := h
abbrev tr_d_X9_deadMask_1 (ta : Nat) (A : St) (z : Int) (K1 : Int → Int → Prop) (z2 : Int) (z3 : Int) : Prop := ((0 ≤ z2 ∧ z2 ≤ 2147483647) ∧ ((-2147483648 ≤ z3 ∧ z3 ≤ 2147483647) ∧ (∃ z11 : Int, z11 = A (ta + 1) (2 : Int).toNat ∧ (((z11 ≤ z2) ∧ (z = z3)) ∨ ((¬ z11 ≤ z2) ∧ (∃ z13 : Int, z13 = A ((ta + 22) + 2) (z2).toNat ∧ (((¬ z13 = 40) ∧ (d_X9_deadMask_2 K1 z2 z z3)) ∨ ((z13 = 40) ∧ (∃ z16 : Int, q_X6_rowMask (ta + 22) z2 A z16 ∧ (∃ z19 : Int, z19 = oOr z3 z16 ∧ (d_X9_deadMask_2 K1 z2 z z19)))))))))))
def d_X9_deadMask_1 (ta : Nat) (A : St) (z : Int) : Nat → Int → Int → Prop
  | 0, _, _ => False
  | nn9 + 1, z2, z3 => tr_d_X9_deadMask_1 ta A z (fun z2 z3 => d_X9_deadMask_1 ta A z nn9 z2 z3) z2 z3
theorem u_d_X9_deadMask_1 {ta : Nat} {A : St} {z : Int} {nn9 : Nat} {z2 : Int} {z3 : Int} (h : tr_d_X9_deadMask_1 ta A z (fun z2 z3 => d_X9_deadMask_1 ta A z nn9 z2 z3) z2 z3) : d_X9_deadMask_1 ta A z (nn9 + 1) z2 z3 := h
abbrev tr_r_X9_deadMask (ta : Nat) (A : St) (z : Int) : Prop := (∃ nn9 : Nat, d_X9_deadMask_1 ta A z nn9 0 (A ta 15))
def r_X9_deadMask (ta : Nat) (A : St) (z : Int) : Prop := tr_r_X9_deadMask ta A z
theorem u_r_X9_deadMask {ta : Nat} {A : St} {z : Int} (h : tr_r_X9_deadMask ta A z) : r_X9_deadMask ta A z := h
def q_X9_deadMask (ta : Nat) (A : St) (z : Int) : Prop := r_X9_deadMask ta A z ∧ (-2147483648 ≤ z ∧ z ≤ 2147483647)
def ws_kc_X9_deadMask : List Cond := .code yX9_deadMask cX9_deadMask 3 (some .int) :: WY
set_option maxHeartbeats 4000000 in
set_option maxRecDepth 100000 in
theorem kc_X9_deadMask (l : Launch) (dC : Nat → ClassId) (dI : Nat → Nat → Nat) (cB cI cJ cZ cQ : ClassId) (aL aS : Nat) (q : Nat → Nat) (A : St) (ta : Nat) (hI : IK A) (hta : isT ta) : KMi l yX9_deadMask ws_kc_X9_deadMask ({ frames := 2, cells := 0, slots := 0, locals := 46 } : Room) aL aS (dC, dI) (tyA cB cI cJ cZ cQ) (WK cB cI cJ cZ cQ q) A [.ref (q ta)] (fun z u => A = u ∧ r_X9_deadMask ta A z ∧ (-2147483648 ≤ z ∧ z ≤ 2147483647)) := by
  refine k_meti (cc := cX9_deadMask) (maxL := 3) WK_adr (plainFor_of_name (by decide +kernel)) rfl (Nat.le_of_ble_eq_true rfl) (fun p e s m below meth c Q AS ls hx hb hml hown hts hK hDD hA0 hE RET H locs hP hS hl => ?_)
  have hown : s.vm.findClass RX9 = some m.cls := hown
  have hl : lv_has ls 3 [(0, .ref (q ta))] := hl
  have hiX9 : ∀ w ∈ u_ws RX9 TX9 16, w ∈ ws_kc_X9_deadMask := fun w h => List.mem_cons_of_mem _ (wy_layX9 w h)
  have hiX6 : ∀ w ∈ u_ws RX6 TX6 4, w ∈ ws_kc_X9_deadMask := fun w h => List.mem_cons_of_mem _ (wy_layX6 w h)
  refine lv_aload_n hx hb (dk_at dkX9_deadMask_0 0 rfl) rfl (lv_at hl 0 rfl) ?_
  have r1 : (-2147483648 : Int) ≤ (A ta 15) ∧ (A ta 15) ≤ 2147483647 := irT_15 hta hI
  refine va_get (D := (dC, dI)) (ci := 9) (v := .int (iI (A ta 15))) (C := RX9) (T := TX9) (N := 16) hx hb hts hiX9 hown hK hP ta (wkT hta) rfl 15 (by decide) (hts _ (List.mem_cons_of_mem _ wkq_5_18)) (fun _ h9 => h9) rfl (dk_at dkX9_deadMask_0 1 rfl) ?_
  refine lv_istore_n (lv' := [(1, .int (iI (A ta 15))), (0, .ref (q ta))]) hx hb (dk_at dkX9_deadMask_0 2 rfl) rfl hl (by decide) rfl (fun ls hl => ?_)
  refine lv_iconst (v := iI 0) hx hb (dk_at dkX9_deadMask_0 3 rfl) (by decide +kernel) ?_
  refine lv_istore_n (lv' := [(2, .int (iI 0)), (1, .int (iI (A ta 15))), (0, .ref (q ta))]) hx hb (dk_at dkX9_deadMask_0 4 rfl) rfl hl (by decide) rfl (fun ls hl => ?_)
  have L7_5 : ∀ (n10 : Nat) (z2 z3 : Int) (H : Heap) (locs : List Loc) (ls : Array Slot), (0 ≤ z2 ∧ z2 ≤ 2147483647) → (-2147483648 ≤ z3 ∧ z3 ≤ 2147483647) → (∀ (z : Int), (∃ mm1 : Nat, (d_X9_deadMask_1 ta A z mm1 z2 z3)) → r_X9_deadMask ta A z) → ((5 - z2).toNat = n10) → va_P (dC, dI) vwCl (WK cB cI cJ cZ cQ q A) H → va_S AS s.heap H locs → lv_has ls 3 [(2, .int (iI z2)), (1, .int (iI z3)), (0, .ref (q ta))] → W p l e (headSpec ws_kc_X9_deadMask ({ frames := 2, cells := 0, slots := 0, locals := 46 } : Room)).room s m [.ref (q ta)].toArray below meth c H locs 0 0 Q (F0 m 7 ls []) := by
    intro n10
    induction n10 using Nat.strongRecOn with
    | ind n10 ih6 =>
      intro z2 z3 H locs ls f7 f8 hk1 hn10 hP hS hl
      refine lv_iload_n hx hb (dk_at dkX9_deadMask_0 5 rfl) rfl (lv_at hl 0 rfl) ?_
      refine lv_aload_n hx hb (dk_at dkX9_deadMask_0 6 rfl) rfl (lv_at hl 2 rfl) ?_
      refine va_get (D := (dC, dI)) (ci := 9) (v := .ref (q (ta + 1))) (C := RX9) (T := TX9) (N := 16) hx hb hts hiX9 hown hK hP ta (wkT hta) rfl 0 (by decide) (hts _ (List.mem_cons_of_mem _ wkq_0_8)) (fun _ h9 => h9) rfl (dk_at dkX9_deadMask_0 7 rfl) ?_
      refine lv_iconst (v := iI 2) hx hb (dk_at dkX9_deadMask_0 8 rfl) (by decide +kernel) ?_
      refine x_iald (Wf := WK cB cI cJ cZ cQ q) hx hb hK hP (ta + 1) 1 (wkTc hta) rfl (by decide) (by decide) (dk_at dkX9_deadMask_0 9 rfl) (fun z11 hz11 => ?_)
      have rz11 : (0 : Int) ≤ z11 ∧ z11 ≤ 4 := by rw [hz11]; exact irTc2 hta hI
      have gz11 := Hd.mk hz11
      refine lv_icmp_ge (tgt := 48) hx hb (dk_at dkX9_deadMask_0 10 rfl) (by decide) (fun c12 => ?_) (fun c12 => ?_)
      · have c12 : z11 ≤ z2 := (i_le (rb rz11 (by decide) (by decide)) (rb f7 (by decide) (by decide))).mp c12
        refine lv_iload_n hx hb (dk_at dkX9_deadMask_1 11 rfl) rfl (lv_at hl 1 rfl) ?_
        exact RET z3 _ _ _ _ _ ⟨rfl, hk1 _ ⟨0 + 1, (u_d_X9_deadMask_1 ⟨f7, ⟨f8, ⟨z11, gz11.out, (Or.inl ⟨c12, rfl⟩)⟩⟩⟩)⟩, f8⟩ hP hS (dk_at dkX9_deadMask_1 12 rfl)
      · have c12 : ¬ z11 ≤ z2 := mt (i_le (rb rz11 (by decide) (by decide)) (rb f7 (by decide) (by decide))).mpr c12
        refine lv_aload_n hx hb (dk_at dkX9_deadMask_0 11 rfl) rfl (lv_at hl 2 rfl) ?_
        refine va_get (D := (dC, dI)) (ci := 9) (v := .ref (q (ta + 22))) (C := RX9) (T := TX9) (N := 16) hx hb hts hiX9 hown hK hP ta (wkT hta) rfl 14 (by decide) (hts _ (List.mem_cons_of_mem _ wkq_0_9)) (fun _ h9 => h9) rfl (dk_at dkX9_deadMask_0 12 rfl) ?_
        refine va_get (D := (dC, dI)) (ci := 6) (v := .ref (q ((ta + 22) + 2))) (C := RX6) (T := TX6) (N := 4) hx hb hts hiX6 hown hK hP (ta + 22) (wkS hta.s) rfl 1 (by decide) (hts _ (List.mem_cons_of_mem _ wkq_0_10)) (fun _ h9 => h9) rfl (dk_at dkX9_deadMask_0 13 rfl) ?_
        refine lv_iload_n hx hb (dk_at dkX9_deadMask_0 14 rfl) rfl (lv_at hl 0 rfl) ?_
        refine x_iald (Wf := WK cB cI cJ cZ cQ q) hx hb hK hP ((ta + 22) + 2) 1 (wkSw hta.s) rfl (by omega) (by decide) (dk_at dkX9_deadMask_0 15 rfl) (fun z13 hz13 => ?_)
        have rz13 : (-2147483648 : Int) ≤ z13 ∧ z13 ≤ 2147483647 := by rw [hz13]; exact irSw hta.s hI
        have gz13 := Hd.mk hz13
        refine lv_bipush (v := iI 40) hx hb (dk_at dkX9_deadMask_1 0 rfl) (by decide +kernel) ?_
        have J42_15 : ∀ (z20 : Int) (H : Heap) (locs : List Loc) (ls : Array Slot), (-2147483648 ≤ z20 ∧ z20 ≤ 2147483647) → (∀ (z : Int), (∃ mm1 : Nat, (d_X9_deadMask_2 (fun z2' z3' => d_X9_deadMask_1 ta A z mm1 z2' z3') z2 z z20)) → r_X9_deadMask ta A z) → va_P (dC, dI) vwCl (WK cB cI cJ cZ cQ q A) H → va_S AS s.heap H locs → lv_has ls 3 [(2, .int (iI z2)), (1, .int (iI z20)), (0, .ref (q ta))] → W p l e (headSpec ws_kc_X9_deadMask ({ frames := 2, cells := 0, slots := 0, locals := 46 } : Room)).room s m [.ref (q ta)].toArray below meth c H locs 0 0 Q (F0 m 42 ls []) := by
          intro z20 H locs ls f22 hk2 hP hS hl
          refine lv_iinc (v := iI (z2 + 1)) (lv' := [(2, .int (iI (z2 + 1))), (1, .int (iI z20)), (0, .ref (q ta))]) hx hb (dk_at dkX9_deadMask_1 9 rfl) hl (k := 0) rfl (i_inc (by omega)) (by decide) rfl (fun ls hl => ?_)
          refine lv_goto (tgt := 7) hx hb (dk_at dkX9_deadMask_1 10 rfl) (by decide) ?_
          exact ih6 _ (by omega) (z2 + 1) z20 _ _ _ (by omega) (by omega) (fun zq ⟨mm1, hq⟩ => hk2 _ ⟨mm1, (u_d_X9_deadMask_2 ⟨f22, hq⟩)⟩) rfl hP hS (lv_sub hl [0, 1, 2] rfl)
        refine lv_icmp_ne (tgt := 42) hx hb (dk_at dkX9_deadMask_1 1 rfl) (by decide) (fun c14 => ?_) (fun c14 => ?_)
        · have c14 : ¬ z13 = 40 := mt (i_eq rz13 ⟨by decide, by decide⟩).mpr c14
          exact J42_15 z3 _ _ _ (by omega) (fun zq ⟨mm1, hq⟩ => hk1 _ ⟨mm1 + 1, (u_d_X9_deadMask_1 ⟨f7, ⟨f8, ⟨z11, gz11.out, (Or.inr ⟨c12, ⟨z13, gz13.out, (Or.inl ⟨c14, hq⟩)⟩⟩)⟩⟩⟩)⟩) hP hS (lv_sub hl [0, 1, 2] rfl)
        · have c14 : z13 = 40 := (i_eq rz13 ⟨by decide, by decide⟩).mp c14
          refine lv_iload_n hx hb (dk_at dkX9_deadMask_1 2 rfl) rfl (lv_at hl 1 rfl) ?_
          refine lv_aload_n hx hb (dk_at dkX9_deadMask_1 3 rfl) rfl (lv_at hl 2 rfl) ?_
          refine va_get (D := (dC, dI)) (ci := 9) (v := .ref (q (ta + 22))) (C := RX9) (T := TX9) (N := 16) hx hb hts hiX9 hown hK hP ta (wkT hta) rfl 14 (by decide) (hts _ (List.mem_cons_of_mem _ wkq_0_9)) (fun _ h9 => h9) rfl (dk_at dkX9_deadMask_1 4 rfl) ?_
          refine lv_iload_n hx hb (dk_at dkX9_deadMask_1 5 rfl) rfl (lv_at hl 0 rfl) ?_
          refine k_calli (As := [.int (iI z2)]) (rest := [.int (iI z3)]) ⟨hx, hb, hml, hown, hts⟩ hE (kc_X6_rowMask l dC dI cB cI cJ cZ cQ aL aS q _ (ta + 22) z2 hI hta.s (rb f7 (by decide) (by decide))) (cwV 1 hts (goodVk wkq_8_51 wkq_0_50 wkq_0_51 wkq_0_52 wkq_0_53) rfl rfl rfl (by decide +kernel) ⟨Nat.le_of_ble_eq_true rfl, Nat.le_of_ble_eq_true rfl⟩) hK hDD hA0 hP hS (ta + 22) 6 (wkS hta.s) rfl rfl hl.1 (Nat.le_of_ble_eq_true rfl) (dk_at dkX9_deadMask_1 6 rfl) (fun z16 A17 H locs hw18 hP hS => ?_)
          obtain ⟨rfl, hw18⟩ := hw18
          have ghw18 : q_X6_rowMask (ta + 22) z2 A z16 := hw18
          have hw18 := hw18.2
          refine lv_ior hx hb (dk_at dkX9_deadMask_1 7 rfl) ?_
          refine x_absE (fun z19 gz19 hz19 => ?_)
          refine lv_istore_n (lv' := [(1, .int (iI z19)), (2, .int (iI z2)), (0, .ref (q ta))]) hx hb (dk_at dkX9_deadMask_1 8 rfl) rfl hl (by decide) rfl (fun ls hl => ?_)
          exact J42_15 z19 _ _ _ (by omega) (fun zq ⟨mm1, hq⟩ => hk1 _ ⟨mm1 + 1, (u_d_X9_deadMask_1 ⟨f7, ⟨f8, ⟨z11, gz11.out, (Or.inr ⟨c12, ⟨z13, gz13.out, (Or.inr ⟨c14, ⟨z16, ghw18, ⟨z19, gz19.out, hq⟩⟩⟩)⟩⟩)⟩⟩⟩)⟩) hP hS (lv_sub hl [1, 0, 2] rfl)
  exact L7_5 _ 0 (A ta 15) _ _ _ (by omega) (by omega) (fun zq ⟨mm1, hq⟩ => (u_r_X9_deadMask ⟨mm1, hq⟩)) rfl hP hS (lv_sub hl [0, 1, 2] rfl)

abbrev tr_r_X9_isShut (ta : Nat) (x1 : Int) (A : St) (z : Int) : Prop := (∃ z1 : Int, q_X9_shutMask ta A z1 ∧ (∃ z4 : Int, z4 = oShr z1 x1 ∧ (∃ z5 : Int, z5 = oAnd z4 1 ∧ (((z5 = 0) ∧ (z = 0)) ∨ ((¬ z5 = 0) ∧ (z = 1))))))
def r_X9_isShut (ta : Nat) (x1 : Int) (A : St) (z : Int) : Prop := tr_r_X9_isShut ta x1 A z
theorem u_r_X9_isShut {ta : Nat} {x1 : Int} {A : St} {z : Int} (h : tr_r_X9_isShut ta x1 A z) : r_X9_isShut ta x1 A z := h
def q_X9_isShut (ta : Nat) (x1 : Int) (A : St) (z : Int) : Prop := r_X9_isShut ta x1 A z ∧ (0 ≤ z ∧ z ≤ 1)
def ws_kc_X9_isShut : List Cond := .code yX9_isShut cX9_isShut 2 (some .boolean) :: WY
set_option maxHeartbeats 4000000 in
set_option maxRecDepth 100000 in
theorem kc_X9_isShut (l : Launch) (dC : Nat → ClassId) (dI : Nat → Nat → Nat) (cB cI cJ cZ cQ : ClassId) (aL aS : Nat) (q : Nat → Nat) (A : St) (ta : Nat) (x1 : Int) (hI : IK A) (hta : isT ta) (hx1 : (-2147483648 : Int) ≤ x1 ∧ x1 ≤ 2147483647) : KMi l yX9_isShut ws_kc_X9_isShut ({ frames := 3, cells := 0, slots := 0, locals := 68 } : Room) aL aS (dC, dI) (tyA cB cI cJ cZ cQ) (WK cB cI cJ cZ cQ q) A [.ref (q ta), .int (iI x1)] (fun z u => A = u ∧ r_X9_isShut ta x1 A z ∧ (0 ≤ z ∧ z ≤ 1)) := by
  refine k_metz (cc := cX9_isShut) (maxL := 2) WK_adr (plainFor_of_name (by decide +kernel)) rfl (Nat.le_of_ble_eq_true rfl) (fun z u h => h.2.2) (fun p e s m below meth c Q AS ls hx hb hml hown hts hK hDD hA0 hE RET H locs hP hS hl => ?_)
  have hown : s.vm.findClass RX9 = some m.cls := hown
  have hl : lv_has ls 2 [(0, .ref (q ta)), (1, .int (iI x1))] := hl
  refine lv_aload_n hx hb (dk_at dkX9_isShut_0 0 rfl) rfl (lv_at hl 0 rfl) ?_
  refine k_calli (As := []) (rest := []) ⟨hx, hb, hml, hown, hts⟩ hE (kc_X9_shutMask l dC dI cB cI cJ cZ cQ aL aS q _ ta hI hta) (cwV 0 hts (goodVk wkq_8_54 wkq_8_55 wkq_8_56 wkq_0_6 wkq_8_50) rfl rfl rfl (by decide +kernel) ⟨Nat.le_of_ble_eq_true rfl, Nat.le_of_ble_eq_true rfl⟩) hK hDD hA0 hP hS ta 9 (wkT hta) rfl rfl hl.1 (Nat.le_of_ble_eq_true rfl) (dk_at dkX9_isShut_0 1 rfl) (fun z1 A2 H locs hw3 hP hS => ?_)
  obtain ⟨rfl, hw3⟩ := hw3
  have ghw3 : q_X9_shutMask ta A z1 := hw3
  have hw3 := hw3.2
  refine lv_iload_n hx hb (dk_at dkX9_isShut_0 2 rfl) rfl (lv_at hl 1 rfl) ?_
  refine lv_ishr hx hb (dk_at dkX9_isShut_0 3 rfl) ?_
  refine x_absE (fun z4 gz4 hz4 => ?_)
  refine lv_iconst (v := iI 1) hx hb (dk_at dkX9_isShut_0 4 rfl) (by decide +kernel) ?_
  refine lv_iand hx hb (dk_at dkX9_isShut_0 5 rfl) ?_
  refine x_andE (b := 1) (by omega) (fun z5 gz5 hz5 => ?_)
  refine lv_if_eq (tgt := 15) hx hb (dk_at dkX9_isShut_0 6 rfl) (by decide) (fun c6 => ?_) (fun c6 => ?_)
  · have c6 : z5 = 0 := (i_eq0 (by omega)).mp c6
    refine lv_iconst (v := iI 0) hx hb (dk_at dkX9_isShut_0 9 rfl) (by decide +kernel) ?_
    exact RET 0 _ _ _ _ _ ⟨rfl, (u_r_X9_isShut ⟨z1, ghw3, ⟨z4, gz4.out, ⟨z5, gz5.out, (Or.inl ⟨c6, rfl⟩)⟩⟩⟩), ⟨by decide, by decide⟩⟩ hP hS (dk_at dkX9_isShut_0 10 rfl)
  · have c6 : ¬ z5 = 0 := mt (i_eq0 (by omega)).mpr c6
    refine lv_iconst (v := iI 1) hx hb (dk_at dkX9_isShut_0 7 rfl) (by decide +kernel) ?_
    refine lv_goto (tgt := 16) hx hb (dk_at dkX9_isShut_0 8 rfl) (by decide) ?_
    exact RET 1 _ _ _ _ _ ⟨rfl, (u_r_X9_isShut ⟨z1, ghw3, ⟨z4, gz4.out, ⟨z5, gz5.out, (Or.inr ⟨c6, rfl⟩)⟩⟩⟩), ⟨by decide, by decide⟩⟩ hP hS (dk_at dkX9_isShut_0 10 rfl)

abbrev tr_d_X9_rowsWith_2 (K1 : Int → Int → Prop) (z1 : Int) (z : Int) (z18 : Int) : Prop := ((-2147483648 ≤ z18 ∧ z18 ≤ 2147483647) ∧ (K1 (z1 + 1) z18))
def d_X9_rowsWith_2 (K1 : Int → Int → Prop) (z1 : Int) (z : Int) (z18 : Int) : Prop := tr_d_X9_rowsWith_2 K1 z1 z z18
theorem u_d_X9_rowsWith_2 {K1 : Int → Int → Prop} {z1 : Int} {z : Int} {z18 : Int} (h : tr_d_X9_rowsWith_2 K1 z1 z z18) : d_X9_rowsWith_2 K1 z1 z z18 := h
abbrev tr_d_X9_rowsWith_1 (ta : Nat) (x1 : Int) (A : St) (z : Int) (K1 : Int → Int → Prop) (z1 : Int) (z2 : Int) : Prop := ((0 ≤ z1 ∧ z1 ≤ 2147483647) ∧ ((-2147483648 ≤ z2 ∧ z2 ≤ 2147483647) ∧ (∃ z10 : Int, z10 = A (ta + 1) (2 : Int).toNat ∧ (((z10 ≤ z1) ∧ (z = z2)) ∨ ((¬ z10 ≤ z1) ∧ (∃ z12 : Int, q_X6_placeInRow (ta + 22) z1 x1 A z12 ∧ (((z12 = (-1)) ∧ (d_X9_rowsWith_2 K1 z1 z z2)) ∨ ((¬ z12 = (-1)) ∧ (∃ z17 : Int, z17 = oWrap (z2 + 1) ∧ (d_X9_rowsWith_2 K1 z1 z z17))))))))))
def d_X9_rowsWith_1 (ta : Nat) (x1 : Int) (A : St) (z : Int) : Nat → Int → Int → Prop
  | 0, _, _ => False
  | nn9 + 1, z1, z2 => tr_d_X9_rowsWith_1 ta x1 A z (fun z1 z2 => d_X9_rowsWith_1 ta x1 A z nn9 z1 z2) z1 z2
theorem u_d_X9_rowsWith_1 {ta : Nat} {x1 : Int} {A : St} {z : Int} {nn9 : Nat} {z1 : Int} {z2 : Int} (h : tr_d_X9_rowsWith_1 ta x1 A z (fun z1 z2 => d_X9_rowsWith_1 ta x1 A z nn9 z1 z2) z1 z2) : d_X9_rowsWith_1 ta x1 A z (nn9 + 1) z1 z2 := h
abbrev tr_r_X9_rowsWith (ta : Nat) (x1 : Int) (A : St) (z : Int) : Prop := (∃ nn9 : Nat, d_X9_rowsWith_1 ta x1 A z nn9 0 0)
def r_X9_rowsWith (ta : Nat) (x1 : Int) (A : St) (z : Int) : Prop := tr_r_X9_rowsWith ta x1 A z
theorem u_r_X9_rowsWith {ta : Nat} {x1 : Int} {A : St} {z : Int} (h : tr_r_X9_rowsWith ta x1 A z) : r_X9_rowsWith ta x1 A z := h
def q_X9_rowsWith (ta : Nat) (x1 : Int) (A : St) (z : Int) : Prop := r_X9_rowsWith ta x1 A z ∧ (-2147483648 ≤ z ∧ z ≤ 2147483647)
def ws_kc_X9_rowsWith : List Cond := .code yX9_rowsWith cX9_rowsWith 4 (some .int) :: WY
set_option maxHeartbeats 4000000 in
set_option maxRecDepth 100000 in
theorem kc_X9_rowsWith (l : Launch) (dC : Nat → ClassId) (dI : Nat → Nat → Nat) (cB cI cJ cZ cQ : ClassId) (aL aS : Nat) (q : Nat → Nat) (A : St) (ta : Nat) (x1 : Int) (hI : IK A) (hta : isT ta) (hx1 : (-2147483648 : Int) ≤ x1 ∧ x1 ≤ 2147483647) : KMi l yX9_rowsWith ws_kc_X9_rowsWith ({ frames := 2, cells := 0, slots := 0, locals := 45 } : Room) aL aS (dC, dI) (tyA cB cI cJ cZ cQ) (WK cB cI cJ cZ cQ q) A [.ref (q ta), .int (iI x1)] (fun z u => A = u ∧ r_X9_rowsWith ta x1 A z ∧ (-2147483648 ≤ z ∧ z ≤ 2147483647)) := by
  refine k_meti (cc := cX9_rowsWith) (maxL := 4) WK_adr (plainFor_of_name (by decide +kernel)) rfl (Nat.le_of_ble_eq_true rfl) (fun p e s m below meth c Q AS ls hx hb hml hown hts hK hDD hA0 hE RET H locs hP hS hl => ?_)
  have hown : s.vm.findClass RX9 = some m.cls := hown
  have hl : lv_has ls 4 [(0, .ref (q ta)), (1, .int (iI x1))] := hl
  have hiX9 : ∀ w ∈ u_ws RX9 TX9 16, w ∈ ws_kc_X9_rowsWith := fun w h => List.mem_cons_of_mem _ (wy_layX9 w h)
  refine lv_iconst (v := iI 0) hx hb (dk_at dkX9_rowsWith_0 0 rfl) (by decide +kernel) ?_
  refine lv_istore_n (lv' := [(2, .int (iI 0)), (0, .ref (q ta)), (1, .int (iI x1))]) hx hb (dk_at dkX9_rowsWith_0 1 rfl) rfl hl (by decide) rfl (fun ls hl => ?_)
  refine lv_iconst (v := iI 0) hx hb (dk_at dkX9_rowsWith_0 2 rfl) (by decide +kernel) ?_
  refine lv_istore_n (lv' := [(3, .int (iI 0)), (2, .int (iI 0)), (0, .ref (q ta)), (1, .int (iI x1))]) hx hb (dk_at dkX9_rowsWith_0 3 rfl) rfl hl (by decide) rfl (fun ls hl => ?_)
  have L4_4 : ∀ (n9 : Nat) (z1 z2 : Int) (H : Heap) (locs : List Loc) (ls : Array Slot), (0 ≤ z1 ∧ z1 ≤ 2147483647) → (-2147483648 ≤ z2 ∧ z2 ≤ 2147483647) → (∀ (z : Int), (∃ mm1 : Nat, (d_X9_rowsWith_1 ta x1 A z mm1 z1 z2)) → r_X9_rowsWith ta x1 A z) → ((5 - z1).toNat = n9) → va_P (dC, dI) vwCl (WK cB cI cJ cZ cQ q A) H → va_S AS s.heap H locs → lv_has ls 4 [(3, .int (iI z1)), (2, .int (iI z2)), (0, .ref (q ta)), (1, .int (iI x1))] → W p l e (headSpec ws_kc_X9_rowsWith ({ frames := 2, cells := 0, slots := 0, locals := 45 } : Room)).room s m [.ref (q ta), .int (iI x1)].toArray below meth c H locs 0 0 Q (F0 m 4 ls []) := by
    intro n9
    induction n9 using Nat.strongRecOn with
    | ind n9 ih5 =>
      intro z1 z2 H locs ls f6 f7 hk1 hn9 hP hS hl
      refine lv_iload_n hx hb (dk_at dkX9_rowsWith_0 4 rfl) rfl (lv_at hl 0 rfl) ?_
      refine lv_aload_n hx hb (dk_at dkX9_rowsWith_0 5 rfl) rfl (lv_at hl 2 rfl) ?_
      refine va_get (D := (dC, dI)) (ci := 9) (v := .ref (q (ta + 1))) (C := RX9) (T := TX9) (N := 16) hx hb hts hiX9 hown hK hP ta (wkT hta) rfl 0 (by decide) (hts _ (List.mem_cons_of_mem _ wkq_0_8)) (fun _ h9 => h9) rfl (dk_at dkX9_rowsWith_0 6 rfl) ?_
      refine lv_iconst (v := iI 2) hx hb (dk_at dkX9_rowsWith_0 7 rfl) (by decide +kernel) ?_
      refine x_iald (Wf := WK cB cI cJ cZ cQ q) hx hb hK hP (ta + 1) 1 (wkTc hta) rfl (by decide) (by decide) (dk_at dkX9_rowsWith_0 8 rfl) (fun z10 hz10 => ?_)
      have rz10 : (0 : Int) ≤ z10 ∧ z10 ≤ 4 := by rw [hz10]; exact irTc2 hta hI
      have gz10 := Hd.mk hz10
      refine lv_icmp_ge (tgt := 36) hx hb (dk_at dkX9_rowsWith_0 9 rfl) (by decide) (fun c11 => ?_) (fun c11 => ?_)
      · have c11 : z10 ≤ z1 := (i_le (rb rz10 (by decide) (by decide)) (rb f6 (by decide) (by decide))).mp c11
        refine lv_iload_n hx hb (dk_at dkX9_rowsWith_1 4 rfl) rfl (lv_at hl 1 rfl) ?_
        exact RET z2 _ _ _ _ _ ⟨rfl, hk1 _ ⟨0 + 1, (u_d_X9_rowsWith_1 ⟨f6, ⟨f7, ⟨z10, gz10.out, (Or.inl ⟨c11, rfl⟩)⟩⟩⟩)⟩, f7⟩ hP hS (dk_at dkX9_rowsWith_1 5 rfl)
      · have c11 : ¬ z10 ≤ z1 := mt (i_le (rb rz10 (by decide) (by decide)) (rb f6 (by decide) (by decide))).mpr c11
        refine lv_aload_n hx hb (dk_at dkX9_rowsWith_0 10 rfl) rfl (lv_at hl 2 rfl) ?_
        refine va_get (D := (dC, dI)) (ci := 9) (v := .ref (q (ta + 22))) (C := RX9) (T := TX9) (N := 16) hx hb hts hiX9 hown hK hP ta (wkT hta) rfl 14 (by decide) (hts _ (List.mem_cons_of_mem _ wkq_0_9)) (fun _ h9 => h9) rfl (dk_at dkX9_rowsWith_0 11 rfl) ?_
        refine lv_iload_n hx hb (dk_at dkX9_rowsWith_0 12 rfl) rfl (lv_at hl 0 rfl) ?_
        refine lv_iload_n hx hb (dk_at dkX9_rowsWith_0 13 rfl) rfl (lv_at hl 3 rfl) ?_
        refine k_calli (As := [.int (iI z1), .int (iI x1)]) (rest := []) ⟨hx, hb, hml, hown, hts⟩ hE (kc_X6_placeInRow l dC dI cB cI cJ cZ cQ aL aS q _ (ta + 22) z1 x1 hI hta.s (rb f6 (by decide) (by decide)) hx1) (cwV 2 hts (goodVk wkq_8_58 wkq_4_59 wkq_5_0 wkq_0_52 wkq_5_1) rfl rfl rfl (by decide +kernel) ⟨Nat.le_of_ble_eq_true rfl, Nat.le_of_ble_eq_true rfl⟩) hK hDD hA0 hP hS (ta + 22) 6 (wkS hta.s) rfl rfl hl.1 (Nat.le_of_ble_eq_true rfl) (dk_at dkX9_rowsWith_0 14 rfl) (fun z12 A13 H locs hw14 hP hS => ?_)
        obtain ⟨rfl, hw14⟩ := hw14
        have ghw14 : q_X6_placeInRow (ta + 22) z1 x1 A z12 := hw14
        have hw14 := hw14.2
        refine lv_iconst (v := iI (-1)) hx hb (dk_at dkX9_rowsWith_0 15 rfl) (by decide +kernel) ?_
        have J30_16 : ∀ (z18 : Int) (H : Heap) (locs : List Loc) (ls : Array Slot), (-2147483648 ≤ z18 ∧ z18 ≤ 2147483647) → (∀ (z : Int), (∃ mm1 : Nat, (d_X9_rowsWith_2 (fun z1' z2' => d_X9_rowsWith_1 ta x1 A z mm1 z1' z2') z1 z z18)) → r_X9_rowsWith ta x1 A z) → va_P (dC, dI) vwCl (WK cB cI cJ cZ cQ q A) H → va_S AS s.heap H locs → lv_has ls 4 [(3, .int (iI z1)), (2, .int (iI z18)), (0, .ref (q ta)), (1, .int (iI x1))] → W p l e (headSpec ws_kc_X9_rowsWith ({ frames := 2, cells := 0, slots := 0, locals := 45 } : Room)).room s m [.ref (q ta), .int (iI x1)].toArray below meth c H locs 0 0 Q (F0 m 30 ls []) := by
          intro z18 H locs ls f20 hk2 hP hS hl
          refine lv_iinc (v := iI (z1 + 1)) (lv' := [(3, .int (iI (z1 + 1))), (2, .int (iI z18)), (0, .ref (q ta)), (1, .int (iI x1))]) hx hb (dk_at dkX9_rowsWith_1 2 rfl) hl (k := 0) rfl (i_inc (by omega)) (by decide) rfl (fun ls hl => ?_)
          refine lv_goto (tgt := 4) hx hb (dk_at dkX9_rowsWith_1 3 rfl) (by decide) ?_
          exact ih5 _ (by omega) (z1 + 1) z18 _ _ _ (by omega) (by omega) (fun zq ⟨mm1, hq⟩ => hk2 _ ⟨mm1, (u_d_X9_rowsWith_2 ⟨f20, hq⟩)⟩) rfl hP hS (lv_sub hl [0, 1, 2, 3] rfl)
        refine lv_icmp_eq (tgt := 30) hx hb (dk_at dkX9_rowsWith_1 0 rfl) (by decide) (fun c15 => ?_) (fun c15 => ?_)
        · have c15 : z12 = (-1) := (i_eq (rb hw14 (by decide) (by decide)) ⟨by decide, by decide⟩).mp c15
          exact J30_16 z2 _ _ _ (by omega) (fun zq ⟨mm1, hq⟩ => hk1 _ ⟨mm1 + 1, (u_d_X9_rowsWith_1 ⟨f6, ⟨f7, ⟨z10, gz10.out, (Or.inr ⟨c11, ⟨z12, ghw14, (Or.inl ⟨c15, hq⟩)⟩⟩)⟩⟩⟩)⟩) hP hS (lv_sub hl [0, 1, 2, 3] rfl)
        · have c15 : ¬ z12 = (-1) := mt (i_eq (rb hw14 (by decide) (by decide)) ⟨by decide, by decide⟩).mpr c15
          obtain ⟨z17, gz17, hz17, ez17⟩ := i_wrapE (z2 + 1)
          refine lv_iinc (v := iI z17) (lv' := [(2, .int (iI z17)), (3, .int (iI z1)), (0, .ref (q ta)), (1, .int (iI x1))]) hx hb (dk_at dkX9_rowsWith_1 1 rfl) hl (k := 1) rfl ((i_inc (by omega)).trans ez17) (by decide) rfl (fun ls hl => ?_)
          exact J30_16 z17 _ _ _ (by omega) (fun zq ⟨mm1, hq⟩ => hk1 _ ⟨mm1 + 1, (u_d_X9_rowsWith_1 ⟨f6, ⟨f7, ⟨z10, gz10.out, (Or.inr ⟨c11, ⟨z12, ghw14, (Or.inr ⟨c15, ⟨z17, gz17.out, hq⟩⟩)⟩⟩)⟩⟩⟩)⟩) hP hS (lv_sub hl [1, 0, 2, 3] rfl)
  exact L4_4 _ 0 0 _ _ _ (by omega) (by omega) (fun zq ⟨mm1, hq⟩ => (u_r_X9_rowsWith ⟨mm1, hq⟩)) rfl hP hS (lv_sub hl [0, 1, 2, 3] rfl)

abbrev tr_r_X9_holdsKey (ta : Nat) (x1 : Int) (x2 : Int) (A : St) (z : Int) : Prop := (∃ z1 : Int, q_X9_isThere_1_3 ta x1 A z1 ∧ (((z1 = 0) ∧ (z = 0)) ∨ ((¬ z1 = 0) ∧ (∃ z5 : Int, q_X9_isThere_1_2 ta x2 A z5 ∧ (((z5 = 0) ∧ (z = 0)) ∨ ((¬ z5 = 0) ∧ (∃ z9 : Int, z9 = A ((ta + 22) + 2) (x2).toNat ∧ (((¬ z9 = x1) ∧ (z = 0)) ∨ ((z9 = x1) ∧ (z = 1))))))))))
def r_X9_holdsKey (ta : Nat) (x1 : Int) (x2 : Int) (A : St) (z : Int) : Prop := tr_r_X9_holdsKey ta x1 x2 A z
theorem u_r_X9_holdsKey {ta : Nat} {x1 : Int} {x2 : Int} {A : St} {z : Int} (h : tr_r_X9_holdsKey ta x1 x2 A z) : r_X9_holdsKey ta x1 x2 A z := h
def q_X9_holdsKey (ta : Nat) (x1 : Int) (x2 : Int) (A : St) (z : Int) : Prop := r_X9_holdsKey ta x1 x2 A z ∧ ((0 ≤ z ∧ z ≤ 1) ∧ (z = 1 → (0 ≤ x1 ∧ x1 ≤ 2) ∧ 0 ≤ x2 ∧ x2 ≤ 3))
def ws_kc_X9_holdsKey : List Cond := .code yX9_holdsKey cX9_holdsKey 3 (some .boolean) :: WY
set_option maxHeartbeats 4000000 in
set_option maxRecDepth 100000 in
theorem kc_X9_holdsKey (l : Launch) (dC : Nat → ClassId) (dI : Nat → Nat → Nat) (cB cI cJ cZ cQ : ClassId) (aL aS : Nat) (q : Nat → Nat) (A : St) (ta : Nat) (x1 x2 : Int) (hI : IK A) (hta : isT ta) (hx1 : (-2147483648 : Int) ≤ x1 ∧ x1 ≤ 2147483647) (hx2 : (-2147483648 : Int) ≤ x2 ∧ x2 ≤ 2147483647) : KMi l yX9_holdsKey ws_kc_X9_holdsKey ({ frames := 1, cells := 0, slots := 0, locals := 22 } : Room) aL aS (dC, dI) (tyA cB cI cJ cZ cQ) (WK cB cI cJ cZ cQ q) A [.ref (q ta), .int (iI x1), .int (iI x2)] (fun z u => A = u ∧ r_X9_holdsKey ta x1 x2 A z ∧ ((0 ≤ z ∧ z ≤ 1) ∧ (z = 1 → (0 ≤ x1 ∧ x1 ≤ 2) ∧ 0 ≤ x2 ∧ x2 ≤ 3))) := by
  refine k_metz (cc := cX9_holdsKey) (maxL := 3) WK_adr (plainFor_of_name (by decide +kernel)) rfl (Nat.le_of_ble_eq_true rfl) (fun z u h => h.2.2.1) (fun p e s m below meth c Q AS ls hx hb hml hown hts hK hDD hA0 hE RET H locs hP hS hl => ?_)
  have hown : s.vm.findClass RX9 = some m.cls := hown
  have hl : lv_has ls 3 [(0, .ref (q ta)), (1, .int (iI x1)), (2, .int (iI x2))] := hl
  have hiX9 : ∀ w ∈ u_ws RX9 TX9 16, w ∈ ws_kc_X9_holdsKey := fun w h => List.mem_cons_of_mem _ (wy_layX9 w h)
  have hiX6 : ∀ w ∈ u_ws RX6 TX6 4, w ∈ ws_kc_X9_holdsKey := fun w h => List.mem_cons_of_mem _ (wy_layX6 w h)
  refine lv_aload_n hx hb (dk_at dkX9_holdsKey_0 0 rfl) rfl (lv_at hl 0 rfl) ?_
  refine lv_iconst (v := iI 3) hx hb (dk_at dkX9_holdsKey_0 1 rfl) (by decide +kernel) ?_
  refine lv_iload_n hx hb (dk_at dkX9_holdsKey_0 2 rfl) rfl (lv_at hl 1 rfl) ?_
  refine k_calli (As := [.int (iI 3), .int (iI x1)]) (rest := []) ⟨hx, hb, hml, hown, hts⟩ hE (kc_X9_isThere_1_3 l dC dI cB cI cJ cZ cQ aL aS q _ ta x1 hI hta hx1) (cwV 2 hts (goodVk wkq_2_52 wkq_0_22 wkq_0_23 wkq_0_6 wkq_0_24) rfl rfl rfl (by decide +kernel) ⟨Nat.le_of_ble_eq_true rfl, Nat.le_of_ble_eq_true rfl⟩) hK hDD hA0 hP hS ta 9 (wkT hta) rfl rfl hl.1 (Nat.le_of_ble_eq_true rfl) (dk_at dkX9_holdsKey_0 3 rfl) (fun z1 A2 H locs hw3 hP hS => ?_)
  obtain ⟨rfl, hw3⟩ := hw3
  have ghw3 : q_X9_isThere_1_3 ta x1 A z1 := hw3
  have hw3 := hw3.2
  have rz1 : 0 ≤ z1 ∧ z1 ≤ 1 := hw3.1
  have hw3 := hw3.2
  refine lv_if_eq (tgt := 35) hx hb (dk_at dkX9_holdsKey_0 4 rfl) (by decide) (fun c4 => ?_) (fun c4 => ?_)
  · have c4 : z1 = 0 := (i_eq0 (rb rz1 (by decide) (by decide))).mp c4
    clear hw3
    refine lv_iconst (v := iI 0) hx hb (dk_at dkX9_holdsKey_1 3 rfl) (by decide +kernel) ?_
    exact RET 0 _ _ _ _ _ ⟨rfl, (u_r_X9_holdsKey ⟨z1, ghw3, (Or.inl ⟨c4, rfl⟩)⟩), by omega⟩ hP hS (dk_at dkX9_holdsKey_1 4 rfl)
  · have c4 : ¬ z1 = 0 := mt (i_eq0 (rb rz1 (by decide) (by decide))).mpr c4
    have hw3b := hw3 (by omega)
    clear hw3
    refine lv_aload_n hx hb (dk_at dkX9_holdsKey_0 5 rfl) rfl (lv_at hl 0 rfl) ?_
    refine lv_iconst (v := iI 2) hx hb (dk_at dkX9_holdsKey_0 6 rfl) (by decide +kernel) ?_
    refine lv_iload_n hx hb (dk_at dkX9_holdsKey_0 7 rfl) rfl (lv_at hl 2 rfl) ?_
    refine k_calli (As := [.int (iI 2), .int (iI x2)]) (rest := []) ⟨hx, hb, hml, hown, hts⟩ hE (kc_X9_isThere_1_2 l dC dI cB cI cJ cZ cQ aL aS q _ ta x2 hI hta hx2) (cwV 2 hts (goodVk wkq_2_52 wkq_0_22 wkq_0_23 wkq_0_6 wkq_0_24) rfl rfl rfl (by decide +kernel) ⟨Nat.le_of_ble_eq_true rfl, Nat.le_of_ble_eq_true rfl⟩) hK hDD hA0 hP hS ta 9 (wkT hta) rfl rfl hl.1 (Nat.le_of_ble_eq_true rfl) (dk_at dkX9_holdsKey_0 8 rfl) (fun z5 A6 H locs hw7 hP hS => ?_)
    obtain ⟨rfl, hw7⟩ := hw7
    have ghw7 : q_X9_isThere_1_2 ta x2 A z5 := hw7
    have hw7 := hw7.2
    have rz5 : 0 ≤ z5 ∧ z5 ≤ 1 := hw7.1
    have hw7 := hw7.2
    refine lv_if_eq (tgt := 35) hx hb (dk_at dkX9_holdsKey_0 9 rfl) (by decide) (fun c8 => ?_) (fun c8 => ?_)
    · have c8 : z5 = 0 := (i_eq0 (rb rz5 (by decide) (by decide))).mp c8
      clear hw7
      refine lv_iconst (v := iI 0) hx hb (dk_at dkX9_holdsKey_1 3 rfl) (by decide +kernel) ?_
      exact RET 0 _ _ _ _ _ ⟨rfl, (u_r_X9_holdsKey ⟨z1, ghw3, (Or.inr ⟨c4, ⟨z5, ghw7, (Or.inl ⟨c8, rfl⟩)⟩⟩)⟩), by omega⟩ hP hS (dk_at dkX9_holdsKey_1 4 rfl)
    · have c8 : ¬ z5 = 0 := mt (i_eq0 (rb rz5 (by decide) (by decide))).mpr c8
      have hw7b := hw7 (by omega)
      clear hw7
      refine lv_aload_n hx hb (dk_at dkX9_holdsKey_0 10 rfl) rfl (lv_at hl 0 rfl) ?_
      refine va_get (D := (dC, dI)) (ci := 9) (v := .ref (q (ta + 22))) (C := RX9) (T := TX9) (N := 16) hx hb hts hiX9 hown hK hP ta (wkT hta) rfl 14 (by decide) (hts _ (List.mem_cons_of_mem _ wkq_0_9)) (fun _ h9 => h9) rfl (dk_at dkX9_holdsKey_0 11 rfl) ?_
      refine va_get (D := (dC, dI)) (ci := 6) (v := .ref (q ((ta + 22) + 2))) (C := RX6) (T := TX6) (N := 4) hx hb hts hiX6 hown hK hP (ta + 22) (wkS hta.s) rfl 1 (by decide) (hts _ (List.mem_cons_of_mem _ wkq_0_10)) (fun _ h9 => h9) rfl (dk_at dkX9_holdsKey_0 12 rfl) ?_
      refine lv_iload_n hx hb (dk_at dkX9_holdsKey_0 13 rfl) rfl (lv_at hl 2 rfl) ?_
      refine x_iald (Wf := WK cB cI cJ cZ cQ q) hx hb hK hP ((ta + 22) + 2) 1 (wkSw hta.s) rfl (by omega) (by decide) (dk_at dkX9_holdsKey_0 14 rfl) (fun z9 hz9 => ?_)
      have rz9 : (-2147483648 : Int) ≤ z9 ∧ z9 ≤ 2147483647 := by rw [hz9]; exact irSw hta.s hI
      have gz9 := Hd.mk hz9
      refine lv_iload_n hx hb (dk_at dkX9_holdsKey_0 15 rfl) rfl (lv_at hl 1 rfl) ?_
      refine lv_icmp_ne (tgt := 35) hx hb (dk_at dkX9_holdsKey_1 0 rfl) (by decide) (fun c10 => ?_) (fun c10 => ?_)
      · have c10 : ¬ z9 = x1 := mt (i_eq rz9 hx1).mpr c10
        refine lv_iconst (v := iI 0) hx hb (dk_at dkX9_holdsKey_1 3 rfl) (by decide +kernel) ?_
        exact RET 0 _ _ _ _ _ ⟨rfl, (u_r_X9_holdsKey ⟨z1, ghw3, (Or.inr ⟨c4, ⟨z5, ghw7, (Or.inr ⟨c8, ⟨z9, gz9.out, (Or.inl ⟨c10, rfl⟩)⟩⟩)⟩⟩)⟩), by omega⟩ hP hS (dk_at dkX9_holdsKey_1 4 rfl)
      · have c10 : z9 = x1 := (i_eq rz9 hx1).mp c10
        refine lv_iconst (v := iI 1) hx hb (dk_at dkX9_holdsKey_1 1 rfl) (by decide +kernel) ?_
        refine lv_goto (tgt := 36) hx hb (dk_at dkX9_holdsKey_1 2 rfl) (by decide) ?_
        exact RET 1 _ _ _ _ _ ⟨rfl, (u_r_X9_holdsKey ⟨z1, ghw3, (Or.inr ⟨c4, ⟨z5, ghw7, (Or.inr ⟨c8, ⟨z9, gz9.out, (Or.inr ⟨c10, rfl⟩)⟩⟩)⟩⟩)⟩), by omega⟩ hP hS (dk_at dkX9_holdsKey_1 4 rfl)

abbrev tr_d_X9_isBarred_2 (K1 : Int → St → Prop) (z1 : Int) (z : Int) (u : St) (A28 : St) : Prop := ((IK A28) ∧ (K1 (z1 + 1) A28))
def d_X9_isBarred_2 (K1 : Int → St → Prop) (z1 : Int) (z : Int) (u : St) (A28 : St) : Prop := tr_d_X9_isBarred_2 K1 z1 z u A28
theorem u_d_X9_isBarred_2 {K1 : Int → St → Prop} {z1 : Int} {z : Int} {u : St} {A28 : St} (h : tr_d_X9_isBarred_2 K1 z1 z u A28) : d_X9_isBarred_2 K1 z1 z u A28 := h
abbrev tr_d_X9_isBarred_1 (ta : Nat) (x1 : Int) (x2 : Int) (x3 : Int) (x4 : Int) (x5 : Int) (z : Int) (u : St) (K1 : Int → St → Prop) (z1 : Int) (A3 : St) : Prop := ((IK A3) ∧ ((0 ≤ z1 ∧ z1 ≤ 2147483647) ∧ (∃ z12 : Int, z12 = A3 (ta + 1) (7 : Int).toNat ∧ (((z12 ≤ z1) ∧ (z = 0 ∧ u = A3)) ∨ ((¬ z12 ≤ z1) ∧ (∃ z15 : Int, z15 = A3 (ta + 16) (z1).toNat ∧ (((¬ z15 = x1) ∧ (d_X9_isBarred_2 K1 z1 z u A3)) ∨ ((z15 = x1) ∧ (∃ z19 : Int, z19 = A3 (ta + 17) (z1).toNat ∧ (∃ z21 : Int, z21 = A3 (ta + 18) (z1).toNat ∧ (∃ z22 : Int, ∃ A23 : St, q_X8_holds (ta + 19) z19 z21 x2 x3 x4 x5 A3 z22 A23 ∧ (((z22 = 0) ∧ (d_X9_isBarred_2 K1 z1 z u A23)) ∨ ((¬ z22 = 0) ∧ (z = 1 ∧ u = A23))))))))))))))
def d_X9_isBarred_1 (ta : Nat) (x1 : Int) (x2 : Int) (x3 : Int) (x4 : Int) (x5 : Int) (z : Int) (u : St) : Nat → Int → St → Prop
  | 0, _, _ => False
  | nn9 + 1, z1, A3 => tr_d_X9_isBarred_1 ta x1 x2 x3 x4 x5 z u (fun z1 A3 => d_X9_isBarred_1 ta x1 x2 x3 x4 x5 z u nn9 z1 A3) z1 A3
theorem u_d_X9_isBarred_1 {ta : Nat} {x1 : Int} {x2 : Int} {x3 : Int} {x4 : Int} {x5 : Int} {z : Int} {u : St} {nn9 : Nat} {z1 : Int} {A3 : St} (h : tr_d_X9_isBarred_1 ta x1 x2 x3 x4 x5 z u (fun z1 A3 => d_X9_isBarred_1 ta x1 x2 x3 x4 x5 z u nn9 z1 A3) z1 A3) : d_X9_isBarred_1 ta x1 x2 x3 x4 x5 z u (nn9 + 1) z1 A3 := h
abbrev tr_r_X9_isBarred (ta : Nat) (x1 : Int) (x2 : Int) (x3 : Int) (x4 : Int) (x5 : Int) (A : St) (z : Int) (u : St) : Prop := (∃ nn9 : Nat, d_X9_isBarred_1 ta x1 x2 x3 x4 x5 z u nn9 0 A)
def r_X9_isBarred (ta : Nat) (x1 : Int) (x2 : Int) (x3 : Int) (x4 : Int) (x5 : Int) (A : St) (z : Int) (u : St) : Prop := tr_r_X9_isBarred ta x1 x2 x3 x4 x5 A z u
theorem u_r_X9_isBarred {ta : Nat} {x1 : Int} {x2 : Int} {x3 : Int} {x4 : Int} {x5 : Int} {A : St} {z : Int} {u : St} (h : tr_r_X9_isBarred ta x1 x2 x3 x4 x5 A z u) : r_X9_isBarred ta x1 x2 x3 x4 x5 A z u := h
def q_X9_isBarred (ta : Nat) (x1 : Int) (x2 : Int) (x3 : Int) (x4 : Int) (x5 : Int) (A : St) (z : Int) (u : St) : Prop := r_X9_isBarred ta x1 x2 x3 x4 x5 A z u ∧ IK u ∧ fk [72, 103] [] A u ∧ (0 ≤ z ∧ z ≤ 1)
def ws_kc_X9_isBarred : List Cond := .code yX9_isBarred cX9_isBarred 7 (some .boolean) :: WY
set_option maxHeartbeats 4000000 in
set_option maxRecDepth 100000 in
theorem kc_X9_isBarred (l : Launch) (dC : Nat → ClassId) (dI : Nat → Nat → Nat) (cB cI cJ cZ cQ : ClassId) (aL aS : Nat) (q : Nat → Nat) (A : St) (ta : Nat) (x1 x2 x3 x4 x5 : Int) (hI : IK A) (hta : isT ta) (hx1 : (-2147483648 : Int) ≤ x1 ∧ x1 ≤ 2147483647) (hx2 : (-2147483648 : Int) ≤ x2 ∧ x2 ≤ 2147483647) (hx3 : (-2147483648 : Int) ≤ x3 ∧ x3 ≤ 2147483647) (hx4 : (-2147483648 : Int) ≤ x4 ∧ x4 ≤ 2147483647) (hx5 : (-2147483648 : Int) ≤ x5 ∧ x5 ≤ 2147483647) : KMi l yX9_isBarred ws_kc_X9_isBarred ({ frames := 3, cells := 0, slots := 0, locals := 73 } : Room) aL aS (dC, dI) (tyA cB cI cJ cZ cQ) (WK cB cI cJ cZ cQ q) A [.ref (q ta), .int (iI x1), .int (iI x2), .int (iI x3), .int (iI x4), .int (iI x5)] (fun z u => r_X9_isBarred ta x1 x2 x3 x4 x5 A z u ∧ IK u ∧ fk [72, 103] [] A u ∧ (0 ≤ z ∧ z ≤ 1)) := by
  refine k_metz (cc := cX9_isBarred) (maxL := 7) WK_adr (plainFor_of_name (by decide +kernel)) rfl (Nat.le_of_ble_eq_true rfl) (fun z u h => h.2.2.2) (fun p e s m below meth c Q AS ls hx hb hml hown hts hK hDD hA0 hE RET H locs hP hS hl => ?_)
  have hown : s.vm.findClass RX9 = some m.cls := hown
  have hl : lv_has ls 7 [(0, .ref (q ta)), (1, .int (iI x1)), (2, .int (iI x2)), (3, .int (iI x3)), (4, .int (iI x4)), (5, .int (iI x5))] := hl
  have hiX9 : ∀ w ∈ u_ws RX9 TX9 16, w ∈ ws_kc_X9_isBarred := fun w h => List.mem_cons_of_mem _ (wy_layX9 w h)
  refine lv_iconst (v := iI 0) hx hb (dk_at dkX9_isBarred_0 0 rfl) (by decide +kernel) ?_
  refine lv_istore (lv' := [(6, .int (iI 0)), (0, .ref (q ta)), (1, .int (iI x1)), (2, .int (iI x2)), (3, .int (iI x3)), (4, .int (iI x4)), (5, .int (iI x5))]) hx hb (dk_at dkX9_isBarred_0 1 rfl) hl (by decide) rfl (fun ls hl => ?_)
  have L3_4 : ∀ (n9 : Nat) (z1 : Int) (A3 : St) (H : Heap) (locs : List Loc) (ls : Array Slot), (0 ≤ z1 ∧ z1 ≤ 2147483647) → (∀ (z : Int) (u : St), (∃ mm1 : Nat, (d_X9_isBarred_1 ta x1 x2 x3 x4 x5 z u mm1 z1 A3)) → r_X9_isBarred ta x1 x2 x3 x4 x5 A z u) → ((7 - z1).toNat = n9) → IK A3 → fk [72, 103] [] A A3 → va_P (dC, dI) vwCl (WK cB cI cJ cZ cQ q A3) H → va_S AS s.heap H locs → lv_has ls 7 [(6, .int (iI z1)), (0, .ref (q ta)), (1, .int (iI x1)), (2, .int (iI x2)), (3, .int (iI x3)), (4, .int (iI x4)), (5, .int (iI x5))] → W p l e (headSpec ws_kc_X9_isBarred ({ frames := 3, cells := 0, slots := 0, locals := 73 } : Room)).room s m [.ref (q ta), .int (iI x1), .int (iI x2), .int (iI x3), .int (iI x4), .int (iI x5)].toArray below meth c H locs 0 0 Q (F0 m 3 ls []) := by
    intro n9
    induction n9 using Nat.strongRecOn with
    | ind n9 ih5 =>
      intro z1 A3 H locs ls f6 hk1 hn9 hI hj2 hP hS hl
      have gI10 : Hd (IK A3) := Hd.mk hI
      refine lv_iload hx hb (dk_at dkX9_isBarred_0 2 rfl) (lv_at hl 0 rfl) ?_
      refine lv_aload_n hx hb (dk_at dkX9_isBarred_0 3 rfl) rfl (lv_at hl 1 rfl) ?_
      refine va_get (D := (dC, dI)) (ci := 9) (v := .ref (q (ta + 1))) (C := RX9) (T := TX9) (N := 16) hx hb hts hiX9 hown hK hP ta (wkT hta) rfl 0 (by decide) (hts _ (List.mem_cons_of_mem _ wkq_0_8)) (fun _ h9 => h9) rfl (dk_at dkX9_isBarred_0 4 rfl) ?_
      refine lv_bipush (v := iI 7) hx hb (dk_at dkX9_isBarred_0 5 rfl) (by decide +kernel) ?_
      have a11 : ∀ k, A3 (ta + 1) k = A (ta + 1) k := fun k => hj2 (ta + 1) k (isT.b2 (o := fun b => List.contains [72, 103] (b + 1)) hta rfl rfl) (isT.b2 (o := fun b => fin2 [] (b + 1) k) hta rfl rfl)
      refine x_iald (Wf := WK cB cI cJ cZ cQ q) hx hb hK hP (ta + 1) 1 (wkTc hta) rfl (by decide) (by decide) (dk_at dkX9_isBarred_0 6 rfl) (fun z12 hz12 => ?_)
      have rz12 : (0 : Int) ≤ z12 ∧ z12 ≤ 6 := by rw [hz12]; exact irTc7 hta hI
      have gz12 := Hd.mk hz12
      have hz12 : z12 = A (ta + 1) (7 : Int).toNat := hz12.trans (a11 _)
      refine lv_icmp_ge (tgt := 64) hx hb (dk_at dkX9_isBarred_0 7 rfl) (by decide) (fun c13 => ?_) (fun c13 => ?_)
      · have c13 : z12 ≤ z1 := (i_le (rb rz12 (by decide) (by decide)) (rb f6 (by decide) (by decide))).mp c13
        refine lv_iconst (v := iI 0) hx hb (dk_at dkX9_isBarred_2 2 rfl) (by decide +kernel) ?_
        exact RET 0 _ _ _ _ _ ⟨hk1 _ _ ⟨0 + 1, (u_d_X9_isBarred_1 ⟨gI10.out, ⟨f6, ⟨z12, gz12.out, (Or.inl ⟨c13, ⟨rfl, rfl⟩⟩)⟩⟩⟩)⟩, hI, fk.trans (fk.rf) hj2 rfl rfl, ⟨by decide, by decide⟩⟩ hP hS (dk_at dkX9_isBarred_2 3 rfl)
      · have c13 : ¬ z12 ≤ z1 := mt (i_le (rb rz12 (by decide) (by decide)) (rb f6 (by decide) (by decide))).mpr c13
        refine lv_aload_n hx hb (dk_at dkX9_isBarred_0 8 rfl) rfl (lv_at hl 1 rfl) ?_
        refine va_get (D := (dC, dI)) (ci := 9) (v := .ref (q (ta + 16))) (C := RX9) (T := TX9) (N := 16) hx hb hts hiX9 hown hK hP ta (wkT hta) rfl 10 (by decide) (hts _ (List.mem_cons_of_mem _ wkq_8_25)) (fun _ h9 => h9) rfl (dk_at dkX9_isBarred_0 9 rfl) ?_
        refine lv_iload hx hb (dk_at dkX9_isBarred_0 10 rfl) (lv_at hl 0 rfl) ?_
        have a14 : ∀ k, A3 (ta + 16) k = A (ta + 16) k := fun k => hj2 (ta + 16) k (isT.b2 (o := fun b => List.contains [72, 103] (b + 16)) hta rfl rfl) (isT.b2 (o := fun b => fin2 [] (b + 16) k) hta rfl rfl)
        refine x_iald (Wf := WK cB cI cJ cZ cQ q) hx hb hK hP (ta + 16) 1 (wkTbd hta) rfl (by omega) (by decide) (dk_at dkX9_isBarred_0 11 rfl) (fun z15 hz15 => ?_)
        have rz15 : (-2147483648 : Int) ≤ z15 ∧ z15 ≤ 2147483647 := by rw [hz15]; exact irTbd hta hI
        have gz15 := Hd.mk hz15
        have hz15 : z15 = A (ta + 16) (z1).toNat := hz15.trans (a14 _)
        refine lv_iload_n hx hb (dk_at dkX9_isBarred_0 12 rfl) rfl (lv_at hl 2 rfl) ?_
        have J58_17 : ∀ (A28 : St) (H : Heap) (locs : List Loc) (ls : Array Slot), (∀ (z : Int) (u : St), (∃ mm1 : Nat, (d_X9_isBarred_2 (fun z1' A3' => d_X9_isBarred_1 ta x1 x2 x3 x4 x5 z u mm1 z1' A3') z1 z u A28)) → r_X9_isBarred ta x1 x2 x3 x4 x5 A z u) → IK A28 → fk [72, 103] [] A3 A28 → va_P (dC, dI) vwCl (WK cB cI cJ cZ cQ q A28) H → va_S AS s.heap H locs → lv_has ls 7 [(6, .int (iI z1)), (0, .ref (q ta)), (1, .int (iI x1)), (2, .int (iI x2)), (3, .int (iI x3)), (4, .int (iI x4)), (5, .int (iI x5))] → W p l e (headSpec ws_kc_X9_isBarred ({ frames := 3, cells := 0, slots := 0, locals := 73 } : Room)).room s m [.ref (q ta), .int (iI x1), .int (iI x2), .int (iI x3), .int (iI x4), .int (iI x5)].toArray below meth c H locs 0 0 Q (F0 m 58 ls []) := by
          intro A28 H locs ls hk2 hI hj27 hP hS hl
          have gI29 : Hd (IK A28) := Hd.mk hI
          refine lv_iinc (v := iI (z1 + 1)) (lv' := [(6, .int (iI (z1 + 1))), (0, .ref (q ta)), (1, .int (iI x1)), (2, .int (iI x2)), (3, .int (iI x3)), (4, .int (iI x4)), (5, .int (iI x5))]) hx hb (dk_at dkX9_isBarred_2 0 rfl) hl (k := 0) rfl (i_inc (by omega)) (by decide) rfl (fun ls hl => ?_)
          refine lv_goto (tgt := 3) hx hb (dk_at dkX9_isBarred_2 1 rfl) (by decide) ?_
          exact ih5 _ (by omega) (z1 + 1) _ _ _ _ (by omega) (fun zq uq ⟨mm1, hq⟩ => hk2 _ _ ⟨mm1, (u_d_X9_isBarred_2 ⟨gI29.out, hq⟩)⟩) rfl hI (fk.trans (fk.trans (fk.rf) hj2 rfl rfl) hj27 rfl rfl) hP hS (lv_sub hl [0, 1, 2, 3, 4, 5, 6] rfl)
        refine lv_icmp_ne (tgt := 58) hx hb (dk_at dkX9_isBarred_0 13 rfl) (by decide) (fun c16 => ?_) (fun c16 => ?_)
        · have c16 : ¬ z15 = x1 := mt (i_eq rz15 hx1).mpr c16
          exact J58_17 _ _ _ _ (fun zq uq ⟨mm1, hq⟩ => hk1 _ _ ⟨mm1 + 1, (u_d_X9_isBarred_1 ⟨gI10.out, ⟨f6, ⟨z12, gz12.out, (Or.inr ⟨c13, ⟨z15, gz15.out, (Or.inl ⟨c16, hq⟩)⟩⟩)⟩⟩⟩)⟩) hI (fk.rf) hP hS (lv_sub hl [0, 1, 2, 3, 4, 5, 6] rfl)
        · have c16 : z15 = x1 := (i_eq rz15 hx1).mp c16
          refine lv_aload_n hx hb (dk_at dkX9_isBarred_0 14 rfl) rfl (lv_at hl 1 rfl) ?_
          refine va_get (D := (dC, dI)) (ci := 9) (v := .ref (q (ta + 19))) (C := RX9) (T := TX9) (N := 16) hx hb hts hiX9 hown hK hP ta (wkT hta) rfl 13 (by decide) (hts _ (List.mem_cons_of_mem _ wkq_5_16)) (fun _ h9 => h9) rfl (dk_at dkX9_isBarred_0 15 rfl) ?_
          refine lv_aload_n hx hb (dk_at dkX9_isBarred_1 0 rfl) rfl (lv_at hl 1 rfl) ?_
          refine va_get (D := (dC, dI)) (ci := 9) (v := .ref (q (ta + 17))) (C := RX9) (T := TX9) (N := 16) hx hb hts hiX9 hown hK hP ta (wkT hta) rfl 11 (by decide) (hts _ (List.mem_cons_of_mem _ wkq_8_26)) (fun _ h9 => h9) rfl (dk_at dkX9_isBarred_1 1 rfl) ?_
          refine lv_iload hx hb (dk_at dkX9_isBarred_1 2 rfl) (lv_at hl 0 rfl) ?_
          have a18 : ∀ k, A3 (ta + 17) k = A (ta + 17) k := fun k => hj2 (ta + 17) k (isT.b2 (o := fun b => List.contains [72, 103] (b + 17)) hta rfl rfl) (isT.b2 (o := fun b => fin2 [] (b + 17) k) hta rfl rfl)
          refine x_iald (Wf := WK cB cI cJ cZ cQ q) hx hb hK hP (ta + 17) 1 (wkTbf hta) rfl (by omega) (by decide) (dk_at dkX9_isBarred_1 3 rfl) (fun z19 hz19 => ?_)
          have rz19 : (-2147483648 : Int) ≤ z19 ∧ z19 ≤ 2147483647 := by rw [hz19]; exact irTbf hta hI
          have gz19 := Hd.mk hz19
          have hz19 : z19 = A (ta + 17) (z1).toNat := hz19.trans (a18 _)
          refine lv_aload_n hx hb (dk_at dkX9_isBarred_1 4 rfl) rfl (lv_at hl 1 rfl) ?_
          refine va_get (D := (dC, dI)) (ci := 9) (v := .ref (q (ta + 18))) (C := RX9) (T := TX9) (N := 16) hx hb hts hiX9 hown hK hP ta (wkT hta) rfl 12 (by decide) (hts _ (List.mem_cons_of_mem _ wkq_8_27)) (fun _ h9 => h9) rfl (dk_at dkX9_isBarred_1 5 rfl) ?_
          refine lv_iload hx hb (dk_at dkX9_isBarred_1 6 rfl) (lv_at hl 0 rfl) ?_
          have a20 : ∀ k, A3 (ta + 18) k = A (ta + 18) k := fun k => hj2 (ta + 18) k (isT.b2 (o := fun b => List.contains [72, 103] (b + 18)) hta rfl rfl) (isT.b2 (o := fun b => fin2 [] (b + 18) k) hta rfl rfl)
          refine x_iald (Wf := WK cB cI cJ cZ cQ q) hx hb hK hP (ta + 18) 1 (wkTbt hta) rfl (by omega) (by decide) (dk_at dkX9_isBarred_1 7 rfl) (fun z21 hz21 => ?_)
          have rz21 : (-2147483648 : Int) ≤ z21 ∧ z21 ≤ 2147483647 := by rw [hz21]; exact irTbt hta hI
          have gz21 := Hd.mk hz21
          have hz21 : z21 = A (ta + 18) (z1).toNat := hz21.trans (a20 _)
          refine lv_iload_n hx hb (dk_at dkX9_isBarred_1 8 rfl) rfl (lv_at hl 3 rfl) ?_
          refine lv_iload_n hx hb (dk_at dkX9_isBarred_1 9 rfl) rfl (lv_at hl 4 rfl) ?_
          refine lv_iload hx hb (dk_at dkX9_isBarred_1 10 rfl) (lv_at hl 5 rfl) ?_
          refine lv_iload hx hb (dk_at dkX9_isBarred_1 11 rfl) (lv_at hl 6 rfl) ?_
          refine k_calli (As := [.int (iI z19), .int (iI z21), .int (iI x2), .int (iI x3), .int (iI x4), .int (iI x5)]) (rest := []) ⟨hx, hb, hml, hown, hts⟩ hE (kc_X8_holds l dC dI cB cI cJ cZ cQ aL aS q _ (ta + 19) z19 z21 x2 x3 x4 x5 hI hta.e rz19 rz21 hx2 hx3 hx4 hx5) (cwV 6 hts (goodVk wkq_9_1 wkq_1_33 wkq_1_34 wkq_1_35 wkq_1_36) rfl rfl rfl (by decide +kernel) ⟨Nat.le_of_ble_eq_true rfl, Nat.le_of_ble_eq_true rfl⟩) hK hDD hA0 hP hS (ta + 19) 8 (wkE hta.e) rfl rfl hl.1 (Nat.le_of_ble_eq_true rfl) (dk_at dkX9_isBarred_1 12 rfl) (fun z22 A23 H locs hw24 hP hS => ?_)
          have ghw24 : q_X8_holds (ta + 19) z19 z21 x2 x3 x4 x5 A3 z22 A23 := hw24
          obtain ⟨_, hI, hf25, hw24⟩ := hw24
          refine lv_if_eq (tgt := 58) hx hb (dk_at dkX9_isBarred_1 13 rfl) (by decide) (fun c26 => ?_) (fun c26 => ?_)
          · have c26 : z22 = 0 := (i_eq0 (rb hw24 (by decide) (by decide))).mp c26
            exact J58_17 _ _ _ _ (fun zq uq ⟨mm1, hq⟩ => hk1 _ _ ⟨mm1 + 1, (u_d_X9_isBarred_1 ⟨gI10.out, ⟨f6, ⟨z12, gz12.out, (Or.inr ⟨c13, ⟨z15, gz15.out, (Or.inr ⟨c16, ⟨z19, gz19.out, ⟨z21, gz21.out, ⟨z22, A23, ghw24, (Or.inl ⟨c26, hq⟩)⟩⟩⟩⟩)⟩⟩)⟩⟩⟩)⟩) hI (fk.trans (fk.rf) hf25 rfl rfl) hP hS (lv_sub hl [0, 1, 2, 3, 4, 5, 6] rfl)
          · have c26 : ¬ z22 = 0 := mt (i_eq0 (rb hw24 (by decide) (by decide))).mpr c26
            refine lv_iconst (v := iI 1) hx hb (dk_at dkX9_isBarred_1 14 rfl) (by decide +kernel) ?_
            exact RET 1 _ _ _ _ _ ⟨hk1 _ _ ⟨0 + 1, (u_d_X9_isBarred_1 ⟨gI10.out, ⟨f6, ⟨z12, gz12.out, (Or.inr ⟨c13, ⟨z15, gz15.out, (Or.inr ⟨c16, ⟨z19, gz19.out, ⟨z21, gz21.out, ⟨z22, A23, ghw24, (Or.inr ⟨c26, ⟨rfl, rfl⟩⟩)⟩⟩⟩⟩)⟩⟩)⟩⟩⟩)⟩, hI, fk.trans (fk.trans (fk.rf) hj2 rfl rfl) hf25 rfl rfl, ⟨by decide, by decide⟩⟩ hP hS (dk_at dkX9_isBarred_1 15 rfl)
  exact L3_4 _ 0 _ _ _ _ (by omega) (fun zq uq ⟨mm1, hq⟩ => (u_r_X9_isBarred ⟨mm1, hq⟩)) rfl hI (fk.rf) hP hS (lv_sub hl [0, 1, 2, 3, 4, 5, 6] rfl)

abbrev tr_r_X9_goThrough (ta : Nat) (x1 : Int) (x2 : Int) (A : St) (z : Int) (u : St) : Prop := (∃ z1 : Int, q_X9_isThere_1_3 ta x1 A z1 ∧ (((z1 = 0) ∧ (z = (-1) ∧ u = A)) ∨ ((¬ z1 = 0) ∧ (∃ z5 : Int, q_X9_isThere_1_1 ta x2 A z5 ∧ (((z5 = 0) ∧ (z = (-1) ∧ u = A)) ∨ ((¬ z5 = 0) ∧ (∃ z9 : Int, q_X9_isBox ta x2 A z9 ∧ (((z9 = 0) ∧ (∃ z13 : Int, z13 = A ((ta + 22) + 1) (x1).toNat ∧ (∃ z14 : Int, q_X9_shutMask ta A z14 ∧ (∃ z17 : Int, q_X9_isAt ta x2 z13 A z17 ∧ (((z17 = 0) ∧ (z = (-1) ∧ u = A)) ∨ ((¬ z17 = 0) ∧ (∃ z21 : Int, z21 = oShr z14 x2 ∧ (∃ z22 : Int, z22 = oAnd z21 1 ∧ (((z22 = 0) ∧ (∃ z24 : Int, q_X9_keysOf ta x1 A z24 ∧ (∃ z27 : Int, q_J6_bitCount_0f7a4 z24 A z27 ∧ (∃ z30 : Int, q_J6_bitCount_0f7a4 z14 A z30 ∧ (∃ z33 : Int, ∃ A34 : St, q_X9_isBarred ta x2 x1 z13 z27 z30 A z33 A34 ∧ (((z33 = 0) ∧ (∃ z38 : Int, q_X9_otherSide ta x2 z13 A34 z38 ∧ (∃ A41 : St, A41 = stA A34 ((ta + 22) + 1) (x1).toNat z38 ∧ (z = z38 ∧ u = A41)))) ∨ ((¬ z33 = 0) ∧ (z = (-1) ∧ u = A34)))))))) ∨ ((¬ z22 = 0) ∧ (z = (-1) ∧ u = A))))))))))) ∨ ((¬ z9 = 0) ∧ (z = (-1) ∧ u = A))))))))))
def r_X9_goThrough (ta : Nat) (x1 : Int) (x2 : Int) (A : St) (z : Int) (u : St) : Prop := tr_r_X9_goThrough ta x1 x2 A z u
theorem u_r_X9_goThrough {ta : Nat} {x1 : Int} {x2 : Int} {A : St} {z : Int} {u : St} (h : tr_r_X9_goThrough ta x1 x2 A z u) : r_X9_goThrough ta x1 x2 A z u := h
def q_X9_goThrough (ta : Nat) (x1 : Int) (x2 : Int) (A : St) (z : Int) (u : St) : Prop := r_X9_goThrough ta x1 x2 A z u ∧ IK u ∧ fk [33, 42, 72, 74, 103, 105] [] A u ∧ (-2147483648 ≤ z ∧ z ≤ 2147483647)
def ws_kc_X9_goThrough : List Cond := .code yX9_goThrough cX9_goThrough 5 (some .int) :: WY
set_option maxHeartbeats 4000000 in
set_option maxRecDepth 100000 in
theorem kc_X9_goThrough (l : Launch) (dC : Nat → ClassId) (dI : Nat → Nat → Nat) (cB cI cJ cZ cQ : ClassId) (aL aS : Nat) (q : Nat → Nat) (A : St) (ta : Nat) (x1 x2 : Int) (hI : IK A) (hta : isT ta) (hx1 : (-2147483648 : Int) ≤ x1 ∧ x1 ≤ 2147483647) (hx2 : (-2147483648 : Int) ≤ x2 ∧ x2 ≤ 2147483647) : KMi l yX9_goThrough ws_kc_X9_goThrough ({ frames := 4, cells := 0, slots := 0, locals := 99 } : Room) aL aS (dC, dI) (tyA cB cI cJ cZ cQ) (WK cB cI cJ cZ cQ q) A [.ref (q ta), .int (iI x1), .int (iI x2)] (fun z u => r_X9_goThrough ta x1 x2 A z u ∧ IK u ∧ fk [33, 42, 72, 74, 103, 105] [] A u ∧ (-2147483648 ≤ z ∧ z ≤ 2147483647)) := by
  refine k_meti (cc := cX9_goThrough) (maxL := 5) WK_adr (plainFor_of_name (by decide +kernel)) rfl (Nat.le_of_ble_eq_true rfl) (fun p e s m below meth c Q AS ls hx hb hml hown hts hK hDD hA0 hE RET H locs hP hS hl => ?_)
  have hown : s.vm.findClass RX9 = some m.cls := hown
  have hl : lv_has ls 5 [(0, .ref (q ta)), (1, .int (iI x1)), (2, .int (iI x2))] := hl
  have hiX9 : ∀ w ∈ u_ws RX9 TX9 16, w ∈ ws_kc_X9_goThrough := fun w h => List.mem_cons_of_mem _ (wy_layX9 w h)
  have hiX6 : ∀ w ∈ u_ws RX6 TX6 4, w ∈ ws_kc_X9_goThrough := fun w h => List.mem_cons_of_mem _ (wy_layX6 w h)
  refine lv_aload_n hx hb (dk_at dkX9_goThrough_0 0 rfl) rfl (lv_at hl 0 rfl) ?_
  refine lv_iconst (v := iI 3) hx hb (dk_at dkX9_goThrough_0 1 rfl) (by decide +kernel) ?_
  refine lv_iload_n hx hb (dk_at dkX9_goThrough_0 2 rfl) rfl (lv_at hl 1 rfl) ?_
  refine k_calli (As := [.int (iI 3), .int (iI x1)]) (rest := []) ⟨hx, hb, hml, hown, hts⟩ hE (kc_X9_isThere_1_3 l dC dI cB cI cJ cZ cQ aL aS q _ ta x1 hI hta hx1) (cwV 2 hts (goodVk wkq_2_52 wkq_0_22 wkq_0_23 wkq_0_6 wkq_0_24) rfl rfl rfl (by decide +kernel) ⟨Nat.le_of_ble_eq_true rfl, Nat.le_of_ble_eq_true rfl⟩) hK hDD hA0 hP hS ta 9 (wkT hta) rfl rfl hl.1 (Nat.le_of_ble_eq_true rfl) (dk_at dkX9_goThrough_0 3 rfl) (fun z1 A2 H locs hw3 hP hS => ?_)
  obtain ⟨rfl, hw3⟩ := hw3
  have ghw3 : q_X9_isThere_1_3 ta x1 A z1 := hw3
  have hw3 := hw3.2
  have rz1 : 0 ≤ z1 ∧ z1 ≤ 1 := hw3.1
  have hw3 := hw3.2
  refine lv_if_eq (tgt := 26) hx hb (dk_at dkX9_goThrough_0 4 rfl) (by decide) (fun c4 => ?_) (fun c4 => ?_)
  · have c4 : z1 = 0 := (i_eq0 (rb rz1 (by decide) (by decide))).mp c4
    clear hw3
    refine lv_iconst (v := iI (-1)) hx hb (dk_at dkX9_goThrough_0 14 rfl) (by decide +kernel) ?_
    exact RET (-1) _ _ _ _ _ ⟨(u_r_X9_goThrough ⟨z1, ghw3, (Or.inl ⟨c4, ⟨rfl, rfl⟩⟩)⟩), hI, fk.rf, ⟨by decide, by decide⟩⟩ hP hS (dk_at dkX9_goThrough_0 15 rfl)
  · have c4 : ¬ z1 = 0 := mt (i_eq0 (rb rz1 (by decide) (by decide))).mpr c4
    have hw3b := hw3 (by omega)
    clear hw3
    refine lv_aload_n hx hb (dk_at dkX9_goThrough_0 5 rfl) rfl (lv_at hl 0 rfl) ?_
    refine lv_iconst (v := iI 1) hx hb (dk_at dkX9_goThrough_0 6 rfl) (by decide +kernel) ?_
    refine lv_iload_n hx hb (dk_at dkX9_goThrough_0 7 rfl) rfl (lv_at hl 2 rfl) ?_
    refine k_calli (As := [.int (iI 1), .int (iI x2)]) (rest := []) ⟨hx, hb, hml, hown, hts⟩ hE (kc_X9_isThere_1_1 l dC dI cB cI cJ cZ cQ aL aS q _ ta x2 hI hta hx2) (cwV 2 hts (goodVk wkq_2_52 wkq_0_22 wkq_0_23 wkq_0_6 wkq_0_24) rfl rfl rfl (by decide +kernel) ⟨Nat.le_of_ble_eq_true rfl, Nat.le_of_ble_eq_true rfl⟩) hK hDD hA0 hP hS ta 9 (wkT hta) rfl rfl hl.1 (Nat.le_of_ble_eq_true rfl) (dk_at dkX9_goThrough_0 8 rfl) (fun z5 A6 H locs hw7 hP hS => ?_)
    obtain ⟨rfl, hw7⟩ := hw7
    have ghw7 : q_X9_isThere_1_1 ta x2 A z5 := hw7
    have hw7 := hw7.2
    have rz5 : 0 ≤ z5 ∧ z5 ≤ 1 := hw7.1
    have hw7 := hw7.2
    refine lv_if_eq (tgt := 26) hx hb (dk_at dkX9_goThrough_0 9 rfl) (by decide) (fun c8 => ?_) (fun c8 => ?_)
    · have c8 : z5 = 0 := (i_eq0 (rb rz5 (by decide) (by decide))).mp c8
      clear hw7
      refine lv_iconst (v := iI (-1)) hx hb (dk_at dkX9_goThrough_0 14 rfl) (by decide +kernel) ?_
      exact RET (-1) _ _ _ _ _ ⟨(u_r_X9_goThrough ⟨z1, ghw3, (Or.inr ⟨c4, ⟨z5, ghw7, (Or.inl ⟨c8, ⟨rfl, rfl⟩⟩)⟩⟩)⟩), hI, fk.rf, ⟨by decide, by decide⟩⟩ hP hS (dk_at dkX9_goThrough_0 15 rfl)
    · have c8 : ¬ z5 = 0 := mt (i_eq0 (rb rz5 (by decide) (by decide))).mpr c8
      have hw7b := hw7 (by omega)
      clear hw7
      refine lv_aload_n hx hb (dk_at dkX9_goThrough_0 10 rfl) rfl (lv_at hl 0 rfl) ?_
      refine lv_iload_n hx hb (dk_at dkX9_goThrough_0 11 rfl) rfl (lv_at hl 2 rfl) ?_
      refine k_calli (As := [.int (iI x2)]) (rest := []) ⟨hx, hb, hml, hown, hts⟩ hE (kc_X9_isBox l dC dI cB cI cJ cZ cQ aL aS q _ ta x2 hI hta hx2) (cwV 1 hts (goodVk wkq_8_48 wkq_1_6 wkq_1_7 wkq_0_6 wkq_1_8) rfl rfl rfl (by decide +kernel) ⟨Nat.le_of_ble_eq_true rfl, Nat.le_of_ble_eq_true rfl⟩) hK hDD hA0 hP hS ta 9 (wkT hta) rfl rfl hl.1 (Nat.le_of_ble_eq_true rfl) (dk_at dkX9_goThrough_0 12 rfl) (fun z9 A10 H locs hw11 hP hS => ?_)
      obtain ⟨rfl, hw11⟩ := hw11
      have ghw11 : q_X9_isBox ta x2 A z9 := hw11
      have hw11 := hw11.2
      have rz9 : 0 ≤ z9 ∧ z9 ≤ 1 := hw11.1
      have hw11 := hw11.2
      refine lv_if_eq (tgt := 28) hx hb (dk_at dkX9_goThrough_0 13 rfl) (by decide) (fun c12 => ?_) (fun c12 => ?_)
      · have c12 : z9 = 0 := (i_eq0 (rb rz9 (by decide) (by decide))).mp c12
        clear hw11
        refine lv_aload_n hx hb (dk_at dkX9_goThrough_1 0 rfl) rfl (lv_at hl 0 rfl) ?_
        refine va_get (D := (dC, dI)) (ci := 9) (v := .ref (q (ta + 22))) (C := RX9) (T := TX9) (N := 16) hx hb hts hiX9 hown hK hP ta (wkT hta) rfl 14 (by decide) (hts _ (List.mem_cons_of_mem _ wkq_0_9)) (fun _ h9 => h9) rfl (dk_at dkX9_goThrough_1 1 rfl) ?_
        refine va_get (D := (dC, dI)) (ci := 6) (v := .ref (q ((ta + 22) + 1))) (C := RX6) (T := TX6) (N := 4) hx hb hts hiX6 hown hK hP (ta + 22) (wkS hta.s) rfl 0 (by decide) (hts _ (List.mem_cons_of_mem _ wkq_6_52)) (fun _ h9 => h9) rfl (dk_at dkX9_goThrough_1 2 rfl) ?_
        refine lv_iload_n hx hb (dk_at dkX9_goThrough_1 3 rfl) rfl (lv_at hl 1 rfl) ?_
        refine x_iald (Wf := WK cB cI cJ cZ cQ q) hx hb hK hP ((ta + 22) + 1) 1 (wkSs hta.s) rfl (by omega) (by decide) (dk_at dkX9_goThrough_1 4 rfl) (fun z13 hz13 => ?_)
        have rz13 : (-2147483648 : Int) ≤ z13 ∧ z13 ≤ 2147483647 := by rw [hz13]; exact irSs hta.s hI
        have gz13 := Hd.mk hz13
        refine lv_istore_n (lv' := [(3, .int (iI z13)), (0, .ref (q ta)), (1, .int (iI x1)), (2, .int (iI x2))]) hx hb (dk_at dkX9_goThrough_1 5 rfl) rfl hl (by decide) rfl (fun ls hl => ?_)
        refine lv_aload_n hx hb (dk_at dkX9_goThrough_1 6 rfl) rfl (lv_at hl 1 rfl) ?_
        refine k_calli (As := []) (rest := []) ⟨hx, hb, hml, hown, hts⟩ hE (kc_X9_shutMask l dC dI cB cI cJ cZ cQ aL aS q _ ta hI hta) (cwV 0 hts (goodVk wkq_8_54 wkq_8_55 wkq_8_56 wkq_0_6 wkq_8_50) rfl rfl rfl (by decide +kernel) ⟨Nat.le_of_ble_eq_true rfl, Nat.le_of_ble_eq_true rfl⟩) hK hDD hA0 hP hS ta 9 (wkT hta) rfl rfl hl.1 (Nat.le_of_ble_eq_true rfl) (dk_at dkX9_goThrough_1 7 rfl) (fun z14 A15 H locs hw16 hP hS => ?_)
        obtain ⟨rfl, hw16⟩ := hw16
        have ghw16 : q_X9_shutMask ta A z14 := hw16
        have hw16 := hw16.2
        refine lv_istore (lv' := [(4, .int (iI z14)), (3, .int (iI z13)), (0, .ref (q ta)), (1, .int (iI x1)), (2, .int (iI x2))]) hx hb (dk_at dkX9_goThrough_1 8 rfl) hl (by decide) rfl (fun ls hl => ?_)
        refine lv_aload_n hx hb (dk_at dkX9_goThrough_1 9 rfl) rfl (lv_at hl 2 rfl) ?_
        refine lv_iload_n hx hb (dk_at dkX9_goThrough_1 10 rfl) rfl (lv_at hl 4 rfl) ?_
        refine lv_iload_n hx hb (dk_at dkX9_goThrough_1 11 rfl) rfl (lv_at hl 1 rfl) ?_
        refine k_calli (As := [.int (iI x2), .int (iI z13)]) (rest := []) ⟨hx, hb, hml, hown, hts⟩ hE (kc_X9_isAt l dC dI cB cI cJ cZ cQ aL aS q _ ta x2 z13 hI hta hx2 rz13) (cwV 2 hts (goodVk wkq_8_49 wkq_1_11 wkq_1_12 wkq_0_6 wkq_1_13) rfl rfl rfl (by decide +kernel) ⟨Nat.le_of_ble_eq_true rfl, Nat.le_of_ble_eq_true rfl⟩) hK hDD hA0 hP hS ta 9 (wkT hta) rfl rfl hl.1 (Nat.le_of_ble_eq_true rfl) (dk_at dkX9_goThrough_1 12 rfl) (fun z17 A18 H locs hw19 hP hS => ?_)
        obtain ⟨rfl, hw19⟩ := hw19
        have ghw19 : q_X9_isAt ta x2 z13 A z17 := hw19
        have hw19 := hw19.2
        have rz17 : 0 ≤ z17 ∧ z17 ≤ 1 := hw19.1
        have hw19 := hw19.2
        refine lv_if_eq (tgt := 62) hx hb (dk_at dkX9_goThrough_1 13 rfl) (by decide) (fun c20 => ?_) (fun c20 => ?_)
        · have c20 : z17 = 0 := (i_eq0 (rb rz17 (by decide) (by decide))).mp c20
          clear hw19
          refine lv_iconst (v := iI (-1)) hx hb (dk_at dkX9_goThrough_2 4 rfl) (by decide +kernel) ?_
          exact RET (-1) _ _ _ _ _ ⟨(u_r_X9_goThrough ⟨z1, ghw3, (Or.inr ⟨c4, ⟨z5, ghw7, (Or.inr ⟨c8, ⟨z9, ghw11, (Or.inl ⟨c12, ⟨z13, gz13.out, ⟨z14, ghw16, ⟨z17, ghw19, (Or.inl ⟨c20, ⟨rfl, rfl⟩⟩)⟩⟩⟩⟩)⟩⟩)⟩⟩)⟩), hI, fk.rf, ⟨by decide, by decide⟩⟩ hP hS (dk_at dkX9_goThrough_2 5 rfl)
        · have c20 : ¬ z17 = 0 := mt (i_eq0 (rb rz17 (by decide) (by decide))).mpr c20
          have hw19b := hw19 (by omega)
          clear hw19
          refine lv_iload hx hb (dk_at dkX9_goThrough_1 14 rfl) (lv_at hl 0 rfl) ?_
          refine lv_iload_n hx hb (dk_at dkX9_goThrough_1 15 rfl) rfl (lv_at hl 4 rfl) ?_
          refine lv_ishr hx hb (dk_at dkX9_goThrough_2 0 rfl) ?_
          refine x_absE (fun z21 gz21 hz21 => ?_)
          refine lv_iconst (v := iI 1) hx hb (dk_at dkX9_goThrough_2 1 rfl) (by decide +kernel) ?_
          refine lv_iand hx hb (dk_at dkX9_goThrough_2 2 rfl) ?_
          refine x_andE (b := 1) (by omega) (fun z22 gz22 hz22 => ?_)
          refine lv_if_eq (tgt := 64) hx hb (dk_at dkX9_goThrough_2 3 rfl) (by decide) (fun c23 => ?_) (fun c23 => ?_)
          · have c23 : z22 = 0 := (i_eq0 (by omega)).mp c23
            refine lv_aload_n hx hb (dk_at dkX9_goThrough_2 6 rfl) rfl (lv_at hl 2 rfl) ?_
            refine lv_iload_n hx hb (dk_at dkX9_goThrough_2 7 rfl) rfl (lv_at hl 4 rfl) ?_
            refine lv_iload_n hx hb (dk_at dkX9_goThrough_2 8 rfl) rfl (lv_at hl 3 rfl) ?_
            refine lv_iload_n hx hb (dk_at dkX9_goThrough_2 9 rfl) rfl (lv_at hl 1 rfl) ?_
            refine lv_aload_n hx hb (dk_at dkX9_goThrough_2 10 rfl) rfl (lv_at hl 2 rfl) ?_
            refine lv_iload_n hx hb (dk_at dkX9_goThrough_2 11 rfl) rfl (lv_at hl 3 rfl) ?_
            refine k_calli (As := [.int (iI x1)]) (rest := [.int (iI z13), .int (iI x1), .int (iI x2), .ref (q ta)]) ⟨hx, hb, hml, hown, hts⟩ hE (kc_X9_keysOf l dC dI cB cI cJ cZ cQ aL aS q _ ta x1 hI hta hx1) (cwV 1 hts (goodVk wkq_9_3 wkq_0_4 wkq_0_5 wkq_0_6 wkq_0_7) rfl rfl rfl (by decide +kernel) ⟨Nat.le_of_ble_eq_true rfl, Nat.le_of_ble_eq_true rfl⟩) hK hDD hA0 hP hS ta 9 (wkT hta) rfl rfl hl.1 (Nat.le_of_ble_eq_true rfl) (dk_at dkX9_goThrough_2 12 rfl) (fun z24 A25 H locs hw26 hP hS => ?_)
            obtain ⟨rfl, hw26⟩ := hw26
            have ghw26 : q_X9_keysOf ta x1 A z24 := hw26
            have hw26 := hw26.2
            refine k_callSi (As := [.int (iI z24)]) (rest := [.int (iI z13), .int (iI x1), .int (iI x2), .ref (q ta)]) ⟨hx, hb, hml, hown, hts⟩ hE (kc_J6_bitCount_0f7a4 l dC dI cB cI cJ cZ cQ aL aS q _ z24 hI hw26) (va_cwS 1 hts (goodSk wkq_9_4 wkq_1_17 wkq_1_18 wkq_1_19) rfl rfl rfl (by decide +kernel) ⟨Nat.le_of_ble_eq_true rfl, Nat.le_of_ble_eq_true rfl⟩) hK hDD hA0 hP hS rfl hl.1 (Nat.le_of_ble_eq_true rfl) (dk_at dkX9_goThrough_2 13 rfl) (fun z27 A28 H locs hw29 hP hS => ?_)
            obtain ⟨rfl, hw29⟩ := hw29
            have ghw29 : q_J6_bitCount_0f7a4 z24 A z27 := hw29
            have hw29 := hw29.2
            refine lv_iload hx hb (dk_at dkX9_goThrough_2 14 rfl) (lv_at hl 0 rfl) ?_
            refine k_callSi (As := [.int (iI z14)]) (rest := [.int (iI z27), .int (iI z13), .int (iI x1), .int (iI x2), .ref (q ta)]) ⟨hx, hb, hml, hown, hts⟩ hE (kc_J6_bitCount_0f7a4 l dC dI cB cI cJ cZ cQ aL aS q _ z14 hI hw16) (va_cwS 1 hts (goodSk wkq_9_4 wkq_1_17 wkq_1_18 wkq_1_19) rfl rfl rfl (by decide +kernel) ⟨Nat.le_of_ble_eq_true rfl, Nat.le_of_ble_eq_true rfl⟩) hK hDD hA0 hP hS rfl hl.1 (Nat.le_of_ble_eq_true rfl) (dk_at dkX9_goThrough_2 15 rfl) (fun z30 A31 H locs hw32 hP hS => ?_)
            obtain ⟨rfl, hw32⟩ := hw32
            have ghw32 : q_J6_bitCount_0f7a4 z14 A z30 := hw32
            have hw32 := hw32.2
            refine k_calli (As := [.int (iI x2), .int (iI x1), .int (iI z13), .int (iI z27), .int (iI z30)]) (rest := []) ⟨hx, hb, hml, hown, hts⟩ hE (kc_X9_isBarred l dC dI cB cI cJ cZ cQ aL aS q _ ta x2 x1 z13 z27 z30 hI hta hx2 hx1 rz13 (rb hw29 (by decide) (by decide)) (rb hw32 (by decide) (by decide))) (cwV 5 hts (goodVk wkq_9_5 wkq_9_6 wkq_9_7 wkq_0_6 wkq_9_0) rfl rfl rfl (by decide +kernel) ⟨Nat.le_of_ble_eq_true rfl, Nat.le_of_ble_eq_true rfl⟩) hK hDD hA0 hP hS ta 9 (wkT hta) rfl rfl hl.1 (Nat.le_of_ble_eq_true rfl) (dk_at dkX9_goThrough_3 0 rfl) (fun z33 A34 H locs hw35 hP hS => ?_)
            have ghw35 : q_X9_isBarred ta x2 x1 z13 z27 z30 A z33 A34 := hw35
            obtain ⟨_, hI, hf36, hw35⟩ := hw35
            refine lv_if_eq (tgt := 89) hx hb (dk_at dkX9_goThrough_3 1 rfl) (by decide) (fun c37 => ?_) (fun c37 => ?_)
            · have c37 : z33 = 0 := (i_eq0 (rb hw35 (by decide) (by decide))).mp c37
              refine lv_aload_n hx hb (dk_at dkX9_goThrough_3 4 rfl) rfl (lv_at hl 2 rfl) ?_
              refine va_get (D := (dC, dI)) (ci := 9) (v := .ref (q (ta + 22))) (C := RX9) (T := TX9) (N := 16) hx hb hts hiX9 hown hK hP ta (wkT hta) rfl 14 (by decide) (hts _ (List.mem_cons_of_mem _ wkq_0_9)) (fun _ h9 => h9) rfl (dk_at dkX9_goThrough_3 5 rfl) ?_
              refine va_get (D := (dC, dI)) (ci := 6) (v := .ref (q ((ta + 22) + 1))) (C := RX6) (T := TX6) (N := 4) hx hb hts hiX6 hown hK hP (ta + 22) (wkS hta.s) rfl 0 (by decide) (hts _ (List.mem_cons_of_mem _ wkq_6_52)) (fun _ h9 => h9) rfl (dk_at dkX9_goThrough_3 6 rfl) ?_
              refine lv_iload_n hx hb (dk_at dkX9_goThrough_3 7 rfl) rfl (lv_at hl 3 rfl) ?_
              refine lv_aload_n hx hb (dk_at dkX9_goThrough_3 8 rfl) rfl (lv_at hl 2 rfl) ?_
              refine lv_iload_n hx hb (dk_at dkX9_goThrough_3 9 rfl) rfl (lv_at hl 4 rfl) ?_
              refine lv_iload_n hx hb (dk_at dkX9_goThrough_3 10 rfl) rfl (lv_at hl 1 rfl) ?_
              refine k_calli (As := [.int (iI x2), .int (iI z13)]) (rest := [.int (iI x1), .ref (q ((ta + 22) + 1))]) ⟨hx, hb, hml, hown, hts⟩ hE (kc_X9_otherSide l dC dI cB cI cJ cZ cQ aL aS q _ ta x2 z13 hI hta hx2 rz13) (cwV 2 hts (goodVk wkq_9_8 wkq_2_49 wkq_2_50 wkq_0_6 wkq_2_51) rfl rfl rfl (by decide +kernel) ⟨Nat.le_of_ble_eq_true rfl, Nat.le_of_ble_eq_true rfl⟩) hK hDD hA0 hP hS ta 9 (wkT hta) rfl rfl hl.1 (Nat.le_of_ble_eq_true rfl) (dk_at dkX9_goThrough_3 11 rfl) (fun z38 A39 H locs hw40 hP hS => ?_)
              obtain ⟨rfl, hw40⟩ := hw40
              have ghw40 : q_X9_otherSide ta x2 z13 A34 z38 := hw40
              have hw40 := hw40.2
              refine k_iast (Wf := WK cB cI cJ cZ cQ q) hx hb hK hP hDD hS ((ta + 22) + 1) 1 (wkSs hta.s) rfl (by omega) (by decide) (dk_at dkX9_goThrough_3 12 rfl) (wsSs hta.s) (fun H locs A41 hA41 hP hS => ?_)
              have hI := isSs hta.s hA41 hI (show (-2147483648 : Int) ≤ z38 ∧ z38 ≤ 2147483647 from hw40)
              refine lv_aload_n hx hb (dk_at dkX9_goThrough_3 13 rfl) rfl (lv_at hl 2 rfl) ?_
              refine va_get (D := (dC, dI)) (ci := 9) (v := .ref (q (ta + 22))) (C := RX9) (T := TX9) (N := 16) hx hb hts hiX9 hown hK hP ta (wkT hta) rfl 14 (by decide) (hts _ (List.mem_cons_of_mem _ wkq_0_9)) (fun _ h9 => h9) rfl (dk_at dkX9_goThrough_3 14 rfl) ?_
              refine va_get (D := (dC, dI)) (ci := 6) (v := .ref (q ((ta + 22) + 1))) (C := RX6) (T := TX6) (N := 4) hx hb hts hiX6 hown hK hP (ta + 22) (wkS hta.s) rfl 0 (by decide) (hts _ (List.mem_cons_of_mem _ wkq_6_52)) (fun _ h9 => h9) rfl (dk_at dkX9_goThrough_3 15 rfl) ?_
              refine lv_iload_n hx hb (dk_at dkX9_goThrough_4 0 rfl) rfl (lv_at hl 3 rfl) ?_
              refine x_iald (Wf := WK cB cI cJ cZ cQ q) hx hb hK hP ((ta + 22) + 1) 1 (wkSs hta.s) rfl (by omega) (by decide) (dk_at dkX9_goThrough_4 1 rfl) (fun z42 hz42 => ?_)
              have rz42 : (-2147483648 : Int) ≤ z42 ∧ z42 ≤ 2147483647 := by rw [hz42]; exact irSs hta.s hI
              have gz42 := Hd.mk hz42
              have ez42 : z42 = z38 := hz42.trans (rd_is hA41)
              refine tp_i (y := iI z38) (congrArg iI ez42) ?_
              exact RET z38 _ _ _ _ _ ⟨(u_r_X9_goThrough ⟨z1, ghw3, (Or.inr ⟨c4, ⟨z5, ghw7, (Or.inr ⟨c8, ⟨z9, ghw11, (Or.inl ⟨c12, ⟨z13, gz13.out, ⟨z14, ghw16, ⟨z17, ghw19, (Or.inr ⟨c20, ⟨z21, gz21.out, ⟨z22, gz22.out, (Or.inl ⟨c23, ⟨z24, ghw26, ⟨z27, ghw29, ⟨z30, ghw32, ⟨z33, A34, ghw35, (Or.inl ⟨c37, ⟨z38, ghw40, ⟨A41, hA41, ⟨rfl, rfl⟩⟩⟩⟩)⟩⟩⟩⟩⟩)⟩⟩⟩)⟩⟩⟩⟩)⟩⟩)⟩⟩)⟩), hI, fk.da (fk.trans (fk.rf) hf36 rfl rfl) hA41 (isS.b2 (o := fun b => List.contains [33, 42, 72, 74, 103, 105] (b + 1)) hta.s rfl rfl rfl rfl), hw40⟩ hP hS (dk_at dkX9_goThrough_4 2 rfl)
            · have c37 : ¬ z33 = 0 := mt (i_eq0 (rb hw35 (by decide) (by decide))).mpr c37
              refine lv_iconst (v := iI (-1)) hx hb (dk_at dkX9_goThrough_3 2 rfl) (by decide +kernel) ?_
              exact RET (-1) _ _ _ _ _ ⟨(u_r_X9_goThrough ⟨z1, ghw3, (Or.inr ⟨c4, ⟨z5, ghw7, (Or.inr ⟨c8, ⟨z9, ghw11, (Or.inl ⟨c12, ⟨z13, gz13.out, ⟨z14, ghw16, ⟨z17, ghw19, (Or.inr ⟨c20, ⟨z21, gz21.out, ⟨z22, gz22.out, (Or.inl ⟨c23, ⟨z24, ghw26, ⟨z27, ghw29, ⟨z30, ghw32, ⟨z33, A34, ghw35, (Or.inr ⟨c37, ⟨rfl, rfl⟩⟩)⟩⟩⟩⟩⟩)⟩⟩⟩)⟩⟩⟩⟩)⟩⟩)⟩⟩)⟩), hI, fk.trans (fk.rf) hf36 rfl rfl, ⟨by decide, by decide⟩⟩ hP hS (dk_at dkX9_goThrough_3 3 rfl)
          · have c23 : ¬ z22 = 0 := mt (i_eq0 (by omega)).mpr c23
            refine lv_iconst (v := iI (-1)) hx hb (dk_at dkX9_goThrough_2 4 rfl) (by decide +kernel) ?_
            exact RET (-1) _ _ _ _ _ ⟨(u_r_X9_goThrough ⟨z1, ghw3, (Or.inr ⟨c4, ⟨z5, ghw7, (Or.inr ⟨c8, ⟨z9, ghw11, (Or.inl ⟨c12, ⟨z13, gz13.out, ⟨z14, ghw16, ⟨z17, ghw19, (Or.inr ⟨c20, ⟨z21, gz21.out, ⟨z22, gz22.out, (Or.inr ⟨c23, ⟨rfl, rfl⟩⟩)⟩⟩⟩)⟩⟩⟩⟩)⟩⟩)⟩⟩)⟩), hI, fk.rf, ⟨by decide, by decide⟩⟩ hP hS (dk_at dkX9_goThrough_2 5 rfl)
      · have c12 : ¬ z9 = 0 := mt (i_eq0 (rb rz9 (by decide) (by decide))).mpr c12
        have hw11b := hw11 (by omega)
        clear hw11
        refine lv_iconst (v := iI (-1)) hx hb (dk_at dkX9_goThrough_0 14 rfl) (by decide +kernel) ?_
        exact RET (-1) _ _ _ _ _ ⟨(u_r_X9_goThrough ⟨z1, ghw3, (Or.inr ⟨c4, ⟨z5, ghw7, (Or.inr ⟨c8, ⟨z9, ghw11, (Or.inr ⟨c12, ⟨rfl, rfl⟩⟩)⟩⟩)⟩⟩)⟩), hI, fk.rf, ⟨by decide, by decide⟩⟩ hP hS (dk_at dkX9_goThrough_0 15 rfl)

abbrev tr_r_X9_openWith (ta : Nat) (x1 : Int) (x2 : Int) (A : St) (z : Int) (u : St) : Prop := (∃ z1 : Int, q_X9_holdsKey ta x1 x2 A z1 ∧ (((¬ z1 = 0) ∧ (∃ z5 : Int, q_X6_topOf (ta + 22) x2 A z5 ∧ (((z5 = (-1)) ∧ (z = (-1) ∧ u = A)) ∨ ((¬ z5 = (-1)) ∧ (∃ z9 : Int, z9 = A ((ta + 22) + 1) (x1).toNat ∧ (∃ z10 : Int, q_X9_isAt ta z5 z9 A z10 ∧ (((¬ z10 = 0) ∧ (∃ z14 : Int, z14 = A ((ta + 22) + 3) (x2).toNat ∧ (∃ A15 : St, A15 = stA A ((ta + 22) + 3) (x2).toNat (z14 - 1) ∧ (z = z5 ∧ u = A15)))) ∨ ((z10 = 0) ∧ (z = (-1) ∧ u = A))))))))) ∨ ((z1 = 0) ∧ (z = (-1) ∧ u = A))))
def r_X9_openWith (ta : Nat) (x1 : Int) (x2 : Int) (A : St) (z : Int) (u : St) : Prop := tr_r_X9_openWith ta x1 x2 A z u
theorem u_r_X9_openWith {ta : Nat} {x1 : Int} {x2 : Int} {A : St} {z : Int} {u : St} (h : tr_r_X9_openWith ta x1 x2 A z u) : r_X9_openWith ta x1 x2 A z u := h
def q_X9_openWith (ta : Nat) (x1 : Int) (x2 : Int) (A : St) (z : Int) (u : St) : Prop := r_X9_openWith ta x1 x2 A z u ∧ IK u ∧ fk [35, 44, 76, 107] [] A u ∧ (-2147483648 ≤ z ∧ z ≤ 2147483647)
def ws_kc_X9_openWith : List Cond := .code yX9_openWith cX9_openWith 4 (some .int) :: WY
set_option maxHeartbeats 4000000 in
set_option maxRecDepth 100000 in
theorem kc_X9_openWith (l : Launch) (dC : Nat → ClassId) (dI : Nat → Nat → Nat) (cB cI cJ cZ cQ : ClassId) (aL aS : Nat) (q : Nat → Nat) (A : St) (ta : Nat) (x1 x2 : Int) (hI : IK A) (hta : isT ta) (hx1 : (-2147483648 : Int) ≤ x1 ∧ x1 ≤ 2147483647) (hx2 : (-2147483648 : Int) ≤ x2 ∧ x2 ≤ 2147483647) : KMi l yX9_openWith ws_kc_X9_openWith ({ frames := 2, cells := 0, slots := 0, locals := 44 } : Room) aL aS (dC, dI) (tyA cB cI cJ cZ cQ) (WK cB cI cJ cZ cQ q) A [.ref (q ta), .int (iI x1), .int (iI x2)] (fun z u => r_X9_openWith ta x1 x2 A z u ∧ IK u ∧ fk [35, 44, 76, 107] [] A u ∧ (-2147483648 ≤ z ∧ z ≤ 2147483647)) := by
  refine k_meti (cc := cX9_openWith) (maxL := 4) WK_adr (plainFor_of_name (by decide +kernel)) rfl (Nat.le_of_ble_eq_true rfl) (fun p e s m below meth c Q AS ls hx hb hml hown hts hK hDD hA0 hE RET H locs hP hS hl => ?_)
  have hown : s.vm.findClass RX9 = some m.cls := hown
  have hl : lv_has ls 4 [(0, .ref (q ta)), (1, .int (iI x1)), (2, .int (iI x2))] := hl
  have hiX9 : ∀ w ∈ u_ws RX9 TX9 16, w ∈ ws_kc_X9_openWith := fun w h => List.mem_cons_of_mem _ (wy_layX9 w h)
  have hiX6 : ∀ w ∈ u_ws RX6 TX6 4, w ∈ ws_kc_X9_openWith := fun w h => List.mem_cons_of_mem _ (wy_layX6 w h)
  refine lv_aload_n hx hb (dk_at dkX9_openWith_0 0 rfl) rfl (lv_at hl 0 rfl) ?_
  refine lv_iload_n hx hb (dk_at dkX9_openWith_0 1 rfl) rfl (lv_at hl 1 rfl) ?_
  refine lv_iload_n hx hb (dk_at dkX9_openWith_0 2 rfl) rfl (lv_at hl 2 rfl) ?_
  refine k_calli (As := [.int (iI x1), .int (iI x2)]) (rest := []) ⟨hx, hb, hml, hown, hts⟩ hE (kc_X9_holdsKey l dC dI cB cI cJ cZ cQ aL aS q _ ta x1 x2 hI hta hx1 hx2) (cwV 2 hts (goodVk wkq_9_10 wkq_9_11 wkq_9_12 wkq_0_6 wkq_8_59) rfl rfl rfl (by decide +kernel) ⟨Nat.le_of_ble_eq_true rfl, Nat.le_of_ble_eq_true rfl⟩) hK hDD hA0 hP hS ta 9 (wkT hta) rfl rfl hl.1 (Nat.le_of_ble_eq_true rfl) (dk_at dkX9_openWith_0 3 rfl) (fun z1 A2 H locs hw3 hP hS => ?_)
  obtain ⟨rfl, hw3⟩ := hw3
  have ghw3 : q_X9_holdsKey ta x1 x2 A z1 := hw3
  have hw3 := hw3.2
  have rz1 : 0 ≤ z1 ∧ z1 ≤ 1 := hw3.1
  have hw3 := hw3.2
  refine lv_if_ne (tgt := 11) hx hb (dk_at dkX9_openWith_0 4 rfl) (by decide) (fun c4 => ?_) (fun c4 => ?_)
  · have c4 : ¬ z1 = 0 := mt (i_eq0 (rb rz1 (by decide) (by decide))).mpr c4
    have hw3b := hw3 (by omega)
    clear hw3
    refine lv_aload_n hx hb (dk_at dkX9_openWith_0 7 rfl) rfl (lv_at hl 0 rfl) ?_
    refine va_get (D := (dC, dI)) (ci := 9) (v := .ref (q (ta + 22))) (C := RX9) (T := TX9) (N := 16) hx hb hts hiX9 hown hK hP ta (wkT hta) rfl 14 (by decide) (hts _ (List.mem_cons_of_mem _ wkq_0_9)) (fun _ h9 => h9) rfl (dk_at dkX9_openWith_0 8 rfl) ?_
    refine lv_iload_n hx hb (dk_at dkX9_openWith_0 9 rfl) rfl (lv_at hl 2 rfl) ?_
    refine k_calli (As := [.int (iI x2)]) (rest := []) ⟨hx, hb, hml, hown, hts⟩ hE (kc_X6_topOf l dC dI cB cI cJ cZ cQ aL aS q _ (ta + 22) x2 hI hta.s hx2) (cwV 1 hts (goodVk wkq_9_13 wkq_9_14 wkq_9_15 wkq_0_52 wkq_8_44) rfl rfl rfl (by decide +kernel) ⟨Nat.le_of_ble_eq_true rfl, Nat.le_of_ble_eq_true rfl⟩) hK hDD hA0 hP hS (ta + 22) 6 (wkS hta.s) rfl rfl hl.1 (Nat.le_of_ble_eq_true rfl) (dk_at dkX9_openWith_0 10 rfl) (fun z5 A6 H locs hw7 hP hS => ?_)
    obtain ⟨rfl, hw7⟩ := hw7
    have ghw7 : q_X6_topOf (ta + 22) x2 A z5 := hw7
    have hw7 := hw7.2
    refine lv_istore_n (lv' := [(3, .int (iI z5)), (0, .ref (q ta)), (1, .int (iI x1)), (2, .int (iI x2))]) hx hb (dk_at dkX9_openWith_0 11 rfl) rfl hl (by decide) rfl (fun ls hl => ?_)
    refine lv_iload_n hx hb (dk_at dkX9_openWith_0 12 rfl) rfl (lv_at hl 0 rfl) ?_
    refine lv_iconst (v := iI (-1)) hx hb (dk_at dkX9_openWith_0 13 rfl) (by decide +kernel) ?_
    refine lv_icmp_eq (tgt := 42) hx hb (dk_at dkX9_openWith_0 14 rfl) (by decide) (fun c8 => ?_) (fun c8 => ?_)
    · have c8 : z5 = (-1) := (i_eq (by omega) ⟨by decide, by decide⟩).mp c8
      refine lv_iconst (v := iI (-1)) hx hb (dk_at dkX9_openWith_1 8 rfl) (by decide +kernel) ?_
      exact RET (-1) _ _ _ _ _ ⟨(u_r_X9_openWith ⟨z1, ghw3, (Or.inl ⟨c4, ⟨z5, ghw7, (Or.inl ⟨c8, ⟨rfl, rfl⟩⟩)⟩⟩)⟩), hI, fk.rf, ⟨by decide, by decide⟩⟩ hP hS (dk_at dkX9_openWith_1 9 rfl)
    · have c8 : ¬ z5 = (-1) := mt (i_eq (by omega) ⟨by decide, by decide⟩).mpr c8
      refine lv_aload_n hx hb (dk_at dkX9_openWith_0 15 rfl) rfl (lv_at hl 1 rfl) ?_
      refine lv_iload_n hx hb (dk_at dkX9_openWith_1 0 rfl) rfl (lv_at hl 0 rfl) ?_
      refine lv_aload_n hx hb (dk_at dkX9_openWith_1 1 rfl) rfl (lv_at hl 1 rfl) ?_
      refine va_get (D := (dC, dI)) (ci := 9) (v := .ref (q (ta + 22))) (C := RX9) (T := TX9) (N := 16) hx hb hts hiX9 hown hK hP ta (wkT hta) rfl 14 (by decide) (hts _ (List.mem_cons_of_mem _ wkq_0_9)) (fun _ h9 => h9) rfl (dk_at dkX9_openWith_1 2 rfl) ?_
      refine va_get (D := (dC, dI)) (ci := 6) (v := .ref (q ((ta + 22) + 1))) (C := RX6) (T := TX6) (N := 4) hx hb hts hiX6 hown hK hP (ta + 22) (wkS hta.s) rfl 0 (by decide) (hts _ (List.mem_cons_of_mem _ wkq_6_52)) (fun _ h9 => h9) rfl (dk_at dkX9_openWith_1 3 rfl) ?_
      refine lv_iload_n hx hb (dk_at dkX9_openWith_1 4 rfl) rfl (lv_at hl 2 rfl) ?_
      refine x_iald (Wf := WK cB cI cJ cZ cQ q) hx hb hK hP ((ta + 22) + 1) 1 (wkSs hta.s) rfl (by omega) (by decide) (dk_at dkX9_openWith_1 5 rfl) (fun z9 hz9 => ?_)
      have rz9 : (-2147483648 : Int) ≤ z9 ∧ z9 ≤ 2147483647 := by rw [hz9]; exact irSs hta.s hI
      have gz9 := Hd.mk hz9
      refine k_calli (As := [.int (iI z5), .int (iI z9)]) (rest := []) ⟨hx, hb, hml, hown, hts⟩ hE (kc_X9_isAt l dC dI cB cI cJ cZ cQ aL aS q _ ta z5 z9 hI hta (by omega) rz9) (cwV 2 hts (goodVk wkq_8_49 wkq_1_11 wkq_1_12 wkq_0_6 wkq_1_13) rfl rfl rfl (by decide +kernel) ⟨Nat.le_of_ble_eq_true rfl, Nat.le_of_ble_eq_true rfl⟩) hK hDD hA0 hP hS ta 9 (wkT hta) rfl rfl hl.1 (Nat.le_of_ble_eq_true rfl) (dk_at dkX9_openWith_1 6 rfl) (fun z10 A11 H locs hw12 hP hS => ?_)
      obtain ⟨rfl, hw12⟩ := hw12
      have ghw12 : q_X9_isAt ta z5 z9 A z10 := hw12
      have hw12 := hw12.2
      have rz10 : 0 ≤ z10 ∧ z10 ≤ 1 := hw12.1
      have hw12 := hw12.2
      refine lv_if_ne (tgt := 44) hx hb (dk_at dkX9_openWith_1 7 rfl) (by decide) (fun c13 => ?_) (fun c13 => ?_)
      · have c13 : ¬ z10 = 0 := mt (i_eq0 (rb rz10 (by decide) (by decide))).mpr c13
        have hw12b := hw12 (by omega)
        clear hw12
        refine lv_aload_n hx hb (dk_at dkX9_openWith_1 10 rfl) rfl (lv_at hl 1 rfl) ?_
        refine va_get (D := (dC, dI)) (ci := 9) (v := .ref (q (ta + 22))) (C := RX9) (T := TX9) (N := 16) hx hb hts hiX9 hown hK hP ta (wkT hta) rfl 14 (by decide) (hts _ (List.mem_cons_of_mem _ wkq_0_9)) (fun _ h9 => h9) rfl (dk_at dkX9_openWith_1 11 rfl) ?_
        refine va_get (D := (dC, dI)) (ci := 6) (v := .ref (q ((ta + 22) + 3))) (C := RX6) (T := TX6) (N := 4) hx hb hts hiX6 hown hK hP (ta + 22) (wkS hta.s) rfl 2 (by decide) (hts _ (List.mem_cons_of_mem _ wkq_5_15)) (fun _ h9 => h9) rfl (dk_at dkX9_openWith_1 12 rfl) ?_
        refine lv_iload_n hx hb (dk_at dkX9_openWith_1 13 rfl) rfl (lv_at hl 3 rfl) ?_
        refine lv_dup2_11 hx hb (dk_at dkX9_openWith_1 14 rfl) rfl rfl ?_
        refine x_iald (Wf := WK cB cI cJ cZ cQ q) hx hb hK hP ((ta + 22) + 3) 1 (wkSz hta.s) rfl (by omega) (by decide) (dk_at dkX9_openWith_1 15 rfl) (fun z14 hz14 => ?_)
        have rz14 : (0 : Int) ≤ z14 ∧ z14 ≤ 6 := by rw [hz14]; exact irSz hta.s hI
        have gz14 := Hd.mk hz14
        refine lv_iconst (v := iI 1) hx hb (dk_at dkX9_openWith_2 0 rfl) (by decide +kernel) ?_
        refine x_subv (v := z14 - 1) hx hb (dk_at dkX9_openWith_2 1 rfl) (by omega) ?_
        refine k_iast (Wf := WK cB cI cJ cZ cQ q) hx hb hK hP hDD hS ((ta + 22) + 3) 1 (wkSz hta.s) rfl (by omega) (by decide) (dk_at dkX9_openWith_2 2 rfl) (wsSz hta.s) (fun H locs A15 hA15 hP hS => ?_)
        have hI := isSz hta.s hA15 hI (show (0 : Int) ≤ z14 - 1 ∧ z14 - 1 ≤ 6 from (by omega))
        refine lv_iload_n hx hb (dk_at dkX9_openWith_2 3 rfl) rfl (lv_at hl 0 rfl) ?_
        exact RET z5 _ _ _ _ _ ⟨(u_r_X9_openWith ⟨z1, ghw3, (Or.inl ⟨c4, ⟨z5, ghw7, (Or.inr ⟨c8, ⟨z9, gz9.out, ⟨z10, ghw12, (Or.inl ⟨c13, ⟨z14, gz14.out, ⟨A15, hA15, ⟨rfl, rfl⟩⟩⟩⟩)⟩⟩⟩)⟩⟩)⟩), hI, fk.da (fk.rf) hA15 (isS.b2 (o := fun b => List.contains [35, 44, 76, 107] (b + 3)) hta.s rfl rfl rfl rfl), (by omega)⟩ hP hS (dk_at dkX9_openWith_2 4 rfl)
      · have c13 : z10 = 0 := (i_eq0 (rb rz10 (by decide) (by decide))).mp c13
        clear hw12
        refine lv_iconst (v := iI (-1)) hx hb (dk_at dkX9_openWith_1 8 rfl) (by decide +kernel) ?_
        exact RET (-1) _ _ _ _ _ ⟨(u_r_X9_openWith ⟨z1, ghw3, (Or.inl ⟨c4, ⟨z5, ghw7, (Or.inr ⟨c8, ⟨z9, gz9.out, ⟨z10, ghw12, (Or.inr ⟨c13, ⟨rfl, rfl⟩⟩)⟩⟩⟩)⟩⟩)⟩), hI, fk.rf, ⟨by decide, by decide⟩⟩ hP hS (dk_at dkX9_openWith_1 9 rfl)
  · have c4 : z1 = 0 := (i_eq0 (rb rz1 (by decide) (by decide))).mp c4
    clear hw3
    refine lv_iconst (v := iI (-1)) hx hb (dk_at dkX9_openWith_0 5 rfl) (by decide +kernel) ?_
    exact RET (-1) _ _ _ _ _ ⟨(u_r_X9_openWith ⟨z1, ghw3, (Or.inr ⟨c4, ⟨rfl, rfl⟩⟩)⟩), hI, fk.rf, ⟨by decide, by decide⟩⟩ hP hS (dk_at dkX9_openWith_0 6 rfl)

abbrev tr_r_X9_shutWith (ta : Nat) (x1 : Int) (x2 : Int) (x3 : Int) (A : St) (z : Int) (u : St) : Prop := (∃ z1 : Int, q_X9_holdsKey ta x1 x2 A z1 ∧ (((z1 = 0) ∧ (z = (-1) ∧ u = A)) ∨ ((¬ z1 = 0) ∧ (∃ z5 : Int, z5 = A ((ta + 22) + 1) (x1).toNat ∧ (∃ z6 : Int, q_X9_isAt ta x3 z5 A z6 ∧ (((z6 = 0) ∧ (z = (-1) ∧ u = A)) ∨ ((¬ z6 = 0) ∧ (∃ z10 : Int, ∃ A11 : St, q_X6_push (ta + 22) x2 x3 A z10 A11 ∧ (((¬ z10 = 0) ∧ (∃ z15 : Int, z15 = A11 ((ta + 22) + 3) (x2).toNat ∧ (z = z15 ∧ u = A11))) ∨ ((z10 = 0) ∧ (z = (-1) ∧ u = A11)))))))))))
def r_X9_shutWith (ta : Nat) (x1 : Int) (x2 : Int) (x3 : Int) (A : St) (z : Int) (u : St) : Prop := tr_r_X9_shutWith ta x1 x2 x3 A z u
theorem u_r_X9_shutWith {ta : Nat} {x1 : Int} {x2 : Int} {x3 : Int} {A : St} {z : Int} {u : St} (h : tr_r_X9_shutWith ta x1 x2 x3 A z u) : r_X9_shutWith ta x1 x2 x3 A z u := h
def q_X9_shutWith (ta : Nat) (x1 : Int) (x2 : Int) (x3 : Int) (A : St) (z : Int) (u : St) : Prop := r_X9_shutWith ta x1 x2 x3 A z u ∧ IK u ∧ fk [35, 37, 38, 39, 40, 44, 46, 47, 48, 49, 76, 78, 79, 80, 81, 107, 109, 110, 111, 112] [] A u ∧ (-2147483648 ≤ z ∧ z ≤ 2147483647)
def ws_kc_X9_shutWith : List Cond := .code yX9_shutWith cX9_shutWith 4 (some .int) :: WY
set_option maxHeartbeats 4000000 in
set_option maxRecDepth 100000 in
theorem kc_X9_shutWith (l : Launch) (dC : Nat → ClassId) (dI : Nat → Nat → Nat) (cB cI cJ cZ cQ : ClassId) (aL aS : Nat) (q : Nat → Nat) (A : St) (ta : Nat) (x1 x2 x3 : Int) (hI : IK A) (hta : isT ta) (hx1 : (-2147483648 : Int) ≤ x1 ∧ x1 ≤ 2147483647) (hx2 : (-2147483648 : Int) ≤ x2 ∧ x2 ≤ 2147483647) (hx3 : (-2147483648 : Int) ≤ x3 ∧ x3 ≤ 2147483647) : KMi l yX9_shutWith ws_kc_X9_shutWith ({ frames := 3, cells := 0, slots := 0, locals := 68 } : Room) aL aS (dC, dI) (tyA cB cI cJ cZ cQ) (WK cB cI cJ cZ cQ q) A [.ref (q ta), .int (iI x1), .int (iI x2), .int (iI x3)] (fun z u => r_X9_shutWith ta x1 x2 x3 A z u ∧ IK u ∧ fk [35, 37, 38, 39, 40, 44, 46, 47, 48, 49, 76, 78, 79, 80, 81, 107, 109, 110, 111, 112] [] A u ∧ (-2147483648 ≤ z ∧ z ≤ 2147483647)) := by
  refine k_meti (cc := cX9_shutWith) (maxL := 4) WK_adr (plainFor_of_name (by decide +kernel)) rfl (Nat.le_of_ble_eq_true rfl) (fun p e s m below meth c Q AS ls hx hb hml hown hts hK hDD hA0 hE RET H locs hP hS hl => ?_)
  have hown : s.vm.findClass RX9 = some m.cls := hown
  have hl : lv_has ls 4 [(0, .ref (q ta)), (1, .int (iI x1)), (2, .int (iI x2)), (3, .int (iI x3))] := hl
  have hiX9 : ∀ w ∈ u_ws RX9 TX9 16, w ∈ ws_kc_X9_shutWith := fun w h => List.mem_cons_of_mem _ (wy_layX9 w h)
  have hiX6 : ∀ w ∈ u_ws RX6 TX6 4, w ∈ ws_kc_X9_shutWith := fun w h => List.mem_cons_of_mem _ (wy_layX6 w h)
  refine lv_aload_n hx hb (dk_at dkX9_shutWith_0 0 rfl) rfl (lv_at hl 0 rfl) ?_
  refine lv_iload_n hx hb (dk_at dkX9_shutWith_0 1 rfl) rfl (lv_at hl 1 rfl) ?_
  refine lv_iload_n hx hb (dk_at dkX9_shutWith_0 2 rfl) rfl (lv_at hl 2 rfl) ?_
  refine k_calli (As := [.int (iI x1), .int (iI x2)]) (rest := []) ⟨hx, hb, hml, hown, hts⟩ hE (kc_X9_holdsKey l dC dI cB cI cJ cZ cQ aL aS q _ ta x1 x2 hI hta hx1 hx2) (cwV 2 hts (goodVk wkq_9_10 wkq_9_11 wkq_9_12 wkq_0_6 wkq_8_59) rfl rfl rfl (by decide +kernel) ⟨Nat.le_of_ble_eq_true rfl, Nat.le_of_ble_eq_true rfl⟩) hK hDD hA0 hP hS ta 9 (wkT hta) rfl rfl hl.1 (Nat.le_of_ble_eq_true rfl) (dk_at dkX9_shutWith_0 3 rfl) (fun z1 A2 H locs hw3 hP hS => ?_)
  obtain ⟨rfl, hw3⟩ := hw3
  have ghw3 : q_X9_holdsKey ta x1 x2 A z1 := hw3
  have hw3 := hw3.2
  have rz1 : 0 ≤ z1 ∧ z1 ≤ 1 := hw3.1
  have hw3 := hw3.2
  refine lv_if_eq (tgt := 38) hx hb (dk_at dkX9_shutWith_0 4 rfl) (by decide) (fun c4 => ?_) (fun c4 => ?_)
  · have c4 : z1 = 0 := (i_eq0 (rb rz1 (by decide) (by decide))).mp c4
    clear hw3
    refine lv_iconst (v := iI (-1)) hx hb (dk_at dkX9_shutWith_1 4 rfl) (by decide +kernel) ?_
    exact RET (-1) _ _ _ _ _ ⟨(u_r_X9_shutWith ⟨z1, ghw3, (Or.inl ⟨c4, ⟨rfl, rfl⟩⟩)⟩), hI, fk.rf, ⟨by decide, by decide⟩⟩ hP hS (dk_at dkX9_shutWith_1 5 rfl)
  · have c4 : ¬ z1 = 0 := mt (i_eq0 (rb rz1 (by decide) (by decide))).mpr c4
    have hw3b := hw3 (by omega)
    clear hw3
    refine lv_aload_n hx hb (dk_at dkX9_shutWith_0 5 rfl) rfl (lv_at hl 0 rfl) ?_
    refine lv_iload_n hx hb (dk_at dkX9_shutWith_0 6 rfl) rfl (lv_at hl 3 rfl) ?_
    refine lv_aload_n hx hb (dk_at dkX9_shutWith_0 7 rfl) rfl (lv_at hl 0 rfl) ?_
    refine va_get (D := (dC, dI)) (ci := 9) (v := .ref (q (ta + 22))) (C := RX9) (T := TX9) (N := 16) hx hb hts hiX9 hown hK hP ta (wkT hta) rfl 14 (by decide) (hts _ (List.mem_cons_of_mem _ wkq_0_9)) (fun _ h9 => h9) rfl (dk_at dkX9_shutWith_0 8 rfl) ?_
    refine va_get (D := (dC, dI)) (ci := 6) (v := .ref (q ((ta + 22) + 1))) (C := RX6) (T := TX6) (N := 4) hx hb hts hiX6 hown hK hP (ta + 22) (wkS hta.s) rfl 0 (by decide) (hts _ (List.mem_cons_of_mem _ wkq_6_52)) (fun _ h9 => h9) rfl (dk_at dkX9_shutWith_0 9 rfl) ?_
    refine lv_iload_n hx hb (dk_at dkX9_shutWith_0 10 rfl) rfl (lv_at hl 1 rfl) ?_
    refine x_iald (Wf := WK cB cI cJ cZ cQ q) hx hb hK hP ((ta + 22) + 1) 1 (wkSs hta.s) rfl (by omega) (by decide) (dk_at dkX9_shutWith_0 11 rfl) (fun z5 hz5 => ?_)
    have rz5 : (-2147483648 : Int) ≤ z5 ∧ z5 ≤ 2147483647 := by rw [hz5]; exact irSs hta.s hI
    have gz5 := Hd.mk hz5
    refine k_calli (As := [.int (iI x3), .int (iI z5)]) (rest := []) ⟨hx, hb, hml, hown, hts⟩ hE (kc_X9_isAt l dC dI cB cI cJ cZ cQ aL aS q _ ta x3 z5 hI hta hx3 rz5) (cwV 2 hts (goodVk wkq_8_49 wkq_1_11 wkq_1_12 wkq_0_6 wkq_1_13) rfl rfl rfl (by decide +kernel) ⟨Nat.le_of_ble_eq_true rfl, Nat.le_of_ble_eq_true rfl⟩) hK hDD hA0 hP hS ta 9 (wkT hta) rfl rfl hl.1 (Nat.le_of_ble_eq_true rfl) (dk_at dkX9_shutWith_0 12 rfl) (fun z6 A7 H locs hw8 hP hS => ?_)
    obtain ⟨rfl, hw8⟩ := hw8
    have ghw8 : q_X9_isAt ta x3 z5 A z6 := hw8
    have hw8 := hw8.2
    have rz6 : 0 ≤ z6 ∧ z6 ≤ 1 := hw8.1
    have hw8 := hw8.2
    refine lv_if_eq (tgt := 38) hx hb (dk_at dkX9_shutWith_0 13 rfl) (by decide) (fun c9 => ?_) (fun c9 => ?_)
    · have c9 : z6 = 0 := (i_eq0 (rb rz6 (by decide) (by decide))).mp c9
      clear hw8
      refine lv_iconst (v := iI (-1)) hx hb (dk_at dkX9_shutWith_1 4 rfl) (by decide +kernel) ?_
      exact RET (-1) _ _ _ _ _ ⟨(u_r_X9_shutWith ⟨z1, ghw3, (Or.inr ⟨c4, ⟨z5, gz5.out, ⟨z6, ghw8, (Or.inl ⟨c9, ⟨rfl, rfl⟩⟩)⟩⟩⟩)⟩), hI, fk.rf, ⟨by decide, by decide⟩⟩ hP hS (dk_at dkX9_shutWith_1 5 rfl)
    · have c9 : ¬ z6 = 0 := mt (i_eq0 (rb rz6 (by decide) (by decide))).mpr c9
      have hw8b := hw8 (by omega)
      clear hw8
      refine lv_aload_n hx hb (dk_at dkX9_shutWith_0 14 rfl) rfl (lv_at hl 0 rfl) ?_
      refine va_get (D := (dC, dI)) (ci := 9) (v := .ref (q (ta + 22))) (C := RX9) (T := TX9) (N := 16) hx hb hts hiX9 hown hK hP ta (wkT hta) rfl 14 (by decide) (hts _ (List.mem_cons_of_mem _ wkq_0_9)) (fun _ h9 => h9) rfl (dk_at dkX9_shutWith_0 15 rfl) ?_
      refine lv_iload_n hx hb (dk_at dkX9_shutWith_1 0 rfl) rfl (lv_at hl 2 rfl) ?_
      refine lv_iload_n hx hb (dk_at dkX9_shutWith_1 1 rfl) rfl (lv_at hl 3 rfl) ?_
      refine k_calli (As := [.int (iI x2), .int (iI x3)]) (rest := []) ⟨hx, hb, hml, hown, hts⟩ hE (kc_X6_push l dC dI cB cI cJ cZ cQ aL aS q _ (ta + 22) x2 x3 hI hta.s hx2 hx3) (cwV 2 hts (goodVk wkq_9_17 wkq_4_55 wkq_4_56 wkq_0_52 wkq_4_57) rfl rfl rfl (by decide +kernel) ⟨Nat.le_of_ble_eq_true rfl, Nat.le_of_ble_eq_true rfl⟩) hK hDD hA0 hP hS (ta + 22) 6 (wkS hta.s) rfl rfl hl.1 (Nat.le_of_ble_eq_true rfl) (dk_at dkX9_shutWith_1 2 rfl) (fun z10 A11 H locs hw12 hP hS => ?_)
      have ghw12 : q_X6_push (ta + 22) x2 x3 A z10 A11 := hw12
      obtain ⟨_, hI, hf13, hw12⟩ := hw12
      refine lv_if_ne (tgt := 40) hx hb (dk_at dkX9_shutWith_1 3 rfl) (by decide) (fun c14 => ?_) (fun c14 => ?_)
      · have c14 : ¬ z10 = 0 := mt (i_eq0 (rb hw12 (by decide) (by decide))).mpr c14
        refine lv_aload_n hx hb (dk_at dkX9_shutWith_1 6 rfl) rfl (lv_at hl 0 rfl) ?_
        refine va_get (D := (dC, dI)) (ci := 9) (v := .ref (q (ta + 22))) (C := RX9) (T := TX9) (N := 16) hx hb hts hiX9 hown hK hP ta (wkT hta) rfl 14 (by decide) (hts _ (List.mem_cons_of_mem _ wkq_0_9)) (fun _ h9 => h9) rfl (dk_at dkX9_shutWith_1 7 rfl) ?_
        refine va_get (D := (dC, dI)) (ci := 6) (v := .ref (q ((ta + 22) + 3))) (C := RX6) (T := TX6) (N := 4) hx hb hts hiX6 hown hK hP (ta + 22) (wkS hta.s) rfl 2 (by decide) (hts _ (List.mem_cons_of_mem _ wkq_5_15)) (fun _ h9 => h9) rfl (dk_at dkX9_shutWith_1 8 rfl) ?_
        refine lv_iload_n hx hb (dk_at dkX9_shutWith_1 9 rfl) rfl (lv_at hl 2 rfl) ?_
        refine x_iald (Wf := WK cB cI cJ cZ cQ q) hx hb hK hP ((ta + 22) + 3) 1 (wkSz hta.s) rfl (by omega) (by decide) (dk_at dkX9_shutWith_1 10 rfl) (fun z15 hz15 => ?_)
        have rz15 : (0 : Int) ≤ z15 ∧ z15 ≤ 6 := by rw [hz15]; exact irSz hta.s hI
        have gz15 := Hd.mk hz15
        exact RET z15 _ _ _ _ _ ⟨(u_r_X9_shutWith ⟨z1, ghw3, (Or.inr ⟨c4, ⟨z5, gz5.out, ⟨z6, ghw8, (Or.inr ⟨c9, ⟨z10, A11, ghw12, (Or.inl ⟨c14, ⟨z15, gz15.out, ⟨rfl, rfl⟩⟩⟩)⟩⟩)⟩⟩⟩)⟩), hI, fk.trans (fk.rf) hf13 rfl rfl, (rb rz15 (by decide) (by decide))⟩ hP hS (dk_at dkX9_shutWith_1 11 rfl)
      · have c14 : z10 = 0 := (i_eq0 (rb hw12 (by decide) (by decide))).mp c14
        refine lv_iconst (v := iI (-1)) hx hb (dk_at dkX9_shutWith_1 4 rfl) (by decide +kernel) ?_
        exact RET (-1) _ _ _ _ _ ⟨(u_r_X9_shutWith ⟨z1, ghw3, (Or.inr ⟨c4, ⟨z5, gz5.out, ⟨z6, ghw8, (Or.inr ⟨c9, ⟨z10, A11, ghw12, (Or.inr ⟨c14, ⟨rfl, rfl⟩⟩)⟩⟩)⟩⟩⟩)⟩), hI, fk.trans (fk.rf) hf13 rfl rfl, ⟨by decide, by decide⟩⟩ hP hS (dk_at dkX9_shutWith_1 5 rfl)

abbrev tr_r_X9_lendTo (ta : Nat) (x1 : Int) (x2 : Int) (x3 : Int) (A : St) (z : Int) (u : St) : Prop := (∃ z1 : Int, q_X9_holdsKey ta x1 x2 A z1 ∧ (((z1 = 0) ∧ (z = 0 ∧ u = A)) ∨ ((¬ z1 = 0) ∧ (∃ z5 : Int, q_X9_isThere_1_3 ta x3 A z5 ∧ (((z5 = 0) ∧ (z = 0 ∧ u = A)) ∨ ((¬ z5 = 0) ∧ (((¬ x3 = x1) ∧ (∃ z10 : Int, z10 = A ((ta + 22) + 1) (x1).toNat ∧ (∃ z11 : Int, z11 = A ((ta + 22) + 1) (x3).toNat ∧ (((z10 = z11) ∧ (∃ A13 : St, A13 = stA A ((ta + 22) + 2) (x2).toNat x3 ∧ (z = 1 ∧ u = A13))) ∨ ((¬ z10 = z11) ∧ (z = 0 ∧ u = A)))))) ∨ ((x3 = x1) ∧ (z = 0 ∧ u = A)))))))))
def r_X9_lendTo (ta : Nat) (x1 : Int) (x2 : Int) (x3 : Int) (A : St) (z : Int) (u : St) : Prop := tr_r_X9_lendTo ta x1 x2 x3 A z u
theorem u_r_X9_lendTo {ta : Nat} {x1 : Int} {x2 : Int} {x3 : Int} {A : St} {z : Int} {u : St} (h : tr_r_X9_lendTo ta x1 x2 x3 A z u) : r_X9_lendTo ta x1 x2 x3 A z u := h
def q_X9_lendTo (ta : Nat) (x1 : Int) (x2 : Int) (x3 : Int) (A : St) (z : Int) (u : St) : Prop := r_X9_lendTo ta x1 x2 x3 A z u ∧ IK u ∧ fk [34, 43, 75, 106] [] A u ∧ (0 ≤ z ∧ z ≤ 1)
def ws_kc_X9_lendTo : List Cond := .code yX9_lendTo cX9_lendTo 4 (some .boolean) :: WY
set_option maxHeartbeats 4000000 in
set_option maxRecDepth 100000 in
theorem kc_X9_lendTo (l : Launch) (dC : Nat → ClassId) (dI : Nat → Nat → Nat) (cB cI cJ cZ cQ : ClassId) (aL aS : Nat) (q : Nat → Nat) (A : St) (ta : Nat) (x1 x2 x3 : Int) (hI : IK A) (hta : isT ta) (hx1 : (-2147483648 : Int) ≤ x1 ∧ x1 ≤ 2147483647) (hx2 : (-2147483648 : Int) ≤ x2 ∧ x2 ≤ 2147483647) (hx3 : (-2147483648 : Int) ≤ x3 ∧ x3 ≤ 2147483647) : KMi l yX9_lendTo ws_kc_X9_lendTo ({ frames := 2, cells := 0, slots := 0, locals := 44 } : Room) aL aS (dC, dI) (tyA cB cI cJ cZ cQ) (WK cB cI cJ cZ cQ q) A [.ref (q ta), .int (iI x1), .int (iI x2), .int (iI x3)] (fun z u => r_X9_lendTo ta x1 x2 x3 A z u ∧ IK u ∧ fk [34, 43, 75, 106] [] A u ∧ (0 ≤ z ∧ z ≤ 1)) := by
  refine k_metz (cc := cX9_lendTo) (maxL := 4) WK_adr (plainFor_of_name (by decide +kernel)) rfl (Nat.le_of_ble_eq_true rfl) (fun z u h => h.2.2.2) (fun p e s m below meth c Q AS ls hx hb hml hown hts hK hDD hA0 hE RET H locs hP hS hl => ?_)
  have hown : s.vm.findClass RX9 = some m.cls := hown
  have hl : lv_has ls 4 [(0, .ref (q ta)), (1, .int (iI x1)), (2, .int (iI x2)), (3, .int (iI x3))] := hl
  have hiX9 : ∀ w ∈ u_ws RX9 TX9 16, w ∈ ws_kc_X9_lendTo := fun w h => List.mem_cons_of_mem _ (wy_layX9 w h)
  have hiX6 : ∀ w ∈ u_ws RX6 TX6 4, w ∈ ws_kc_X9_lendTo := fun w h => List.mem_cons_of_mem _ (wy_layX6 w h)
  refine lv_aload_n hx hb (dk_at dkX9_lendTo_0 0 rfl) rfl (lv_at hl 0 rfl) ?_
  refine lv_iload_n hx hb (dk_at dkX9_lendTo_0 1 rfl) rfl (lv_at hl 1 rfl) ?_
  refine lv_iload_n hx hb (dk_at dkX9_lendTo_0 2 rfl) rfl (lv_at hl 2 rfl) ?_
  refine k_calli (As := [.int (iI x1), .int (iI x2)]) (rest := []) ⟨hx, hb, hml, hown, hts⟩ hE (kc_X9_holdsKey l dC dI cB cI cJ cZ cQ aL aS q _ ta x1 x2 hI hta hx1 hx2) (cwV 2 hts (goodVk wkq_9_10 wkq_9_11 wkq_9_12 wkq_0_6 wkq_8_59) rfl rfl rfl (by decide +kernel) ⟨Nat.le_of_ble_eq_true rfl, Nat.le_of_ble_eq_true rfl⟩) hK hDD hA0 hP hS ta 9 (wkT hta) rfl rfl hl.1 (Nat.le_of_ble_eq_true rfl) (dk_at dkX9_lendTo_0 3 rfl) (fun z1 A2 H locs hw3 hP hS => ?_)
  obtain ⟨rfl, hw3⟩ := hw3
  have ghw3 : q_X9_holdsKey ta x1 x2 A z1 := hw3
  have hw3 := hw3.2
  have rz1 : 0 ≤ z1 ∧ z1 ≤ 1 := hw3.1
  have hw3 := hw3.2
  refine lv_if_eq (tgt := 23) hx hb (dk_at dkX9_lendTo_0 4 rfl) (by decide) (fun c4 => ?_) (fun c4 => ?_)
  · have c4 : z1 = 0 := (i_eq0 (rb rz1 (by decide) (by decide))).mp c4
    clear hw3
    refine lv_iconst (v := iI 0) hx hb (dk_at dkX9_lendTo_0 13 rfl) (by decide +kernel) ?_
    exact RET 0 _ _ _ _ _ ⟨(u_r_X9_lendTo ⟨z1, ghw3, (Or.inl ⟨c4, ⟨rfl, rfl⟩⟩)⟩), hI, fk.rf, ⟨by decide, by decide⟩⟩ hP hS (dk_at dkX9_lendTo_0 14 rfl)
  · have c4 : ¬ z1 = 0 := mt (i_eq0 (rb rz1 (by decide) (by decide))).mpr c4
    have hw3b := hw3 (by omega)
    clear hw3
    refine lv_aload_n hx hb (dk_at dkX9_lendTo_0 5 rfl) rfl (lv_at hl 0 rfl) ?_
    refine lv_iconst (v := iI 3) hx hb (dk_at dkX9_lendTo_0 6 rfl) (by decide +kernel) ?_
    refine lv_iload_n hx hb (dk_at dkX9_lendTo_0 7 rfl) rfl (lv_at hl 3 rfl) ?_
    refine k_calli (As := [.int (iI 3), .int (iI x3)]) (rest := []) ⟨hx, hb, hml, hown, hts⟩ hE (kc_X9_isThere_1_3 l dC dI cB cI cJ cZ cQ aL aS q _ ta x3 hI hta hx3) (cwV 2 hts (goodVk wkq_2_52 wkq_0_22 wkq_0_23 wkq_0_6 wkq_0_24) rfl rfl rfl (by decide +kernel) ⟨Nat.le_of_ble_eq_true rfl, Nat.le_of_ble_eq_true rfl⟩) hK hDD hA0 hP hS ta 9 (wkT hta) rfl rfl hl.1 (Nat.le_of_ble_eq_true rfl) (dk_at dkX9_lendTo_0 8 rfl) (fun z5 A6 H locs hw7 hP hS => ?_)
    obtain ⟨rfl, hw7⟩ := hw7
    have ghw7 : q_X9_isThere_1_3 ta x3 A z5 := hw7
    have hw7 := hw7.2
    have rz5 : 0 ≤ z5 ∧ z5 ≤ 1 := hw7.1
    have hw7 := hw7.2
    refine lv_if_eq (tgt := 23) hx hb (dk_at dkX9_lendTo_0 9 rfl) (by decide) (fun c8 => ?_) (fun c8 => ?_)
    · have c8 : z5 = 0 := (i_eq0 (rb rz5 (by decide) (by decide))).mp c8
      clear hw7
      refine lv_iconst (v := iI 0) hx hb (dk_at dkX9_lendTo_0 13 rfl) (by decide +kernel) ?_
      exact RET 0 _ _ _ _ _ ⟨(u_r_X9_lendTo ⟨z1, ghw3, (Or.inr ⟨c4, ⟨z5, ghw7, (Or.inl ⟨c8, ⟨rfl, rfl⟩⟩)⟩⟩)⟩), hI, fk.rf, ⟨by decide, by decide⟩⟩ hP hS (dk_at dkX9_lendTo_0 14 rfl)
    · have c8 : ¬ z5 = 0 := mt (i_eq0 (rb rz5 (by decide) (by decide))).mpr c8
      have hw7b := hw7 (by omega)
      clear hw7
      refine lv_iload_n hx hb (dk_at dkX9_lendTo_0 10 rfl) rfl (lv_at hl 3 rfl) ?_
      refine lv_iload_n hx hb (dk_at dkX9_lendTo_0 11 rfl) rfl (lv_at hl 1 rfl) ?_
      refine lv_icmp_ne (tgt := 25) hx hb (dk_at dkX9_lendTo_0 12 rfl) (by decide) (fun c9 => ?_) (fun c9 => ?_)
      · have c9 : ¬ x3 = x1 := mt (i_eq hx3 hx1).mpr c9
        refine lv_aload_n hx hb (dk_at dkX9_lendTo_0 15 rfl) rfl (lv_at hl 0 rfl) ?_
        refine va_get (D := (dC, dI)) (ci := 9) (v := .ref (q (ta + 22))) (C := RX9) (T := TX9) (N := 16) hx hb hts hiX9 hown hK hP ta (wkT hta) rfl 14 (by decide) (hts _ (List.mem_cons_of_mem _ wkq_0_9)) (fun _ h9 => h9) rfl (dk_at dkX9_lendTo_1 0 rfl) ?_
        refine va_get (D := (dC, dI)) (ci := 6) (v := .ref (q ((ta + 22) + 1))) (C := RX6) (T := TX6) (N := 4) hx hb hts hiX6 hown hK hP (ta + 22) (wkS hta.s) rfl 0 (by decide) (hts _ (List.mem_cons_of_mem _ wkq_6_52)) (fun _ h9 => h9) rfl (dk_at dkX9_lendTo_1 1 rfl) ?_
        refine lv_iload_n hx hb (dk_at dkX9_lendTo_1 2 rfl) rfl (lv_at hl 1 rfl) ?_
        refine x_iald (Wf := WK cB cI cJ cZ cQ q) hx hb hK hP ((ta + 22) + 1) 1 (wkSs hta.s) rfl (by omega) (by decide) (dk_at dkX9_lendTo_1 3 rfl) (fun z10 hz10 => ?_)
        have rz10 : (-2147483648 : Int) ≤ z10 ∧ z10 ≤ 2147483647 := by rw [hz10]; exact irSs hta.s hI
        have gz10 := Hd.mk hz10
        refine lv_aload_n hx hb (dk_at dkX9_lendTo_1 4 rfl) rfl (lv_at hl 0 rfl) ?_
        refine va_get (D := (dC, dI)) (ci := 9) (v := .ref (q (ta + 22))) (C := RX9) (T := TX9) (N := 16) hx hb hts hiX9 hown hK hP ta (wkT hta) rfl 14 (by decide) (hts _ (List.mem_cons_of_mem _ wkq_0_9)) (fun _ h9 => h9) rfl (dk_at dkX9_lendTo_1 5 rfl) ?_
        refine va_get (D := (dC, dI)) (ci := 6) (v := .ref (q ((ta + 22) + 1))) (C := RX6) (T := TX6) (N := 4) hx hb hts hiX6 hown hK hP (ta + 22) (wkS hta.s) rfl 0 (by decide) (hts _ (List.mem_cons_of_mem _ wkq_6_52)) (fun _ h9 => h9) rfl (dk_at dkX9_lendTo_1 6 rfl) ?_
        refine lv_iload_n hx hb (dk_at dkX9_lendTo_1 7 rfl) rfl (lv_at hl 3 rfl) ?_
        refine x_iald (Wf := WK cB cI cJ cZ cQ q) hx hb hK hP ((ta + 22) + 1) 1 (wkSs hta.s) rfl (by omega) (by decide) (dk_at dkX9_lendTo_1 8 rfl) (fun z11 hz11 => ?_)
        have rz11 : (-2147483648 : Int) ≤ z11 ∧ z11 ≤ 2147483647 := by rw [hz11]; exact irSs hta.s hI
        have gz11 := Hd.mk hz11
        refine lv_icmp_eq (tgt := 48) hx hb (dk_at dkX9_lendTo_1 9 rfl) (by decide) (fun c12 => ?_) (fun c12 => ?_)
        · have c12 : z10 = z11 := (i_eq rz10 rz11).mp c12
          refine lv_aload_n hx hb (dk_at dkX9_lendTo_1 12 rfl) rfl (lv_at hl 0 rfl) ?_
          refine va_get (D := (dC, dI)) (ci := 9) (v := .ref (q (ta + 22))) (C := RX9) (T := TX9) (N := 16) hx hb hts hiX9 hown hK hP ta (wkT hta) rfl 14 (by decide) (hts _ (List.mem_cons_of_mem _ wkq_0_9)) (fun _ h9 => h9) rfl (dk_at dkX9_lendTo_1 13 rfl) ?_
          refine va_get (D := (dC, dI)) (ci := 6) (v := .ref (q ((ta + 22) + 2))) (C := RX6) (T := TX6) (N := 4) hx hb hts hiX6 hown hK hP (ta + 22) (wkS hta.s) rfl 1 (by decide) (hts _ (List.mem_cons_of_mem _ wkq_0_10)) (fun _ h9 => h9) rfl (dk_at dkX9_lendTo_1 14 rfl) ?_
          refine lv_iload_n hx hb (dk_at dkX9_lendTo_1 15 rfl) rfl (lv_at hl 2 rfl) ?_
          refine lv_iload_n hx hb (dk_at dkX9_lendTo_2 0 rfl) rfl (lv_at hl 3 rfl) ?_
          refine k_iast (Wf := WK cB cI cJ cZ cQ q) hx hb hK hP hDD hS ((ta + 22) + 2) 1 (wkSw hta.s) rfl (by omega) (by decide) (dk_at dkX9_lendTo_2 1 rfl) (wsSw hta.s) (fun H locs A13 hA13 hP hS => ?_)
          have hI := isSw hta.s hA13 hI (show (-2147483648 : Int) ≤ x3 ∧ x3 ≤ 2147483647 from hx3)
          refine lv_iconst (v := iI 1) hx hb (dk_at dkX9_lendTo_2 2 rfl) (by decide +kernel) ?_
          exact RET 1 _ _ _ _ _ ⟨(u_r_X9_lendTo ⟨z1, ghw3, (Or.inr ⟨c4, ⟨z5, ghw7, (Or.inr ⟨c8, (Or.inl ⟨c9, ⟨z10, gz10.out, ⟨z11, gz11.out, (Or.inl ⟨c12, ⟨A13, hA13, ⟨rfl, rfl⟩⟩⟩)⟩⟩⟩)⟩)⟩⟩)⟩), hI, fk.da (fk.rf) hA13 (isS.b2 (o := fun b => List.contains [34, 43, 75, 106] (b + 2)) hta.s rfl rfl rfl rfl), ⟨by decide, by decide⟩⟩ hP hS (dk_at dkX9_lendTo_2 3 rfl)
        · have c12 : ¬ z10 = z11 := mt (i_eq rz10 rz11).mpr c12
          refine lv_iconst (v := iI 0) hx hb (dk_at dkX9_lendTo_1 10 rfl) (by decide +kernel) ?_
          exact RET 0 _ _ _ _ _ ⟨(u_r_X9_lendTo ⟨z1, ghw3, (Or.inr ⟨c4, ⟨z5, ghw7, (Or.inr ⟨c8, (Or.inl ⟨c9, ⟨z10, gz10.out, ⟨z11, gz11.out, (Or.inr ⟨c12, ⟨rfl, rfl⟩⟩)⟩⟩⟩)⟩)⟩⟩)⟩), hI, fk.rf, ⟨by decide, by decide⟩⟩ hP hS (dk_at dkX9_lendTo_1 11 rfl)
      · have c9 : x3 = x1 := (i_eq hx3 hx1).mp c9
        refine lv_iconst (v := iI 0) hx hb (dk_at dkX9_lendTo_0 13 rfl) (by decide +kernel) ?_
        exact RET 0 _ _ _ _ _ ⟨(u_r_X9_lendTo ⟨z1, ghw3, (Or.inr ⟨c4, ⟨z5, ghw7, (Or.inr ⟨c8, (Or.inr ⟨c9, ⟨rfl, rfl⟩⟩)⟩)⟩⟩)⟩), hI, fk.rf, ⟨by decide, by decide⟩⟩ hP hS (dk_at dkX9_lendTo_0 14 rfl)

abbrev tr_r_X9_isOpenBoxAt (ta : Nat) (x1 : Int) (x2 : Int) (A : St) (z : Int) : Prop := (∃ z1 : Int, q_X9_isBox ta x1 A z1 ∧ (((z1 = 0) ∧ (z = 0)) ∨ ((¬ z1 = 0) ∧ (∃ z5 : Int, q_X9_isAt ta x1 x2 A z5 ∧ (((z5 = 0) ∧ (z = 0)) ∨ ((¬ z5 = 0) ∧ (∃ z9 : Int, q_X9_isShut ta x1 A z9 ∧ (((¬ z9 = 0) ∧ (z = 0)) ∨ ((z9 = 0) ∧ (z = 1))))))))))
def r_X9_isOpenBoxAt (ta : Nat) (x1 : Int) (x2 : Int) (A : St) (z : Int) : Prop := tr_r_X9_isOpenBoxAt ta x1 x2 A z
theorem u_r_X9_isOpenBoxAt {ta : Nat} {x1 : Int} {x2 : Int} {A : St} {z : Int} (h : tr_r_X9_isOpenBoxAt ta x1 x2 A z) : r_X9_isOpenBoxAt ta x1 x2 A z := h
def q_X9_isOpenBoxAt (ta : Nat) (x1 : Int) (x2 : Int) (A : St) (z : Int) : Prop := r_X9_isOpenBoxAt ta x1 x2 A z ∧ (0 ≤ z ∧ z ≤ 1)
def ws_kc_X9_isOpenBoxAt : List Cond := .code yX9_isOpenBoxAt cX9_isOpenBoxAt 3 (some .boolean) :: WY
set_option maxHeartbeats 4000000 in
set_option maxRecDepth 100000 in
theorem kc_X9_isOpenBoxAt (l : Launch) (dC : Nat → ClassId) (dI : Nat → Nat → Nat) (cB cI cJ cZ cQ : ClassId) (aL aS : Nat) (q : Nat → Nat) (A : St) (ta : Nat) (x1 x2 : Int) (hI : IK A) (hta : isT ta) (hx1 : (-2147483648 : Int) ≤ x1 ∧ x1 ≤ 2147483647) (hx2 : (-2147483648 : Int) ≤ x2 ∧ x2 ≤ 2147483647) : KMi l yX9_isOpenBoxAt ws_kc_X9_isOpenBoxAt ({ frames := 4, cells := 0, slots := 0, locals := 89 } : Room) aL aS (dC, dI) (tyA cB cI cJ cZ cQ) (WK cB cI cJ cZ cQ q) A [.ref (q ta), .int (iI x1), .int (iI x2)] (fun z u => A = u ∧ r_X9_isOpenBoxAt ta x1 x2 A z ∧ (0 ≤ z ∧ z ≤ 1)) := by
  refine k_metz (cc := cX9_isOpenBoxAt) (maxL := 3) WK_adr (plainFor_of_name (by decide +kernel)) rfl (Nat.le_of_ble_eq_true rfl) (fun z u h => h.2.2) (fun p e s m below meth c Q AS ls hx hb hml hown hts hK hDD hA0 hE RET H locs hP hS hl => ?_)
  have hown : s.vm.findClass RX9 = some m.cls := hown
  have hl : lv_has ls 3 [(0, .ref (q ta)), (1, .int (iI x1)), (2, .int (iI x2))] := hl
  refine lv_aload_n hx hb (dk_at dkX9_isOpenBoxAt_0 0 rfl) rfl (lv_at hl 0 rfl) ?_
  refine lv_iload_n hx hb (dk_at dkX9_isOpenBoxAt_0 1 rfl) rfl (lv_at hl 1 rfl) ?_
  refine k_calli (As := [.int (iI x1)]) (rest := []) ⟨hx, hb, hml, hown, hts⟩ hE (kc_X9_isBox l dC dI cB cI cJ cZ cQ aL aS q _ ta x1 hI hta hx1) (cwV 1 hts (goodVk wkq_8_48 wkq_1_6 wkq_1_7 wkq_0_6 wkq_1_8) rfl rfl rfl (by decide +kernel) ⟨Nat.le_of_ble_eq_true rfl, Nat.le_of_ble_eq_true rfl⟩) hK hDD hA0 hP hS ta 9 (wkT hta) rfl rfl hl.1 (Nat.le_of_ble_eq_true rfl) (dk_at dkX9_isOpenBoxAt_0 2 rfl) (fun z1 A2 H locs hw3 hP hS => ?_)
  obtain ⟨rfl, hw3⟩ := hw3
  have ghw3 : q_X9_isBox ta x1 A z1 := hw3
  have hw3 := hw3.2
  have rz1 : 0 ≤ z1 ∧ z1 ≤ 1 := hw3.1
  have hw3 := hw3.2
  refine lv_if_eq (tgt := 29) hx hb (dk_at dkX9_isOpenBoxAt_0 3 rfl) (by decide) (fun c4 => ?_) (fun c4 => ?_)
  · have c4 : z1 = 0 := (i_eq0 (rb rz1 (by decide) (by decide))).mp c4
    clear hw3
    refine lv_iconst (v := iI 0) hx hb (dk_at dkX9_isOpenBoxAt_0 15 rfl) (by decide +kernel) ?_
    exact RET 0 _ _ _ _ _ ⟨rfl, (u_r_X9_isOpenBoxAt ⟨z1, ghw3, (Or.inl ⟨c4, rfl⟩)⟩), ⟨by decide, by decide⟩⟩ hP hS (dk_at dkX9_isOpenBoxAt_1 0 rfl)
  · have c4 : ¬ z1 = 0 := mt (i_eq0 (rb rz1 (by decide) (by decide))).mpr c4
    have hw3b := hw3 (by omega)
    clear hw3
    refine lv_aload_n hx hb (dk_at dkX9_isOpenBoxAt_0 4 rfl) rfl (lv_at hl 0 rfl) ?_
    refine lv_iload_n hx hb (dk_at dkX9_isOpenBoxAt_0 5 rfl) rfl (lv_at hl 1 rfl) ?_
    refine lv_iload_n hx hb (dk_at dkX9_isOpenBoxAt_0 6 rfl) rfl (lv_at hl 2 rfl) ?_
    refine k_calli (As := [.int (iI x1), .int (iI x2)]) (rest := []) ⟨hx, hb, hml, hown, hts⟩ hE (kc_X9_isAt l dC dI cB cI cJ cZ cQ aL aS q _ ta x1 x2 hI hta hx1 hx2) (cwV 2 hts (goodVk wkq_8_49 wkq_1_11 wkq_1_12 wkq_0_6 wkq_1_13) rfl rfl rfl (by decide +kernel) ⟨Nat.le_of_ble_eq_true rfl, Nat.le_of_ble_eq_true rfl⟩) hK hDD hA0 hP hS ta 9 (wkT hta) rfl rfl hl.1 (Nat.le_of_ble_eq_true rfl) (dk_at dkX9_isOpenBoxAt_0 7 rfl) (fun z5 A6 H locs hw7 hP hS => ?_)
    obtain ⟨rfl, hw7⟩ := hw7
    have ghw7 : q_X9_isAt ta x1 x2 A z5 := hw7
    have hw7 := hw7.2
    have rz5 : 0 ≤ z5 ∧ z5 ≤ 1 := hw7.1
    have hw7 := hw7.2
    refine lv_if_eq (tgt := 29) hx hb (dk_at dkX9_isOpenBoxAt_0 8 rfl) (by decide) (fun c8 => ?_) (fun c8 => ?_)
    · have c8 : z5 = 0 := (i_eq0 (rb rz5 (by decide) (by decide))).mp c8
      clear hw7
      refine lv_iconst (v := iI 0) hx hb (dk_at dkX9_isOpenBoxAt_0 15 rfl) (by decide +kernel) ?_
      exact RET 0 _ _ _ _ _ ⟨rfl, (u_r_X9_isOpenBoxAt ⟨z1, ghw3, (Or.inr ⟨c4, ⟨z5, ghw7, (Or.inl ⟨c8, rfl⟩)⟩⟩)⟩), ⟨by decide, by decide⟩⟩ hP hS (dk_at dkX9_isOpenBoxAt_1 0 rfl)
    · have c8 : ¬ z5 = 0 := mt (i_eq0 (rb rz5 (by decide) (by decide))).mpr c8
      have hw7b := hw7 (by omega)
      clear hw7
      refine lv_aload_n hx hb (dk_at dkX9_isOpenBoxAt_0 9 rfl) rfl (lv_at hl 0 rfl) ?_
      refine lv_iload_n hx hb (dk_at dkX9_isOpenBoxAt_0 10 rfl) rfl (lv_at hl 1 rfl) ?_
      refine k_calli (As := [.int (iI x1)]) (rest := []) ⟨hx, hb, hml, hown, hts⟩ hE (kc_X9_isShut l dC dI cB cI cJ cZ cQ aL aS q _ ta x1 hI hta hx1) (cwV 1 hts (goodVk wkq_9_24 wkq_9_25 wkq_9_26 wkq_0_6 wkq_8_53) rfl rfl rfl (by decide +kernel) ⟨Nat.le_of_ble_eq_true rfl, Nat.le_of_ble_eq_true rfl⟩) hK hDD hA0 hP hS ta 9 (wkT hta) rfl rfl hl.1 (Nat.le_of_ble_eq_true rfl) (dk_at dkX9_isOpenBoxAt_0 11 rfl) (fun z9 A10 H locs hw11 hP hS => ?_)
      obtain ⟨rfl, hw11⟩ := hw11
      have ghw11 : q_X9_isShut ta x1 A z9 := hw11
      have hw11 := hw11.2
      refine lv_if_ne (tgt := 29) hx hb (dk_at dkX9_isOpenBoxAt_0 12 rfl) (by decide) (fun c12 => ?_) (fun c12 => ?_)
      · have c12 : ¬ z9 = 0 := mt (i_eq0 (rb hw11 (by decide) (by decide))).mpr c12
        refine lv_iconst (v := iI 0) hx hb (dk_at dkX9_isOpenBoxAt_0 15 rfl) (by decide +kernel) ?_
        exact RET 0 _ _ _ _ _ ⟨rfl, (u_r_X9_isOpenBoxAt ⟨z1, ghw3, (Or.inr ⟨c4, ⟨z5, ghw7, (Or.inr ⟨c8, ⟨z9, ghw11, (Or.inl ⟨c12, rfl⟩)⟩⟩)⟩⟩)⟩), ⟨by decide, by decide⟩⟩ hP hS (dk_at dkX9_isOpenBoxAt_1 0 rfl)
      · have c12 : z9 = 0 := (i_eq0 (rb hw11 (by decide) (by decide))).mp c12
        refine lv_iconst (v := iI 1) hx hb (dk_at dkX9_isOpenBoxAt_0 13 rfl) (by decide +kernel) ?_
        refine lv_goto (tgt := 30) hx hb (dk_at dkX9_isOpenBoxAt_0 14 rfl) (by decide) ?_
        exact RET 1 _ _ _ _ _ ⟨rfl, (u_r_X9_isOpenBoxAt ⟨z1, ghw3, (Or.inr ⟨c4, ⟨z5, ghw7, (Or.inr ⟨c8, ⟨z9, ghw11, (Or.inr ⟨c12, rfl⟩)⟩⟩)⟩⟩)⟩), ⟨by decide, by decide⟩⟩ hP hS (dk_at dkX9_isOpenBoxAt_1 0 rfl)

abbrev tr_d_X9_takeUp_1 (ta : Nat) (x1 : Int) (x2 : Int) (A : St) (z : Int) (u : St) : Prop := (∃ A20 : St, A20 = stA A ((ta + 22) + 2) (x2).toNat x1 ∧ (z = 1 ∧ u = A20))
def d_X9_takeUp_1 (ta : Nat) (x1 : Int) (x2 : Int) (A : St) (z : Int) (u : St) : Prop := tr_d_X9_takeUp_1 ta x1 x2 A z u
theorem u_d_X9_takeUp_1 {ta : Nat} {x1 : Int} {x2 : Int} {A : St} {z : Int} {u : St} (h : tr_d_X9_takeUp_1 ta x1 x2 A z u) : d_X9_takeUp_1 ta x1 x2 A z u := h
abbrev tr_r_X9_takeUp (ta : Nat) (x1 : Int) (x2 : Int) (A : St) (z : Int) (u : St) : Prop := (∃ z1 : Int, q_X9_isThere_1_3 ta x1 A z1 ∧ (((z1 = 0) ∧ (z = 0 ∧ u = A)) ∨ ((¬ z1 = 0) ∧ (∃ z5 : Int, q_X9_isThere_1_2 ta x2 A z5 ∧ (((¬ z5 = 0) ∧ (∃ z9 : Int, z9 = A ((ta + 22) + 2) (x2).toNat ∧ (∃ z10 : Int, z10 = A ((ta + 22) + 1) (x1).toNat ∧ (∃ z11 : Int, z11 = oWrap (z10 + 10) ∧ (((z9 = z11) ∧ (d_X9_takeUp_1 ta x1 x2 A z u)) ∨ ((¬ z9 = z11) ∧ (∃ z14 : Int, z14 = oWrap (z9 - 20) ∧ (∃ z15 : Int, q_X9_isOpenBoxAt ta z14 z10 A z15 ∧ (((¬ z15 = 0) ∧ (d_X9_takeUp_1 ta x1 x2 A z u)) ∨ ((z15 = 0) ∧ (z = 0 ∧ u = A))))))))))) ∨ ((z5 = 0) ∧ (z = 0 ∧ u = A)))))))
def r_X9_takeUp (ta : Nat) (x1 : Int) (x2 : Int) (A : St) (z : Int) (u : St) : Prop := tr_r_X9_takeUp ta x1 x2 A z u
theorem u_r_X9_takeUp {ta : Nat} {x1 : Int} {x2 : Int} {A : St} {z : Int} {u : St} (h : tr_r_X9_takeUp ta x1 x2 A z u) : r_X9_takeUp ta x1 x2 A z u := h
def q_X9_takeUp (ta : Nat) (x1 : Int) (x2 : Int) (A : St) (z : Int) (u : St) : Prop := r_X9_takeUp ta x1 x2 A z u ∧ IK u ∧ fk [34, 43, 75, 106] [] A u ∧ (0 ≤ z ∧ z ≤ 1)
def ws_kc_X9_takeUp : List Cond := .code yX9_takeUp cX9_takeUp 5 (some .boolean) :: WY
set_option maxHeartbeats 4000000 in
set_option maxRecDepth 100000 in
theorem kc_X9_takeUp (l : Launch) (dC : Nat → ClassId) (dI : Nat → Nat → Nat) (cB cI cJ cZ cQ : ClassId) (aL aS : Nat) (q : Nat → Nat) (A : St) (ta : Nat) (x1 x2 : Int) (hI : IK A) (hta : isT ta) (hx1 : (-2147483648 : Int) ≤ x1 ∧ x1 ≤ 2147483647) (hx2 : (-2147483648 : Int) ≤ x2 ∧ x2 ≤ 2147483647) : KMi l yX9_takeUp ws_kc_X9_takeUp ({ frames := 5, cells := 0, slots := 0, locals := 111 } : Room) aL aS (dC, dI) (tyA cB cI cJ cZ cQ) (WK cB cI cJ cZ cQ q) A [.ref (q ta), .int (iI x1), .int (iI x2)] (fun z u => r_X9_takeUp ta x1 x2 A z u ∧ IK u ∧ fk [34, 43, 75, 106] [] A u ∧ (0 ≤ z ∧ z ≤ 1)) := by
  refine k_metz (cc := cX9_takeUp) (maxL := 5) WK_adr (plainFor_of_name (by decide +kernel)) rfl (Nat.le_of_ble_eq_true rfl) (fun z u h => h.2.2.2) (fun p e s m below meth c Q AS ls hx hb hml hown hts hK hDD hA0 hE RET H locs hP hS hl => ?_)
  have hown : s.vm.findClass RX9 = some m.cls := hown
  have hl : lv_has ls 5 [(0, .ref (q ta)), (1, .int (iI x1)), (2, .int (iI x2))] := hl
  have hiX9 : ∀ w ∈ u_ws RX9 TX9 16, w ∈ ws_kc_X9_takeUp := fun w h => List.mem_cons_of_mem _ (wy_layX9 w h)
  have hiX6 : ∀ w ∈ u_ws RX6 TX6 4, w ∈ ws_kc_X9_takeUp := fun w h => List.mem_cons_of_mem _ (wy_layX6 w h)
  refine lv_aload_n hx hb (dk_at dkX9_takeUp_0 0 rfl) rfl (lv_at hl 0 rfl) ?_
  refine lv_iconst (v := iI 3) hx hb (dk_at dkX9_takeUp_0 1 rfl) (by decide +kernel) ?_
  refine lv_iload_n hx hb (dk_at dkX9_takeUp_0 2 rfl) rfl (lv_at hl 1 rfl) ?_
  refine k_calli (As := [.int (iI 3), .int (iI x1)]) (rest := []) ⟨hx, hb, hml, hown, hts⟩ hE (kc_X9_isThere_1_3 l dC dI cB cI cJ cZ cQ aL aS q _ ta x1 hI hta hx1) (cwV 2 hts (goodVk wkq_2_52 wkq_0_22 wkq_0_23 wkq_0_6 wkq_0_24) rfl rfl rfl (by decide +kernel) ⟨Nat.le_of_ble_eq_true rfl, Nat.le_of_ble_eq_true rfl⟩) hK hDD hA0 hP hS ta 9 (wkT hta) rfl rfl hl.1 (Nat.le_of_ble_eq_true rfl) (dk_at dkX9_takeUp_0 3 rfl) (fun z1 A2 H locs hw3 hP hS => ?_)
  obtain ⟨rfl, hw3⟩ := hw3
  have ghw3 : q_X9_isThere_1_3 ta x1 A z1 := hw3
  have hw3 := hw3.2
  have rz1 : 0 ≤ z1 ∧ z1 ≤ 1 := hw3.1
  have hw3 := hw3.2
  refine lv_if_eq (tgt := 18) hx hb (dk_at dkX9_takeUp_0 4 rfl) (by decide) (fun c4 => ?_) (fun c4 => ?_)
  · have c4 : z1 = 0 := (i_eq0 (rb rz1 (by decide) (by decide))).mp c4
    clear hw3
    refine lv_iconst (v := iI 0) hx hb (dk_at dkX9_takeUp_0 10 rfl) (by decide +kernel) ?_
    exact RET 0 _ _ _ _ _ ⟨(u_r_X9_takeUp ⟨z1, ghw3, (Or.inl ⟨c4, ⟨rfl, rfl⟩⟩)⟩), hI, fk.rf, ⟨by decide, by decide⟩⟩ hP hS (dk_at dkX9_takeUp_0 11 rfl)
  · have c4 : ¬ z1 = 0 := mt (i_eq0 (rb rz1 (by decide) (by decide))).mpr c4
    have hw3b := hw3 (by omega)
    clear hw3
    refine lv_aload_n hx hb (dk_at dkX9_takeUp_0 5 rfl) rfl (lv_at hl 0 rfl) ?_
    refine lv_iconst (v := iI 2) hx hb (dk_at dkX9_takeUp_0 6 rfl) (by decide +kernel) ?_
    refine lv_iload_n hx hb (dk_at dkX9_takeUp_0 7 rfl) rfl (lv_at hl 2 rfl) ?_
    refine k_calli (As := [.int (iI 2), .int (iI x2)]) (rest := []) ⟨hx, hb, hml, hown, hts⟩ hE (kc_X9_isThere_1_2 l dC dI cB cI cJ cZ cQ aL aS q _ ta x2 hI hta hx2) (cwV 2 hts (goodVk wkq_2_52 wkq_0_22 wkq_0_23 wkq_0_6 wkq_0_24) rfl rfl rfl (by decide +kernel) ⟨Nat.le_of_ble_eq_true rfl, Nat.le_of_ble_eq_true rfl⟩) hK hDD hA0 hP hS ta 9 (wkT hta) rfl rfl hl.1 (Nat.le_of_ble_eq_true rfl) (dk_at dkX9_takeUp_0 8 rfl) (fun z5 A6 H locs hw7 hP hS => ?_)
    obtain ⟨rfl, hw7⟩ := hw7
    have ghw7 : q_X9_isThere_1_2 ta x2 A z5 := hw7
    have hw7 := hw7.2
    have rz5 : 0 ≤ z5 ∧ z5 ≤ 1 := hw7.1
    have hw7 := hw7.2
    refine lv_if_ne (tgt := 20) hx hb (dk_at dkX9_takeUp_0 9 rfl) (by decide) (fun c8 => ?_) (fun c8 => ?_)
    · have c8 : ¬ z5 = 0 := mt (i_eq0 (rb rz5 (by decide) (by decide))).mpr c8
      have hw7b := hw7 (by omega)
      clear hw7
      refine lv_aload_n hx hb (dk_at dkX9_takeUp_0 12 rfl) rfl (lv_at hl 0 rfl) ?_
      refine va_get (D := (dC, dI)) (ci := 9) (v := .ref (q (ta + 22))) (C := RX9) (T := TX9) (N := 16) hx hb hts hiX9 hown hK hP ta (wkT hta) rfl 14 (by decide) (hts _ (List.mem_cons_of_mem _ wkq_0_9)) (fun _ h9 => h9) rfl (dk_at dkX9_takeUp_0 13 rfl) ?_
      refine va_get (D := (dC, dI)) (ci := 6) (v := .ref (q ((ta + 22) + 2))) (C := RX6) (T := TX6) (N := 4) hx hb hts hiX6 hown hK hP (ta + 22) (wkS hta.s) rfl 1 (by decide) (hts _ (List.mem_cons_of_mem _ wkq_0_10)) (fun _ h9 => h9) rfl (dk_at dkX9_takeUp_0 14 rfl) ?_
      refine lv_iload_n hx hb (dk_at dkX9_takeUp_0 15 rfl) rfl (lv_at hl 2 rfl) ?_
      refine x_iald (Wf := WK cB cI cJ cZ cQ q) hx hb hK hP ((ta + 22) + 2) 1 (wkSw hta.s) rfl (by omega) (by decide) (dk_at dkX9_takeUp_1 0 rfl) (fun z9 hz9 => ?_)
      have rz9 : (-2147483648 : Int) ≤ z9 ∧ z9 ≤ 2147483647 := by rw [hz9]; exact irSw hta.s hI
      have gz9 := Hd.mk hz9
      refine lv_istore_n (lv' := [(3, .int (iI z9)), (0, .ref (q ta)), (1, .int (iI x1)), (2, .int (iI x2))]) hx hb (dk_at dkX9_takeUp_1 1 rfl) rfl hl (by decide) rfl (fun ls hl => ?_)
      refine lv_aload_n hx hb (dk_at dkX9_takeUp_1 2 rfl) rfl (lv_at hl 1 rfl) ?_
      refine va_get (D := (dC, dI)) (ci := 9) (v := .ref (q (ta + 22))) (C := RX9) (T := TX9) (N := 16) hx hb hts hiX9 hown hK hP ta (wkT hta) rfl 14 (by decide) (hts _ (List.mem_cons_of_mem _ wkq_0_9)) (fun _ h9 => h9) rfl (dk_at dkX9_takeUp_1 3 rfl) ?_
      refine va_get (D := (dC, dI)) (ci := 6) (v := .ref (q ((ta + 22) + 1))) (C := RX6) (T := TX6) (N := 4) hx hb hts hiX6 hown hK hP (ta + 22) (wkS hta.s) rfl 0 (by decide) (hts _ (List.mem_cons_of_mem _ wkq_6_52)) (fun _ h9 => h9) rfl (dk_at dkX9_takeUp_1 4 rfl) ?_
      refine lv_iload_n hx hb (dk_at dkX9_takeUp_1 5 rfl) rfl (lv_at hl 2 rfl) ?_
      refine x_iald (Wf := WK cB cI cJ cZ cQ q) hx hb hK hP ((ta + 22) + 1) 1 (wkSs hta.s) rfl (by omega) (by decide) (dk_at dkX9_takeUp_1 6 rfl) (fun z10 hz10 => ?_)
      have rz10 : (-2147483648 : Int) ≤ z10 ∧ z10 ≤ 2147483647 := by rw [hz10]; exact irSs hta.s hI
      have gz10 := Hd.mk hz10
      refine lv_istore (lv' := [(4, .int (iI z10)), (3, .int (iI z9)), (0, .ref (q ta)), (1, .int (iI x1)), (2, .int (iI x2))]) hx hb (dk_at dkX9_takeUp_1 7 rfl) hl (by decide) rfl (fun ls hl => ?_)
      refine lv_iload_n hx hb (dk_at dkX9_takeUp_1 8 rfl) rfl (lv_at hl 1 rfl) ?_
      refine lv_bipush (v := iI 10) hx hb (dk_at dkX9_takeUp_1 9 rfl) (by decide +kernel) ?_
      refine lv_iload hx hb (dk_at dkX9_takeUp_1 10 rfl) (lv_at hl 0 rfl) ?_
      refine x_addv (v := z10 + 10) hx hb (dk_at dkX9_takeUp_1 11 rfl) (by omega) ?_
      refine x_absE (fun z11 gz11 hz11 => ?_)
      have J65_13 : ∀ (H : Heap) (locs : List Loc) (ls : Array Slot), (∀ (z : Int) (u : St), (d_X9_takeUp_1 ta x1 x2 A z u) → r_X9_takeUp ta x1 x2 A z u) → va_P (dC, dI) vwCl (WK cB cI cJ cZ cQ q A) H → va_S AS s.heap H locs → lv_has ls 5 [(4, .int (iI z10)), (3, .int (iI z9)), (0, .ref (q ta)), (1, .int (iI x1)), (2, .int (iI x2))] → W p l e (headSpec ws_kc_X9_takeUp ({ frames := 5, cells := 0, slots := 0, locals := 111 } : Room)).room s m [.ref (q ta), .int (iI x1), .int (iI x2)].toArray below meth c H locs 0 0 Q (F0 m 65 ls []) := by
        intro H locs ls hk1 hP hS hl
        refine lv_aload_n hx hb (dk_at dkX9_takeUp_2 6 rfl) rfl (lv_at hl 2 rfl) ?_
        refine va_get (D := (dC, dI)) (ci := 9) (v := .ref (q (ta + 22))) (C := RX9) (T := TX9) (N := 16) hx hb hts hiX9 hown hK hP ta (wkT hta) rfl 14 (by decide) (hts _ (List.mem_cons_of_mem _ wkq_0_9)) (fun _ h9 => h9) rfl (dk_at dkX9_takeUp_2 7 rfl) ?_
        refine va_get (D := (dC, dI)) (ci := 6) (v := .ref (q ((ta + 22) + 2))) (C := RX6) (T := TX6) (N := 4) hx hb hts hiX6 hown hK hP (ta + 22) (wkS hta.s) rfl 1 (by decide) (hts _ (List.mem_cons_of_mem _ wkq_0_10)) (fun _ h9 => h9) rfl (dk_at dkX9_takeUp_2 8 rfl) ?_
        refine lv_iload_n hx hb (dk_at dkX9_takeUp_2 9 rfl) rfl (lv_at hl 4 rfl) ?_
        refine lv_iload_n hx hb (dk_at dkX9_takeUp_2 10 rfl) rfl (lv_at hl 3 rfl) ?_
        refine k_iast (Wf := WK cB cI cJ cZ cQ q) hx hb hK hP hDD hS ((ta + 22) + 2) 1 (wkSw hta.s) rfl (by omega) (by decide) (dk_at dkX9_takeUp_2 11 rfl) (wsSw hta.s) (fun H locs A20 hA20 hP hS => ?_)
        have hI := isSw hta.s hA20 hI (show (-2147483648 : Int) ≤ x1 ∧ x1 ≤ 2147483647 from hx1)
        refine lv_iconst (v := iI 1) hx hb (dk_at dkX9_takeUp_2 12 rfl) (by decide +kernel) ?_
        exact RET 1 _ _ _ _ _ ⟨hk1 _ _ (u_d_X9_takeUp_1 ⟨A20, hA20, ⟨rfl, rfl⟩⟩), hI, fk.da (fk.rf) hA20 (isS.b2 (o := fun b => List.contains [34, 43, 75, 106] (b + 2)) hta.s rfl rfl rfl rfl), ⟨by decide, by decide⟩⟩ hP hS (dk_at dkX9_takeUp_2 13 rfl)
      refine lv_icmp_eq (tgt := 65) hx hb (dk_at dkX9_takeUp_1 12 rfl) (by decide) (fun c12 => ?_) (fun c12 => ?_)
      · have c12 : z9 = z11 := (i_eq rz9 hz11).mp c12
        exact J65_13 _ _ _ (fun zq uq hq => (u_r_X9_takeUp ⟨z1, ghw3, (Or.inr ⟨c4, ⟨z5, ghw7, (Or.inl ⟨c8, ⟨z9, gz9.out, ⟨z10, gz10.out, ⟨z11, gz11.out, (Or.inl ⟨c12, hq⟩)⟩⟩⟩⟩)⟩⟩)⟩)) hP hS (lv_sub hl [0, 1, 2, 3, 4] rfl)
      · have c12 : ¬ z9 = z11 := mt (i_eq rz9 hz11).mpr c12
        refine lv_aload_n hx hb (dk_at dkX9_takeUp_1 13 rfl) rfl (lv_at hl 2 rfl) ?_
        refine lv_iload_n hx hb (dk_at dkX9_takeUp_1 14 rfl) rfl (lv_at hl 1 rfl) ?_
        refine lv_bipush (v := iI 20) hx hb (dk_at dkX9_takeUp_1 15 rfl) (by decide +kernel) ?_
        refine x_subv (v := z9 - 20) hx hb (dk_at dkX9_takeUp_2 0 rfl) (by omega) ?_
        refine x_absE (fun z14 gz14 hz14 => ?_)
        refine lv_iload hx hb (dk_at dkX9_takeUp_2 1 rfl) (lv_at hl 0 rfl) ?_
        refine k_calli (As := [.int (iI z14), .int (iI z10)]) (rest := []) ⟨hx, hb, hml, hown, hts⟩ hE (kc_X9_isOpenBoxAt l dC dI cB cI cJ cZ cQ aL aS q _ ta z14 z10 hI hta hz14 rz10) (cwV 2 hts (goodVk wkq_9_20 wkq_9_21 wkq_9_22 wkq_0_6 wkq_9_23) rfl rfl rfl (by decide +kernel) ⟨Nat.le_of_ble_eq_true rfl, Nat.le_of_ble_eq_true rfl⟩) hK hDD hA0 hP hS ta 9 (wkT hta) rfl rfl hl.1 (Nat.le_of_ble_eq_true rfl) (dk_at dkX9_takeUp_2 2 rfl) (fun z15 A16 H locs hw17 hP hS => ?_)
        obtain ⟨rfl, hw17⟩ := hw17
        have ghw17 : q_X9_isOpenBoxAt ta z14 z10 A z15 := hw17
        have hw17 := hw17.2
        refine lv_if_ne (tgt := 65) hx hb (dk_at dkX9_takeUp_2 3 rfl) (by decide) (fun c18 => ?_) (fun c18 => ?_)
        · have c18 : ¬ z15 = 0 := mt (i_eq0 (rb hw17 (by decide) (by decide))).mpr c18
          exact J65_13 _ _ _ (fun zq uq hq => (u_r_X9_takeUp ⟨z1, ghw3, (Or.inr ⟨c4, ⟨z5, ghw7, (Or.inl ⟨c8, ⟨z9, gz9.out, ⟨z10, gz10.out, ⟨z11, gz11.out, (Or.inr ⟨c12, ⟨z14, gz14.out, ⟨z15, ghw17, (Or.inl ⟨c18, hq⟩)⟩⟩⟩)⟩⟩⟩⟩)⟩⟩)⟩)) hP hS (lv_sub hl [0, 1, 2, 3, 4] rfl)
        · have c18 : z15 = 0 := (i_eq0 (rb hw17 (by decide) (by decide))).mp c18
          refine lv_iconst (v := iI 0) hx hb (dk_at dkX9_takeUp_2 4 rfl) (by decide +kernel) ?_
          exact RET 0 _ _ _ _ _ ⟨(u_r_X9_takeUp ⟨z1, ghw3, (Or.inr ⟨c4, ⟨z5, ghw7, (Or.inl ⟨c8, ⟨z9, gz9.out, ⟨z10, gz10.out, ⟨z11, gz11.out, (Or.inr ⟨c12, ⟨z14, gz14.out, ⟨z15, ghw17, (Or.inr ⟨c18, ⟨rfl, rfl⟩⟩)⟩⟩⟩)⟩⟩⟩⟩)⟩⟩)⟩), hI, fk.rf, ⟨by decide, by decide⟩⟩ hP hS (dk_at dkX9_takeUp_2 5 rfl)
    · have c8 : z5 = 0 := (i_eq0 (rb rz5 (by decide) (by decide))).mp c8
      clear hw7
      refine lv_iconst (v := iI 0) hx hb (dk_at dkX9_takeUp_0 10 rfl) (by decide +kernel) ?_
      exact RET 0 _ _ _ _ _ ⟨(u_r_X9_takeUp ⟨z1, ghw3, (Or.inr ⟨c4, ⟨z5, ghw7, (Or.inr ⟨c8, ⟨rfl, rfl⟩⟩)⟩⟩)⟩), hI, fk.rf, ⟨by decide, by decide⟩⟩ hP hS (dk_at dkX9_takeUp_0 11 rfl)
theorem dkX9_layDown_0 : dkq cX9_layDown [(0, .aload_n 0, 1), (1, .iload_n 1, 1), (2, .iload_n 2, 1), (3, .invokevirtual 131, 3), (6, .ifCond .ne 5, 3), (9, .iconst 0, 1), (10, .ireturn, 1), (11, .aload_n 0, 1), (12, .getfield 63, 3), (15, .getfield 87, 3), (18, .iload_n 1, 1), (19, .iaload, 1), (20, .istore 4, 2), (22, .iload_n 3, 1), (23, .iconst (-1), 1), (24, .if_icmp .eq 15, 3)] = true := by decide +kernel
theorem dkX9_layDown_1 : dkq cX9_layDown [(27, .aload_n 0, 1), (28, .iload_n 3, 1), (29, .iload 4, 2), (31, .invokevirtual 140, 3), (34, .ifCond .ne 5, 3), (37, .iconst 0, 1), (38, .ireturn, 1), (39, .aload_n 0, 1), (40, .getfield 63, 3), (43, .getfield 84, 3), (46, .iload_n 2, 1), (47, .iload_n 3, 1), (48, .iconst (-1), 1), (49, .if_icmp .ne 11, 3), (52, .bipush 10, 2), (54, .iload 4, 2)] = true := by decide +kernel
theorem dkX9_layDown_2 : dkq cX9_layDown [(56, .iadd, 1), (57, .goto 7, 3), (60, .bipush 20, 2), (62, .iload_n 3, 1), (63, .iadd, 1), (64, .iastore, 1), (65, .iconst 1, 1), (66, .ireturn, 1)] = true := by decide +kernel
theorem dkX9_toldAct_0 : dkq cX9_toldAct [(0, .iload_n 2, 1), (1, .tableswitch 54 0 2 #[27, 34, 41], 27), (28, .aload_n 0, 1), (29, .iload_n 1, 1), (30, .iload_n 3, 1), (31, .invokevirtual 146, 3), (34, .ireturn, 1), (35, .aload_n 0, 1), (36, .iload_n 1, 1), (37, .iload_n 3, 1), (38, .invokevirtual 149, 3), (41, .ireturn, 1), (42, .aload_n 0, 1), (43, .iload_n 1, 1), (44, .aload_n 0, 1), (45, .iload_n 1, 1)] = true := by decide +kernel
theorem dkX9_toldAct_1 : dkq cX9_toldAct [(46, .iload_n 3, 1), (47, .invokevirtual 152, 3), (50, .iload_n 3, 1), (51, .invokevirtual 155, 3), (54, .ireturn, 1), (55, .iconst (-1), 1), (56, .ireturn, 1)] = true := by decide +kernel
theorem dkX9_shuttingKey_0 : dkq cX9_shuttingKey [(0, .iconst 0, 1), (1, .istore_n 3, 1), (2, .iload_n 3, 1), (3, .aload_n 0, 1), (4, .getfield 9, 3), (7, .iconst 2, 1), (8, .iaload, 1), (9, .if_icmp .ge 33, 3), (12, .aload_n 0, 1), (13, .iload_n 1, 1), (14, .iload_n 3, 1), (15, .invokevirtual 131, 3), (18, .ifCond .eq 18, 3), (21, .aload_n 0, 1), (22, .getfield 63, 3), (25, .iload_n 3, 1)] = true := by decide +kernel
theorem dkX9_shuttingKey_1 : dkq cX9_shuttingKey [(26, .iload_n 2, 1), (27, .invokevirtual 108, 3), (30, .iconst (-1), 1), (31, .if_icmp .ne 5, 3), (34, .iload_n 3, 1), (35, .ireturn, 1), (36, .iinc 3 1, 3), (39, .goto (-37), 3), (42, .iconst (-1), 1), (43, .ireturn, 1)] = true := by decide +kernel
theorem dkX9_holdersOf_0 : dkq cX9_holdersOf [(0, .aload_n 0, 1), (1, .getfield 67, 3), (4, .iload_n 1, 1), (5, .ishr, 1), (6, .iconst 1, 1), (7, .iand, 1), (8, .ifCond .eq 5, 3), (11, .iconst (-1), 1), (12, .ireturn, 1), (13, .iconst 0, 1), (14, .istore_n 2, 1), (15, .iconst 0, 1), (16, .istore_n 3, 1), (17, .iload_n 3, 1), (18, .aload_n 0, 1), (19, .getfield 9, 3)] = true := by decide +kernel
theorem dkX9_holdersOf_1 : dkq cX9_holdersOf [(22, .iconst 2, 1), (23, .iaload, 1), (24, .if_icmp .ge 55, 3), (27, .aload_n 0, 1), (28, .getfield 63, 3), (31, .iload_n 3, 1), (32, .iload_n 1, 1), (33, .invokevirtual 108, 3), (36, .iconst (-1), 1), (37, .if_icmp .eq 36, 3), (40, .aload_n 0, 1), (41, .iconst 3, 1), (42, .aload_n 0, 1), (43, .getfield 63, 3), (46, .getfield 84, 3), (49, .iload_n 3, 1)] = true := by decide +kernel
theorem dkX9_holdersOf_2 : dkq cX9_holdersOf [(50, .iaload, 1), (51, .invokevirtual 90, 3), (54, .ifCond .ne 5, 3), (57, .iconst (-1), 1), (58, .ireturn, 1), (59, .iload_n 2, 1), (60, .iconst 1, 1), (61, .aload_n 0, 1), (62, .getfield 63, 3), (65, .getfield 84, 3), (68, .iload_n 3, 1), (69, .iaload, 1), (70, .ishl, 1), (71, .ior, 1), (72, .istore_n 2, 1), (73, .iinc 3 1, 3)] = true := by decide +kernel
theorem dkX9_holdersOf_3 : dkq cX9_holdersOf [(76, .goto (-59), 3), (79, .iload_n 2, 1), (80, .ireturn, 1)] = true := by decide +kernel
theorem dkX9_workOf_0 : dkq cX9_workOf [(0, .iconst 0, 1), (1, .istore_n 2, 1), (2, .iconst 0, 1), (3, .istore_n 3, 1), (4, .iload_n 3, 1), (5, .aload_n 0, 1), (6, .getfield 9, 3), (9, .iconst 2, 1), (10, .iaload, 1), (11, .if_icmp .ge 41, 3), (14, .aload_n 0, 1), (15, .getfield 63, 3), (18, .iload_n 3, 1), (19, .iload_n 1, 1), (20, .invokevirtual 108, 3), (23, .istore 4, 2)] = true := by decide +kernel
theorem dkX9_workOf_1 : dkq cX9_workOf [(25, .iload 4, 2), (27, .iconst (-1), 1), (28, .if_icmp .eq 18, 3), (31, .iload_n 2, 1), (32, .aload_n 0, 1), (33, .getfield 63, 3), (36, .getfield 71, 3), (39, .iload_n 3, 1), (40, .iaload, 1), (41, .iload 4, 2), (43, .isub, 1), (44, .iadd, 1), (45, .istore_n 2, 1), (46, .iinc 3 1, 3), (49, .goto (-45), 3), (52, .iload_n 2, 1)] = true := by decide +kernel
theorem dkX9_workOf_2 : dkq cX9_workOf [(53, .ireturn, 1)] = true := by decide +kernel
theorem dkX10_measureWays_0 : dkq cX10_measureWays [(0, .iconst 0, 1), (1, .istore_n 3, 1), (2, .iload_n 3, 1), (3, .bipush 64, 2), (5, .if_icmp .ge 32, 3), (8, .aload_n 0, 1), (9, .getfield 9, 3), (12, .iload_n 3, 1), (13, .iload_n 3, 1), (14, .bipush 8, 2), (16, .idiv, 1), (17, .iload_n 3, 1), (18, .bipush 8, 2), (20, .irem, 1), (21, .if_icmp .ne 7, 3), (24, .iconst 0, 1)] = true := by decide +kernel
theorem dkX10_measureWays_1 : dkq cX10_measureWays [(25, .goto 5, 3), (28, .ldc 35, 2), (30, .iastore, 1), (31, .iinc 3 1, 3), (34, .goto (-32), 3), (37, .aload_n 1, 1), (38, .invokevirtual 36, 3), (41, .istore_n 3, 1), (42, .iconst 0, 1), (43, .istore 4, 2), (45, .iload 4, 2), (47, .aload_n 1, 1), (48, .getfield 18, 3), (51, .iconst 1, 1), (52, .iaload, 1), (53, .if_icmp .ge 77, 3)] = true := by decide +kernel
theorem dkX10_measureWays_2 : dkq cX10_measureWays [(56, .aload_n 1, 1), (57, .iload 4, 2), (59, .invokevirtual 40, 3), (62, .ifCond .ne 62, 3), (65, .iload_n 3, 1), (66, .iload 4, 2), (68, .ishr, 1), (69, .iconst 1, 1), (70, .iand, 1), (71, .ifCond .ne 53, 3), (74, .aload_n 0, 1), (75, .aload_n 1, 1), (76, .getfield 44, 3), (79, .iload 4, 2), (81, .iaload, 1), (82, .aload_n 1, 1)] = true := by decide +kernel
theorem dkX10_measureWays_3 : dkq cX10_measureWays [(83, .getfield 47, 3), (86, .iload 4, 2), (88, .iaload, 1), (89, .aload_n 1, 1), (90, .getfield 50, 3), (93, .iload 4, 2), (95, .iaload, 1), (96, .invokevirtual 53, 3), (99, .aload_n 0, 1), (100, .aload_n 1, 1), (101, .getfield 47, 3), (104, .iload 4, 2), (106, .iaload, 1), (107, .aload_n 1, 1), (108, .getfield 44, 3), (111, .iload 4, 2)] = true := by decide +kernel
theorem dkX10_measureWays_4 : dkq cX10_measureWays [(113, .iaload, 1), (114, .aload_n 1, 1), (115, .getfield 50, 3), (118, .iload 4, 2), (120, .iaload, 1), (121, .invokevirtual 53, 3), (124, .iinc 4 1, 3), (127, .goto (-82), 3), (130, .iconst 0, 1), (131, .istore 4, 2), (133, .iload 4, 2), (135, .iload_n 2, 1), (136, .if_icmp .ge 64, 3), (139, .iconst 0, 1), (140, .istore 5, 2), (142, .iload 5, 2)] = true := by decide +kernel
theorem dkX10_measureWays_5 : dkq cX10_measureWays [(144, .iload_n 2, 1), (145, .if_icmp .ge 49, 3), (148, .iconst 0, 1), (149, .istore 6, 2), (151, .iload 6, 2), (153, .iload_n 2, 1), (154, .if_icmp .ge 34, 3), (157, .aload_n 0, 1), (158, .iload 5, 2), (160, .iload 6, 2), (162, .aload_n 0, 1), (163, .iload 5, 2), (165, .iload 4, 2), (167, .invokevirtual 57, 3), (170, .aload_n 0, 1), (171, .iload 4, 2)] = true := by decide +kernel
theorem dkX10_measureWays_6 : dkq cX10_measureWays [(173, .iload 6, 2), (175, .invokevirtual 57, 3), (178, .iadd, 1), (179, .invokevirtual 53, 3), (182, .iinc 6 1, 3), (185, .goto (-34), 3), (188, .iinc 5 1, 3), (191, .goto (-49), 3), (194, .iinc 4 1, 3), (197, .goto (-64), 3), (200, .return_, 1)] = true := by decide +kernel
theorem dkX10_wayOf_0 : dkq cX10_wayOf [(0, .iload_n 1, 1), (1, .ifCond .lt 19, 3), (4, .iload_n 1, 1), (5, .bipush 8, 2), (7, .if_icmp .ge 13, 3), (10, .iload_n 2, 1), (11, .ifCond .lt 9, 3), (14, .iload_n 2, 1), (15, .bipush 8, 2), (17, .if_icmp .lt 6, 3), (20, .ldc 35, 2), (22, .ireturn, 1), (23, .aload_n 0, 1), (24, .getfield 9, 3), (27, .iload_n 1, 1), (28, .bipush 8, 2)] = true := by decide +kernel
theorem dkX10_wayOf_1 : dkq cX10_wayOf [(30, .imul, 1), (31, .iload_n 2, 1), (32, .iadd, 1), (33, .iaload, 1), (34, .ireturn, 1)] = true := by decide +kernel
theorem dkX10_shorten_0 : dkq cX10_shorten [(0, .iload_n 1, 1), (1, .ifCond .lt 45, 3), (4, .iload_n 1, 1), (5, .bipush 8, 2), (7, .if_icmp .ge 39, 3), (10, .iload_n 2, 1), (11, .ifCond .lt 35, 3), (14, .iload_n 2, 1), (15, .bipush 8, 2), (17, .if_icmp .ge 29, 3), (20, .aload_n 0, 1), (21, .getfield 9, 3), (24, .iload_n 1, 1), (25, .bipush 8, 2), (27, .imul, 1), (28, .iload_n 2, 1)] = true := by decide +kernel
theorem dkX10_shorten_1 : dkq cX10_shorten [(29, .iadd, 1), (30, .aload_n 0, 1), (31, .getfield 9, 3), (34, .iload_n 1, 1), (35, .bipush 8, 2), (37, .imul, 1), (38, .iload_n 2, 1), (39, .iadd, 1), (40, .iaload, 1), (41, .iload_n 3, 1), (42, .invokestatic 60, 3), (45, .iastore, 1), (46, .return_, 1)] = true := by decide +kernel
theorem dkX10_walk_0 : dkq cX10_walk [(0, .iconst 0, 1), (1, .istore_n 3, 1), (2, .iload_n 3, 1), (3, .sipush 2048, 3), (6, .if_icmp .ge 27, 3), (9, .iload_n 3, 1), (10, .iload_n 1, 1), (11, .iconst 1, 1), (12, .iadd, 1), (13, .bipush 8, 2), (15, .imul, 1), (16, .if_icmp .ge 17, 3), (19, .aload_n 0, 1), (20, .getfield 15, 3), (23, .iload_n 3, 1), (24, .ldc 35, 2)] = true := by decide +kernel
theorem dkX10_walk_1 : dkq cX10_walk [(26, .iastore, 1), (27, .iinc 3 1, 3), (30, .goto (-28), 3), (33, .iconst 1, 1), (34, .iload_n 2, 1), (35, .ishl, 1), (36, .bipush 8, 2), (38, .imul, 1), (39, .iload_n 2, 1), (40, .iadd, 1), (41, .istore_n 3, 1), (42, .iload_n 3, 1), (43, .ifCond .lt 10, 3), (46, .iload_n 3, 1), (47, .sipush 2048, 3), (50, .if_icmp .lt 6, 3)] = true := by decide +kernel
theorem dkX10_walk_2 : dkq cX10_walk [(53, .ldc 35, 2), (55, .ireturn, 1), (56, .aload_n 0, 1), (57, .getfield 15, 3), (60, .iload_n 3, 1), (61, .iconst 0, 1), (62, .iastore, 1), (63, .ldc 35, 2), (65, .istore 4, 2), (67, .iconst 0, 1), (68, .istore 5, 2), (70, .iload 5, 2), (72, .sipush 256, 3), (75, .if_icmp .ge 95, 3), (78, .iload 5, 2), (80, .iload_n 1, 1)] = true := by decide +kernel
theorem dkX10_walk_3 : dkq cX10_walk [(81, .if_icmp .gt 89, 3), (84, .iconst 0, 1), (85, .istore 6, 2), (87, .iload 6, 2), (89, .bipush 8, 2), (91, .if_icmp .ge 73, 3), (94, .aload_n 0, 1), (95, .getfield 15, 3), (98, .iload 5, 2), (100, .bipush 8, 2), (102, .imul, 1), (103, .iload 6, 2), (105, .iadd, 1), (106, .iaload, 1), (107, .istore 7, 2), (109, .iload 7, 2)] = true := by decide +kernel
theorem dkX10_walk_4 : dkq cX10_walk [(111, .ldc 35, 2), (113, .if_icmp .lt 6, 3), (116, .goto 42, 3), (119, .iload 5, 2), (121, .iload_n 1, 1), (122, .if_icmp .ne 20, 3), (125, .iload 4, 2), (127, .iload 7, 2), (129, .aload_n 0, 1), (130, .iload 6, 2), (132, .iload_n 2, 1), (133, .invokevirtual 57, 3), (136, .iadd, 1), (137, .invokestatic 60, 3), (140, .istore 4, 2), (142, .aload_n 0, 1)] = true := by decide +kernel
theorem dkX10_walk_5 : dkq cX10_walk [(143, .iload_n 1, 1), (144, .iload 5, 2), (146, .iconst (-1), 1), (147, .ixor, 1), (148, .iand, 1), (149, .iload 5, 2), (151, .iload 6, 2), (153, .iload 7, 2), (155, .invokevirtual 65, 3), (158, .iinc 6 1, 3), (161, .goto (-74), 3), (164, .iinc 5 1, 3), (167, .goto (-97), 3), (170, .iload 4, 2), (172, .ireturn, 1)] = true := by decide +kernel
theorem dkX10_walkOn_0 : dkq cX10_walkOn [(0, .iconst 0, 1), (1, .istore 5, 2), (3, .iload 5, 2), (5, .bipush 8, 2), (7, .if_icmp .ge 72, 3), (10, .iload_n 1, 1), (11, .iload 5, 2), (13, .ishr, 1), (14, .iconst 1, 1), (15, .iand, 1), (16, .ifCond .eq 57, 3), (19, .iload_n 2, 1), (20, .iconst 1, 1), (21, .iload 5, 2), (23, .ishl, 1), (24, .ior, 1)] = true := by decide +kernel
theorem dkX10_walkOn_1 : dkq cX10_walkOn [(25, .bipush 8, 2), (27, .imul, 1), (28, .iload 5, 2), (30, .iadd, 1), (31, .istore 6, 2), (33, .iload 6, 2), (35, .ifCond .lt 38, 3), (38, .iload 6, 2), (40, .sipush 2048, 3), (43, .if_icmp .ge 30, 3), (46, .aload_n 0, 1), (47, .getfield 15, 3), (50, .iload 6, 2), (52, .aload_n 0, 1), (53, .getfield 15, 3), (56, .iload 6, 2)] = true := by decide +kernel
theorem dkX10_walkOn_2 : dkq cX10_walkOn [(58, .iaload, 1), (59, .iload 4, 2), (61, .aload_n 0, 1), (62, .iload_n 3, 1), (63, .iload 5, 2), (65, .invokevirtual 57, 3), (68, .iadd, 1), (69, .invokestatic 60, 3), (72, .iastore, 1), (73, .iinc 5 1, 3), (76, .goto (-73), 3), (79, .return_, 1)] = true := by decide +kernel
