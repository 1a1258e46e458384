abbrev tr_r_X10_minutesOf (ta : Nat) (x2 : Int) (x3 : Int) (A : St) (z : Int) (u : St) : Prop := (∃ z1 : Int, z1 = A (ta + 1) (0 : Int).toNat ∧ (∃ z2 : Int, q_X9_isThere_1_0 ta x2 A z2 ∧ (((¬ z2 = 0) ∧ (∃ A6 : St, q_X10_measureWays ta z1 A A6 ∧ (∃ z9 : Int, z9 = oShl 1 z1 ∧ (∃ z10 : Int, z10 = oWrap (z9 - 1) ∧ (∃ z11 : Int, z11 = oAnd x3 z10 ∧ (∃ z12 : Int, z12 = oShl 1 x2 ∧ (∃ z13 : Int, z13 = oOr z11 z12 ∧ (∃ z14 : Int, ∃ A15 : St, q_X10_walk z13 x2 A6 z14 A15 ∧ (((1000000 ≤ z14) ∧ (z = (-1) ∧ u = A15)) ∨ ((¬ 1000000 ≤ z14) ∧ (z = z14 ∧ u = A15))))))))))) ∨ ((z2 = 0) ∧ (z = (-1) ∧ u = A)))))
def r_X10_minutesOf (ta : Nat) (x2 : Int) (x3 : Int) (A : St) (z : Int) (u : St) : Prop := tr_r_X10_minutesOf ta x2 x3 A z u
theorem u_r_X10_minutesOf {ta : Nat} {x2 : Int} {x3 : Int} {A : St} {z : Int} {u : St} (h : tr_r_X10_minutesOf ta x2 x3 A z u) : r_X10_minutesOf ta x2 x3 A z u := h
def q_X10_minutesOf (ta : Nat) (x2 : Int) (x3 : Int) (A : St) (z : Int) (u : St) : Prop := r_X10_minutesOf ta x2 x3 A z u ∧ IK u ∧ fk [28, 29] [] A u ∧ (-2147483648 ≤ z ∧ z ≤ 2147483647)
def ws_kc_X10_minutesOf : List Cond := .code yX10_minutesOf cX10_minutesOf 7 (some .int) :: WY
set_option maxHeartbeats 4000000 in
set_option maxRecDepth 100000 in
theorem kc_X10_minutesOf (l : Launch) (dC : Nat → ClassId) (dI : Nat → Nat → Nat) (cB cI cJ cZ cQ : ClassId) (aL aS : Nat) (q : Nat → Nat) (A : St) (ta : Nat) (x2 x3 : Int) (hI : IK A) (hta : isT ta) (hx2 : (-2147483648 : Int) ≤ x2 ∧ x2 ≤ 2147483647) (hx3 : (-2147483648 : Int) ≤ x3 ∧ x3 ≤ 2147483647) : KMi l yX10_minutesOf ws_kc_X10_minutesOf ({ frames := 4, cells := 0, slots := 0, locals := 94 } : Room) aL aS (dC, dI) (tyA cB cI cJ cZ cQ) (WK cB cI cJ cZ cQ q) A [.ref (q 27), .ref (q ta), .int (iI x2), .int (iI x3)] (fun z u => r_X10_minutesOf ta x2 x3 A z u ∧ IK u ∧ fk [28, 29] [] A u ∧ (-2147483648 ≤ z ∧ z ≤ 2147483647)) := by
  refine k_meti (cc := cX10_minutesOf) (maxL := 7) WK_adr (plainFor_of_name (by decide +kernel)) rfl (Nat.le_of_ble_eq_true rfl) (fun p e s m below meth c Q AS ls hx hb hml hown hts hK hDD hA0 hE RET H locs hP hS hl => ?_)
  have hown : s.vm.findClass RX10 = some m.cls := hown
  have hl : lv_has ls 7 [(0, .ref (q 27)), (1, .ref (q ta)), (2, .int (iI x2)), (3, .int (iI x3))] := hl
  have hiX9 : ∀ w ∈ u_ws RX9 TX9 16, w ∈ ws_kc_X10_minutesOf := fun w h => List.mem_cons_of_mem _ (wy_layX9 w h)
  refine lv_aload_n hx hb (dk_at dkX10_minutesOf_0 0 rfl) rfl (lv_at hl 1 rfl) ?_
  refine va_get (D := (dC, dI)) (ci := 9) (v := .ref (q (ta + 1))) (C := RX9) (T := TX9) (N := 16) hx hb hts hiX9 hown hK hP ta (wkT hta) rfl 0 (by decide) (hts _ (List.mem_cons_of_mem _ wkq_9_45)) (fun _ h9 => h9) rfl (dk_at dkX10_minutesOf_0 1 rfl) ?_
  refine lv_iconst (v := iI 0) hx hb (dk_at dkX10_minutesOf_0 2 rfl) (by decide +kernel) ?_
  refine x_iald (Wf := WK cB cI cJ cZ cQ q) hx hb hK hP (ta + 1) 1 (wkTc hta) rfl (by decide) (by decide) (dk_at dkX10_minutesOf_0 3 rfl) (fun z1 hz1 => ?_)
  have rz1 : (0 : Int) ≤ z1 ∧ z1 ≤ 8 := by rw [hz1]; exact irTc0 hta hI
  have gz1 := Hd.mk hz1
  refine lv_istore (lv' := [(4, .int (iI z1)), (0, .ref (q 27)), (1, .ref (q ta)), (2, .int (iI x2)), (3, .int (iI x3))]) hx hb (dk_at dkX10_minutesOf_0 4 rfl) hl (by decide) rfl (fun ls hl => ?_)
  refine lv_aload_n hx hb (dk_at dkX10_minutesOf_0 5 rfl) rfl (lv_at hl 2 rfl) ?_
  refine lv_iconst (v := iI 0) hx hb (dk_at dkX10_minutesOf_0 6 rfl) (by decide +kernel) ?_
  refine lv_iload_n hx hb (dk_at dkX10_minutesOf_0 7 rfl) rfl (lv_at hl 3 rfl) ?_
  refine k_calli (As := [.int (iI 0), .int (iI x2)]) (rest := []) ⟨hx, hb, hml, hown, hts⟩ hE (kc_X9_isThere_1_0 l dC dI cB cI cJ cZ cQ aL aS q _ ta x2 hI hta hx2) (cwV 2 hts (goodVk wkq_9_47 wkq_0_22 wkq_0_23 wkq_0_6 wkq_0_24) rfl rfl rfl (by decide +kernel) ⟨Nat.le_of_ble_eq_true rfl, Nat.le_of_ble_eq_true rfl⟩) hK hDD hA0 hP hS ta 9 (wkT hta) rfl rfl hl.1 (Nat.le_of_ble_eq_true rfl) (dk_at dkX10_minutesOf_0 8 rfl) (fun z2 A3 H locs hw4 hP hS => ?_)
  obtain ⟨rfl, hw4⟩ := hw4
  have ghw4 : q_X9_isThere_1_0 ta x2 A z2 := hw4
  have hw4 := hw4.2
  have rz2 : 0 ≤ z2 ∧ z2 ≤ 1 := hw4.1
  have hw4 := hw4.2
  refine lv_if_ne (tgt := 19) hx hb (dk_at dkX10_minutesOf_0 9 rfl) (by decide) (fun c5 => ?_) (fun c5 => ?_)
  · have c5 : ¬ z2 = 0 := mt (i_eq0 (rb rz2 (by decide) (by decide))).mpr c5
    have hw4b := hw4 (by omega)
    clear hw4
    refine lv_aload_n hx hb (dk_at dkX10_minutesOf_0 12 rfl) rfl (lv_at hl 1 rfl) ?_
    refine lv_aload_n hx hb (dk_at dkX10_minutesOf_0 13 rfl) rfl (lv_at hl 2 rfl) ?_
    refine lv_iload hx hb (dk_at dkX10_minutesOf_0 14 rfl) (lv_at hl 0 rfl) ?_
    refine k_callv (As := [.ref (q ta), .int (iI z1)]) (rest := []) ⟨hx, hb, hml, hown, hts⟩ hE (kc_X10_measureWays l dC dI cB cI cJ cZ cQ aL aS q _ ta z1 hI hta (rb rz1 (by decide) (by decide))) (cwV 2 hts (goodVk wkq_9_48 wkq_9_49 wkq_9_50 wkq_9_51 wkq_9_52) rfl rfl rfl (by decide +kernel) ⟨Nat.le_of_ble_eq_true rfl, Nat.le_of_ble_eq_true rfl⟩) hK hDD hA0 hP hS 27 10 (wkWT) rfl rfl hl.1 (Nat.le_of_ble_eq_true rfl) (dk_at dkX10_minutesOf_0 15 rfl) (fun A6 H locs hw7 hP hS => ?_)
    have ghw7 : q_X10_measureWays ta z1 A A6 := hw7
    obtain ⟨_, hI, hf8, hw7⟩ := hw7
    clear hw7
    refine lv_iload_n hx hb (dk_at dkX10_minutesOf_1 0 rfl) rfl (lv_at hl 4 rfl) ?_
    refine lv_iconst (v := iI 1) hx hb (dk_at dkX10_minutesOf_1 1 rfl) (by decide +kernel) ?_
    refine lv_iload hx hb (dk_at dkX10_minutesOf_1 2 rfl) (lv_at hl 0 rfl) ?_
    refine lv_ishl hx hb (dk_at dkX10_minutesOf_1 3 rfl) ?_
    refine x_absE (fun z9 gz9 hz9 => ?_)
    refine lv_iconst (v := iI 1) hx hb (dk_at dkX10_minutesOf_1 4 rfl) (by decide +kernel) ?_
    refine x_subv (v := z9 - 1) hx hb (dk_at dkX10_minutesOf_1 5 rfl) (by omega) ?_
    refine x_absE (fun z10 gz10 hz10 => ?_)
    refine lv_iand hx hb (dk_at dkX10_minutesOf_1 6 rfl) ?_
    refine x_absE (fun z11 gz11 hz11 => ?_)
    refine lv_iconst (v := iI 1) hx hb (dk_at dkX10_minutesOf_1 7 rfl) (by decide +kernel) ?_
    refine lv_iload_n hx hb (dk_at dkX10_minutesOf_1 8 rfl) rfl (lv_at hl 3 rfl) ?_
    refine lv_ishl hx hb (dk_at dkX10_minutesOf_1 9 rfl) ?_
    refine x_absE (fun z12 gz12 hz12 => ?_)
    refine lv_ior hx hb (dk_at dkX10_minutesOf_1 10 rfl) ?_
    refine x_absE (fun z13 gz13 hz13 => ?_)
    refine lv_istore (lv' := [(5, .int (iI z13)), (4, .int (iI z1)), (0, .ref (q 27)), (1, .ref (q ta)), (2, .int (iI x2)), (3, .int (iI x3))]) hx hb (dk_at dkX10_minutesOf_1 11 rfl) hl (by decide) rfl (fun ls hl => ?_)
    refine lv_aload_n hx hb (dk_at dkX10_minutesOf_1 12 rfl) rfl (lv_at hl 2 rfl) ?_
    refine lv_iload hx hb (dk_at dkX10_minutesOf_1 13 rfl) (lv_at hl 0 rfl) ?_
    refine lv_iload_n hx hb (dk_at dkX10_minutesOf_1 14 rfl) rfl (lv_at hl 4 rfl) ?_
    refine k_calli (As := [.int (iI z13), .int (iI x2)]) (rest := []) ⟨hx, hb, hml, hown, hts⟩ hE (kc_X10_walk l dC dI cB cI cJ cZ cQ aL aS q _ z13 x2 hI hz13 hx2) (cwV 2 hts (goodVk wkq_10_8 wkq_10_9 wkq_10_10 wkq_9_51 wkq_10_11) rfl rfl rfl (by decide +kernel) ⟨Nat.le_of_ble_eq_true rfl, Nat.le_of_ble_eq_true rfl⟩) hK hDD hA0 hP hS 27 10 (wkWT) rfl rfl hl.1 (Nat.le_of_ble_eq_true rfl) (dk_at dkX10_minutesOf_1 15 rfl) (fun z14 A15 H locs hw16 hP hS => ?_)
    have ghw16 : q_X10_walk z13 x2 A6 z14 A15 := hw16
    obtain ⟨_, hI, hf17, hw16⟩ := hw16
    refine lv_istore (lv' := [(6, .int (iI z14)), (5, .int (iI z13)), (4, .int (iI z1)), (0, .ref (q 27)), (1, .ref (q ta)), (2, .int (iI x2)), (3, .int (iI x3))]) hx hb (dk_at dkX10_minutesOf_2 0 rfl) hl (by decide) rfl (fun ls hl => ?_)
    refine lv_iload hx hb (dk_at dkX10_minutesOf_2 1 rfl) (lv_at hl 0 rfl) ?_
    refine lv_ldc (v := 1000000) hx hb hown (hts _ (List.mem_cons_of_mem _ wkq_9_46)) (dk_at dkX10_minutesOf_2 2 rfl) ?_
    refine tp_i (y := iI 1000000) (by decide +kernel) ?_
    refine lv_icmp_ge (tgt := 61) hx hb (dk_at dkX10_minutesOf_2 3 rfl) (by decide) (fun c18 => ?_) (fun c18 => ?_)
    · have c18 : 1000000 ≤ z14 := (i_le ⟨by decide, by decide⟩ hw16).mp c18
      refine lv_iconst (v := iI (-1)) hx hb (dk_at dkX10_minutesOf_2 6 rfl) (by decide +kernel) ?_
      exact RET (-1) _ _ _ _ _ ⟨(u_r_X10_minutesOf ⟨z1, gz1.out, ⟨z2, ghw4, (Or.inl ⟨c5, ⟨A6, ghw7, ⟨z9, gz9.out, ⟨z10, gz10.out, ⟨z11, gz11.out, ⟨z12, gz12.out, ⟨z13, gz13.out, ⟨z14, A15, ghw16, (Or.inl ⟨c18, ⟨rfl, rfl⟩⟩)⟩⟩⟩⟩⟩⟩⟩⟩)⟩⟩), hI, fk.trans (fk.trans (fk.rf) hf8 rfl rfl) hf17 rfl rfl, ⟨by decide, by decide⟩⟩ hP hS (dk_at dkX10_minutesOf_2 7 rfl)
    · have c18 : ¬ 1000000 ≤ z14 := mt (i_le ⟨by decide, by decide⟩ hw16).mpr c18
      refine lv_iload hx hb (dk_at dkX10_minutesOf_2 4 rfl) (lv_at hl 0 rfl) ?_
      refine lv_goto (tgt := 62) hx hb (dk_at dkX10_minutesOf_2 5 rfl) (by decide) ?_
      exact RET z14 _ _ _ _ _ ⟨(u_r_X10_minutesOf ⟨z1, gz1.out, ⟨z2, ghw4, (Or.inl ⟨c5, ⟨A6, ghw7, ⟨z9, gz9.out, ⟨z10, gz10.out, ⟨z11, gz11.out, ⟨z12, gz12.out, ⟨z13, gz13.out, ⟨z14, A15, ghw16, (Or.inr ⟨c18, ⟨rfl, rfl⟩⟩)⟩⟩⟩⟩⟩⟩⟩⟩)⟩⟩), hI, fk.trans (fk.trans (fk.rf) hf8 rfl rfl) hf17 rfl rfl, hw16⟩ hP hS (dk_at dkX10_minutesOf_2 7 rfl)
  · have c5 : z2 = 0 := (i_eq0 (rb rz2 (by decide) (by decide))).mp c5
    clear hw4
    refine lv_iconst (v := iI (-1)) hx hb (dk_at dkX10_minutesOf_0 10 rfl) (by decide +kernel) ?_
    exact RET (-1) _ _ _ _ _ ⟨(u_r_X10_minutesOf ⟨z1, gz1.out, ⟨z2, ghw4, (Or.inr ⟨c5, ⟨rfl, rfl⟩⟩)⟩⟩), hI, fk.rf, ⟨by decide, by decide⟩⟩ hP hS (dk_at dkX10_minutesOf_0 11 rfl)

abbrev tr_r_X11_refused (x1 : Int) (A : St) (z : Int) (u : St) : Prop := (((x1 < 0) ∧ (z = (-1) ∧ u = A)) ∨ ((¬ x1 < 0) ∧ (((6 ≤ x1) ∧ (z = (-1) ∧ u = A)) ∨ ((¬ 6 ≤ x1) ∧ (∃ z3 : Int, z3 = A 50 (x1).toNat ∧ (∃ z4 : Int, z4 = oWrap (z3 + 1) ∧ (∃ A5 : St, A5 = stA A 50 (x1).toNat z4 ∧ (z = (-1) ∧ u = A5))))))))
def r_X11_refused (x1 : Int) (A : St) (z : Int) (u : St) : Prop := tr_r_X11_refused x1 A z u
theorem u_r_X11_refused {x1 : Int} {A : St} {z : Int} {u : St} (h : tr_r_X11_refused x1 A z u) : r_X11_refused x1 A z u := h
def q_X11_refused (x1 : Int) (A : St) (z : Int) (u : St) : Prop := r_X11_refused x1 A z u ∧ IK u ∧ fk [50] [] A u ∧ (z = -1)
def ws_kc_X11_refused : List Cond := .code yX11_refused cX11_refused 2 (some .int) :: WY
set_option maxHeartbeats 4000000 in
set_option maxRecDepth 100000 in
theorem kc_X11_refused (l : Launch) (dC : Nat → ClassId) (dI : Nat → Nat → Nat) (cB cI cJ cZ cQ : ClassId) (aL aS : Nat) (q : Nat → Nat) (A : St) (x1 : Int) (hI : IK A) (hx1 : (-2147483648 : Int) ≤ x1 ∧ x1 ≤ 2147483647) : KMi l yX11_refused ws_kc_X11_refused ({ frames := 0, cells := 0, slots := 0, locals := 0 } : Room) aL aS (dC, dI) (tyA cB cI cJ cZ cQ) (WK cB cI cJ cZ cQ q) A [.ref (q 0), .int (iI x1)] (fun z u => r_X11_refused x1 A z u ∧ IK u ∧ fk [50] [] A u ∧ (z = -1)) := by
  refine k_meti (cc := cX11_refused) (maxL := 2) WK_adr (plainFor_of_name (by decide +kernel)) rfl (Nat.le_of_ble_eq_true rfl) (fun p e s m below meth c Q AS ls hx hb hml hown hts hK hDD hA0 hE RET H locs hP hS hl => ?_)
  have hown : s.vm.findClass RX11 = some m.cls := hown
  have hl : lv_has ls 2 [(0, .ref (q 0)), (1, .int (iI x1))] := hl
  have hiX11 : ∀ w ∈ u_ws RX11 TX11 11, w ∈ ws_kc_X11_refused := fun w h => List.mem_cons_of_mem _ (wy_layX11 w h)
  refine lv_iload_n hx hb (dk_at dkX11_refused_0 0 rfl) rfl (lv_at hl 1 rfl) ?_
  refine lv_if_lt (tgt := 20) hx hb (dk_at dkX11_refused_0 1 rfl) (by decide) (fun c1 => ?_) (fun c1 => ?_)
  · have c1 : x1 < 0 := (i_lt0 hx1).mp c1
    refine lv_iconst (v := iI (-1)) hx hb (dk_at dkX11_refused_0 13 rfl) (by decide +kernel) ?_
    exact RET (-1) _ _ _ _ _ ⟨(u_r_X11_refused (Or.inl ⟨c1, ⟨rfl, rfl⟩⟩)), hI, fk.rf, by omega⟩ hP hS (dk_at dkX11_refused_0 14 rfl)
  · have c1 : ¬ x1 < 0 := mt (i_lt0 hx1).mpr c1
    refine lv_iload_n hx hb (dk_at dkX11_refused_0 2 rfl) rfl (lv_at hl 1 rfl) ?_
    refine lv_bipush (v := iI 6) hx hb (dk_at dkX11_refused_0 3 rfl) (by decide +kernel) ?_
    refine lv_icmp_ge (tgt := 20) hx hb (dk_at dkX11_refused_0 4 rfl) (by decide) (fun c2 => ?_) (fun c2 => ?_)
    · have c2 : 6 ≤ x1 := (i_le ⟨by decide, by decide⟩ hx1).mp c2
      refine lv_iconst (v := iI (-1)) hx hb (dk_at dkX11_refused_0 13 rfl) (by decide +kernel) ?_
      exact RET (-1) _ _ _ _ _ ⟨(u_r_X11_refused (Or.inr ⟨c1, (Or.inl ⟨c2, ⟨rfl, rfl⟩⟩)⟩)), hI, fk.rf, by omega⟩ hP hS (dk_at dkX11_refused_0 14 rfl)
    · have c2 : ¬ 6 ≤ x1 := mt (i_le ⟨by decide, by decide⟩ hx1).mpr c2
      refine lv_aload_n hx hb (dk_at dkX11_refused_0 5 rfl) rfl (lv_at hl 0 rfl) ?_
      refine va_get (D := (dC, dI)) (ci := 11) (v := .ref (q 50)) (C := RX11) (T := TX11) (N := 11) hx hb hts hiX11 hown hK hP 0 (wkK) rfl 8 (by decide) (hts _ (List.mem_cons_of_mem _ wkq_10_28)) (fun _ h9 => h9) rfl (dk_at dkX11_refused_0 6 rfl) ?_
      refine lv_iload_n hx hb (dk_at dkX11_refused_0 7 rfl) rfl (lv_at hl 1 rfl) ?_
      refine lv_dup2_11 hx hb (dk_at dkX11_refused_0 8 rfl) rfl rfl ?_
      refine x_iald (Wf := WK cB cI cJ cZ cQ q) hx hb hK hP 50 1 (wkKr) rfl (by omega) (by decide) (dk_at dkX11_refused_0 9 rfl) (fun z3 hz3 => ?_)
      have rz3 : (-2147483648 : Int) ≤ z3 ∧ z3 ≤ 2147483647 := by rw [hz3]; exact irKr hI
      have gz3 := Hd.mk hz3
      refine lv_iconst (v := iI 1) hx hb (dk_at dkX11_refused_0 10 rfl) (by decide +kernel) ?_
      refine x_addv (v := z3 + 1) hx hb (dk_at dkX11_refused_0 11 rfl) (by omega) ?_
      refine x_absE (fun z4 gz4 hz4 => ?_)
      refine k_iast (Wf := WK cB cI cJ cZ cQ q) hx hb hK hP hDD hS 50 1 (wkKr) rfl (by omega) (by decide) (dk_at dkX11_refused_0 12 rfl) (wsKr) (fun H locs A5 hA5 hP hS => ?_)
      have hI := isKr hA5 hI (show (-2147483648 : Int) ≤ z4 ∧ z4 ≤ 2147483647 from hz4)
      refine lv_iconst (v := iI (-1)) hx hb (dk_at dkX11_refused_0 13 rfl) (by decide +kernel) ?_
      exact RET (-1) _ _ _ _ _ ⟨(u_r_X11_refused (Or.inr ⟨c1, (Or.inr ⟨c2, ⟨z3, gz3.out, ⟨z4, gz4.out, ⟨A5, hA5, ⟨rfl, rfl⟩⟩⟩⟩⟩)⟩)), hI, fk.da (fk.rf) hA5 rfl, by omega⟩ hP hS (dk_at dkX11_refused_0 14 rfl)

abbrev tr_r_X11_feed (x1 : Int) (x2 : Int) (x3 : Int) (x4 : Int) (x5 : Int) (A : St) (z : Int) (u : St) : Prop := (∃ z2 : Int, q_X7_hasRoom A z2 ∧ (((¬ z2 = 0) ∧ (∃ A6 : St, q_X7_put x1 A A6 ∧ (∃ A10 : St, q_X7_put x2 A6 A10 ∧ (∃ A14 : St, q_X7_put x3 A10 A14 ∧ (∃ A18 : St, q_X7_put x4 A14 A18 ∧ (∃ A22 : St, q_X7_put x5 A18 A22 ∧ (z = (A22 1 1) ∧ u = A22))))))) ∨ ((z2 = 0) ∧ (∃ z26 : Int, ∃ A27 : St, q_X11_refused 0 A z26 A27 ∧ (z = z26 ∧ u = A27)))))
def r_X11_feed (x1 : Int) (x2 : Int) (x3 : Int) (x4 : Int) (x5 : Int) (A : St) (z : Int) (u : St) : Prop := tr_r_X11_feed x1 x2 x3 x4 x5 A z u
theorem u_r_X11_feed {x1 : Int} {x2 : Int} {x3 : Int} {x4 : Int} {x5 : Int} {A : St} {z : Int} {u : St} (h : tr_r_X11_feed x1 x2 x3 x4 x5 A z u) : r_X11_feed x1 x2 x3 x4 x5 A z u := h
def ws_kc_X11_feed : List Cond := .code yX11_feed cX11_feed 6 (some .int) :: WY
set_option maxHeartbeats 4000000 in
set_option maxRecDepth 100000 in
theorem kc_X11_feed (l : Launch) (dC : Nat → ClassId) (dI : Nat → Nat → Nat) (cB cI cJ cZ cQ : ClassId) (aL aS : Nat) (q : Nat → Nat) (A : St) (x1 x2 x3 x4 x5 : Int) (hI : IK A) (hx1 : (-2147483648 : Int) ≤ x1 ∧ x1 ≤ 2147483647) (hx2 : (-2147483648 : Int) ≤ x2 ∧ x2 ≤ 2147483647) (hx3 : (-2147483648 : Int) ≤ x3 ∧ x3 ≤ 2147483647) (hx4 : (-2147483648 : Int) ≤ x4 ∧ x4 ≤ 2147483647) (hx5 : (-2147483648 : Int) ≤ x5 ∧ x5 ≤ 2147483647) : KMi l yX11_feed ws_kc_X11_feed ({ frames := 1, cells := 0, slots := 0, locals := 22 } : Room) aL aS (dC, dI) (tyA cB cI cJ cZ cQ) (WK cB cI cJ cZ cQ q) A [.ref (q 0), .int (iI x1), .int (iI x2), .int (iI x3), .int (iI x4), .int (iI x5)] (fun z u => r_X11_feed x1 x2 x3 x4 x5 A z u ∧ IK u ∧ fk [2, 50] [(1, 1)] A u ∧ ((1600 < A 1 1 + 20 ∧ z = -1 ∧ u 1 1 = A 1 1) ∨ (A 1 1 + 20 ≤ 1600 ∧ z = u 1 1 ∧ u 1 1 = A 1 1 + 20))) := by
  refine k_meti (cc := cX11_feed) (maxL := 6) WK_adr (plainFor_of_name (by decide +kernel)) rfl (Nat.le_of_ble_eq_true rfl) (fun p e s m below meth c Q AS ls hx hb hml hown hts hK hDD hA0 hE RET H locs hP hS hl => ?_)
  have hown : s.vm.findClass RX11 = some m.cls := hown
  have hl : lv_has ls 6 [(0, .ref (q 0)), (1, .int (iI x1)), (2, .int (iI x2)), (3, .int (iI x3)), (4, .int (iI x4)), (5, .int (iI x5))] := hl
  have hiX11 : ∀ w ∈ u_ws RX11 TX11 11, w ∈ ws_kc_X11_feed := fun w h => List.mem_cons_of_mem _ (wy_layX11 w h)
  have hiX7 : ∀ w ∈ u_ws RX7 TX7 2, w ∈ ws_kc_X11_feed := fun w h => List.mem_cons_of_mem _ (wy_layX7 w h)
  refine lv_aload_n hx hb (dk_at dkX11_feed_0 0 rfl) rfl (lv_at hl 0 rfl) ?_
  refine va_get (D := (dC, dI)) (ci := 11) (v := .ref (q 1)) (C := RX11) (T := TX11) (N := 11) hx hb hts hiX11 hown hK hP 0 (wkK) rfl 0 (by decide) (hts _ (List.mem_cons_of_mem _ wkq_10_18)) (fun _ h9 => h9) rfl (dk_at dkX11_feed_0 1 rfl) ?_
  have r1 : (0 : Int) ≤ (A 1 1) ∧ (A 1 1) ≤ 1600 := irTP_1 hI
  refine k_calli (As := []) (rest := []) ⟨hx, hb, hml, hown, hts⟩ hE (kc_X7_hasRoom l dC dI cB cI cJ cZ cQ aL aS q _ hI) (cwV 0 hts (goodVk wkq_10_20 wkq_10_21 wkq_10_22 wkq_4_41 wkq_8_45) rfl rfl rfl (by decide +kernel) ⟨Nat.le_of_ble_eq_true rfl, Nat.le_of_ble_eq_true rfl⟩) hK hDD hA0 hP hS 1 7 (wkTP) rfl rfl hl.1 (Nat.le_of_ble_eq_true rfl) (dk_at dkX11_feed_0 2 rfl) (fun z2 A3 H locs hw4 hP hS => ?_)
  obtain ⟨rfl, hw4⟩ := hw4
  have ghw4 : q_X7_hasRoom A z2 := hw4
  have hw4 := hw4.2
  have rz2 : 0 ≤ z2 ∧ z2 ≤ 1 := hw4.1
  have hw4 := hw4.2
  refine lv_if_ne (tgt := 16) hx hb (dk_at dkX11_feed_0 3 rfl) (by decide) (fun c5 => ?_) (fun c5 => ?_)
  · have c5 : ¬ z2 = 0 := mt (i_eq0 (rb rz2 (by decide) (by decide))).mpr c5
    refine lv_aload_n hx hb (dk_at dkX11_feed_0 8 rfl) rfl (lv_at hl 0 rfl) ?_
    refine va_get (D := (dC, dI)) (ci := 11) (v := .ref (q 1)) (C := RX11) (T := TX11) (N := 11) hx hb hts hiX11 hown hK hP 0 (wkK) rfl 0 (by decide) (hts _ (List.mem_cons_of_mem _ wkq_10_18)) (fun _ h9 => h9) rfl (dk_at dkX11_feed_0 9 rfl) ?_
    refine lv_iload_n hx hb (dk_at dkX11_feed_0 10 rfl) rfl (lv_at hl 1 rfl) ?_
    refine k_callv (As := [.int (iI x1)]) (rest := []) ⟨hx, hb, hml, hown, hts⟩ hE (kc_X7_put l dC dI cB cI cJ cZ cQ aL aS q _ x1 hI hx1 (by omega)) (cwV 1 hts (goodVk wkq_10_29 wkq_10_30 wkq_10_31 wkq_4_41 wkq_8_46) rfl rfl rfl (by decide +kernel) ⟨Nat.le_of_ble_eq_true rfl, Nat.le_of_ble_eq_true rfl⟩) hK hDD hA0 hP hS 1 7 (wkTP) rfl rfl hl.1 (Nat.le_of_ble_eq_true rfl) (dk_at dkX11_feed_0 11 rfl) (fun A6 H locs hw7 hP hS => ?_)
    have ghw7 : q_X7_put x1 A A6 := hw7
    obtain ⟨_, hI, hf8, hw7⟩ := hw7
    have r9 : (0 : Int) ≤ (A6 1 1) ∧ (A6 1 1) ≤ 1600 := irTP_1 hI
    refine lv_aload_n hx hb (dk_at dkX11_feed_0 12 rfl) rfl (lv_at hl 0 rfl) ?_
    refine va_get (D := (dC, dI)) (ci := 11) (v := .ref (q 1)) (C := RX11) (T := TX11) (N := 11) hx hb hts hiX11 hown hK hP 0 (wkK) rfl 0 (by decide) (hts _ (List.mem_cons_of_mem _ wkq_10_18)) (fun _ h9 => h9) rfl (dk_at dkX11_feed_0 13 rfl) ?_
    refine lv_iload_n hx hb (dk_at dkX11_feed_0 14 rfl) rfl (lv_at hl 2 rfl) ?_
    refine k_callv (As := [.int (iI x2)]) (rest := []) ⟨hx, hb, hml, hown, hts⟩ hE (kc_X7_put l dC dI cB cI cJ cZ cQ aL aS q _ x2 hI hx2 (by omega)) (cwV 1 hts (goodVk wkq_10_29 wkq_10_30 wkq_10_31 wkq_4_41 wkq_8_46) rfl rfl rfl (by decide +kernel) ⟨Nat.le_of_ble_eq_true rfl, Nat.le_of_ble_eq_true rfl⟩) hK hDD hA0 hP hS 1 7 (wkTP) rfl rfl hl.1 (Nat.le_of_ble_eq_true rfl) (dk_at dkX11_feed_0 15 rfl) (fun A10 H locs hw11 hP hS => ?_)
    have ghw11 : q_X7_put x2 A6 A10 := hw11
    obtain ⟨_, hI, hf12, hw11⟩ := hw11
    have r13 : (0 : Int) ≤ (A10 1 1) ∧ (A10 1 1) ≤ 1600 := irTP_1 hI
    refine lv_aload_n hx hb (dk_at dkX11_feed_1 0 rfl) rfl (lv_at hl 0 rfl) ?_
    refine va_get (D := (dC, dI)) (ci := 11) (v := .ref (q 1)) (C := RX11) (T := TX11) (N := 11) hx hb hts hiX11 hown hK hP 0 (wkK) rfl 0 (by decide) (hts _ (List.mem_cons_of_mem _ wkq_10_18)) (fun _ h9 => h9) rfl (dk_at dkX11_feed_1 1 rfl) ?_
    refine lv_iload_n hx hb (dk_at dkX11_feed_1 2 rfl) rfl (lv_at hl 3 rfl) ?_
    refine k_callv (As := [.int (iI x3)]) (rest := []) ⟨hx, hb, hml, hown, hts⟩ hE (kc_X7_put l dC dI cB cI cJ cZ cQ aL aS q _ x3 hI hx3 (by omega)) (cwV 1 hts (goodVk wkq_10_29 wkq_10_30 wkq_10_31 wkq_4_41 wkq_8_46) rfl rfl rfl (by decide +kernel) ⟨Nat.le_of_ble_eq_true rfl, Nat.le_of_ble_eq_true rfl⟩) hK hDD hA0 hP hS 1 7 (wkTP) rfl rfl hl.1 (Nat.le_of_ble_eq_true rfl) (dk_at dkX11_feed_1 3 rfl) (fun A14 H locs hw15 hP hS => ?_)
    have ghw15 : q_X7_put x3 A10 A14 := hw15
    obtain ⟨_, hI, hf16, hw15⟩ := hw15
    have r17 : (0 : Int) ≤ (A14 1 1) ∧ (A14 1 1) ≤ 1600 := irTP_1 hI
    refine lv_aload_n hx hb (dk_at dkX11_feed_1 4 rfl) rfl (lv_at hl 0 rfl) ?_
    refine va_get (D := (dC, dI)) (ci := 11) (v := .ref (q 1)) (C := RX11) (T := TX11) (N := 11) hx hb hts hiX11 hown hK hP 0 (wkK) rfl 0 (by decide) (hts _ (List.mem_cons_of_mem _ wkq_10_18)) (fun _ h9 => h9) rfl (dk_at dkX11_feed_1 5 rfl) ?_
    refine lv_iload hx hb (dk_at dkX11_feed_1 6 rfl) (lv_at hl 4 rfl) ?_
    refine k_callv (As := [.int (iI x4)]) (rest := []) ⟨hx, hb, hml, hown, hts⟩ hE (kc_X7_put l dC dI cB cI cJ cZ cQ aL aS q _ x4 hI hx4 (by omega)) (cwV 1 hts (goodVk wkq_10_29 wkq_10_30 wkq_10_31 wkq_4_41 wkq_8_46) rfl rfl rfl (by decide +kernel) ⟨Nat.le_of_ble_eq_true rfl, Nat.le_of_ble_eq_true rfl⟩) hK hDD hA0 hP hS 1 7 (wkTP) rfl rfl hl.1 (Nat.le_of_ble_eq_true rfl) (dk_at dkX11_feed_1 7 rfl) (fun A18 H locs hw19 hP hS => ?_)
    have ghw19 : q_X7_put x4 A14 A18 := hw19
    obtain ⟨_, hI, hf20, hw19⟩ := hw19
    have r21 : (0 : Int) ≤ (A18 1 1) ∧ (A18 1 1) ≤ 1600 := irTP_1 hI
    refine lv_aload_n hx hb (dk_at dkX11_feed_1 8 rfl) rfl (lv_at hl 0 rfl) ?_
    refine va_get (D := (dC, dI)) (ci := 11) (v := .ref (q 1)) (C := RX11) (T := TX11) (N := 11) hx hb hts hiX11 hown hK hP 0 (wkK) rfl 0 (by decide) (hts _ (List.mem_cons_of_mem _ wkq_10_18)) (fun _ h9 => h9) rfl (dk_at dkX11_feed_1 9 rfl) ?_
    refine lv_iload hx hb (dk_at dkX11_feed_1 10 rfl) (lv_at hl 5 rfl) ?_
    refine k_callv (As := [.int (iI x5)]) (rest := []) ⟨hx, hb, hml, hown, hts⟩ hE (kc_X7_put l dC dI cB cI cJ cZ cQ aL aS q _ x5 hI hx5 (by omega)) (cwV 1 hts (goodVk wkq_10_29 wkq_10_30 wkq_10_31 wkq_4_41 wkq_8_46) rfl rfl rfl (by decide +kernel) ⟨Nat.le_of_ble_eq_true rfl, Nat.le_of_ble_eq_true rfl⟩) hK hDD hA0 hP hS 1 7 (wkTP) rfl rfl hl.1 (Nat.le_of_ble_eq_true rfl) (dk_at dkX11_feed_1 11 rfl) (fun A22 H locs hw23 hP hS => ?_)
    have ghw23 : q_X7_put x5 A18 A22 := hw23
    obtain ⟨_, hI, hf24, hw23⟩ := hw23
    have r25 : (0 : Int) ≤ (A22 1 1) ∧ (A22 1 1) ≤ 1600 := irTP_1 hI
    refine lv_aload_n hx hb (dk_at dkX11_feed_1 12 rfl) rfl (lv_at hl 0 rfl) ?_
    refine va_get (D := (dC, dI)) (ci := 11) (v := .ref (q 1)) (C := RX11) (T := TX11) (N := 11) hx hb hts hiX11 hown hK hP 0 (wkK) rfl 0 (by decide) (hts _ (List.mem_cons_of_mem _ wkq_10_18)) (fun _ h9 => h9) rfl (dk_at dkX11_feed_1 13 rfl) ?_
    refine va_get (D := (dC, dI)) (ci := 7) (v := .int (iI (A22 1 1))) (C := RX7) (T := TX7) (N := 2) hx hb hts hiX7 hown hK hP 1 (wkTP) rfl 1 (by decide) (hts _ (List.mem_cons_of_mem _ wkq_10_19)) (fun _ h9 => h9) rfl (dk_at dkX11_feed_1 14 rfl) ?_
    exact RET (A22 1 1) _ _ _ _ _ ⟨(u_r_X11_feed ⟨z2, ghw4, (Or.inl ⟨c5, ⟨A6, ghw7, ⟨A10, ghw11, ⟨A14, ghw15, ⟨A18, ghw19, ⟨A22, ghw23, ⟨rfl, rfl⟩⟩⟩⟩⟩⟩⟩)⟩), hI, fk.trans (fk.trans (fk.trans (fk.trans (fk.trans (fk.rf) hf8 rfl rfl) hf12 rfl rfl) hf16 rfl rfl) hf20 rfl rfl) hf24 rfl rfl, by omega⟩ hP hS (dk_at dkX11_feed_1 15 rfl)
  · have c5 : z2 = 0 := (i_eq0 (rb rz2 (by decide) (by decide))).mp c5
    refine lv_aload_n hx hb (dk_at dkX11_feed_0 4 rfl) rfl (lv_at hl 0 rfl) ?_
    refine lv_iconst (v := iI 0) hx hb (dk_at dkX11_feed_0 5 rfl) (by decide +kernel) ?_
    refine k_calli (As := [.int (iI 0)]) (rest := []) ⟨hx, hb, hml, hown, hts⟩ hE (kc_X11_refused l dC dI cB cI cJ cZ cQ aL aS q _ 0 hI ⟨by decide, by decide⟩) (cwV 1 hts (goodVk wkq_10_23 wkq_10_24 wkq_10_25 wkq_10_26 wkq_10_27) rfl rfl rfl (by decide +kernel) ⟨Nat.le_of_ble_eq_true rfl, Nat.le_of_ble_eq_true rfl⟩) hK hDD hA0 hP hS 0 11 (wkK) rfl rfl hl.1 (Nat.le_of_ble_eq_true rfl) (dk_at dkX11_feed_0 6 rfl) (fun z26 A27 H locs hw28 hP hS => ?_)
    have ghw28 : q_X11_refused 0 A z26 A27 := hw28
    obtain ⟨_, hI, hf29, hw28⟩ := hw28
    have e30 : A27 1 1 = (A 1 1) := (hf29 1 1 rfl rfl)
    exact RET z26 _ _ _ _ _ ⟨(u_r_X11_feed ⟨z2, ghw4, (Or.inr ⟨c5, ⟨z26, A27, ghw28, ⟨rfl, rfl⟩⟩⟩)⟩), hI, fk.trans (fk.rf) hf29 rfl rfl, by omega⟩ hP hS (dk_at dkX11_feed_0 7 rfl)

abbrev tr_d_X11_end_1 (A : St) (z : Int) (u : St) : Prop := (∃ z9 : Int, ∃ A10 : St, q_X11_refused 0 A z9 A10 ∧ (z = 0 ∧ u = A10))
def d_X11_end_1 (A : St) (z : Int) (u : St) : Prop := tr_d_X11_end_1 A z u
theorem u_d_X11_end_1 {A : St} {z : Int} {u : St} (h : tr_d_X11_end_1 A z u) : d_X11_end_1 A z u := h
abbrev tr_r_X11_end (x1 : Int) (A : St) (z : Int) (u : St) : Prop := (((x1 < 0) ∧ (d_X11_end_1 A z u)) ∨ ((¬ x1 < 0) ∧ (((x1 ≤ (A 1 1)) ∧ (∃ A5 : St, A5 = stA A 1 1 x1 ∧ (z = 1 ∧ u = A5))) ∨ ((¬ x1 ≤ (A 1 1)) ∧ (d_X11_end_1 A z u)))))
def r_X11_end (x1 : Int) (A : St) (z : Int) (u : St) : Prop := tr_r_X11_end x1 A z u
theorem u_r_X11_end {x1 : Int} {A : St} {z : Int} {u : St} (h : tr_r_X11_end x1 A z u) : r_X11_end x1 A z u := h
def ws_kc_X11_end : List Cond := .code yX11_end cX11_end 2 (some .boolean) :: WY
set_option maxHeartbeats 4000000 in
set_option maxRecDepth 100000 in
theorem kc_X11_end (l : Launch) (dC : Nat → ClassId) (dI : Nat → Nat → Nat) (cB cI cJ cZ cQ : ClassId) (aL aS : Nat) (q : Nat → Nat) (A : St) (x1 : Int) (hI : IK A) (hx1 : (-2147483648 : Int) ≤ x1 ∧ x1 ≤ 2147483647) : KMi l yX11_end ws_kc_X11_end ({ frames := 1, cells := 0, slots := 0, locals := 21 } : Room) aL aS (dC, dI) (tyA cB cI cJ cZ cQ) (WK cB cI cJ cZ cQ q) A [.ref (q 0), .int (iI x1)] (fun z u => r_X11_end x1 A z u ∧ IK u ∧ fk [50] [(1, 1)] A u ∧ ((0 ≤ z ∧ z ≤ 1) ∧ ((z = 0 ∧ u 1 1 = A 1 1 ∧ (x1 < 0 ∨ A 1 1 < x1)) ∨ (z = 1 ∧ u 1 1 = x1 ∧ 0 ≤ x1 ∧ x1 ≤ A 1 1)))) := by
  refine k_metz (cc := cX11_end) (maxL := 2) WK_adr (plainFor_of_name (by decide +kernel)) rfl (Nat.le_of_ble_eq_true rfl) (fun z u h => h.2.2.2.1) (fun p e s m below meth c Q AS ls hx hb hml hown hts hK hDD hA0 hE RET H locs hP hS hl => ?_)
  have hown : s.vm.findClass RX11 = some m.cls := hown
  have hl : lv_has ls 2 [(0, .ref (q 0)), (1, .int (iI x1))] := hl
  have hiX11 : ∀ w ∈ u_ws RX11 TX11 11, w ∈ ws_kc_X11_end := fun w h => List.mem_cons_of_mem _ (wy_layX11 w h)
  have hiX7 : ∀ w ∈ u_ws RX7 TX7 2, w ∈ ws_kc_X11_end := fun w h => List.mem_cons_of_mem _ (wy_layX7 w h)
  refine lv_iload_n hx hb (dk_at dkX11_end_0 0 rfl) rfl (lv_at hl 1 rfl) ?_
  have J15_2 : ∀ (H : Heap) (locs : List Loc) (ls : Array Slot), ((x1 < 0) ∨ (¬ x1 < 0 ∧ ¬ x1 ≤ (A 1 1))) → (∀ (z : Int) (u : St), (d_X11_end_1 A z u) → r_X11_end x1 A z u) → va_P (dC, dI) vwCl (WK cB cI cJ cZ cQ q A) H → va_S AS s.heap H locs → lv_has ls 2 [(0, .ref (q 0)), (1, .int (iI x1))] → W p l e (headSpec ws_kc_X11_end ({ frames := 1, cells := 0, slots := 0, locals := 21 } : Room)).room s m [.ref (q 0), .int (iI x1)].toArray below meth c H locs 0 0 Q (F0 m 15 ls []) := by
    intro H locs ls f8 hk1 hP hS hl
    refine lv_aload_n hx hb (dk_at dkX11_end_0 7 rfl) rfl (lv_at hl 0 rfl) ?_
    refine lv_iconst (v := iI 0) hx hb (dk_at dkX11_end_0 8 rfl) (by decide +kernel) ?_
    refine k_calli (As := [.int (iI 0)]) (rest := []) ⟨hx, hb, hml, hown, hts⟩ hE (kc_X11_refused l dC dI cB cI cJ cZ cQ aL aS q _ 0 hI ⟨by decide, by decide⟩) (cwV 1 hts (goodVk wkq_10_23 wkq_10_24 wkq_10_25 wkq_10_26 wkq_10_27) rfl rfl rfl (by decide +kernel) ⟨Nat.le_of_ble_eq_true rfl, Nat.le_of_ble_eq_true rfl⟩) hK hDD hA0 hP hS 0 11 (wkK) rfl rfl hl.1 (Nat.le_of_ble_eq_true rfl) (dk_at dkX11_end_0 9 rfl) (fun z9 A10 H locs hw11 hP hS => ?_)
    have ghw11 : q_X11_refused 0 A z9 A10 := hw11
    obtain ⟨_, hI, hf12, hw11⟩ := hw11
    refine lv_pop hx hb (dk_at dkX11_end_0 10 rfl) rfl ?_
    refine lv_iconst (v := iI 0) hx hb (dk_at dkX11_end_0 11 rfl) (by decide +kernel) ?_
    have e13 : A10 1 1 = (A 1 1) := (hf12 1 1 rfl rfl)
    have r14 : (0 : Int) ≤ (A 1 1) ∧ (A 1 1) ≤ 1600 := by rw [← e13]; exact irTP_1 hI
    exact RET 0 _ _ _ _ _ ⟨hk1 _ _ (u_d_X11_end_1 ⟨z9, A10, ghw11, ⟨rfl, rfl⟩⟩), hI, fk.trans (fk.rf) hf12 rfl rfl, by omega⟩ hP hS (dk_at dkX11_end_0 12 rfl)
  refine lv_if_lt (tgt := 15) hx hb (dk_at dkX11_end_0 1 rfl) (by decide) (fun c1 => ?_) (fun c1 => ?_)
  · have c1 : x1 < 0 := (i_lt0 hx1).mp c1
    exact J15_2 _ _ _ (by omega) (fun zq uq hq => (u_r_X11_end (Or.inl ⟨c1, hq⟩))) hP hS (lv_sub hl [0, 1] rfl)
  · have c1 : ¬ x1 < 0 := mt (i_lt0 hx1).mpr c1
    refine lv_iload_n hx hb (dk_at dkX11_end_0 2 rfl) rfl (lv_at hl 1 rfl) ?_
    refine lv_aload_n hx hb (dk_at dkX11_end_0 3 rfl) rfl (lv_at hl 0 rfl) ?_
    refine va_get (D := (dC, dI)) (ci := 11) (v := .ref (q 1)) (C := RX11) (T := TX11) (N := 11) hx hb hts hiX11 hown hK hP 0 (wkK) rfl 0 (by decide) (hts _ (List.mem_cons_of_mem _ wkq_10_18)) (fun _ h9 => h9) rfl (dk_at dkX11_end_0 4 rfl) ?_
    have r3 : (0 : Int) ≤ (A 1 1) ∧ (A 1 1) ≤ 1600 := irTP_1 hI
    refine va_get (D := (dC, dI)) (ci := 7) (v := .int (iI (A 1 1))) (C := RX7) (T := TX7) (N := 2) hx hb hts hiX7 hown hK hP 1 (wkTP) rfl 1 (by decide) (hts _ (List.mem_cons_of_mem _ wkq_10_19)) (fun _ h9 => h9) rfl (dk_at dkX11_end_0 5 rfl) ?_
    refine lv_icmp_le (tgt := 23) hx hb (dk_at dkX11_end_0 6 rfl) (by decide) (fun c4 => ?_) (fun c4 => ?_)
    · have c4 : x1 ≤ (A 1 1) := (i_le hx1 (rb r3 (by decide) (by decide))).mp c4
      refine lv_aload_n hx hb (dk_at dkX11_end_0 13 rfl) rfl (lv_at hl 0 rfl) ?_
      refine va_get (D := (dC, dI)) (ci := 11) (v := .ref (q 1)) (C := RX11) (T := TX11) (N := 11) hx hb hts hiX11 hown hK hP 0 (wkK) rfl 0 (by decide) (hts _ (List.mem_cons_of_mem _ wkq_10_18)) (fun _ h9 => h9) rfl (dk_at dkX11_end_0 14 rfl) ?_
      refine lv_iload_n hx hb (dk_at dkX11_end_0 15 rfl) rfl (lv_at hl 1 rfl) ?_
      refine k_put (Wf := WK cB cI cJ cZ cQ q) (D := (dC, dI)) (ci := 7) (v := .int (iI x1)) (ty := .int) (C := RX7) (T := TX7) (N := 2) hx hb hts hiX7 tyX7 tyX7_ok nmX7 hown hK hP hDD hS 1 (wkTP) rfl 1 (by decide) (hts _ (List.mem_cons_of_mem _ wkq_10_19)) (fun _ h9 => h9) rfl (by decide +kernel) rfl rfl (Nat.le_of_ble_eq_true rfl) (dk_at dkX11_end_1 0 rfl) (wfTP_1 (v := x1)) (fun H locs A5 hA5 hP hS => ?_)
      have hI := isTP_1 hA5 hI (show (0 : Int) ≤ x1 ∧ x1 ≤ 1600 from (by omega))
      refine lv_iconst (v := iI 1) hx hb (dk_at dkX11_end_1 1 rfl) (by decide +kernel) ?_
      have e6 : A5 1 1 = x1 := rd_is hA5
      exact RET 1 _ _ _ _ _ ⟨(u_r_X11_end (Or.inr ⟨c1, (Or.inl ⟨c4, ⟨A5, hA5, ⟨rfl, rfl⟩⟩⟩)⟩)), hI, fk.df (fk.rf) hA5 rfl, by omega⟩ hP hS (dk_at dkX11_end_1 2 rfl)
    · have c4 : ¬ x1 ≤ (A 1 1) := mt (i_le hx1 (rb r3 (by decide) (by decide))).mpr c4
      exact J15_2 _ _ _ (by omega) (fun zq uq hq => (u_r_X11_end (Or.inr ⟨c1, (Or.inr ⟨c4, hq⟩)⟩))) hP hS (lv_sub hl [0, 1] rfl)

abbrev tr_r_X11_town (A : St) (z : Int) (u : St) : Prop := (∃ t2 : Nat, t2 = 51 + 31 * ((A 0 10)).toNat ∧ (∃ z3 : Int, ∃ A4 : St, q_X5_readTown t2 A z3 A4 ∧ (∃ A7 : St, A7 = stA A4 1 1 0 ∧ (((¬ z3 = (-1)) ∧ (∃ t12 : Nat, t12 = 51 + 31 * ((A 0 9)).toNat ∧ (∃ A15 : St, A15 = stA A7 0 9 (A 0 10) ∧ (∃ A16 : St, A16 = stA A15 0 10 (A 0 9) ∧ (∃ A17 : St, A17 = stA A16 22 4 0 ∧ (z = z3 ∧ u = A17)))))) ∨ ((z3 = (-1)) ∧ (∃ z22 : Int, ∃ A23 : St, q_X11_refused 1 A7 z22 A23 ∧ (z = z22 ∧ u = A23)))))))
def r_X11_town (A : St) (z : Int) (u : St) : Prop := tr_r_X11_town A z u
theorem u_r_X11_town {A : St} {z : Int} {u : St} (h : tr_r_X11_town A z u) : r_X11_town A z u := h
def ws_kc_X11_town : List Cond := .code yX11_town cX11_town 3 (some .int) :: WY
set_option maxHeartbeats 4000000 in
set_option maxRecDepth 100000 in
theorem kc_X11_town (l : Launch) (dC : Nat → ClassId) (dI : Nat → Nat → Nat) (cB cI cJ cZ cQ : ClassId) (aL aS : Nat) (q : Nat → Nat) (A : St) (hI : IK A) : KMi l yX11_town ws_kc_X11_town ({ frames := 105, cells := 0, slots := 0, locals := 3948 } : Room) aL aS (dC, dI) (tyA cB cI cJ cZ cQ) (WK cB cI cJ cZ cQ q) A [.ref (q 0)] (fun z u => r_X11_town A z u ∧ IK u ∧ fk [33, 34, 35, 37, 38, 39, 40, 42, 43, 44, 46, 47, 48, 49, 50, 52, 54, 55, 56, 57, 58, 59, 60, 61, 62, 63, 64, 65, 66, 67, 68, 69, 71, 74, 75, 76, 78, 79, 80, 81, 83, 85, 86, 87, 88, 89, 90, 91, 92, 93, 94, 95, 96, 97, 98, 99, 100, 102, 105, 106, 107, 109, 110, 111, 112] [(0, 9), (0, 10), (1, 1), (3, 2), (3, 3), (3, 4), (5, 1), (5, 2), (5, 3), (5, 4), (5, 5), (5, 6), (22, 4), (51, 15), (70, 2), (82, 15), (101, 2)] A u ∧ ((-2147483648 ≤ z ∧ z ≤ 2147483647) ∧ u 1 1 = 0)) := by
  refine k_meti (cc := cX11_town) (maxL := 3) WK_adr (plainFor_of_name (by decide +kernel)) rfl (Nat.le_of_ble_eq_true rfl) (fun p e s m below meth c Q AS ls hx hb hml hown hts hK hDD hA0 hE RET H locs hP hS hl => ?_)
  have hown : s.vm.findClass RX11 = some m.cls := hown
  have hl : lv_has ls 3 [(0, .ref (q 0))] := hl
  have hiX11 : ∀ w ∈ u_ws RX11 TX11 11, w ∈ ws_kc_X11_town := fun w h => List.mem_cons_of_mem _ (wy_layX11 w h)
  have hiX7 : ∀ w ∈ u_ws RX7 TX7 2, w ∈ ws_kc_X11_town := fun w h => List.mem_cons_of_mem _ (wy_layX7 w h)
  have hiX1 : ∀ w ∈ u_ws RX1 TX1 8, w ∈ ws_kc_X11_town := fun w h => List.mem_cons_of_mem _ (wy_layX1 w h)
  refine lv_aload_n hx hb (dk_at dkX11_town_0 0 rfl) rfl (lv_at hl 0 rfl) ?_
  refine va_get (D := (dC, dI)) (ci := 11) (v := .ref (q 3)) (C := RX11) (T := TX11) (N := 11) hx hb hts hiX11 hown hK hP 0 (wkK) rfl 1 (by decide) (hts _ (List.mem_cons_of_mem _ wkq_10_34)) (fun _ h9 => h9) rfl (dk_at dkX11_town_0 1 rfl) ?_
  refine lv_aload_n hx hb (dk_at dkX11_town_0 2 rfl) rfl (lv_at hl 0 rfl) ?_
  have r1 : (0 : Int) ≤ (A 0 10) ∧ (A 0 10) ≤ 1 := irK_10 hI
  obtain ⟨t2, et2⟩ : ∃ t : Nat, t = 51 + 31 * ((A 0 10)).toNat := ⟨_, rfl⟩
  have ht2 : isT t2 := by rw [et2]; exact isT.b r1
  refine va_get (D := (dC, dI)) (ci := 11) (v := .ref (q (51 + 31 * (A 0 10).toNat))) (C := RX11) (T := TX11) (N := 11) hx hb hts hiX11 hown hK hP 0 (wkK) rfl 10 (by decide) (hts _ (List.mem_cons_of_mem _ wkq_10_35)) (fun _ h9 => h9) rfl (dk_at dkX11_town_0 3 rfl) ?_
  refine tp_v (y := .ref (q t2)) (by rw [et2]) ?_
  refine k_calli (As := [.ref (q t2)]) (rest := []) ⟨hx, hb, hml, hown, hts⟩ hE (kc_X5_readTown l dC dI cB cI cJ cZ cQ aL aS q _ t2 hI ht2) (cwV 1 hts (goodVk wkq_10_39 wkq_10_40 wkq_10_41 wkq_5_28 wkq_5_5) rfl rfl rfl (by decide +kernel) ⟨Nat.le_of_ble_eq_true rfl, Nat.le_of_ble_eq_true rfl⟩) hK hDD hA0 hP hS 3 5 (wkRD) rfl rfl hl.1 (Nat.le_of_ble_eq_true rfl) (dk_at dkX11_town_0 4 rfl) (fun z3 A4 H locs hw5 hP hS => ?_)
  have ghw5 : q_X5_readTown t2 A z3 A4 := hw5
  obtain ⟨_, hI, hf6, hw5⟩ := hw5
  refine lv_istore_n (lv' := [(1, .int (iI z3)), (0, .ref (q 0))]) hx hb (dk_at dkX11_town_0 5 rfl) rfl hl (by decide) rfl (fun ls hl => ?_)
  refine lv_aload_n hx hb (dk_at dkX11_town_0 6 rfl) rfl (lv_at hl 1 rfl) ?_
  refine va_get (D := (dC, dI)) (ci := 11) (v := .ref (q 1)) (C := RX11) (T := TX11) (N := 11) hx hb hts hiX11 hown hK hP 0 (wkK) rfl 0 (by decide) (hts _ (List.mem_cons_of_mem _ wkq_10_18)) (fun _ h9 => h9) rfl (dk_at dkX11_town_0 7 rfl) ?_
  refine lv_iconst (v := iI 0) hx hb (dk_at dkX11_town_0 8 rfl) (by decide +kernel) ?_
  refine k_put (Wf := WK cB cI cJ cZ cQ q) (D := (dC, dI)) (ci := 7) (v := .int (iI 0)) (ty := .int) (C := RX7) (T := TX7) (N := 2) hx hb hts hiX7 tyX7 tyX7_ok nmX7 hown hK hP hDD hS 1 (wkTP) rfl 1 (by decide) (hts _ (List.mem_cons_of_mem _ wkq_10_19)) (fun _ h9 => h9) rfl (by decide +kernel) rfl rfl (Nat.le_of_ble_eq_true rfl) (dk_at dkX11_town_0 9 rfl) (wfTP_1 (v := 0)) (fun H locs A7 hA7 hP hS => ?_)
  have hI := isTP_1 hA7 hI (show (0 : Int) ≤ 0 ∧ 0 ≤ 1600 from ⟨by decide, by decide⟩)
  refine lv_iload_n hx hb (dk_at dkX11_town_0 10 rfl) rfl (lv_at hl 0 rfl) ?_
  refine lv_iconst (v := iI (-1)) hx hb (dk_at dkX11_town_0 11 rfl) (by decide +kernel) ?_
  refine lv_icmp_ne (tgt := 31) hx hb (dk_at dkX11_town_0 12 rfl) (by decide) (fun c8 => ?_) (fun c8 => ?_)
  · have c8 : ¬ z3 = (-1) := mt (i_eq hw5 ⟨by decide, by decide⟩).mpr c8
    refine lv_aload_n hx hb (dk_at dkX11_town_1 1 rfl) rfl (lv_at hl 1 rfl) ?_
    have e10 : A4 0 9 = (A 0 9) := (hf6 0 9 rfl rfl)
    have e9 : A7 0 9 = (A 0 9) := (rd_ne hA7 (by decide) 9).trans e10
    have r11 : (0 : Int) ≤ (A 0 9) ∧ (A 0 9) ≤ 1 := by rw [← e9]; exact irK_9 hI
    obtain ⟨t12, et12⟩ : ∃ t : Nat, t = 51 + 31 * ((A 0 9)).toNat := ⟨_, rfl⟩
    have ht12 : isT t12 := by rw [et12]; exact isT.b r11
    refine va_get (D := (dC, dI)) (ci := 11) (v := .ref (q (51 + 31 * (A7 0 9).toNat))) (C := RX11) (T := TX11) (N := 11) hx hb hts hiX11 hown hK hP 0 (wkK) rfl 9 (by decide) (hts _ (List.mem_cons_of_mem _ wkq_10_36)) (fun _ h9 => h9) rfl (dk_at dkX11_town_1 2 rfl) ?_
    refine tp_v (y := .ref (q t12)) (by rw [et12, e9]) ?_
    refine lv_astore_n (lv' := [(2, .ref (q t12)), (1, .int (iI z3)), (0, .ref (q 0))]) hx hb (dk_at dkX11_town_1 3 rfl) rfl hl (by decide) rfl (fun ls hl => ?_)
    refine lv_aload_n hx hb (dk_at dkX11_town_1 4 rfl) rfl (lv_at hl 2 rfl) ?_
    refine lv_aload_n hx hb (dk_at dkX11_town_1 5 rfl) rfl (lv_at hl 2 rfl) ?_
    have e14 : A4 0 10 = (A 0 10) := (hf6 0 10 rfl rfl)
    have e13 : A7 0 10 = (A 0 10) := (rd_ne hA7 (by decide) 10).trans e14
    refine va_get (D := (dC, dI)) (ci := 11) (v := .ref (q (51 + 31 * (A7 0 10).toNat))) (C := RX11) (T := TX11) (N := 11) hx hb hts hiX11 hown hK hP 0 (wkK) rfl 10 (by decide) (hts _ (List.mem_cons_of_mem _ wkq_10_35)) (fun _ h9 => h9) rfl (dk_at dkX11_town_1 6 rfl) ?_
    refine tp_v (y := .ref (q t2)) (by rw [et2, e13]) ?_
    refine k_put (Wf := WK cB cI cJ cZ cQ q) (D := (dC, dI)) (ci := 11) (v := .ref (q t2)) (ty := .object "StackKeys$Town") (C := RX11) (T := TX11) (N := 11) hx hb hts hiX11 tyX11 tyX11_ok nmX11 hown hK hP hDD hS 0 (wkK) rfl 9 (by decide) (hts _ (List.mem_cons_of_mem _ wkq_10_36)) (fun _ h9 => h9) rfl (by decide +kernel) rfl rfl (Nat.le_of_ble_eq_true rfl) (dk_at dkX11_town_1 7 rfl) (by rw [et2]; exact wfK_9 (v := (A 0 10))) (fun H locs A15 hA15 hP hS => ?_)
    have hI := isK_9 hA15 hI (show (0 : Int) ≤ (A 0 10) ∧ (A 0 10) ≤ 1 from r1)
    refine lv_aload_n hx hb (dk_at dkX11_town_1 8 rfl) rfl (lv_at hl 2 rfl) ?_
    refine lv_aload_n hx hb (dk_at dkX11_town_1 9 rfl) rfl (lv_at hl 0 rfl) ?_
    refine k_put (Wf := WK cB cI cJ cZ cQ q) (D := (dC, dI)) (ci := 11) (v := .ref (q t12)) (ty := .object "StackKeys$Town") (C := RX11) (T := TX11) (N := 11) hx hb hts hiX11 tyX11 tyX11_ok nmX11 hown hK hP hDD hS 0 (wkK) rfl 10 (by decide) (hts _ (List.mem_cons_of_mem _ wkq_10_35)) (fun _ h9 => h9) rfl (by decide +kernel) rfl rfl (Nat.le_of_ble_eq_true rfl) (dk_at dkX11_town_1 10 rfl) (by rw [et12]; exact wfK_10 (v := (A 0 9))) (fun H locs A16 hA16 hP hS => ?_)
    have hI := isK_10 hA16 hI (show (0 : Int) ≤ (A 0 9) ∧ (A 0 9) ≤ 1 from r11)
    refine lv_aload_n hx hb (dk_at dkX11_town_1 11 rfl) rfl (lv_at hl 2 rfl) ?_
    refine va_get (D := (dC, dI)) (ci := 11) (v := .ref (q 22)) (C := RX11) (T := TX11) (N := 11) hx hb hts hiX11 hown hK hP 0 (wkK) rfl 4 (by decide) (hts _ (List.mem_cons_of_mem _ wkq_10_37)) (fun _ h9 => h9) rfl (dk_at dkX11_town_1 12 rfl) ?_
    refine lv_iconst (v := iI 0) hx hb (dk_at dkX11_town_1 13 rfl) (by decide +kernel) ?_
    refine k_put (Wf := WK cB cI cJ cZ cQ q) (D := (dC, dI)) (ci := 1) (v := .int (iI 0)) (ty := .int) (C := RX1) (T := TX1) (N := 8) hx hb hts hiX1 tyX1 tyX1_ok nmX1 hown hK hP hDD hS 22 (wkFD) rfl 4 (by decide) (hts _ (List.mem_cons_of_mem _ wkq_10_38)) (fun _ h9 => h9) rfl (by decide +kernel) rfl rfl (Nat.le_of_ble_eq_true rfl) (dk_at dkX11_town_1 14 rfl) (wfFD_4 (v := 0)) (fun H locs A17 hA17 hP hS => ?_)
    have hI := isFD_4 hA17 hI (show (0 : Int) ≤ 0 ∧ 0 ≤ 20 from ⟨by decide, by decide⟩)
    refine lv_iload_n hx hb (dk_at dkX11_town_1 15 rfl) rfl (lv_at hl 1 rfl) ?_
    have e21 : A7 1 1 = 0 := rd_is hA7
    have e20 : A15 1 1 = 0 := (rd_ne hA15 (by decide) 1).trans e21
    have e19 : A16 1 1 = 0 := (rd_ne hA16 (by decide) 1).trans e20
    have e18 : A17 1 1 = 0 := (rd_ne hA17 (by decide) 1).trans e19
    exact RET z3 _ _ _ _ _ ⟨(u_r_X11_town ⟨t2, et2, ⟨z3, A4, ghw5, ⟨A7, hA7, (Or.inl ⟨c8, ⟨t12, et12, ⟨A15, hA15, ⟨A16, hA16, ⟨A17, hA17, ⟨rfl, rfl⟩⟩⟩⟩⟩⟩)⟩⟩⟩), hI, fk.df (fk.df (fk.df (fk.df (fk.trans (fk.rf) hf6 rfl rfl) hA7 rfl) hA15 rfl) hA16 rfl) hA17 rfl, by omega⟩ hP hS (dk_at dkX11_town_2 0 rfl)
  · have c8 : z3 = (-1) := (i_eq hw5 ⟨by decide, by decide⟩).mp c8
    refine lv_aload_n hx hb (dk_at dkX11_town_0 13 rfl) rfl (lv_at hl 1 rfl) ?_
    refine lv_iconst (v := iI 1) hx hb (dk_at dkX11_town_0 14 rfl) (by decide +kernel) ?_
    refine k_calli (As := [.int (iI 1)]) (rest := []) ⟨hx, hb, hml, hown, hts⟩ hE (kc_X11_refused l dC dI cB cI cJ cZ cQ aL aS q _ 1 hI ⟨by decide, by decide⟩) (cwV 1 hts (goodVk wkq_10_23 wkq_10_24 wkq_10_25 wkq_10_26 wkq_10_27) rfl rfl rfl (by decide +kernel) ⟨Nat.le_of_ble_eq_true rfl, Nat.le_of_ble_eq_true rfl⟩) hK hDD hA0 hP hS 0 11 (wkK) rfl rfl hl.1 (Nat.le_of_ble_eq_true rfl) (dk_at dkX11_town_0 15 rfl) (fun z22 A23 H locs hw24 hP hS => ?_)
    have ghw24 : q_X11_refused 1 A7 z22 A23 := hw24
    obtain ⟨_, hI, hf25, hw24⟩ := hw24
    have e27 : A7 1 1 = 0 := rd_is hA7
    have e26 : A23 1 1 = 0 := (hf25 1 1 rfl rfl).trans e27
    exact RET z22 _ _ _ _ _ ⟨(u_r_X11_town ⟨t2, et2, ⟨z3, A4, ghw5, ⟨A7, hA7, (Or.inr ⟨c8, ⟨z22, A23, ghw24, ⟨rfl, rfl⟩⟩⟩)⟩⟩⟩), hI, fk.trans (fk.df (fk.trans (fk.rf) hf6 rfl rfl) hA7 rfl) hf25 rfl rfl, by omega⟩ hP hS (dk_at dkX11_town_1 0 rfl)

abbrev tr_r_X11_fault (x1 : Int) (A : St) (z : Int) : Prop := (((¬ x1 = 0) ∧ (((¬ x1 = 1) ∧ (z = (-1))) ∨ ((x1 = 1) ∧ (z = (A 3 3))))) ∨ ((x1 = 0) ∧ (z = (A 3 2))))
def r_X11_fault (x1 : Int) (A : St) (z : Int) : Prop := tr_r_X11_fault x1 A z
theorem u_r_X11_fault {x1 : Int} {A : St} {z : Int} (h : tr_r_X11_fault x1 A z) : r_X11_fault x1 A z := h
def ws_kc_X11_fault : List Cond := .code yX11_fault cX11_fault 2 (some .int) :: WY
set_option maxHeartbeats 4000000 in
set_option maxRecDepth 100000 in
theorem kc_X11_fault (l : Launch) (dC : Nat → ClassId) (dI : Nat → Nat → Nat) (cB cI cJ cZ cQ : ClassId) (aL aS : Nat) (q : Nat → Nat) (A : St) (x1 : Int) (hI : IK A) (hx1 : (-2147483648 : Int) ≤ x1 ∧ x1 ≤ 2147483647) : KMi l yX11_fault ws_kc_X11_fault ({ frames := 0, cells := 0, slots := 0, locals := 0 } : Room) aL aS (dC, dI) (tyA cB cI cJ cZ cQ) (WK cB cI cJ cZ cQ q) A [.ref (q 0), .int (iI x1)] (fun z u => A = u ∧ r_X11_fault x1 A z ∧ (-2147483648 ≤ z ∧ z ≤ 2147483647)) := by
  refine k_meti (cc := cX11_fault) (maxL := 2) WK_adr (plainFor_of_name (by decide +kernel)) rfl (Nat.le_of_ble_eq_true rfl) (fun p e s m below meth c Q AS ls hx hb hml hown hts hK hDD hA0 hE RET H locs hP hS hl => ?_)
  have hown : s.vm.findClass RX11 = some m.cls := hown
  have hl : lv_has ls 2 [(0, .ref (q 0)), (1, .int (iI x1))] := hl
  have hiX11 : ∀ w ∈ u_ws RX11 TX11 11, w ∈ ws_kc_X11_fault := fun w h => List.mem_cons_of_mem _ (wy_layX11 w h)
  have hiX5 : ∀ w ∈ u_ws RX5 TX5 5, w ∈ ws_kc_X11_fault := fun w h => List.mem_cons_of_mem _ (wy_layX5 w h)
  refine lv_iload_n hx hb (dk_at dkX11_fault_0 0 rfl) rfl (lv_at hl 1 rfl) ?_
  refine lv_if_ne (tgt := 12) hx hb (dk_at dkX11_fault_0 1 rfl) (by decide) (fun c1 => ?_) (fun c1 => ?_)
  · have c1 : ¬ x1 = 0 := mt (i_eq0 hx1).mpr c1
    refine lv_iload_n hx hb (dk_at dkX11_fault_0 6 rfl) rfl (lv_at hl 1 rfl) ?_
    refine lv_iconst (v := iI 1) hx hb (dk_at dkX11_fault_0 7 rfl) (by decide +kernel) ?_
    refine lv_icmp_ne (tgt := 27) hx hb (dk_at dkX11_fault_0 8 rfl) (by decide) (fun c2 => ?_) (fun c2 => ?_)
    · have c2 : ¬ x1 = 1 := mt (i_eq hx1 ⟨by decide, by decide⟩).mpr c2
      refine lv_iconst (v := iI (-1)) hx hb (dk_at dkX11_fault_0 13 rfl) (by decide +kernel) ?_
      exact RET (-1) _ _ _ _ _ ⟨rfl, (u_r_X11_fault (Or.inl ⟨c1, (Or.inl ⟨c2, rfl⟩)⟩)), ⟨by decide, by decide⟩⟩ hP hS (dk_at dkX11_fault_0 14 rfl)
    · have c2 : x1 = 1 := (i_eq hx1 ⟨by decide, by decide⟩).mp c2
      refine lv_aload_n hx hb (dk_at dkX11_fault_0 9 rfl) rfl (lv_at hl 0 rfl) ?_
      refine va_get (D := (dC, dI)) (ci := 11) (v := .ref (q 3)) (C := RX11) (T := TX11) (N := 11) hx hb hts hiX11 hown hK hP 0 (wkK) rfl 1 (by decide) (hts _ (List.mem_cons_of_mem _ wkq_10_34)) (fun _ h9 => h9) rfl (dk_at dkX11_fault_0 10 rfl) ?_
      have r3 : (-1 : Int) ≤ (A 3 3) ∧ (A 3 3) ≤ 1600 := irRD_3 hI
      refine va_get (D := (dC, dI)) (ci := 5) (v := .int (iI (A 3 3))) (C := RX5) (T := TX5) (N := 5) hx hb hts hiX5 hown hK hP 3 (wkRD) rfl 3 (by decide) (hts _ (List.mem_cons_of_mem _ wkq_10_44)) (fun _ h9 => h9) rfl (dk_at dkX11_fault_0 11 rfl) ?_
      refine lv_goto (tgt := 28) hx hb (dk_at dkX11_fault_0 12 rfl) (by decide) ?_
      exact RET (A 3 3) _ _ _ _ _ ⟨rfl, (u_r_X11_fault (Or.inl ⟨c1, (Or.inr ⟨c2, rfl⟩)⟩)), (rb r3 (by decide) (by decide))⟩ hP hS (dk_at dkX11_fault_0 14 rfl)
  · have c1 : x1 = 0 := (i_eq0 hx1).mp c1
    refine lv_aload_n hx hb (dk_at dkX11_fault_0 2 rfl) rfl (lv_at hl 0 rfl) ?_
    refine va_get (D := (dC, dI)) (ci := 11) (v := .ref (q 3)) (C := RX11) (T := TX11) (N := 11) hx hb hts hiX11 hown hK hP 0 (wkK) rfl 1 (by decide) (hts _ (List.mem_cons_of_mem _ wkq_10_34)) (fun _ h9 => h9) rfl (dk_at dkX11_fault_0 3 rfl) ?_
    have r4 : (0 : Int) ≤ (A 3 2) ∧ (A 3 2) ≤ 5 := irRD_2 hI
    refine va_get (D := (dC, dI)) (ci := 5) (v := .int (iI (A 3 2))) (C := RX5) (T := TX5) (N := 5) hx hb hts hiX5 hown hK hP 3 (wkRD) rfl 2 (by decide) (hts _ (List.mem_cons_of_mem _ wkq_10_43)) (fun _ h9 => h9) rfl (dk_at dkX11_fault_0 4 rfl) ?_
    exact RET (A 3 2) _ _ _ _ _ ⟨rfl, (u_r_X11_fault (Or.inr ⟨c1, rfl⟩)), (rb r4 (by decide) (by decide))⟩ hP hS (dk_at dkX11_fault_0 5 rfl)

abbrev tr_r_X11_has (x1 : Int) (A : St) (z : Int) : Prop := (((¬ x1 = 8) ∧ (((¬ x1 = 9) ∧ (((x1 < 0) ∧ (z = (-1))) ∨ ((¬ x1 < 0) ∧ (((8 ≤ x1) ∧ (z = (-1))) ∨ ((¬ 8 ≤ x1) ∧ (∃ t6 : Nat, t6 = 51 + 31 * ((A 0 9)).toNat ∧ (∃ z7 : Int, z7 = A (t6 + 1) (x1).toNat ∧ (z = z7)))))))) ∨ ((x1 = 9) ∧ (∃ t9 : Nat, t9 = 51 + 31 * ((A 0 9)).toNat ∧ (∃ z10 : Int, q_X9_deadMask t9 A z10 ∧ (∃ z13 : Int, q_J6_bitCount_0f7a4 z10 A z13 ∧ (z = z13))))))) ∨ ((x1 = 8) ∧ (∃ t17 : Nat, t17 = 51 + 31 * ((A 0 9)).toNat ∧ (∃ z18 : Int, q_X9_shutMask t17 A z18 ∧ (∃ z21 : Int, q_J6_bitCount_0f7a4 z18 A z21 ∧ (z = z21))))))
def r_X11_has (x1 : Int) (A : St) (z : Int) : Prop := tr_r_X11_has x1 A z
theorem u_r_X11_has {x1 : Int} {A : St} {z : Int} (h : tr_r_X11_has x1 A z) : r_X11_has x1 A z := h
def ws_kc_X11_has : List Cond := .code yX11_has cX11_has 2 (some .int) :: WY
set_option maxHeartbeats 4000000 in
set_option maxRecDepth 100000 in
theorem kc_X11_has (l : Launch) (dC : Nat → ClassId) (dI : Nat → Nat → Nat) (cB cI cJ cZ cQ : ClassId) (aL aS : Nat) (q : Nat → Nat) (A : St) (x1 : Int) (hI : IK A) (hx1 : (-2147483648 : Int) ≤ x1 ∧ x1 ≤ 2147483647) : KMi l yX11_has ws_kc_X11_has ({ frames := 3, cells := 0, slots := 0, locals := 68 } : Room) aL aS (dC, dI) (tyA cB cI cJ cZ cQ) (WK cB cI cJ cZ cQ q) A [.ref (q 0), .int (iI x1)] (fun z u => A = u ∧ r_X11_has x1 A z ∧ (-2147483648 ≤ z ∧ z ≤ 2147483647)) := by
  refine k_meti (cc := cX11_has) (maxL := 2) WK_adr (plainFor_of_name (by decide +kernel)) rfl (Nat.le_of_ble_eq_true rfl) (fun p e s m below meth c Q AS ls hx hb hml hown hts hK hDD hA0 hE RET H locs hP hS hl => ?_)
  have hown : s.vm.findClass RX11 = some m.cls := hown
  have hl : lv_has ls 2 [(0, .ref (q 0)), (1, .int (iI x1))] := hl
  have hiX11 : ∀ w ∈ u_ws RX11 TX11 11, w ∈ ws_kc_X11_has := fun w h => List.mem_cons_of_mem _ (wy_layX11 w h)
  have hiX9 : ∀ w ∈ u_ws RX9 TX9 16, w ∈ ws_kc_X11_has := fun w h => List.mem_cons_of_mem _ (wy_layX9 w h)
  refine lv_iload_n hx hb (dk_at dkX11_has_0 0 rfl) rfl (lv_at hl 1 rfl) ?_
  refine lv_bipush (v := iI 8) hx hb (dk_at dkX11_has_0 1 rfl) (by decide +kernel) ?_
  refine lv_icmp_ne (tgt := 17) hx hb (dk_at dkX11_has_0 2 rfl) (by decide) (fun c1 => ?_) (fun c1 => ?_)
  · have c1 : ¬ x1 = 8 := mt (i_eq hx1 ⟨by decide, by decide⟩).mpr c1
    refine lv_iload_n hx hb (dk_at dkX11_has_0 8 rfl) rfl (lv_at hl 1 rfl) ?_
    refine lv_bipush (v := iI 9) hx hb (dk_at dkX11_has_0 9 rfl) (by decide +kernel) ?_
    refine lv_icmp_ne (tgt := 34) hx hb (dk_at dkX11_has_0 10 rfl) (by decide) (fun c2 => ?_) (fun c2 => ?_)
    · have c2 : ¬ x1 = 9 := mt (i_eq hx1 ⟨by decide, by decide⟩).mpr c2
      refine lv_iload_n hx hb (dk_at dkX11_has_1 0 rfl) rfl (lv_at hl 1 rfl) ?_
      refine lv_if_lt (tgt := 56) hx hb (dk_at dkX11_has_1 1 rfl) (by decide) (fun c3 => ?_) (fun c3 => ?_)
      · have c3 : x1 < 0 := (i_lt0 hx1).mp c3
        refine lv_iconst (v := iI (-1)) hx hb (dk_at dkX11_has_1 11 rfl) (by decide +kernel) ?_
        exact RET (-1) _ _ _ _ _ ⟨rfl, (u_r_X11_has (Or.inl ⟨c1, (Or.inl ⟨c2, (Or.inl ⟨c3, rfl⟩)⟩)⟩)), ⟨by decide, by decide⟩⟩ hP hS (dk_at dkX11_has_1 12 rfl)
      · have c3 : ¬ x1 < 0 := mt (i_lt0 hx1).mpr c3
        refine lv_iload_n hx hb (dk_at dkX11_has_1 2 rfl) rfl (lv_at hl 1 rfl) ?_
        refine lv_bipush (v := iI 8) hx hb (dk_at dkX11_has_1 3 rfl) (by decide +kernel) ?_
        refine lv_icmp_ge (tgt := 56) hx hb (dk_at dkX11_has_1 4 rfl) (by decide) (fun c4 => ?_) (fun c4 => ?_)
        · have c4 : 8 ≤ x1 := (i_le ⟨by decide, by decide⟩ hx1).mp c4
          refine lv_iconst (v := iI (-1)) hx hb (dk_at dkX11_has_1 11 rfl) (by decide +kernel) ?_
          exact RET (-1) _ _ _ _ _ ⟨rfl, (u_r_X11_has (Or.inl ⟨c1, (Or.inl ⟨c2, (Or.inr ⟨c3, (Or.inl ⟨c4, rfl⟩)⟩)⟩)⟩)), ⟨by decide, by decide⟩⟩ hP hS (dk_at dkX11_has_1 12 rfl)
        · have c4 : ¬ 8 ≤ x1 := mt (i_le ⟨by decide, by decide⟩ hx1).mpr c4
          refine lv_aload_n hx hb (dk_at dkX11_has_1 5 rfl) rfl (lv_at hl 0 rfl) ?_
          have r5 : (0 : Int) ≤ (A 0 9) ∧ (A 0 9) ≤ 1 := irK_9 hI
          obtain ⟨t6, et6⟩ : ∃ t : Nat, t = 51 + 31 * ((A 0 9)).toNat := ⟨_, rfl⟩
          have ht6 : isT t6 := by rw [et6]; exact isT.b r5
          refine va_get (D := (dC, dI)) (ci := 11) (v := .ref (q (51 + 31 * (A 0 9).toNat))) (C := RX11) (T := TX11) (N := 11) hx hb hts hiX11 hown hK hP 0 (wkK) rfl 9 (by decide) (hts _ (List.mem_cons_of_mem _ wkq_10_36)) (fun _ h9 => h9) rfl (dk_at dkX11_has_1 6 rfl) ?_
          refine tp_v (y := .ref (q t6)) (by rw [et6]) ?_
          refine va_get (D := (dC, dI)) (ci := 9) (v := .ref (q (t6 + 1))) (C := RX9) (T := TX9) (N := 16) hx hb hts hiX9 hown hK hP t6 (wkT ht6) rfl 0 (by decide) (hts _ (List.mem_cons_of_mem _ wkq_10_46)) (fun _ h9 => h9) rfl (dk_at dkX11_has_1 7 rfl) ?_
          refine lv_iload_n hx hb (dk_at dkX11_has_1 8 rfl) rfl (lv_at hl 1 rfl) ?_
          refine x_iald (Wf := WK cB cI cJ cZ cQ q) hx hb hK hP (t6 + 1) 1 (wkTc ht6) rfl (by omega) (by decide) (dk_at dkX11_has_1 9 rfl) (fun z7 hz7 => ?_)
          have rz7 : (0 : Int) ≤ z7 ∧ z7 ≤ 10 := by rw [hz7]; exact irTc ht6 hI
          have gz7 := Hd.mk hz7
          refine lv_goto (tgt := 57) hx hb (dk_at dkX11_has_1 10 rfl) (by decide) ?_
          exact RET z7 _ _ _ _ _ ⟨rfl, (u_r_X11_has (Or.inl ⟨c1, (Or.inl ⟨c2, (Or.inr ⟨c3, (Or.inr ⟨c4, ⟨t6, et6, ⟨z7, gz7.out, rfl⟩⟩⟩)⟩)⟩)⟩)), (rb rz7 (by decide) (by decide))⟩ hP hS (dk_at dkX11_has_1 12 rfl)
    · have c2 : x1 = 9 := (i_eq hx1 ⟨by decide, by decide⟩).mp c2
      refine lv_aload_n hx hb (dk_at dkX11_has_0 11 rfl) rfl (lv_at hl 0 rfl) ?_
      have r8 : (0 : Int) ≤ (A 0 9) ∧ (A 0 9) ≤ 1 := irK_9 hI
      obtain ⟨t9, et9⟩ : ∃ t : Nat, t = 51 + 31 * ((A 0 9)).toNat := ⟨_, rfl⟩
      have ht9 : isT t9 := by rw [et9]; exact isT.b r8
      refine va_get (D := (dC, dI)) (ci := 11) (v := .ref (q (51 + 31 * (A 0 9).toNat))) (C := RX11) (T := TX11) (N := 11) hx hb hts hiX11 hown hK hP 0 (wkK) rfl 9 (by decide) (hts _ (List.mem_cons_of_mem _ wkq_10_36)) (fun _ h9 => h9) rfl (dk_at dkX11_has_0 12 rfl) ?_
      refine tp_v (y := .ref (q t9)) (by rw [et9]) ?_
      refine k_calli (As := []) (rest := []) ⟨hx, hb, hml, hown, hts⟩ hE (kc_X9_deadMask l dC dI cB cI cJ cZ cQ aL aS q _ t9 hI ht9) (cwV 0 hts (goodVk wkq_10_49 wkq_10_50 wkq_10_51 wkq_0_6 wkq_8_52) rfl rfl rfl (by decide +kernel) ⟨Nat.le_of_ble_eq_true rfl, Nat.le_of_ble_eq_true rfl⟩) hK hDD hA0 hP hS t9 9 (wkT ht9) rfl rfl hl.1 (Nat.le_of_ble_eq_true rfl) (dk_at dkX11_has_0 13 rfl) (fun z10 A11 H locs hw12 hP hS => ?_)
      obtain ⟨rfl, hw12⟩ := hw12
      have ghw12 : q_X9_deadMask t9 A z10 := hw12
      have hw12 := hw12.2
      refine k_callSi (As := [.int (iI z10)]) (rest := []) ⟨hx, hb, hml, hown, hts⟩ hE (kc_J6_bitCount_0f7a4 l dC dI cB cI cJ cZ cQ aL aS q _ z10 hI hw12) (va_cwS 1 hts (goodSk wkq_10_48 wkq_1_17 wkq_1_18 wkq_1_19) rfl rfl rfl (by decide +kernel) ⟨Nat.le_of_ble_eq_true rfl, Nat.le_of_ble_eq_true rfl⟩) hK hDD hA0 hP hS rfl hl.1 (Nat.le_of_ble_eq_true rfl) (dk_at dkX11_has_0 14 rfl) (fun z13 A14 H locs hw15 hP hS => ?_)
      obtain ⟨rfl, hw15⟩ := hw15
      have ghw15 : q_J6_bitCount_0f7a4 z10 A z13 := hw15
      have hw15 := hw15.2
      exact RET z13 _ _ _ _ _ ⟨rfl, (u_r_X11_has (Or.inl ⟨c1, (Or.inr ⟨c2, ⟨t9, et9, ⟨z10, ghw12, ⟨z13, ghw15, rfl⟩⟩⟩⟩)⟩)), (rb hw15 (by decide) (by decide))⟩ hP hS (dk_at dkX11_has_0 15 rfl)
  · have c1 : x1 = 8 := (i_eq hx1 ⟨by decide, by decide⟩).mp c1
    refine lv_aload_n hx hb (dk_at dkX11_has_0 3 rfl) rfl (lv_at hl 0 rfl) ?_
    have r16 : (0 : Int) ≤ (A 0 9) ∧ (A 0 9) ≤ 1 := irK_9 hI
    obtain ⟨t17, et17⟩ : ∃ t : Nat, t = 51 + 31 * ((A 0 9)).toNat := ⟨_, rfl⟩
    have ht17 : isT t17 := by rw [et17]; exact isT.b r16
    refine va_get (D := (dC, dI)) (ci := 11) (v := .ref (q (51 + 31 * (A 0 9).toNat))) (C := RX11) (T := TX11) (N := 11) hx hb hts hiX11 hown hK hP 0 (wkK) rfl 9 (by decide) (hts _ (List.mem_cons_of_mem _ wkq_10_36)) (fun _ h9 => h9) rfl (dk_at dkX11_has_0 4 rfl) ?_
    refine tp_v (y := .ref (q t17)) (by rw [et17]) ?_
    refine k_calli (As := []) (rest := []) ⟨hx, hb, hml, hown, hts⟩ hE (kc_X9_shutMask l dC dI cB cI cJ cZ cQ aL aS q _ t17 hI ht17) (cwV 0 hts (goodVk wkq_10_47 wkq_8_55 wkq_8_56 wkq_0_6 wkq_8_50) rfl rfl rfl (by decide +kernel) ⟨Nat.le_of_ble_eq_true rfl, Nat.le_of_ble_eq_true rfl⟩) hK hDD hA0 hP hS t17 9 (wkT ht17) rfl rfl hl.1 (Nat.le_of_ble_eq_true rfl) (dk_at dkX11_has_0 5 rfl) (fun z18 A19 H locs hw20 hP hS => ?_)
    obtain ⟨rfl, hw20⟩ := hw20
    have ghw20 : q_X9_shutMask t17 A z18 := hw20
    have hw20 := hw20.2
    refine k_callSi (As := [.int (iI z18)]) (rest := []) ⟨hx, hb, hml, hown, hts⟩ hE (kc_J6_bitCount_0f7a4 l dC dI cB cI cJ cZ cQ aL aS q _ z18 hI hw20) (va_cwS 1 hts (goodSk wkq_10_48 wkq_1_17 wkq_1_18 wkq_1_19) rfl rfl rfl (by decide +kernel) ⟨Nat.le_of_ble_eq_true rfl, Nat.le_of_ble_eq_true rfl⟩) hK hDD hA0 hP hS rfl hl.1 (Nat.le_of_ble_eq_true rfl) (dk_at dkX11_has_0 6 rfl) (fun z21 A22 H locs hw23 hP hS => ?_)
    obtain ⟨rfl, hw23⟩ := hw23
    have ghw23 : q_J6_bitCount_0f7a4 z18 A z21 := hw23
    have hw23 := hw23.2
    exact RET z21 _ _ _ _ _ ⟨rfl, (u_r_X11_has (Or.inr ⟨c1, ⟨t17, et17, ⟨z18, ghw20, ⟨z21, ghw23, rfl⟩⟩⟩⟩)), (rb hw23 (by decide) (by decide))⟩ hP hS (dk_at dkX11_has_0 7 rfl)

abbrev tr_r_X11_letter (x1 : Int) (x2 : Int) (x3 : Int) (A : St) (z : Int) : Prop := (((x1 < 0) ∧ (z = (-1))) ∨ ((¬ x1 < 0) ∧ (((5 ≤ x1) ∧ (z = (-1))) ∨ ((¬ 5 ≤ x1) ∧ (∃ t4 : Nat, t4 = 51 + 31 * ((A 0 9)).toNat ∧ (∃ z5 : Int, q_X9_isThere t4 x1 x2 A z5 ∧ (((z5 = 0) ∧ (z = (-1))) ∨ ((¬ z5 = 0) ∧ (((x3 < 0) ∧ (z = (-1))) ∨ ((¬ x3 < 0) ∧ (((x3 < 6) ∧ (∃ z11 : Int, z11 = A (t4 + 3 + (x1).toNat) (x2).toNat ∧ (∃ z12 : Int, z12 = oShr z11 (5 * x3) ∧ (∃ z13 : Int, z13 = oAnd z12 31 ∧ (((¬ z13 = 0) ∧ (z = z13 + 96)) ∨ ((z13 = 0) ∧ (z = (-1)))))))) ∨ ((¬ x3 < 6) ∧ (z = (-1))))))))))))))
def r_X11_letter (x1 : Int) (x2 : Int) (x3 : Int) (A : St) (z : Int) : Prop := tr_r_X11_letter x1 x2 x3 A z
theorem u_r_X11_letter {x1 : Int} {x2 : Int} {x3 : Int} {A : St} {z : Int} (h : tr_r_X11_letter x1 x2 x3 A z) : r_X11_letter x1 x2 x3 A z := h
def ws_kc_X11_letter : List Cond := .code yX11_letter cX11_letter 5 (some .int) :: WY
set_option maxHeartbeats 4000000 in
set_option maxRecDepth 100000 in
theorem kc_X11_letter (l : Launch) (dC : Nat → ClassId) (dI : Nat → Nat → Nat) (cB cI cJ cZ cQ : ClassId) (aL aS : Nat) (q : Nat → Nat) (A : St) (x1 x2 x3 : Int) (hI : IK A) (hx1 : (-2147483648 : Int) ≤ x1 ∧ x1 ≤ 2147483647) (hx2 : (-2147483648 : Int) ≤ x2 ∧ x2 ≤ 2147483647) (hx3 : (-2147483648 : Int) ≤ x3 ∧ x3 ≤ 2147483647) : KMi l yX11_letter ws_kc_X11_letter ({ frames := 1, cells := 0, slots := 0, locals := 22 } : Room) aL aS (dC, dI) (tyA cB cI cJ cZ cQ) (WK cB cI cJ cZ cQ q) A [.ref (q 0), .int (iI x1), .int (iI x2), .int (iI x3)] (fun z u => A = u ∧ r_X11_letter x1 x2 x3 A z ∧ (-2147483648 ≤ z ∧ z ≤ 2147483647)) := by
  refine k_meti (cc := cX11_letter) (maxL := 5) WK_adr (plainFor_of_name (by decide +kernel)) rfl (Nat.le_of_ble_eq_true rfl) (fun p e s m below meth c Q AS ls hx hb hml hown hts hK hDD hA0 hE RET H locs hP hS hl => ?_)
  have hown : s.vm.findClass RX11 = some m.cls := hown
  have hl : lv_has ls 5 [(0, .ref (q 0)), (1, .int (iI x1)), (2, .int (iI x2)), (3, .int (iI x3))] := hl
  have hiX11 : ∀ w ∈ u_ws RX11 TX11 11, w ∈ ws_kc_X11_letter := fun w h => List.mem_cons_of_mem _ (wy_layX11 w h)
  have hiX9 : ∀ w ∈ u_ws RX9 TX9 16, w ∈ ws_kc_X11_letter := fun w h => List.mem_cons_of_mem _ (wy_layX9 w h)
  refine lv_iload_n hx hb (dk_at dkX11_letter_0 0 rfl) rfl (lv_at hl 1 rfl) ?_
  refine lv_if_lt (tgt := 31) hx hb (dk_at dkX11_letter_0 1 rfl) (by decide) (fun c1 => ?_) (fun c1 => ?_)
  · have c1 : x1 < 0 := (i_lt0 hx1).mp c1
    refine lv_iconst (v := iI (-1)) hx hb (dk_at dkX11_letter_1 0 rfl) (by decide +kernel) ?_
    exact RET (-1) _ _ _ _ _ ⟨rfl, (u_r_X11_letter (Or.inl ⟨c1, rfl⟩)), ⟨by decide, by decide⟩⟩ hP hS (dk_at dkX11_letter_1 1 rfl)
  · have c1 : ¬ x1 < 0 := mt (i_lt0 hx1).mpr c1
    refine lv_iload_n hx hb (dk_at dkX11_letter_0 2 rfl) rfl (lv_at hl 1 rfl) ?_
    refine lv_iconst (v := iI 5) hx hb (dk_at dkX11_letter_0 3 rfl) (by decide +kernel) ?_
    refine lv_icmp_ge (tgt := 31) hx hb (dk_at dkX11_letter_0 4 rfl) (by decide) (fun c2 => ?_) (fun c2 => ?_)
    · have c2 : 5 ≤ x1 := (i_le ⟨by decide, by decide⟩ hx1).mp c2
      refine lv_iconst (v := iI (-1)) hx hb (dk_at dkX11_letter_1 0 rfl) (by decide +kernel) ?_
      exact RET (-1) _ _ _ _ _ ⟨rfl, (u_r_X11_letter (Or.inr ⟨c1, (Or.inl ⟨c2, rfl⟩)⟩)), ⟨by decide, by decide⟩⟩ hP hS (dk_at dkX11_letter_1 1 rfl)
    · have c2 : ¬ 5 ≤ x1 := mt (i_le ⟨by decide, by decide⟩ hx1).mpr c2
      refine lv_aload_n hx hb (dk_at dkX11_letter_0 5 rfl) rfl (lv_at hl 0 rfl) ?_
      have r3 : (0 : Int) ≤ (A 0 9) ∧ (A 0 9) ≤ 1 := irK_9 hI
      obtain ⟨t4, et4⟩ : ∃ t : Nat, t = 51 + 31 * ((A 0 9)).toNat := ⟨_, rfl⟩
      have ht4 : isT t4 := by rw [et4]; exact isT.b r3
      refine va_get (D := (dC, dI)) (ci := 11) (v := .ref (q (51 + 31 * (A 0 9).toNat))) (C := RX11) (T := TX11) (N := 11) hx hb hts hiX11 hown hK hP 0 (wkK) rfl 9 (by decide) (hts _ (List.mem_cons_of_mem _ wkq_10_36)) (fun _ h9 => h9) rfl (dk_at dkX11_letter_0 6 rfl) ?_
      refine tp_v (y := .ref (q t4)) (by rw [et4]) ?_
      refine lv_iload_n hx hb (dk_at dkX11_letter_0 7 rfl) rfl (lv_at hl 1 rfl) ?_
      refine lv_iload_n hx hb (dk_at dkX11_letter_0 8 rfl) rfl (lv_at hl 2 rfl) ?_
      refine k_calli (As := [.int (iI x1), .int (iI x2)]) (rest := []) ⟨hx, hb, hml, hown, hts⟩ hE (kc_X9_isThere l dC dI cB cI cJ cZ cQ aL aS q _ t4 x1 x2 hI ht4 hx1 hx2) (cwV 2 hts (goodVk wkq_10_54 wkq_0_22 wkq_0_23 wkq_0_6 wkq_0_24) rfl rfl rfl (by decide +kernel) ⟨Nat.le_of_ble_eq_true rfl, Nat.le_of_ble_eq_true rfl⟩) hK hDD hA0 hP hS t4 9 (wkT ht4) rfl rfl hl.1 (Nat.le_of_ble_eq_true rfl) (dk_at dkX11_letter_0 9 rfl) (fun z5 A6 H locs hw7 hP hS => ?_)
      obtain ⟨rfl, hw7⟩ := hw7
      have ghw7 : q_X9_isThere t4 x1 x2 A z5 := hw7
      have hw7 := hw7.2
      have rz5 : 0 ≤ z5 ∧ z5 ≤ 1 := hw7.1
      have hw7 := hw7.2
      refine lv_if_eq (tgt := 31) hx hb (dk_at dkX11_letter_0 10 rfl) (by decide) (fun c8 => ?_) (fun c8 => ?_)
      · have c8 : z5 = 0 := (i_eq0 (rb rz5 (by decide) (by decide))).mp c8
        clear hw7
        refine lv_iconst (v := iI (-1)) hx hb (dk_at dkX11_letter_1 0 rfl) (by decide +kernel) ?_
        exact RET (-1) _ _ _ _ _ ⟨rfl, (u_r_X11_letter (Or.inr ⟨c1, (Or.inr ⟨c2, ⟨t4, et4, ⟨z5, ghw7, (Or.inl ⟨c8, rfl⟩)⟩⟩⟩)⟩)), ⟨by decide, by decide⟩⟩ hP hS (dk_at dkX11_letter_1 1 rfl)
      · have c8 : ¬ z5 = 0 := mt (i_eq0 (rb rz5 (by decide) (by decide))).mpr c8
        have hw7b := hw7 (by omega)
        clear hw7
        refine lv_iload_n hx hb (dk_at dkX11_letter_0 11 rfl) rfl (lv_at hl 3 rfl) ?_
        refine lv_if_lt (tgt := 31) hx hb (dk_at dkX11_letter_0 12 rfl) (by decide) (fun c9 => ?_) (fun c9 => ?_)
        · have c9 : x3 < 0 := (i_lt0 hx3).mp c9
          refine lv_iconst (v := iI (-1)) hx hb (dk_at dkX11_letter_1 0 rfl) (by decide +kernel) ?_
          exact RET (-1) _ _ _ _ _ ⟨rfl, (u_r_X11_letter (Or.inr ⟨c1, (Or.inr ⟨c2, ⟨t4, et4, ⟨z5, ghw7, (Or.inr ⟨c8, (Or.inl ⟨c9, rfl⟩)⟩)⟩⟩⟩)⟩)), ⟨by decide, by decide⟩⟩ hP hS (dk_at dkX11_letter_1 1 rfl)
        · have c9 : ¬ x3 < 0 := mt (i_lt0 hx3).mpr c9
          refine lv_iload_n hx hb (dk_at dkX11_letter_0 13 rfl) rfl (lv_at hl 3 rfl) ?_
          refine lv_bipush (v := iI 6) hx hb (dk_at dkX11_letter_0 14 rfl) (by decide +kernel) ?_
          refine lv_icmp_lt (tgt := 33) hx hb (dk_at dkX11_letter_0 15 rfl) (by decide) (fun c10 => ?_) (fun c10 => ?_)
          · have c10 : x3 < 6 := (i_lt hx3 ⟨by decide, by decide⟩).mp c10
            refine lv_aload_n hx hb (dk_at dkX11_letter_1 2 rfl) rfl (lv_at hl 0 rfl) ?_
            refine va_get (D := (dC, dI)) (ci := 11) (v := .ref (q (51 + 31 * (A 0 9).toNat))) (C := RX11) (T := TX11) (N := 11) hx hb hts hiX11 hown hK hP 0 (wkK) rfl 9 (by decide) (hts _ (List.mem_cons_of_mem _ wkq_10_36)) (fun _ h9 => h9) rfl (dk_at dkX11_letter_1 3 rfl) ?_
            refine tp_v (y := .ref (q t4)) (by rw [et4]) ?_
            refine va_get (D := (dC, dI)) (ci := 9) (v := .ref (q (t4 + 2))) (C := RX9) (T := TX9) (N := 16) hx hb hts hiX9 hown hK hP t4 (wkT ht4) rfl 1 (by decide) (hts _ (List.mem_cons_of_mem _ wkq_10_53)) (fun _ h9 => h9) rfl (dk_at dkX11_letter_1 4 rfl) ?_
            refine lv_iload_n hx hb (dk_at dkX11_letter_1 5 rfl) rfl (lv_at hl 1 rfl) ?_
            refine k_aald (Wf := WK cB cI cJ cZ cQ q) hx hb hK hP (t4 + 2) 4 (wkTq ht4) rfl (by omega) (by decide) (b := q (t4 + 3 + (x1).toNat)) (by rcases (show x1 = 0 ∨ x1 = 1 ∨ x1 = 2 ∨ x1 = 3 ∨ x1 = 4 by omega) with h | h | h | h | h <;> rw [h] <;> rfl) (dk_at dkX11_letter_1 6 rfl) ?_
            refine lv_iload_n hx hb (dk_at dkX11_letter_1 7 rfl) rfl (lv_at hl 2 rfl) ?_
            refine x_iald (Wf := WK cB cI cJ cZ cQ q) hx hb hK hP (t4 + 3 + (x1).toNat) 1 (wkTn ht4 (i := x1) (by omega)) rfl (by omega) (by decide) (dk_at dkX11_letter_1 8 rfl) (fun z11 hz11 => ?_)
            have rz11 : (-2147483648 : Int) ≤ z11 ∧ z11 ≤ 2147483647 := by rw [hz11]; exact irTn ht4 (i := x1) (by omega) hI
            have gz11 := Hd.mk hz11
            refine lv_iconst (v := iI 5) hx hb (dk_at dkX11_letter_1 9 rfl) (by decide +kernel) ?_
            refine lv_iload_n hx hb (dk_at dkX11_letter_1 10 rfl) rfl (lv_at hl 3 rfl) ?_
            refine x_mulv (v := 5 * x3) hx hb (dk_at dkX11_letter_1 11 rfl) (by omega) ?_
            refine lv_ishr hx hb (dk_at dkX11_letter_1 12 rfl) ?_
            refine x_absE (fun z12 gz12 hz12 => ?_)
            refine lv_bipush (v := iI 31) hx hb (dk_at dkX11_letter_1 13 rfl) (by decide +kernel) ?_
            refine lv_iand hx hb (dk_at dkX11_letter_1 14 rfl) ?_
            refine x_andE (b := 31) (by omega) (fun z13 gz13 hz13 => ?_)
            refine lv_istore (lv' := [(4, .int (iI z13)), (0, .ref (q 0)), (1, .int (iI x1)), (2, .int (iI x2)), (3, .int (iI x3))]) hx hb (dk_at dkX11_letter_1 15 rfl) hl (by decide) rfl (fun ls hl => ?_)
            refine lv_iload hx hb (dk_at dkX11_letter_2 0 rfl) (lv_at hl 0 rfl) ?_
            refine lv_if_ne (tgt := 62) hx hb (dk_at dkX11_letter_2 1 rfl) (by decide) (fun c14 => ?_) (fun c14 => ?_)
            · have c14 : ¬ z13 = 0 := mt (i_eq0 (by omega)).mpr c14
              refine lv_iload hx hb (dk_at dkX11_letter_2 4 rfl) (lv_at hl 0 rfl) ?_
              refine lv_bipush (v := iI 96) hx hb (dk_at dkX11_letter_2 5 rfl) (by decide +kernel) ?_
              refine x_addv (v := z13 + 96) hx hb (dk_at dkX11_letter_2 6 rfl) (by omega) ?_
              exact RET (z13 + 96) _ _ _ _ _ ⟨rfl, (u_r_X11_letter (Or.inr ⟨c1, (Or.inr ⟨c2, ⟨t4, et4, ⟨z5, ghw7, (Or.inr ⟨c8, (Or.inr ⟨c9, (Or.inl ⟨c10, ⟨z11, gz11.out, ⟨z12, gz12.out, ⟨z13, gz13.out, (Or.inl ⟨c14, rfl⟩)⟩⟩⟩⟩)⟩)⟩)⟩⟩⟩)⟩)), (by omega)⟩ hP hS (dk_at dkX11_letter_2 7 rfl)
            · have c14 : z13 = 0 := (i_eq0 (by omega)).mp c14
              refine lv_iconst (v := iI (-1)) hx hb (dk_at dkX11_letter_2 2 rfl) (by decide +kernel) ?_
              refine lv_goto (tgt := 67) hx hb (dk_at dkX11_letter_2 3 rfl) (by decide) ?_
              exact RET (-1) _ _ _ _ _ ⟨rfl, (u_r_X11_letter (Or.inr ⟨c1, (Or.inr ⟨c2, ⟨t4, et4, ⟨z5, ghw7, (Or.inr ⟨c8, (Or.inr ⟨c9, (Or.inl ⟨c10, ⟨z11, gz11.out, ⟨z12, gz12.out, ⟨z13, gz13.out, (Or.inr ⟨c14, rfl⟩)⟩⟩⟩⟩)⟩)⟩)⟩⟩⟩)⟩)), ⟨by decide, by decide⟩⟩ hP hS (dk_at dkX11_letter_2 7 rfl)
          · have c10 : ¬ x3 < 6 := mt (i_lt hx3 ⟨by decide, by decide⟩).mpr c10
            refine lv_iconst (v := iI (-1)) hx hb (dk_at dkX11_letter_1 0 rfl) (by decide +kernel) ?_
            exact RET (-1) _ _ _ _ _ ⟨rfl, (u_r_X11_letter (Or.inr ⟨c1, (Or.inr ⟨c2, ⟨t4, et4, ⟨z5, ghw7, (Or.inr ⟨c8, (Or.inr ⟨c9, (Or.inr ⟨c10, rfl⟩)⟩)⟩)⟩⟩⟩)⟩)), ⟨by decide, by decide⟩⟩ hP hS (dk_at dkX11_letter_1 1 rfl)

abbrev tr_r_X11_door (x1 : Int) (x2 : Int) (A : St) (z : Int) : Prop := (∃ t2 : Nat, t2 = 51 + 31 * ((A 0 9)).toNat ∧ (∃ z3 : Int, q_X9_isThere_1_1 t2 x1 A z3 ∧ (((¬ z3 = 0) ∧ (((x2 < 0 ∨ 7 < x2) ∧ (z = (-1))) ∨ (x2 = 0 ∧ (∃ z8 : Int, z8 = A (t2 + 8) (x1).toNat ∧ (z = z8))) ∨ (x2 = 1 ∧ (∃ z9 : Int, z9 = A (t2 + 9) (x1).toNat ∧ (z = z9))) ∨ (x2 = 2 ∧ (∃ z10 : Int, q_X9_isBox t2 x1 A z10 ∧ (((z10 = 0) ∧ (z = 0)) ∨ ((¬ z10 = 0) ∧ (z = 1))))) ∨ (x2 = 3 ∧ (∃ z14 : Int, z14 = A (t2 + 10) (x1).toNat ∧ (z = z14))) ∨ (x2 = 4 ∧ (∃ z15 : Int, q_X9_shutMask t2 A z15 ∧ (∃ z18 : Int, z18 = oShr z15 x1 ∧ (∃ z19 : Int, z19 = oAnd z18 1 ∧ (z = z19))))) ∨ (x2 = 5 ∧ (∃ z20 : Int, q_X9_rowsWith t2 x1 A z20 ∧ (z = z20))) ∨ (x2 = 6 ∧ (∃ z24 : Int, z24 = oShr (A t2 15) x1 ∧ (∃ z25 : Int, z25 = oAnd z24 1 ∧ (z = z25)))) ∨ (x2 = 7 ∧ (∃ z26 : Int, q_X9_deadMask t2 A z26 ∧ (∃ z29 : Int, z29 = oShr z26 x1 ∧ (∃ z30 : Int, z30 = oAnd z29 1 ∧ (z = z30))))))) ∨ ((z3 = 0) ∧ (z = (-1))))))
def r_X11_door (x1 : Int) (x2 : Int) (A : St) (z : Int) : Prop := tr_r_X11_door x1 x2 A z
theorem u_r_X11_door {x1 : Int} {x2 : Int} {A : St} {z : Int} (h : tr_r_X11_door x1 x2 A z) : r_X11_door x1 x2 A z := h
def ws_kc_X11_door : List Cond := .code yX11_door cX11_door 3 (some .int) :: WY
set_option maxHeartbeats 4000000 in
set_option maxRecDepth 100000 in
theorem kc_X11_door (l : Launch) (dC : Nat → ClassId) (dI : Nat → Nat → Nat) (cB cI cJ cZ cQ : ClassId) (aL aS : Nat) (q : Nat → Nat) (A : St) (x1 x2 : Int) (hI : IK A) (hx1 : (-2147483648 : Int) ≤ x1 ∧ x1 ≤ 2147483647) (hx2 : (-2147483648 : Int) ≤ x2 ∧ x2 ≤ 2147483647) : KMi l yX11_door ws_kc_X11_door ({ frames := 3, cells := 0, slots := 0, locals := 68 } : Room) aL aS (dC, dI) (tyA cB cI cJ cZ cQ) (WK cB cI cJ cZ cQ q) A [.ref (q 0), .int (iI x1), .int (iI x2)] (fun z u => A = u ∧ r_X11_door x1 x2 A z ∧ (-2147483648 ≤ z ∧ z ≤ 2147483647)) := by
  refine k_meti (cc := cX11_door) (maxL := 3) WK_adr (plainFor_of_name (by decide +kernel)) rfl (Nat.le_of_ble_eq_true rfl) (fun p e s m below meth c Q AS ls hx hb hml hown hts hK hDD hA0 hE RET H locs hP hS hl => ?_)
  have hown : s.vm.findClass RX11 = some m.cls := hown
  have hl : lv_has ls 3 [(0, .ref (q 0)), (1, .int (iI x1)), (2, .int (iI x2))] := hl
  have hiX11 : ∀ w ∈ u_ws RX11 TX11 11, w ∈ ws_kc_X11_door := fun w h => List.mem_cons_of_mem _ (wy_layX11 w h)
  have hiX9 : ∀ w ∈ u_ws RX9 TX9 16, w ∈ ws_kc_X11_door := fun w h => List.mem_cons_of_mem _ (wy_layX9 w h)
  refine lv_aload_n hx hb (dk_at dkX11_door_0 0 rfl) rfl (lv_at hl 0 rfl) ?_
  have r1 : (0 : Int) ≤ (A 0 9) ∧ (A 0 9) ≤ 1 := irK_9 hI
  obtain ⟨t2, et2⟩ : ∃ t : Nat, t = 51 + 31 * ((A 0 9)).toNat := ⟨_, rfl⟩
  have ht2 : isT t2 := by rw [et2]; exact isT.b r1
  refine va_get (D := (dC, dI)) (ci := 11) (v := .ref (q (51 + 31 * (A 0 9).toNat))) (C := RX11) (T := TX11) (N := 11) hx hb hts hiX11 hown hK hP 0 (wkK) rfl 9 (by decide) (hts _ (List.mem_cons_of_mem _ wkq_10_36)) (fun _ h9 => h9) rfl (dk_at dkX11_door_0 1 rfl) ?_
  refine tp_v (y := .ref (q t2)) (by rw [et2]) ?_
  refine lv_iconst (v := iI 1) hx hb (dk_at dkX11_door_0 2 rfl) (by decide +kernel) ?_
  refine lv_iload_n hx hb (dk_at dkX11_door_0 3 rfl) rfl (lv_at hl 1 rfl) ?_
  refine k_calli (As := [.int (iI 1), .int (iI x1)]) (rest := []) ⟨hx, hb, hml, hown, hts⟩ hE (kc_X9_isThere_1_1 l dC dI cB cI cJ cZ cQ aL aS q _ t2 x1 hI ht2 hx1) (cwV 2 hts (goodVk wkq_10_54 wkq_0_22 wkq_0_23 wkq_0_6 wkq_0_24) rfl rfl rfl (by decide +kernel) ⟨Nat.le_of_ble_eq_true rfl, Nat.le_of_ble_eq_true rfl⟩) hK hDD hA0 hP hS t2 9 (wkT ht2) rfl rfl hl.1 (Nat.le_of_ble_eq_true rfl) (dk_at dkX11_door_0 4 rfl) (fun z3 A4 H locs hw5 hP hS => ?_)
  obtain ⟨rfl, hw5⟩ := hw5
  have ghw5 : q_X9_isThere_1_1 t2 x1 A z3 := hw5
  have hw5 := hw5.2
  have rz3 : 0 ≤ z3 ∧ z3 ≤ 1 := hw5.1
  have hw5 := hw5.2
  refine lv_if_ne (tgt := 14) hx hb (dk_at dkX11_door_0 5 rfl) (by decide) (fun c6 => ?_) (fun c6 => ?_)
  · have c6 : ¬ z3 = 0 := mt (i_eq0 (rb rz3 (by decide) (by decide))).mpr c6
    have hw5b := hw5 (by omega)
    clear hw5
    refine lv_iload_n hx hb (dk_at dkX11_door_0 8 rfl) rfl (lv_at hl 2 rfl) ?_
    rcases (show (x2 < 0 ∨ 7 < x2) ∨ x2 = 0 ∨ x2 = 1 ∨ x2 = 2 ∨ x2 = 3 ∨ x2 = 4 ∨ x2 = 5 ∨ x2 = 6 ∨ x2 = 7 by omega) with c7 | c7 | c7 | c7 | c7 | c7 | c7 | c7 | c7
    · refine lv_tableOut (tgt := 152) hx hb (dk_at dkX11_door_0 9 rfl) (by rw [iI_toInt hx2]; exact c7) (by decide) ?_
      refine lv_iconst (v := iI (-1)) hx hb (dk_at dkX11_door_4 2 rfl) (by decide +kernel) ?_
      exact RET (-1) _ _ _ _ _ ⟨rfl, (u_r_X11_door ⟨t2, et2, ⟨z3, ghw5, (Or.inl ⟨c6, (Or.inl ⟨c7, rfl⟩)⟩)⟩⟩), ⟨by decide, by decide⟩⟩ hP hS (dk_at dkX11_door_4 3 rfl)
    · refine tp_i (y := iI 0) (congrArg iI c7) ?_
      refine lv_tableIn (off := 45) (tgt := 60) hx hb (dk_at dkX11_door_0 9 rfl) (by decide +kernel) (by decide +kernel) (by decide +kernel) (by decide) ?_
      refine lv_aload_n hx hb (dk_at dkX11_door_0 10 rfl) rfl (lv_at hl 0 rfl) ?_
      refine va_get (D := (dC, dI)) (ci := 11) (v := .ref (q (51 + 31 * (A 0 9).toNat))) (C := RX11) (T := TX11) (N := 11) hx hb hts hiX11 hown hK hP 0 (wkK) rfl 9 (by decide) (hts _ (List.mem_cons_of_mem _ wkq_10_36)) (fun _ h9 => h9) rfl (dk_at dkX11_door_0 11 rfl) ?_
      refine tp_v (y := .ref (q t2)) (by rw [et2]) ?_
      refine va_get (D := (dC, dI)) (ci := 9) (v := .ref (q (t2 + 8))) (C := RX9) (T := TX9) (N := 16) hx hb hts hiX9 hown hK hP t2 (wkT ht2) rfl 2 (by decide) (hts _ (List.mem_cons_of_mem _ wkq_10_56)) (fun _ h9 => h9) rfl (dk_at dkX11_door_0 12 rfl) ?_
      refine lv_iload_n hx hb (dk_at dkX11_door_0 13 rfl) rfl (lv_at hl 1 rfl) ?_
      refine x_iald (Wf := WK cB cI cJ cZ cQ q) hx hb hK hP (t2 + 8) 1 (wkTf ht2) rfl (by omega) (by decide) (dk_at dkX11_door_0 14 rfl) (fun z8 hz8 => ?_)
      have rz8 : (-2147483648 : Int) ≤ z8 ∧ z8 ≤ 2147483647 := by rw [hz8]; exact irTf ht2 hI
      have gz8 := Hd.mk hz8
      exact RET z8 _ _ _ _ _ ⟨rfl, (u_r_X11_door ⟨t2, et2, ⟨z3, ghw5, (Or.inl ⟨c6, (Or.inr (Or.inl ⟨c7, ⟨z8, gz8.out, rfl⟩⟩))⟩)⟩⟩), rz8⟩ hP hS (dk_at dkX11_door_0 15 rfl)
    · refine tp_i (y := iI 1) (congrArg iI c7) ?_
      refine lv_tableIn (off := 55) (tgt := 70) hx hb (dk_at dkX11_door_0 9 rfl) (by decide +kernel) (by decide +kernel) (by decide +kernel) (by decide) ?_
      refine lv_aload_n hx hb (dk_at dkX11_door_1 0 rfl) rfl (lv_at hl 0 rfl) ?_
      refine va_get (D := (dC, dI)) (ci := 11) (v := .ref (q (51 + 31 * (A 0 9).toNat))) (C := RX11) (T := TX11) (N := 11) hx hb hts hiX11 hown hK hP 0 (wkK) rfl 9 (by decide) (hts _ (List.mem_cons_of_mem _ wkq_10_36)) (fun _ h9 => h9) rfl (dk_at dkX11_door_1 1 rfl) ?_
      refine tp_v (y := .ref (q t2)) (by rw [et2]) ?_
      refine va_get (D := (dC, dI)) (ci := 9) (v := .ref (q (t2 + 9))) (C := RX9) (T := TX9) (N := 16) hx hb hts hiX9 hown hK hP t2 (wkT ht2) rfl 3 (by decide) (hts _ (List.mem_cons_of_mem _ wkq_10_57)) (fun _ h9 => h9) rfl (dk_at dkX11_door_1 2 rfl) ?_
      refine lv_iload_n hx hb (dk_at dkX11_door_1 3 rfl) rfl (lv_at hl 1 rfl) ?_
      refine x_iald (Wf := WK cB cI cJ cZ cQ q) hx hb hK hP (t2 + 9) 1 (wkTs ht2) rfl (by omega) (by decide) (dk_at dkX11_door_1 4 rfl) (fun z9 hz9 => ?_)
      have rz9 : (-2147483648 : Int) ≤ z9 ∧ z9 ≤ 2147483647 := by rw [hz9]; exact irTs ht2 hI
      have gz9 := Hd.mk hz9
      exact RET z9 _ _ _ _ _ ⟨rfl, (u_r_X11_door ⟨t2, et2, ⟨z3, ghw5, (Or.inl ⟨c6, (Or.inr (Or.inr (Or.inl ⟨c7, ⟨z9, gz9.out, rfl⟩⟩)))⟩)⟩⟩), rz9⟩ hP hS (dk_at dkX11_door_1 5 rfl)
    · refine tp_i (y := iI 2) (congrArg iI c7) ?_
      refine lv_tableIn (off := 65) (tgt := 80) hx hb (dk_at dkX11_door_0 9 rfl) (by decide +kernel) (by decide +kernel) (by decide +kernel) (by decide) ?_
      refine lv_aload_n hx hb (dk_at dkX11_door_1 6 rfl) rfl (lv_at hl 0 rfl) ?_
      refine va_get (D := (dC, dI)) (ci := 11) (v := .ref (q (51 + 31 * (A 0 9).toNat))) (C := RX11) (T := TX11) (N := 11) hx hb hts hiX11 hown hK hP 0 (wkK) rfl 9 (by decide) (hts _ (List.mem_cons_of_mem _ wkq_10_36)) (fun _ h9 => h9) rfl (dk_at dkX11_door_1 7 rfl) ?_
      refine tp_v (y := .ref (q t2)) (by rw [et2]) ?_
      refine lv_iload_n hx hb (dk_at dkX11_door_1 8 rfl) rfl (lv_at hl 1 rfl) ?_
      refine k_calli (As := [.int (iI x1)]) (rest := []) ⟨hx, hb, hml, hown, hts⟩ hE (kc_X9_isBox l dC dI cB cI cJ cZ cQ aL aS q _ t2 x1 hI ht2 hx1) (cwV 1 hts (goodVk wkq_11_0 wkq_1_6 wkq_1_7 wkq_0_6 wkq_1_8) rfl rfl rfl (by decide +kernel) ⟨Nat.le_of_ble_eq_true rfl, Nat.le_of_ble_eq_true rfl⟩) hK hDD hA0 hP hS t2 9 (wkT ht2) rfl rfl hl.1 (Nat.le_of_ble_eq_true rfl) (dk_at dkX11_door_1 9 rfl) (fun z10 A11 H locs hw12 hP hS => ?_)
      obtain ⟨rfl, hw12⟩ := hw12
      have ghw12 : q_X9_isBox t2 x1 A z10 := hw12
      have hw12 := hw12.2
      have rz10 : 0 ≤ z10 ∧ z10 ≤ 1 := hw12.1
      have hw12 := hw12.2
      refine lv_if_eq (tgt := 95) hx hb (dk_at dkX11_door_1 10 rfl) (by decide) (fun c13 => ?_) (fun c13 => ?_)
      · have c13 : z10 = 0 := (i_eq0 (rb rz10 (by decide) (by decide))).mp c13
        clear hw12
        refine lv_iconst (v := iI 0) hx hb (dk_at dkX11_door_1 13 rfl) (by decide +kernel) ?_
        exact RET 0 _ _ _ _ _ ⟨rfl, (u_r_X11_door ⟨t2, et2, ⟨z3, ghw5, (Or.inl ⟨c6, (Or.inr (Or.inr (Or.inr (Or.inl ⟨c7, ⟨z10, ghw12, (Or.inl ⟨c13, rfl⟩)⟩⟩))))⟩)⟩⟩), ⟨by decide, by decide⟩⟩ hP hS (dk_at dkX11_door_1 14 rfl)
      · have c13 : ¬ z10 = 0 := mt (i_eq0 (rb rz10 (by decide) (by decide))).mpr c13
        have hw12b := hw12 (by omega)
        clear hw12
        refine lv_iconst (v := iI 1) hx hb (dk_at dkX11_door_1 11 rfl) (by decide +kernel) ?_
        refine lv_goto (tgt := 96) hx hb (dk_at dkX11_door_1 12 rfl) (by decide) ?_
        exact RET 1 _ _ _ _ _ ⟨rfl, (u_r_X11_door ⟨t2, et2, ⟨z3, ghw5, (Or.inl ⟨c6, (Or.inr (Or.inr (Or.inr (Or.inl ⟨c7, ⟨z10, ghw12, (Or.inr ⟨c13, rfl⟩)⟩⟩))))⟩)⟩⟩), ⟨by decide, by decide⟩⟩ hP hS (dk_at dkX11_door_1 14 rfl)
    · refine tp_i (y := iI 3) (congrArg iI c7) ?_
      refine lv_tableIn (off := 82) (tgt := 97) hx hb (dk_at dkX11_door_0 9 rfl) (by decide +kernel) (by decide +kernel) (by decide +kernel) (by decide) ?_
      refine lv_aload_n hx hb (dk_at dkX11_door_1 15 rfl) rfl (lv_at hl 0 rfl) ?_
      refine va_get (D := (dC, dI)) (ci := 11) (v := .ref (q (51 + 31 * (A 0 9).toNat))) (C := RX11) (T := TX11) (N := 11) hx hb hts hiX11 hown hK hP 0 (wkK) rfl 9 (by decide) (hts _ (List.mem_cons_of_mem _ wkq_10_36)) (fun _ h9 => h9) rfl (dk_at dkX11_door_2 0 rfl) ?_
      refine tp_v (y := .ref (q t2)) (by rw [et2]) ?_
      refine va_get (D := (dC, dI)) (ci := 9) (v := .ref (q (t2 + 10))) (C := RX9) (T := TX9) (N := 16) hx hb hts hiX9 hown hK hP t2 (wkT ht2) rfl 4 (by decide) (hts _ (List.mem_cons_of_mem _ wkq_10_58)) (fun _ h9 => h9) rfl (dk_at dkX11_door_2 1 rfl) ?_
      refine lv_iload_n hx hb (dk_at dkX11_door_2 2 rfl) rfl (lv_at hl 1 rfl) ?_
      refine x_iald (Wf := WK cB cI cJ cZ cQ q) hx hb hK hP (t2 + 10) 1 (wkTm ht2) rfl (by omega) (by decide) (dk_at dkX11_door_2 3 rfl) (fun z14 hz14 => ?_)
      have rz14 : (-2147483648 : Int) ≤ z14 ∧ z14 ≤ 2147483647 := by rw [hz14]; exact irTm ht2 hI
      have gz14 := Hd.mk hz14
      exact RET z14 _ _ _ _ _ ⟨rfl, (u_r_X11_door ⟨t2, et2, ⟨z3, ghw5, (Or.inl ⟨c6, (Or.inr (Or.inr (Or.inr (Or.inr (Or.inl ⟨c7, ⟨z14, gz14.out, rfl⟩⟩)))))⟩)⟩⟩), rz14⟩ hP hS (dk_at dkX11_door_2 4 rfl)
    · refine tp_i (y := iI 4) (congrArg iI c7) ?_
      refine lv_tableIn (off := 92) (tgt := 107) hx hb (dk_at dkX11_door_0 9 rfl) (by decide +kernel) (by decide +kernel) (by decide +kernel) (by decide) ?_
      refine lv_aload_n hx hb (dk_at dkX11_door_2 5 rfl) rfl (lv_at hl 0 rfl) ?_
      refine va_get (D := (dC, dI)) (ci := 11) (v := .ref (q (51 + 31 * (A 0 9).toNat))) (C := RX11) (T := TX11) (N := 11) hx hb hts hiX11 hown hK hP 0 (wkK) rfl 9 (by decide) (hts _ (List.mem_cons_of_mem _ wkq_10_36)) (fun _ h9 => h9) rfl (dk_at dkX11_door_2 6 rfl) ?_
      refine tp_v (y := .ref (q t2)) (by rw [et2]) ?_
      refine k_calli (As := []) (rest := []) ⟨hx, hb, hml, hown, hts⟩ hE (kc_X9_shutMask l dC dI cB cI cJ cZ cQ aL aS q _ t2 hI ht2) (cwV 0 hts (goodVk wkq_10_47 wkq_8_55 wkq_8_56 wkq_0_6 wkq_8_50) rfl rfl rfl (by decide +kernel) ⟨Nat.le_of_ble_eq_true rfl, Nat.le_of_ble_eq_true rfl⟩) hK hDD hA0 hP hS t2 9 (wkT ht2) rfl rfl hl.1 (Nat.le_of_ble_eq_true rfl) (dk_at dkX11_door_2 7 rfl) (fun z15 A16 H locs hw17 hP hS => ?_)
      obtain ⟨rfl, hw17⟩ := hw17
      have ghw17 : q_X9_shutMask t2 A z15 := hw17
      have hw17 := hw17.2
      refine lv_iload_n hx hb (dk_at dkX11_door_2 8 rfl) rfl (lv_at hl 1 rfl) ?_
      refine lv_ishr hx hb (dk_at dkX11_door_2 9 rfl) ?_
      refine x_absE (fun z18 gz18 hz18 => ?_)
      refine lv_iconst (v := iI 1) hx hb (dk_at dkX11_door_2 10 rfl) (by decide +kernel) ?_
      refine lv_iand hx hb (dk_at dkX11_door_2 11 rfl) ?_
      refine x_andE (b := 1) (by omega) (fun z19 gz19 hz19 => ?_)
      exact RET z19 _ _ _ _ _ ⟨rfl, (u_r_X11_door ⟨t2, et2, ⟨z3, ghw5, (Or.inl ⟨c6, (Or.inr (Or.inr (Or.inr (Or.inr (Or.inr (Or.inl ⟨c7, ⟨z15, ghw17, ⟨z18, gz18.out, ⟨z19, gz19.out, rfl⟩⟩⟩⟩))))))⟩)⟩⟩), (by omega)⟩ hP hS (dk_at dkX11_door_2 12 rfl)
    · refine tp_i (y := iI 5) (congrArg iI c7) ?_
      refine lv_tableIn (off := 104) (tgt := 119) hx hb (dk_at dkX11_door_0 9 rfl) (by decide +kernel) (by decide +kernel) (by decide +kernel) (by decide) ?_
      refine lv_aload_n hx hb (dk_at dkX11_door_2 13 rfl) rfl (lv_at hl 0 rfl) ?_
      refine va_get (D := (dC, dI)) (ci := 11) (v := .ref (q (51 + 31 * (A 0 9).toNat))) (C := RX11) (T := TX11) (N := 11) hx hb hts hiX11 hown hK hP 0 (wkK) rfl 9 (by decide) (hts _ (List.mem_cons_of_mem _ wkq_10_36)) (fun _ h9 => h9) rfl (dk_at dkX11_door_2 14 rfl) ?_
      refine tp_v (y := .ref (q t2)) (by rw [et2]) ?_
      refine lv_iload_n hx hb (dk_at dkX11_door_2 15 rfl) rfl (lv_at hl 1 rfl) ?_
      refine k_calli (As := [.int (iI x1)]) (rest := []) ⟨hx, hb, hml, hown, hts⟩ hE (kc_X9_rowsWith l dC dI cB cI cJ cZ cQ aL aS q _ t2 x1 hI ht2 hx1) (cwV 1 hts (goodVk wkq_11_1 wkq_11_2 wkq_11_3 wkq_0_6 wkq_8_57) rfl rfl rfl (by decide +kernel) ⟨Nat.le_of_ble_eq_true rfl, Nat.le_of_ble_eq_true rfl⟩) hK hDD hA0 hP hS t2 9 (wkT ht2) rfl rfl hl.1 (Nat.le_of_ble_eq_true rfl) (dk_at dkX11_door_3 0 rfl) (fun z20 A21 H locs hw22 hP hS => ?_)
      obtain ⟨rfl, hw22⟩ := hw22
      have ghw22 : q_X9_rowsWith t2 x1 A z20 := hw22
      have hw22 := hw22.2
      exact RET z20 _ _ _ _ _ ⟨rfl, (u_r_X11_door ⟨t2, et2, ⟨z3, ghw5, (Or.inl ⟨c6, (Or.inr (Or.inr (Or.inr (Or.inr (Or.inr (Or.inr (Or.inl ⟨c7, ⟨z20, ghw22, rfl⟩⟩)))))))⟩)⟩⟩), hw22⟩ hP hS (dk_at dkX11_door_3 1 rfl)
    · refine tp_i (y := iI 6) (congrArg iI c7) ?_
      refine lv_tableIn (off := 113) (tgt := 128) hx hb (dk_at dkX11_door_0 9 rfl) (by decide +kernel) (by decide +kernel) (by decide +kernel) (by decide) ?_
      refine lv_aload_n hx hb (dk_at dkX11_door_3 2 rfl) rfl (lv_at hl 0 rfl) ?_
      refine va_get (D := (dC, dI)) (ci := 11) (v := .ref (q (51 + 31 * (A 0 9).toNat))) (C := RX11) (T := TX11) (N := 11) hx hb hts hiX11 hown hK hP 0 (wkK) rfl 9 (by decide) (hts _ (List.mem_cons_of_mem _ wkq_10_36)) (fun _ h9 => h9) rfl (dk_at dkX11_door_3 3 rfl) ?_
      refine tp_v (y := .ref (q t2)) (by rw [et2]) ?_
      have r23 : (-2147483648 : Int) ≤ (A t2 15) ∧ (A t2 15) ≤ 2147483647 := irT_15 ht2 hI
      refine va_get (D := (dC, dI)) (ci := 9) (v := .int (iI (A t2 15))) (C := RX9) (T := TX9) (N := 16) hx hb hts hiX9 hown hK hP t2 (wkT ht2) rfl 15 (by decide) (hts _ (List.mem_cons_of_mem _ wkq_10_59)) (fun _ h9 => h9) rfl (dk_at dkX11_door_3 4 rfl) ?_
      refine lv_iload_n hx hb (dk_at dkX11_door_3 5 rfl) rfl (lv_at hl 1 rfl) ?_
      refine lv_ishr hx hb (dk_at dkX11_door_3 6 rfl) ?_
      refine x_absE (fun z24 gz24 hz24 => ?_)
      refine lv_iconst (v := iI 1) hx hb (dk_at dkX11_door_3 7 rfl) (by decide +kernel) ?_
      refine lv_iand hx hb (dk_at dkX11_door_3 8 rfl) ?_
      refine x_andE (b := 1) (by omega) (fun z25 gz25 hz25 => ?_)
      exact RET z25 _ _ _ _ _ ⟨rfl, (u_r_X11_door ⟨t2, et2, ⟨z3, ghw5, (Or.inl ⟨c6, (Or.inr (Or.inr (Or.inr (Or.inr (Or.inr (Or.inr (Or.inr (Or.inl ⟨c7, ⟨z24, gz24.out, ⟨z25, gz25.out, rfl⟩⟩⟩))))))))⟩)⟩⟩), (by omega)⟩ hP hS (dk_at dkX11_door_3 9 rfl)
    · refine tp_i (y := iI 7) (congrArg iI c7) ?_
      refine lv_tableIn (off := 125) (tgt := 140) hx hb (dk_at dkX11_door_0 9 rfl) (by decide +kernel) (by decide +kernel) (by decide +kernel) (by decide) ?_
      refine lv_aload_n hx hb (dk_at dkX11_door_3 10 rfl) rfl (lv_at hl 0 rfl) ?_
      refine va_get (D := (dC, dI)) (ci := 11) (v := .ref (q (51 + 31 * (A 0 9).toNat))) (C := RX11) (T := TX11) (N := 11) hx hb hts hiX11 hown hK hP 0 (wkK) rfl 9 (by decide) (hts _ (List.mem_cons_of_mem _ wkq_10_36)) (fun _ h9 => h9) rfl (dk_at dkX11_door_3 11 rfl) ?_
      refine tp_v (y := .ref (q t2)) (by rw [et2]) ?_
      refine k_calli (As := []) (rest := []) ⟨hx, hb, hml, hown, hts⟩ hE (kc_X9_deadMask l dC dI cB cI cJ cZ cQ aL aS q _ t2 hI ht2) (cwV 0 hts (goodVk wkq_10_49 wkq_10_50 wkq_10_51 wkq_0_6 wkq_8_52) rfl rfl rfl (by decide +kernel) ⟨Nat.le_of_ble_eq_true rfl, Nat.le_of_ble_eq_true rfl⟩) hK hDD hA0 hP hS t2 9 (wkT ht2) rfl rfl hl.1 (Nat.le_of_ble_eq_true rfl) (dk_at dkX11_door_3 12 rfl) (fun z26 A27 H locs hw28 hP hS => ?_)
      obtain ⟨rfl, hw28⟩ := hw28
      have ghw28 : q_X9_deadMask t2 A z26 := hw28
      have hw28 := hw28.2
      refine lv_iload_n hx hb (dk_at dkX11_door_3 13 rfl) rfl (lv_at hl 1 rfl) ?_
      refine lv_ishr hx hb (dk_at dkX11_door_3 14 rfl) ?_
      refine x_absE (fun z29 gz29 hz29 => ?_)
      refine lv_iconst (v := iI 1) hx hb (dk_at dkX11_door_3 15 rfl) (by decide +kernel) ?_
      refine lv_iand hx hb (dk_at dkX11_door_4 0 rfl) ?_
      refine x_andE (b := 1) (by omega) (fun z30 gz30 hz30 => ?_)
      exact RET z30 _ _ _ _ _ ⟨rfl, (u_r_X11_door ⟨t2, et2, ⟨z3, ghw5, (Or.inl ⟨c6, (Or.inr (Or.inr (Or.inr (Or.inr (Or.inr (Or.inr (Or.inr (Or.inr ⟨c7, ⟨z26, ghw28, ⟨z29, gz29.out, ⟨z30, gz30.out, rfl⟩⟩⟩⟩))))))))⟩)⟩⟩), (by omega)⟩ hP hS (dk_at dkX11_door_4 1 rfl)
  · have c6 : z3 = 0 := (i_eq0 (rb rz3 (by decide) (by decide))).mp c6
    clear hw5
    refine lv_iconst (v := iI (-1)) hx hb (dk_at dkX11_door_0 6 rfl) (by decide +kernel) ?_
    exact RET (-1) _ _ _ _ _ ⟨rfl, (u_r_X11_door ⟨t2, et2, ⟨z3, ghw5, (Or.inr ⟨c6, rfl⟩)⟩⟩), ⟨by decide, by decide⟩⟩ hP hS (dk_at dkX11_door_0 7 rfl)

abbrev tr_r_X11_key (x1 : Int) (x2 : Int) (A : St) (z : Int) : Prop := (∃ t2 : Nat, t2 = 51 + 31 * ((A 0 9)).toNat ∧ (∃ z3 : Int, q_X9_isThere_1_2 t2 x1 A z3 ∧ (((¬ z3 = 0) ∧ (((x2 < 0 ∨ 2 < x2) ∧ (z = (-1))) ∨ (x2 = 0 ∧ (∃ z8 : Int, z8 = A ((t2 + 22) + 2) (x1).toNat ∧ (z = z8))) ∨ (x2 = 1 ∧ (∃ z9 : Int, z9 = A ((t2 + 22) + 3) (x1).toNat ∧ (z = z9))) ∨ (x2 = 2 ∧ (∃ z10 : Int, q_X6_topOf (t2 + 22) x1 A z10 ∧ (z = z10))))) ∨ ((z3 = 0) ∧ (z = (-1))))))
def r_X11_key (x1 : Int) (x2 : Int) (A : St) (z : Int) : Prop := tr_r_X11_key x1 x2 A z
theorem u_r_X11_key {x1 : Int} {x2 : Int} {A : St} {z : Int} (h : tr_r_X11_key x1 x2 A z) : r_X11_key x1 x2 A z := h
def ws_kc_X11_key : List Cond := .code yX11_key cX11_key 3 (some .int) :: WY
set_option maxHeartbeats 4000000 in
set_option maxRecDepth 100000 in
theorem kc_X11_key (l : Launch) (dC : Nat → ClassId) (dI : Nat → Nat → Nat) (cB cI cJ cZ cQ : ClassId) (aL aS : Nat) (q : Nat → Nat) (A : St) (x1 x2 : Int) (hI : IK A) (hx1 : (-2147483648 : Int) ≤ x1 ∧ x1 ≤ 2147483647) (hx2 : (-2147483648 : Int) ≤ x2 ∧ x2 ≤ 2147483647) : KMi l yX11_key ws_kc_X11_key ({ frames := 2, cells := 0, slots := 0, locals := 43 } : Room) aL aS (dC, dI) (tyA cB cI cJ cZ cQ) (WK cB cI cJ cZ cQ q) A [.ref (q 0), .int (iI x1), .int (iI x2)] (fun z u => A = u ∧ r_X11_key x1 x2 A z ∧ (-2147483648 ≤ z ∧ z ≤ 2147483647)) := by
  refine k_meti (cc := cX11_key) (maxL := 3) WK_adr (plainFor_of_name (by decide +kernel)) rfl (Nat.le_of_ble_eq_true rfl) (fun p e s m below meth c Q AS ls hx hb hml hown hts hK hDD hA0 hE RET H locs hP hS hl => ?_)
  have hown : s.vm.findClass RX11 = some m.cls := hown
  have hl : lv_has ls 3 [(0, .ref (q 0)), (1, .int (iI x1)), (2, .int (iI x2))] := hl
  have hiX11 : ∀ w ∈ u_ws RX11 TX11 11, w ∈ ws_kc_X11_key := fun w h => List.mem_cons_of_mem _ (wy_layX11 w h)
  have hiX9 : ∀ w ∈ u_ws RX9 TX9 16, w ∈ ws_kc_X11_key := fun w h => List.mem_cons_of_mem _ (wy_layX9 w h)
  have hiX6 : ∀ w ∈ u_ws RX6 TX6 4, w ∈ ws_kc_X11_key := fun w h => List.mem_cons_of_mem _ (wy_layX6 w h)
  refine lv_aload_n hx hb (dk_at dkX11_key_0 0 rfl) rfl (lv_at hl 0 rfl) ?_
  have r1 : (0 : Int) ≤ (A 0 9) ∧ (A 0 9) ≤ 1 := irK_9 hI
  obtain ⟨t2, et2⟩ : ∃ t : Nat, t = 51 + 31 * ((A 0 9)).toNat := ⟨_, rfl⟩
  have ht2 : isT t2 := by rw [et2]; exact isT.b r1
  refine va_get (D := (dC, dI)) (ci := 11) (v := .ref (q (51 + 31 * (A 0 9).toNat))) (C := RX11) (T := TX11) (N := 11) hx hb hts hiX11 hown hK hP 0 (wkK) rfl 9 (by decide) (hts _ (List.mem_cons_of_mem _ wkq_10_36)) (fun _ h9 => h9) rfl (dk_at dkX11_key_0 1 rfl) ?_
  refine tp_v (y := .ref (q t2)) (by rw [et2]) ?_
  refine lv_iconst (v := iI 2) hx hb (dk_at dkX11_key_0 2 rfl) (by decide +kernel) ?_
  refine lv_iload_n hx hb (dk_at dkX11_key_0 3 rfl) rfl (lv_at hl 1 rfl) ?_
  refine k_calli (As := [.int (iI 2), .int (iI x1)]) (rest := []) ⟨hx, hb, hml, hown, hts⟩ hE (kc_X9_isThere_1_2 l dC dI cB cI cJ cZ cQ aL aS q _ t2 x1 hI ht2 hx1) (cwV 2 hts (goodVk wkq_10_54 wkq_0_22 wkq_0_23 wkq_0_6 wkq_0_24) rfl rfl rfl (by decide +kernel) ⟨Nat.le_of_ble_eq_true rfl, Nat.le_of_ble_eq_true rfl⟩) hK hDD hA0 hP hS t2 9 (wkT ht2) rfl rfl hl.1 (Nat.le_of_ble_eq_true rfl) (dk_at dkX11_key_0 4 rfl) (fun z3 A4 H locs hw5 hP hS => ?_)
  obtain ⟨rfl, hw5⟩ := hw5
  have ghw5 : q_X9_isThere_1_2 t2 x1 A z3 := hw5
  have hw5 := hw5.2
  have rz3 : 0 ≤ z3 ∧ z3 ≤ 1 := hw5.1
  have hw5 := hw5.2
  refine lv_if_ne (tgt := 14) hx hb (dk_at dkX11_key_0 5 rfl) (by decide) (fun c6 => ?_) (fun c6 => ?_)
  · have c6 : ¬ z3 = 0 := mt (i_eq0 (rb rz3 (by decide) (by decide))).mpr c6
    have hw5b := hw5 (by omega)
    clear hw5
    refine lv_iload_n hx hb (dk_at dkX11_key_0 8 rfl) rfl (lv_at hl 2 rfl) ?_
    rcases (show (x2 < 0 ∨ 2 < x2) ∨ x2 = 0 ∨ x2 = 1 ∨ x2 = 2 by omega) with c7 | c7 | c7 | c7
    · refine lv_tableOut (tgt := 78) hx hb (dk_at dkX11_key_0 9 rfl) (by rw [iI_toInt hx2]; exact c7) (by decide) ?_
      refine lv_iconst (v := iI (-1)) hx hb (dk_at dkX11_key_1 14 rfl) (by decide +kernel) ?_
      exact RET (-1) _ _ _ _ _ ⟨rfl, (u_r_X11_key ⟨t2, et2, ⟨z3, ghw5, (Or.inl ⟨c6, (Or.inl ⟨c7, rfl⟩)⟩)⟩⟩), ⟨by decide, by decide⟩⟩ hP hS (dk_at dkX11_key_1 15 rfl)
    · refine tp_i (y := iI 0) (congrArg iI c7) ?_
      refine lv_tableIn (off := 25) (tgt := 40) hx hb (dk_at dkX11_key_0 9 rfl) (by decide +kernel) (by decide +kernel) (by decide +kernel) (by decide) ?_
      refine lv_aload_n hx hb (dk_at dkX11_key_0 10 rfl) rfl (lv_at hl 0 rfl) ?_
      refine va_get (D := (dC, dI)) (ci := 11) (v := .ref (q (51 + 31 * (A 0 9).toNat))) (C := RX11) (T := TX11) (N := 11) hx hb hts hiX11 hown hK hP 0 (wkK) rfl 9 (by decide) (hts _ (List.mem_cons_of_mem _ wkq_10_36)) (fun _ h9 => h9) rfl (dk_at dkX11_key_0 11 rfl) ?_
      refine tp_v (y := .ref (q t2)) (by rw [et2]) ?_
      refine va_get (D := (dC, dI)) (ci := 9) (v := .ref (q (t2 + 22))) (C := RX9) (T := TX9) (N := 16) hx hb hts hiX9 hown hK hP t2 (wkT ht2) rfl 14 (by decide) (hts _ (List.mem_cons_of_mem _ wkq_11_5)) (fun _ h9 => h9) rfl (dk_at dkX11_key_0 12 rfl) ?_
      refine va_get (D := (dC, dI)) (ci := 6) (v := .ref (q ((t2 + 22) + 2))) (C := RX6) (T := TX6) (N := 4) hx hb hts hiX6 hown hK hP (t2 + 22) (wkS ht2.s) rfl 1 (by decide) (hts _ (List.mem_cons_of_mem _ wkq_11_6)) (fun _ h9 => h9) rfl (dk_at dkX11_key_0 13 rfl) ?_
      refine lv_iload_n hx hb (dk_at dkX11_key_0 14 rfl) rfl (lv_at hl 1 rfl) ?_
      refine x_iald (Wf := WK cB cI cJ cZ cQ q) hx hb hK hP ((t2 + 22) + 2) 1 (wkSw ht2.s) rfl (by omega) (by decide) (dk_at dkX11_key_0 15 rfl) (fun z8 hz8 => ?_)
      have rz8 : (-2147483648 : Int) ≤ z8 ∧ z8 ≤ 2147483647 := by rw [hz8]; exact irSw ht2.s hI
      have gz8 := Hd.mk hz8
      exact RET z8 _ _ _ _ _ ⟨rfl, (u_r_X11_key ⟨t2, et2, ⟨z3, ghw5, (Or.inl ⟨c6, (Or.inr (Or.inl ⟨c7, ⟨z8, gz8.out, rfl⟩⟩))⟩)⟩⟩), rz8⟩ hP hS (dk_at dkX11_key_1 0 rfl)
    · refine tp_i (y := iI 1) (congrArg iI c7) ?_
      refine lv_tableIn (off := 38) (tgt := 53) hx hb (dk_at dkX11_key_0 9 rfl) (by decide +kernel) (by decide +kernel) (by decide +kernel) (by decide) ?_
      refine lv_aload_n hx hb (dk_at dkX11_key_1 1 rfl) rfl (lv_at hl 0 rfl) ?_
      refine va_get (D := (dC, dI)) (ci := 11) (v := .ref (q (51 + 31 * (A 0 9).toNat))) (C := RX11) (T := TX11) (N := 11) hx hb hts hiX11 hown hK hP 0 (wkK) rfl 9 (by decide) (hts _ (List.mem_cons_of_mem _ wkq_10_36)) (fun _ h9 => h9) rfl (dk_at dkX11_key_1 2 rfl) ?_
      refine tp_v (y := .ref (q t2)) (by rw [et2]) ?_
      refine va_get (D := (dC, dI)) (ci := 9) (v := .ref (q (t2 + 22))) (C := RX9) (T := TX9) (N := 16) hx hb hts hiX9 hown hK hP t2 (wkT ht2) rfl 14 (by decide) (hts _ (List.mem_cons_of_mem _ wkq_11_5)) (fun _ h9 => h9) rfl (dk_at dkX11_key_1 3 rfl) ?_
      refine va_get (D := (dC, dI)) (ci := 6) (v := .ref (q ((t2 + 22) + 3))) (C := RX6) (T := TX6) (N := 4) hx hb hts hiX6 hown hK hP (t2 + 22) (wkS ht2.s) rfl 2 (by decide) (hts _ (List.mem_cons_of_mem _ wkq_11_7)) (fun _ h9 => h9) rfl (dk_at dkX11_key_1 4 rfl) ?_
      refine lv_iload_n hx hb (dk_at dkX11_key_1 5 rfl) rfl (lv_at hl 1 rfl) ?_
      refine x_iald (Wf := WK cB cI cJ cZ cQ q) hx hb hK hP ((t2 + 22) + 3) 1 (wkSz ht2.s) rfl (by omega) (by decide) (dk_at dkX11_key_1 6 rfl) (fun z9 hz9 => ?_)
      have rz9 : (0 : Int) ≤ z9 ∧ z9 ≤ 6 := by rw [hz9]; exact irSz ht2.s hI
      have gz9 := Hd.mk hz9
      exact RET z9 _ _ _ _ _ ⟨rfl, (u_r_X11_key ⟨t2, et2, ⟨z3, ghw5, (Or.inl ⟨c6, (Or.inr (Or.inr (Or.inl ⟨c7, ⟨z9, gz9.out, rfl⟩⟩)))⟩)⟩⟩), (rb rz9 (by decide) (by decide))⟩ hP hS (dk_at dkX11_key_1 7 rfl)
    · refine tp_i (y := iI 2) (congrArg iI c7) ?_
      refine lv_tableIn (off := 51) (tgt := 66) hx hb (dk_at dkX11_key_0 9 rfl) (by decide +kernel) (by decide +kernel) (by decide +kernel) (by decide) ?_
      refine lv_aload_n hx hb (dk_at dkX11_key_1 8 rfl) rfl (lv_at hl 0 rfl) ?_
      refine va_get (D := (dC, dI)) (ci := 11) (v := .ref (q (51 + 31 * (A 0 9).toNat))) (C := RX11) (T := TX11) (N := 11) hx hb hts hiX11 hown hK hP 0 (wkK) rfl 9 (by decide) (hts _ (List.mem_cons_of_mem _ wkq_10_36)) (fun _ h9 => h9) rfl (dk_at dkX11_key_1 9 rfl) ?_
      refine tp_v (y := .ref (q t2)) (by rw [et2]) ?_
      refine va_get (D := (dC, dI)) (ci := 9) (v := .ref (q (t2 + 22))) (C := RX9) (T := TX9) (N := 16) hx hb hts hiX9 hown hK hP t2 (wkT ht2) rfl 14 (by decide) (hts _ (List.mem_cons_of_mem _ wkq_11_5)) (fun _ h9 => h9) rfl (dk_at dkX11_key_1 10 rfl) ?_
      refine lv_iload_n hx hb (dk_at dkX11_key_1 11 rfl) rfl (lv_at hl 1 rfl) ?_
      refine k_calli (As := [.int (iI x1)]) (rest := []) ⟨hx, hb, hml, hown, hts⟩ hE (kc_X6_topOf l dC dI cB cI cJ cZ cQ aL aS q _ (t2 + 22) x1 hI ht2.s hx1) (cwV 1 hts (goodVk wkq_11_8 wkq_9_14 wkq_9_15 wkq_0_52 wkq_8_44) rfl rfl rfl (by decide +kernel) ⟨Nat.le_of_ble_eq_true rfl, Nat.le_of_ble_eq_true rfl⟩) hK hDD hA0 hP hS (t2 + 22) 6 (wkS ht2.s) rfl rfl hl.1 (Nat.le_of_ble_eq_true rfl) (dk_at dkX11_key_1 12 rfl) (fun z10 A11 H locs hw12 hP hS => ?_)
      obtain ⟨rfl, hw12⟩ := hw12
      have ghw12 : q_X6_topOf (t2 + 22) x1 A z10 := hw12
      have hw12 := hw12.2
      exact RET z10 _ _ _ _ _ ⟨rfl, (u_r_X11_key ⟨t2, et2, ⟨z3, ghw5, (Or.inl ⟨c6, (Or.inr (Or.inr (Or.inr ⟨c7, ⟨z10, ghw12, rfl⟩⟩)))⟩)⟩⟩), (by omega)⟩ hP hS (dk_at dkX11_key_1 13 rfl)
  · have c6 : z3 = 0 := (i_eq0 (rb rz3 (by decide) (by decide))).mp c6
    clear hw5
    refine lv_iconst (v := iI (-1)) hx hb (dk_at dkX11_key_0 6 rfl) (by decide +kernel) ?_
    exact RET (-1) _ _ _ _ _ ⟨rfl, (u_r_X11_key ⟨t2, et2, ⟨z3, ghw5, (Or.inr ⟨c6, rfl⟩)⟩⟩), ⟨by decide, by decide⟩⟩ hP hS (dk_at dkX11_key_0 7 rfl)

abbrev tr_r_X11_in (x1 : Int) (x2 : Int) (A : St) (z : Int) : Prop := (∃ t2 : Nat, t2 = 51 + 31 * ((A 0 9)).toNat ∧ (∃ z3 : Int, q_X9_isThere_1_2 t2 x1 A z3 ∧ (((¬ z3 = 0) ∧ (∃ z7 : Int, q_X6_inRow (t2 + 22) x1 x2 A z7 ∧ (z = z7))) ∨ ((z3 = 0) ∧ (z = (-1))))))
def r_X11_in (x1 : Int) (x2 : Int) (A : St) (z : Int) : Prop := tr_r_X11_in x1 x2 A z
theorem u_r_X11_in {x1 : Int} {x2 : Int} {A : St} {z : Int} (h : tr_r_X11_in x1 x2 A z) : r_X11_in x1 x2 A z := h
def ws_kc_X11_in : List Cond := .code yX11_in cX11_in 3 (some .int) :: WY
set_option maxHeartbeats 4000000 in
set_option maxRecDepth 100000 in
theorem kc_X11_in (l : Launch) (dC : Nat → ClassId) (dI : Nat → Nat → Nat) (cB cI cJ cZ cQ : ClassId) (aL aS : Nat) (q : Nat → Nat) (A : St) (x1 x2 : Int) (hI : IK A) (hx1 : (-2147483648 : Int) ≤ x1 ∧ x1 ≤ 2147483647) (hx2 : (-2147483648 : Int) ≤ x2 ∧ x2 ≤ 2147483647) : KMi l yX11_in ws_kc_X11_in ({ frames := 1, cells := 0, slots := 0, locals := 22 } : Room) aL aS (dC, dI) (tyA cB cI cJ cZ cQ) (WK cB cI cJ cZ cQ q) A [.ref (q 0), .int (iI x1), .int (iI x2)] (fun z u => A = u ∧ r_X11_in x1 x2 A z ∧ (-2147483648 ≤ z ∧ z ≤ 2147483647)) := by
  refine k_meti (cc := cX11_in) (maxL := 3) WK_adr (plainFor_of_name (by decide +kernel)) rfl (Nat.le_of_ble_eq_true rfl) (fun p e s m below meth c Q AS ls hx hb hml hown hts hK hDD hA0 hE RET H locs hP hS hl => ?_)
  have hown : s.vm.findClass RX11 = some m.cls := hown
  have hl : lv_has ls 3 [(0, .ref (q 0)), (1, .int (iI x1)), (2, .int (iI x2))] := hl
  have hiX11 : ∀ w ∈ u_ws RX11 TX11 11, w ∈ ws_kc_X11_in := fun w h => List.mem_cons_of_mem _ (wy_layX11 w h)
  have hiX9 : ∀ w ∈ u_ws RX9 TX9 16, w ∈ ws_kc_X11_in := fun w h => List.mem_cons_of_mem _ (wy_layX9 w h)
  refine lv_aload_n hx hb (dk_at dkX11_in_0 0 rfl) rfl (lv_at hl 0 rfl) ?_
  have r1 : (0 : Int) ≤ (A 0 9) ∧ (A 0 9) ≤ 1 := irK_9 hI
  obtain ⟨t2, et2⟩ : ∃ t : Nat, t = 51 + 31 * ((A 0 9)).toNat := ⟨_, rfl⟩
  have ht2 : isT t2 := by rw [et2]; exact isT.b r1
  refine va_get (D := (dC, dI)) (ci := 11) (v := .ref (q (51 + 31 * (A 0 9).toNat))) (C := RX11) (T := TX11) (N := 11) hx hb hts hiX11 hown hK hP 0 (wkK) rfl 9 (by decide) (hts _ (List.mem_cons_of_mem _ wkq_10_36)) (fun _ h9 => h9) rfl (dk_at dkX11_in_0 1 rfl) ?_
  refine tp_v (y := .ref (q t2)) (by rw [et2]) ?_
  refine lv_iconst (v := iI 2) hx hb (dk_at dkX11_in_0 2 rfl) (by decide +kernel) ?_
  refine lv_iload_n hx hb (dk_at dkX11_in_0 3 rfl) rfl (lv_at hl 1 rfl) ?_
  refine k_calli (As := [.int (iI 2), .int (iI x1)]) (rest := []) ⟨hx, hb, hml, hown, hts⟩ hE (kc_X9_isThere_1_2 l dC dI cB cI cJ cZ cQ aL aS q _ t2 x1 hI ht2 hx1) (cwV 2 hts (goodVk wkq_10_54 wkq_0_22 wkq_0_23 wkq_0_6 wkq_0_24) rfl rfl rfl (by decide +kernel) ⟨Nat.le_of_ble_eq_true rfl, Nat.le_of_ble_eq_true rfl⟩) hK hDD hA0 hP hS t2 9 (wkT ht2) rfl rfl hl.1 (Nat.le_of_ble_eq_true rfl) (dk_at dkX11_in_0 4 rfl) (fun z3 A4 H locs hw5 hP hS => ?_)
  obtain ⟨rfl, hw5⟩ := hw5
  have ghw5 : q_X9_isThere_1_2 t2 x1 A z3 := hw5
  have hw5 := hw5.2
  have rz3 : 0 ≤ z3 ∧ z3 ≤ 1 := hw5.1
  have hw5 := hw5.2
  refine lv_if_ne (tgt := 14) hx hb (dk_at dkX11_in_0 5 rfl) (by decide) (fun c6 => ?_) (fun c6 => ?_)
  · have c6 : ¬ z3 = 0 := mt (i_eq0 (rb rz3 (by decide) (by decide))).mpr c6
    have hw5b := hw5 (by omega)
    clear hw5
    refine lv_aload_n hx hb (dk_at dkX11_in_0 8 rfl) rfl (lv_at hl 0 rfl) ?_
    refine va_get (D := (dC, dI)) (ci := 11) (v := .ref (q (51 + 31 * (A 0 9).toNat))) (C := RX11) (T := TX11) (N := 11) hx hb hts hiX11 hown hK hP 0 (wkK) rfl 9 (by decide) (hts _ (List.mem_cons_of_mem _ wkq_10_36)) (fun _ h9 => h9) rfl (dk_at dkX11_in_0 9 rfl) ?_
    refine tp_v (y := .ref (q t2)) (by rw [et2]) ?_
    refine va_get (D := (dC, dI)) (ci := 9) (v := .ref (q (t2 + 22))) (C := RX9) (T := TX9) (N := 16) hx hb hts hiX9 hown hK hP t2 (wkT ht2) rfl 14 (by decide) (hts _ (List.mem_cons_of_mem _ wkq_11_5)) (fun _ h9 => h9) rfl (dk_at dkX11_in_0 10 rfl) ?_
    refine lv_iload_n hx hb (dk_at dkX11_in_0 11 rfl) rfl (lv_at hl 1 rfl) ?_
    refine lv_iload_n hx hb (dk_at dkX11_in_0 12 rfl) rfl (lv_at hl 2 rfl) ?_
    refine k_calli (As := [.int (iI x1), .int (iI x2)]) (rest := []) ⟨hx, hb, hml, hown, hts⟩ hE (kc_X6_inRow l dC dI cB cI cJ cZ cQ aL aS q _ (t2 + 22) x1 x2 hI ht2.s hx1 hx2) (cwV 2 hts (goodVk wkq_11_10 wkq_0_55 wkq_0_56 wkq_0_52 wkq_0_57) rfl rfl rfl (by decide +kernel) ⟨Nat.le_of_ble_eq_true rfl, Nat.le_of_ble_eq_true rfl⟩) hK hDD hA0 hP hS (t2 + 22) 6 (wkS ht2.s) rfl rfl hl.1 (Nat.le_of_ble_eq_true rfl) (dk_at dkX11_in_0 13 rfl) (fun z7 A8 H locs hw9 hP hS => ?_)
    obtain ⟨rfl, hw9⟩ := hw9
    have ghw9 : q_X6_inRow (t2 + 22) x1 x2 A z7 := hw9
    have hw9 := hw9.2
    exact RET z7 _ _ _ _ _ ⟨rfl, (u_r_X11_in ⟨t2, et2, ⟨z3, ghw5, (Or.inl ⟨c6, ⟨z7, ghw9, rfl⟩⟩)⟩⟩), (by omega)⟩ hP hS (dk_at dkX11_in_0 14 rfl)
  · have c6 : z3 = 0 := (i_eq0 (rb rz3 (by decide) (by decide))).mp c6
    clear hw5
    refine lv_iconst (v := iI (-1)) hx hb (dk_at dkX11_in_0 6 rfl) (by decide +kernel) ?_
    exact RET (-1) _ _ _ _ _ ⟨rfl, (u_r_X11_in ⟨t2, et2, ⟨z3, ghw5, (Or.inr ⟨c6, rfl⟩)⟩⟩), ⟨by decide, by decide⟩⟩ hP hS (dk_at dkX11_in_0 7 rfl)

abbrev tr_r_X11_person (x1 : Int) (x2 : Int) (A : St) (z : Int) (u : St) : Prop := (∃ t2 : Nat, t2 = 51 + 31 * ((A 0 9)).toNat ∧ (∃ z3 : Int, q_X9_isThere_1_3 t2 x1 A z3 ∧ (((¬ z3 = 0) ∧ (((x2 < 0 ∨ 3 < x2) ∧ (z = (-1) ∧ u = A)) ∨ (x2 = 0 ∧ (∃ z8 : Int, z8 = A ((t2 + 22) + 1) (x1).toNat ∧ (z = z8 ∧ u = A))) ∨ (x2 = 1 ∧ (∃ z9 : Int, q_X9_keysOf t2 x1 A z9 ∧ (z = z9 ∧ u = A))) ∨ (x2 = 2 ∧ (∃ z12 : Int, ∃ A13 : St, q_X0_placesOf t2 x1 A z12 A13 ∧ (∃ z16 : Int, q_J6_bitCount_0f7a4 z12 A13 z16 ∧ (z = z16 ∧ u = A13)))) ∨ (x2 = 3 ∧ (∃ z19 : Int, ∃ A20 : St, q_X0_placesOf t2 x1 A z19 A20 ∧ (z = z19 ∧ u = A20))))) ∨ ((z3 = 0) ∧ (z = (-1) ∧ u = A)))))
def r_X11_person (x1 : Int) (x2 : Int) (A : St) (z : Int) (u : St) : Prop := tr_r_X11_person x1 x2 A z u
theorem u_r_X11_person {x1 : Int} {x2 : Int} {A : St} {z : Int} {u : St} (h : tr_r_X11_person x1 x2 A z u) : r_X11_person x1 x2 A z u := h
def ws_kc_X11_person : List Cond := .code yX11_person cX11_person 3 (some .int) :: WY
set_option maxHeartbeats 4000000 in
set_option maxRecDepth 100000 in
theorem kc_X11_person (l : Launch) (dC : Nat → ClassId) (dI : Nat → Nat → Nat) (cB cI cJ cZ cQ : ClassId) (aL aS : Nat) (q : Nat → Nat) (A : St) (x1 x2 : Int) (hI : IK A) (hx1 : (-2147483648 : Int) ≤ x1 ∧ x1 ≤ 2147483647) (hx2 : (-2147483648 : Int) ≤ x2 ∧ x2 ≤ 2147483647) : KMi l yX11_person ws_kc_X11_person ({ frames := 7, cells := 0, slots := 0, locals := 177 } : Room) aL aS (dC, dI) (tyA cB cI cJ cZ cQ) (WK cB cI cJ cZ cQ q) A [.ref (q 0), .int (iI x1), .int (iI x2)] (fun z u => r_X11_person x1 x2 A z u ∧ IK u ∧ fk [7, 9, 10, 11, 12, 13, 14, 15, 16, 17, 18, 19, 72, 103] [(6, 7), (6, 8), (6, 9), (6, 10), (6, 11), (6, 12), (6, 13), (6, 14), (6, 15)] A u ∧ (-2147483648 ≤ z ∧ z ≤ 2147483647)) := by
  refine k_meti (cc := cX11_person) (maxL := 3) WK_adr (plainFor_of_name (by decide +kernel)) rfl (Nat.le_of_ble_eq_true rfl) (fun p e s m below meth c Q AS ls hx hb hml hown hts hK hDD hA0 hE RET H locs hP hS hl => ?_)
  have hown : s.vm.findClass RX11 = some m.cls := hown
  have hl : lv_has ls 3 [(0, .ref (q 0)), (1, .int (iI x1)), (2, .int (iI x2))] := hl
  have hiX11 : ∀ w ∈ u_ws RX11 TX11 11, w ∈ ws_kc_X11_person := fun w h => List.mem_cons_of_mem _ (wy_layX11 w h)
  have hiX9 : ∀ w ∈ u_ws RX9 TX9 16, w ∈ ws_kc_X11_person := fun w h => List.mem_cons_of_mem _ (wy_layX9 w h)
  have hiX6 : ∀ w ∈ u_ws RX6 TX6 4, w ∈ ws_kc_X11_person := fun w h => List.mem_cons_of_mem _ (wy_layX6 w h)
  refine lv_aload_n hx hb (dk_at dkX11_person_0 0 rfl) rfl (lv_at hl 0 rfl) ?_
  have r1 : (0 : Int) ≤ (A 0 9) ∧ (A 0 9) ≤ 1 := irK_9 hI
  obtain ⟨t2, et2⟩ : ∃ t : Nat, t = 51 + 31 * ((A 0 9)).toNat := ⟨_, rfl⟩
  have ht2 : isT t2 := by rw [et2]; exact isT.b r1
  refine va_get (D := (dC, dI)) (ci := 11) (v := .ref (q (51 + 31 * (A 0 9).toNat))) (C := RX11) (T := TX11) (N := 11) hx hb hts hiX11 hown hK hP 0 (wkK) rfl 9 (by decide) (hts _ (List.mem_cons_of_mem _ wkq_10_36)) (fun _ h9 => h9) rfl (dk_at dkX11_person_0 1 rfl) ?_
  refine tp_v (y := .ref (q t2)) (by rw [et2]) ?_
  refine lv_iconst (v := iI 3) hx hb (dk_at dkX11_person_0 2 rfl) (by decide +kernel) ?_
  refine lv_iload_n hx hb (dk_at dkX11_person_0 3 rfl) rfl (lv_at hl 1 rfl) ?_
  refine k_calli (As := [.int (iI 3), .int (iI x1)]) (rest := []) ⟨hx, hb, hml, hown, hts⟩ hE (kc_X9_isThere_1_3 l dC dI cB cI cJ cZ cQ aL aS q _ t2 x1 hI ht2 hx1) (cwV 2 hts (goodVk wkq_10_54 wkq_0_22 wkq_0_23 wkq_0_6 wkq_0_24) rfl rfl rfl (by decide +kernel) ⟨Nat.le_of_ble_eq_true rfl, Nat.le_of_ble_eq_true rfl⟩) hK hDD hA0 hP hS t2 9 (wkT ht2) rfl rfl hl.1 (Nat.le_of_ble_eq_true rfl) (dk_at dkX11_person_0 4 rfl) (fun z3 A4 H locs hw5 hP hS => ?_)
  obtain ⟨rfl, hw5⟩ := hw5
  have ghw5 : q_X9_isThere_1_3 t2 x1 A z3 := hw5
  have hw5 := hw5.2
  have rz3 : 0 ≤ z3 ∧ z3 ≤ 1 := hw5.1
  have hw5 := hw5.2
  refine lv_if_ne (tgt := 14) hx hb (dk_at dkX11_person_0 5 rfl) (by decide) (fun c6 => ?_) (fun c6 => ?_)
  · have c6 : ¬ z3 = 0 := mt (i_eq0 (rb rz3 (by decide) (by decide))).mpr c6
    have hw5b := hw5 (by omega)
    clear hw5
    refine lv_iload_n hx hb (dk_at dkX11_person_0 8 rfl) rfl (lv_at hl 2 rfl) ?_
    rcases (show (x2 < 0 ∨ 3 < x2) ∨ x2 = 0 ∨ x2 = 1 ∨ x2 = 2 ∨ x2 = 3 by omega) with c7 | c7 | c7 | c7 | c7
    · refine lv_tableOut (tgt := 95) hx hb (dk_at dkX11_person_0 9 rfl) (by rw [iI_toInt hx2]; exact c7) (by decide) ?_
      refine lv_iconst (v := iI (-1)) hx hb (dk_at dkX11_person_2 5 rfl) (by decide +kernel) ?_
      exact RET (-1) _ _ _ _ _ ⟨(u_r_X11_person ⟨t2, et2, ⟨z3, ghw5, (Or.inl ⟨c6, (Or.inl ⟨c7, ⟨rfl, rfl⟩⟩)⟩)⟩⟩), hI, fk.rf, ⟨by decide, by decide⟩⟩ hP hS (dk_at dkX11_person_2 6 rfl)
    · refine tp_i (y := iI 0) (congrArg iI c7) ?_
      refine lv_tableIn (off := 29) (tgt := 44) hx hb (dk_at dkX11_person_0 9 rfl) (by decide +kernel) (by decide +kernel) (by decide +kernel) (by decide) ?_
      refine lv_aload_n hx hb (dk_at dkX11_person_0 10 rfl) rfl (lv_at hl 0 rfl) ?_
      refine va_get (D := (dC, dI)) (ci := 11) (v := .ref (q (51 + 31 * (A 0 9).toNat))) (C := RX11) (T := TX11) (N := 11) hx hb hts hiX11 hown hK hP 0 (wkK) rfl 9 (by decide) (hts _ (List.mem_cons_of_mem _ wkq_10_36)) (fun _ h9 => h9) rfl (dk_at dkX11_person_0 11 rfl) ?_
      refine tp_v (y := .ref (q t2)) (by rw [et2]) ?_
      refine va_get (D := (dC, dI)) (ci := 9) (v := .ref (q (t2 + 22))) (C := RX9) (T := TX9) (N := 16) hx hb hts hiX9 hown hK hP t2 (wkT ht2) rfl 14 (by decide) (hts _ (List.mem_cons_of_mem _ wkq_11_5)) (fun _ h9 => h9) rfl (dk_at dkX11_person_0 12 rfl) ?_
      refine va_get (D := (dC, dI)) (ci := 6) (v := .ref (q ((t2 + 22) + 1))) (C := RX6) (T := TX6) (N := 4) hx hb hts hiX6 hown hK hP (t2 + 22) (wkS ht2.s) rfl 0 (by decide) (hts _ (List.mem_cons_of_mem _ wkq_11_12)) (fun _ h9 => h9) rfl (dk_at dkX11_person_0 13 rfl) ?_
      refine lv_iload_n hx hb (dk_at dkX11_person_0 14 rfl) rfl (lv_at hl 1 rfl) ?_
      refine x_iald (Wf := WK cB cI cJ cZ cQ q) hx hb hK hP ((t2 + 22) + 1) 1 (wkSs ht2.s) rfl (by omega) (by decide) (dk_at dkX11_person_0 15 rfl) (fun z8 hz8 => ?_)
      have rz8 : (-2147483648 : Int) ≤ z8 ∧ z8 ≤ 2147483647 := by rw [hz8]; exact irSs ht2.s hI
      have gz8 := Hd.mk hz8
      exact RET z8 _ _ _ _ _ ⟨(u_r_X11_person ⟨t2, et2, ⟨z3, ghw5, (Or.inl ⟨c6, (Or.inr (Or.inl ⟨c7, ⟨z8, gz8.out, ⟨rfl, rfl⟩⟩⟩))⟩)⟩⟩), hI, fk.rf, rz8⟩ hP hS (dk_at dkX11_person_1 0 rfl)
    · refine tp_i (y := iI 1) (congrArg iI c7) ?_
      refine lv_tableIn (off := 42) (tgt := 57) hx hb (dk_at dkX11_person_0 9 rfl) (by decide +kernel) (by decide +kernel) (by decide +kernel) (by decide) ?_
      refine lv_aload_n hx hb (dk_at dkX11_person_1 1 rfl) rfl (lv_at hl 0 rfl) ?_
      refine va_get (D := (dC, dI)) (ci := 11) (v := .ref (q (51 + 31 * (A 0 9).toNat))) (C := RX11) (T := TX11) (N := 11) hx hb hts hiX11 hown hK hP 0 (wkK) rfl 9 (by decide) (hts _ (List.mem_cons_of_mem _ wkq_10_36)) (fun _ h9 => h9) rfl (dk_at dkX11_person_1 2 rfl) ?_
      refine tp_v (y := .ref (q t2)) (by rw [et2]) ?_
      refine lv_iload_n hx hb (dk_at dkX11_person_1 3 rfl) rfl (lv_at hl 1 rfl) ?_
      refine k_calli (As := [.int (iI x1)]) (rest := []) ⟨hx, hb, hml, hown, hts⟩ hE (kc_X9_keysOf l dC dI cB cI cJ cZ cQ aL aS q _ t2 x1 hI ht2 hx1) (cwV 1 hts (goodVk wkq_11_14 wkq_0_4 wkq_0_5 wkq_0_6 wkq_0_7) rfl rfl rfl (by decide +kernel) ⟨Nat.le_of_ble_eq_true rfl, Nat.le_of_ble_eq_true rfl⟩) hK hDD hA0 hP hS t2 9 (wkT ht2) rfl rfl hl.1 (Nat.le_of_ble_eq_true rfl) (dk_at dkX11_person_1 4 rfl) (fun z9 A10 H locs hw11 hP hS => ?_)
      obtain ⟨rfl, hw11⟩ := hw11
      have ghw11 : q_X9_keysOf t2 x1 A z9 := hw11
      have hw11 := hw11.2
      exact RET z9 _ _ _ _ _ ⟨(u_r_X11_person ⟨t2, et2, ⟨z3, ghw5, (Or.inl ⟨c6, (Or.inr (Or.inr (Or.inl ⟨c7, ⟨z9, ghw11, ⟨rfl, rfl⟩⟩⟩)))⟩)⟩⟩), hI, fk.rf, hw11⟩ hP hS (dk_at dkX11_person_1 5 rfl)
    · refine tp_i (y := iI 2) (congrArg iI c7) ?_
      refine lv_tableIn (off := 51) (tgt := 66) hx hb (dk_at dkX11_person_0 9 rfl) (by decide +kernel) (by decide +kernel) (by decide +kernel) (by decide) ?_
      refine lv_aload_n hx hb (dk_at dkX11_person_1 6 rfl) rfl (lv_at hl 0 rfl) ?_
      refine va_get (D := (dC, dI)) (ci := 11) (v := .ref (q 6)) (C := RX11) (T := TX11) (N := 11) hx hb hts hiX11 hown hK hP 0 (wkK) rfl 2 (by decide) (hts _ (List.mem_cons_of_mem _ wkq_11_13)) (fun _ h9 => h9) rfl (dk_at dkX11_person_1 7 rfl) ?_
      refine lv_aload_n hx hb (dk_at dkX11_person_1 8 rfl) rfl (lv_at hl 0 rfl) ?_
      refine va_get (D := (dC, dI)) (ci := 11) (v := .ref (q (51 + 31 * (A 0 9).toNat))) (C := RX11) (T := TX11) (N := 11) hx hb hts hiX11 hown hK hP 0 (wkK) rfl 9 (by decide) (hts _ (List.mem_cons_of_mem _ wkq_10_36)) (fun _ h9 => h9) rfl (dk_at dkX11_person_1 9 rfl) ?_
      refine tp_v (y := .ref (q t2)) (by rw [et2]) ?_
      refine lv_iload_n hx hb (dk_at dkX11_person_1 10 rfl) rfl (lv_at hl 1 rfl) ?_
      refine k_calli (As := [.ref (q t2), .int (iI x1)]) (rest := []) ⟨hx, hb, hml, hown, hts⟩ hE (kc_X0_placesOf l dC dI cB cI cJ cZ cQ aL aS q _ t2 x1 hI ht2 hx1) (cwV 2 hts (goodVk wkq_11_15 wkq_11_16 wkq_11_17 wkq_0_14 wkq_0_0) rfl rfl rfl (by decide +kernel) ⟨Nat.le_of_ble_eq_true rfl, Nat.le_of_ble_eq_true rfl⟩) hK hDD hA0 hP hS 6 0 (wkAL) rfl rfl hl.1 (Nat.le_of_ble_eq_true rfl) (dk_at dkX11_person_1 11 rfl) (fun z12 A13 H locs hw14 hP hS => ?_)
      have ghw14 : q_X0_placesOf t2 x1 A z12 A13 := hw14
      obtain ⟨_, hI, hf15, hw14⟩ := hw14
      refine k_callSi (As := [.int (iI z12)]) (rest := []) ⟨hx, hb, hml, hown, hts⟩ hE (kc_J6_bitCount_0f7a4 l dC dI cB cI cJ cZ cQ aL aS q _ z12 hI hw14) (va_cwS 1 hts (goodSk wkq_10_48 wkq_1_17 wkq_1_18 wkq_1_19) rfl rfl rfl (by decide +kernel) ⟨Nat.le_of_ble_eq_true rfl, Nat.le_of_ble_eq_true rfl⟩) hK hDD hA0 hP hS rfl hl.1 (Nat.le_of_ble_eq_true rfl) (dk_at dkX11_person_1 12 rfl) (fun z16 A17 H locs hw18 hP hS => ?_)
      obtain ⟨rfl, hw18⟩ := hw18
      have ghw18 : q_J6_bitCount_0f7a4 z12 A13 z16 := hw18
      have hw18 := hw18.2
      exact RET z16 _ _ _ _ _ ⟨(u_r_X11_person ⟨t2, et2, ⟨z3, ghw5, (Or.inl ⟨c6, (Or.inr (Or.inr (Or.inr (Or.inl ⟨c7, ⟨z12, A13, ghw14, ⟨z16, ghw18, ⟨rfl, rfl⟩⟩⟩⟩))))⟩)⟩⟩), hI, fk.trans (fk.rf) hf15 rfl rfl, (rb hw18 (by decide) (by decide))⟩ hP hS (dk_at dkX11_person_1 13 rfl)
    · refine tp_i (y := iI 3) (congrArg iI c7) ?_
      refine lv_tableIn (off := 67) (tgt := 82) hx hb (dk_at dkX11_person_0 9 rfl) (by decide +kernel) (by decide +kernel) (by decide +kernel) (by decide) ?_
      refine lv_aload_n hx hb (dk_at dkX11_person_1 14 rfl) rfl (lv_at hl 0 rfl) ?_
      refine va_get (D := (dC, dI)) (ci := 11) (v := .ref (q 6)) (C := RX11) (T := TX11) (N := 11) hx hb hts hiX11 hown hK hP 0 (wkK) rfl 2 (by decide) (hts _ (List.mem_cons_of_mem _ wkq_11_13)) (fun _ h9 => h9) rfl (dk_at dkX11_person_1 15 rfl) ?_
      refine lv_aload_n hx hb (dk_at dkX11_person_2 0 rfl) rfl (lv_at hl 0 rfl) ?_
      refine va_get (D := (dC, dI)) (ci := 11) (v := .ref (q (51 + 31 * (A 0 9).toNat))) (C := RX11) (T := TX11) (N := 11) hx hb hts hiX11 hown hK hP 0 (wkK) rfl 9 (by decide) (hts _ (List.mem_cons_of_mem _ wkq_10_36)) (fun _ h9 => h9) rfl (dk_at dkX11_person_2 1 rfl) ?_
      refine tp_v (y := .ref (q t2)) (by rw [et2]) ?_
      refine lv_iload_n hx hb (dk_at dkX11_person_2 2 rfl) rfl (lv_at hl 1 rfl) ?_
      refine k_calli (As := [.ref (q t2), .int (iI x1)]) (rest := []) ⟨hx, hb, hml, hown, hts⟩ hE (kc_X0_placesOf l dC dI cB cI cJ cZ cQ aL aS q _ t2 x1 hI ht2 hx1) (cwV 2 hts (goodVk wkq_11_15 wkq_11_16 wkq_11_17 wkq_0_14 wkq_0_0) rfl rfl rfl (by decide +kernel) ⟨Nat.le_of_ble_eq_true rfl, Nat.le_of_ble_eq_true rfl⟩) hK hDD hA0 hP hS 6 0 (wkAL) rfl rfl hl.1 (Nat.le_of_ble_eq_true rfl) (dk_at dkX11_person_2 3 rfl) (fun z19 A20 H locs hw21 hP hS => ?_)
      have ghw21 : q_X0_placesOf t2 x1 A z19 A20 := hw21
      obtain ⟨_, hI, hf22, hw21⟩ := hw21
      exact RET z19 _ _ _ _ _ ⟨(u_r_X11_person ⟨t2, et2, ⟨z3, ghw5, (Or.inl ⟨c6, (Or.inr (Or.inr (Or.inr (Or.inr ⟨c7, ⟨z19, A20, ghw21, ⟨rfl, rfl⟩⟩⟩))))⟩)⟩⟩), hI, fk.trans (fk.rf) hf22 rfl rfl, hw21⟩ hP hS (dk_at dkX11_person_2 4 rfl)
  · have c6 : z3 = 0 := (i_eq0 (rb rz3 (by decide) (by decide))).mp c6
    clear hw5
    refine lv_iconst (v := iI (-1)) hx hb (dk_at dkX11_person_0 6 rfl) (by decide +kernel) ?_
    exact RET (-1) _ _ _ _ _ ⟨(u_r_X11_person ⟨t2, et2, ⟨z3, ghw5, (Or.inr ⟨c6, ⟨rfl, rfl⟩⟩)⟩⟩), hI, fk.rf, ⟨by decide, by decide⟩⟩ hP hS (dk_at dkX11_person_0 7 rfl)

abbrev tr_r_X11_actAnswer (x1 : Int) (A : St) (z : Int) (u : St) : Prop := (((¬ x1 = (-1)) ∧ (z = x1 ∧ u = A)) ∨ ((x1 = (-1)) ∧ (∃ z2 : Int, ∃ A3 : St, q_X11_refused 2 A z2 A3 ∧ (z = z2 ∧ u = A3))))
def r_X11_actAnswer (x1 : Int) (A : St) (z : Int) (u : St) : Prop := tr_r_X11_actAnswer x1 A z u
theorem u_r_X11_actAnswer {x1 : Int} {A : St} {z : Int} {u : St} (h : tr_r_X11_actAnswer x1 A z u) : r_X11_actAnswer x1 A z u := h
def q_X11_actAnswer (x1 : Int) (A : St) (z : Int) (u : St) : Prop := r_X11_actAnswer x1 A z u ∧ IK u ∧ fk [50] [] A u ∧ (-2147483648 ≤ z ∧ z ≤ 2147483647)
def ws_kc_X11_actAnswer : List Cond := .code yX11_actAnswer cX11_actAnswer 2 (some .int) :: WY
set_option maxHeartbeats 4000000 in
set_option maxRecDepth 100000 in
theorem kc_X11_actAnswer (l : Launch) (dC : Nat → ClassId) (dI : Nat → Nat → Nat) (cB cI cJ cZ cQ : ClassId) (aL aS : Nat) (q : Nat → Nat) (A : St) (x1 : Int) (hI : IK A) (hx1 : (-2147483648 : Int) ≤ x1 ∧ x1 ≤ 2147483647) : KMi l yX11_actAnswer ws_kc_X11_actAnswer ({ frames := 1, cells := 0, slots := 0, locals := 21 } : Room) aL aS (dC, dI) (tyA cB cI cJ cZ cQ) (WK cB cI cJ cZ cQ q) A [.ref (q 0), .int (iI x1)] (fun z u => r_X11_actAnswer x1 A z u ∧ IK u ∧ fk [50] [] A u ∧ (-2147483648 ≤ z ∧ z ≤ 2147483647)) := by
  refine k_meti (cc := cX11_actAnswer) (maxL := 2) WK_adr (plainFor_of_name (by decide +kernel)) rfl (Nat.le_of_ble_eq_true rfl) (fun p e s m below meth c Q AS ls hx hb hml hown hts hK hDD hA0 hE RET H locs hP hS hl => ?_)
  have hown : s.vm.findClass RX11 = some m.cls := hown
  have hl : lv_has ls 2 [(0, .ref (q 0)), (1, .int (iI x1))] := hl
  refine lv_iload_n hx hb (dk_at dkX11_actAnswer_0 0 rfl) rfl (lv_at hl 1 rfl) ?_
  refine lv_iconst (v := iI (-1)) hx hb (dk_at dkX11_actAnswer_0 1 rfl) (by decide +kernel) ?_
  refine lv_icmp_ne (tgt := 13) hx hb (dk_at dkX11_actAnswer_0 2 rfl) (by decide) (fun c1 => ?_) (fun c1 => ?_)
  · have c1 : ¬ x1 = (-1) := mt (i_eq hx1 ⟨by decide, by decide⟩).mpr c1
    refine lv_iload_n hx hb (dk_at dkX11_actAnswer_0 7 rfl) rfl (lv_at hl 1 rfl) ?_
    exact RET x1 _ _ _ _ _ ⟨(u_r_X11_actAnswer (Or.inl ⟨c1, ⟨rfl, rfl⟩⟩)), hI, fk.rf, hx1⟩ hP hS (dk_at dkX11_actAnswer_0 8 rfl)
  · have c1 : x1 = (-1) := (i_eq hx1 ⟨by decide, by decide⟩).mp c1
    refine lv_aload_n hx hb (dk_at dkX11_actAnswer_0 3 rfl) rfl (lv_at hl 0 rfl) ?_
    refine lv_iconst (v := iI 2) hx hb (dk_at dkX11_actAnswer_0 4 rfl) (by decide +kernel) ?_
    refine k_calli (As := [.int (iI 2)]) (rest := []) ⟨hx, hb, hml, hown, hts⟩ hE (kc_X11_refused l dC dI cB cI cJ cZ cQ aL aS q _ 2 hI ⟨by decide, by decide⟩) (cwV 1 hts (goodVk wkq_10_23 wkq_10_24 wkq_10_25 wkq_10_26 wkq_10_27) rfl rfl rfl (by decide +kernel) ⟨Nat.le_of_ble_eq_true rfl, Nat.le_of_ble_eq_true rfl⟩) hK hDD hA0 hP hS 0 11 (wkK) rfl rfl hl.1 (Nat.le_of_ble_eq_true rfl) (dk_at dkX11_actAnswer_0 5 rfl) (fun z2 A3 H locs hw4 hP hS => ?_)
    have ghw4 : q_X11_refused 2 A z2 A3 := hw4
    obtain ⟨_, hI, hf5, hw4⟩ := hw4
    refine lv_goto (tgt := 14) hx hb (dk_at dkX11_actAnswer_0 6 rfl) (by decide) ?_
    exact RET z2 _ _ _ _ _ ⟨(u_r_X11_actAnswer (Or.inr ⟨c1, ⟨z2, A3, ghw4, ⟨rfl, rfl⟩⟩⟩)), hI, fk.trans (fk.rf) hf5 rfl rfl, (by omega)⟩ hP hS (dk_at dkX11_actAnswer_0 8 rfl)

abbrev tr_r_X11_go (x1 : Int) (x2 : Int) (A : St) (z : Int) (u : St) : Prop := (∃ t2 : Nat, t2 = 51 + 31 * ((A 0 9)).toNat ∧ (∃ z3 : Int, ∃ A4 : St, q_X9_goThrough t2 x1 x2 A z3 A4 ∧ (∃ z7 : Int, ∃ A8 : St, q_X11_actAnswer z3 A4 z7 A8 ∧ (z = z7 ∧ u = A8))))
def r_X11_go (x1 : Int) (x2 : Int) (A : St) (z : Int) (u : St) : Prop := tr_r_X11_go x1 x2 A z u
theorem u_r_X11_go {x1 : Int} {x2 : Int} {A : St} {z : Int} {u : St} (h : tr_r_X11_go x1 x2 A z u) : r_X11_go x1 x2 A z u := h
def ws_kc_X11_go : List Cond := .code yX11_go cX11_go 3 (some .int) :: WY
set_option maxHeartbeats 4000000 in
set_option maxRecDepth 100000 in
theorem kc_X11_go (l : Launch) (dC : Nat → ClassId) (dI : Nat → Nat → Nat) (cB cI cJ cZ cQ : ClassId) (aL aS : Nat) (q : Nat → Nat) (A : St) (x1 x2 : Int) (hI : IK A) (hx1 : (-2147483648 : Int) ≤ x1 ∧ x1 ≤ 2147483647) (hx2 : (-2147483648 : Int) ≤ x2 ∧ x2 ≤ 2147483647) : KMi l yX11_go ws_kc_X11_go ({ frames := 5, cells := 0, slots := 0, locals := 123 } : Room) aL aS (dC, dI) (tyA cB cI cJ cZ cQ) (WK cB cI cJ cZ cQ q) A [.ref (q 0), .int (iI x1), .int (iI x2)] (fun z u => r_X11_go x1 x2 A z u ∧ IK u ∧ fk [33, 42, 50, 72, 74, 103, 105] [] A u ∧ (-2147483648 ≤ z ∧ z ≤ 2147483647)) := by
  refine k_meti (cc := cX11_go) (maxL := 3) WK_adr (plainFor_of_name (by decide +kernel)) rfl (Nat.le_of_ble_eq_true rfl) (fun p e s m below meth c Q AS ls hx hb hml hown hts hK hDD hA0 hE RET H locs hP hS hl => ?_)
  have hown : s.vm.findClass RX11 = some m.cls := hown
  have hl : lv_has ls 3 [(0, .ref (q 0)), (1, .int (iI x1)), (2, .int (iI x2))] := hl
  have hiX11 : ∀ w ∈ u_ws RX11 TX11 11, w ∈ ws_kc_X11_go := fun w h => List.mem_cons_of_mem _ (wy_layX11 w h)
  refine lv_aload_n hx hb (dk_at dkX11_go_0 0 rfl) rfl (lv_at hl 0 rfl) ?_
  refine lv_aload_n hx hb (dk_at dkX11_go_0 1 rfl) rfl (lv_at hl 0 rfl) ?_
  have r1 : (0 : Int) ≤ (A 0 9) ∧ (A 0 9) ≤ 1 := irK_9 hI
  obtain ⟨t2, et2⟩ : ∃ t : Nat, t = 51 + 31 * ((A 0 9)).toNat := ⟨_, rfl⟩
  have ht2 : isT t2 := by rw [et2]; exact isT.b r1
  refine va_get (D := (dC, dI)) (ci := 11) (v := .ref (q (51 + 31 * (A 0 9).toNat))) (C := RX11) (T := TX11) (N := 11) hx hb hts hiX11 hown hK hP 0 (wkK) rfl 9 (by decide) (hts _ (List.mem_cons_of_mem _ wkq_10_36)) (fun _ h9 => h9) rfl (dk_at dkX11_go_0 2 rfl) ?_
  refine tp_v (y := .ref (q t2)) (by rw [et2]) ?_
  refine lv_iload_n hx hb (dk_at dkX11_go_0 3 rfl) rfl (lv_at hl 1 rfl) ?_
  refine lv_iload_n hx hb (dk_at dkX11_go_0 4 rfl) rfl (lv_at hl 2 rfl) ?_
  refine k_calli (As := [.int (iI x1), .int (iI x2)]) (rest := [.ref (q 0)]) ⟨hx, hb, hml, hown, hts⟩ hE (kc_X9_goThrough l dC dI cB cI cJ cZ cQ aL aS q _ t2 x1 x2 hI ht2 hx1 hx2) (cwV 2 hts (goodVk wkq_11_19 wkq_9_30 wkq_9_31 wkq_0_6 wkq_9_2) rfl rfl rfl (by decide +kernel) ⟨Nat.le_of_ble_eq_true rfl, Nat.le_of_ble_eq_true rfl⟩) hK hDD hA0 hP hS t2 9 (wkT ht2) rfl rfl hl.1 (Nat.le_of_ble_eq_true rfl) (dk_at dkX11_go_0 5 rfl) (fun z3 A4 H locs hw5 hP hS => ?_)
  have ghw5 : q_X9_goThrough t2 x1 x2 A z3 A4 := hw5
  obtain ⟨_, hI, hf6, hw5⟩ := hw5
  refine k_calli (As := [.int (iI z3)]) (rest := []) ⟨hx, hb, hml, hown, hts⟩ hE (kc_X11_actAnswer l dC dI cB cI cJ cZ cQ aL aS q _ z3 hI hw5) (cwV 1 hts (goodVk wkq_11_20 wkq_11_21 wkq_11_22 wkq_10_26 wkq_11_23) rfl rfl rfl (by decide +kernel) ⟨Nat.le_of_ble_eq_true rfl, Nat.le_of_ble_eq_true rfl⟩) hK hDD hA0 hP hS 0 11 (wkK) rfl rfl hl.1 (Nat.le_of_ble_eq_true rfl) (dk_at dkX11_go_0 6 rfl) (fun z7 A8 H locs hw9 hP hS => ?_)
  have ghw9 : q_X11_actAnswer z3 A4 z7 A8 := hw9
  obtain ⟨_, hI, hf10, hw9⟩ := hw9
  exact RET z7 _ _ _ _ _ ⟨(u_r_X11_go ⟨t2, et2, ⟨z3, A4, ghw5, ⟨z7, A8, ghw9, ⟨rfl, rfl⟩⟩⟩⟩), hI, fk.trans (fk.trans (fk.rf) hf6 rfl rfl) hf10 rfl rfl, hw9⟩ hP hS (dk_at dkX11_go_0 7 rfl)

abbrev tr_r_X11_open (x1 : Int) (x2 : Int) (A : St) (z : Int) (u : St) : Prop := (∃ t2 : Nat, t2 = 51 + 31 * ((A 0 9)).toNat ∧ (∃ z3 : Int, ∃ A4 : St, q_X9_openWith t2 x1 x2 A z3 A4 ∧ (∃ z7 : Int, ∃ A8 : St, q_X11_actAnswer z3 A4 z7 A8 ∧ (z = z7 ∧ u = A8))))
def r_X11_open (x1 : Int) (x2 : Int) (A : St) (z : Int) (u : St) : Prop := tr_r_X11_open x1 x2 A z u
theorem u_r_X11_open {x1 : Int} {x2 : Int} {A : St} {z : Int} {u : St} (h : tr_r_X11_open x1 x2 A z u) : r_X11_open x1 x2 A z u := h
def ws_kc_X11_open : List Cond := .code yX11_open cX11_open 3 (some .int) :: WY
set_option maxHeartbeats 4000000 in
set_option maxRecDepth 100000 in
theorem kc_X11_open (l : Launch) (dC : Nat → ClassId) (dI : Nat → Nat → Nat) (cB cI cJ cZ cQ : ClassId) (aL aS : Nat) (q : Nat → Nat) (A : St) (x1 x2 : Int) (hI : IK A) (hx1 : (-2147483648 : Int) ≤ x1 ∧ x1 ≤ 2147483647) (hx2 : (-2147483648 : Int) ≤ x2 ∧ x2 ≤ 2147483647) : KMi l yX11_open ws_kc_X11_open ({ frames := 3, cells := 0, slots := 0, locals := 67 } : Room) aL aS (dC, dI) (tyA cB cI cJ cZ cQ) (WK cB cI cJ cZ cQ q) A [.ref (q 0), .int (iI x1), .int (iI x2)] (fun z u => r_X11_open x1 x2 A z u ∧ IK u ∧ fk [35, 44, 50, 76, 107] [] A u ∧ (-2147483648 ≤ z ∧ z ≤ 2147483647)) := by
  refine k_meti (cc := cX11_open) (maxL := 3) WK_adr (plainFor_of_name (by decide +kernel)) rfl (Nat.le_of_ble_eq_true rfl) (fun p e s m below meth c Q AS ls hx hb hml hown hts hK hDD hA0 hE RET H locs hP hS hl => ?_)
  have hown : s.vm.findClass RX11 = some m.cls := hown
  have hl : lv_has ls 3 [(0, .ref (q 0)), (1, .int (iI x1)), (2, .int (iI x2))] := hl
  have hiX11 : ∀ w ∈ u_ws RX11 TX11 11, w ∈ ws_kc_X11_open := fun w h => List.mem_cons_of_mem _ (wy_layX11 w h)
  refine lv_aload_n hx hb (dk_at dkX11_open_0 0 rfl) rfl (lv_at hl 0 rfl) ?_
  refine lv_aload_n hx hb (dk_at dkX11_open_0 1 rfl) rfl (lv_at hl 0 rfl) ?_
  have r1 : (0 : Int) ≤ (A 0 9) ∧ (A 0 9) ≤ 1 := irK_9 hI
  obtain ⟨t2, et2⟩ : ∃ t : Nat, t = 51 + 31 * ((A 0 9)).toNat := ⟨_, rfl⟩
  have ht2 : isT t2 := by rw [et2]; exact isT.b r1
  refine va_get (D := (dC, dI)) (ci := 11) (v := .ref (q (51 + 31 * (A 0 9).toNat))) (C := RX11) (T := TX11) (N := 11) hx hb hts hiX11 hown hK hP 0 (wkK) rfl 9 (by decide) (hts _ (List.mem_cons_of_mem _ wkq_10_36)) (fun _ h9 => h9) rfl (dk_at dkX11_open_0 2 rfl) ?_
  refine tp_v (y := .ref (q t2)) (by rw [et2]) ?_
  refine lv_iload_n hx hb (dk_at dkX11_open_0 3 rfl) rfl (lv_at hl 1 rfl) ?_
  refine lv_iload_n hx hb (dk_at dkX11_open_0 4 rfl) rfl (lv_at hl 2 rfl) ?_
  refine k_calli (As := [.int (iI x1), .int (iI x2)]) (rest := [.ref (q 0)]) ⟨hx, hb, hml, hown, hts⟩ hE (kc_X9_openWith l dC dI cB cI cJ cZ cQ aL aS q _ t2 x1 x2 hI ht2 hx1 hx2) (cwV 2 hts (goodVk wkq_11_25 wkq_9_33 wkq_9_34 wkq_0_6 wkq_9_9) rfl rfl rfl (by decide +kernel) ⟨Nat.le_of_ble_eq_true rfl, Nat.le_of_ble_eq_true rfl⟩) hK hDD hA0 hP hS t2 9 (wkT ht2) rfl rfl hl.1 (Nat.le_of_ble_eq_true rfl) (dk_at dkX11_open_0 5 rfl) (fun z3 A4 H locs hw5 hP hS => ?_)
  have ghw5 : q_X9_openWith t2 x1 x2 A z3 A4 := hw5
  obtain ⟨_, hI, hf6, hw5⟩ := hw5
  refine k_calli (As := [.int (iI z3)]) (rest := []) ⟨hx, hb, hml, hown, hts⟩ hE (kc_X11_actAnswer l dC dI cB cI cJ cZ cQ aL aS q _ z3 hI hw5) (cwV 1 hts (goodVk wkq_11_20 wkq_11_21 wkq_11_22 wkq_10_26 wkq_11_23) rfl rfl rfl (by decide +kernel) ⟨Nat.le_of_ble_eq_true rfl, Nat.le_of_ble_eq_true rfl⟩) hK hDD hA0 hP hS 0 11 (wkK) rfl rfl hl.1 (Nat.le_of_ble_eq_true rfl) (dk_at dkX11_open_0 6 rfl) (fun z7 A8 H locs hw9 hP hS => ?_)
  have ghw9 : q_X11_actAnswer z3 A4 z7 A8 := hw9
  obtain ⟨_, hI, hf10, hw9⟩ := hw9
  exact RET z7 _ _ _ _ _ ⟨(u_r_X11_open ⟨t2, et2, ⟨z3, A4, ghw5, ⟨z7, A8, ghw9, ⟨rfl, rfl⟩⟩⟩⟩), hI, fk.trans (fk.trans (fk.rf) hf6 rfl rfl) hf10 rfl rfl, hw9⟩ hP hS (dk_at dkX11_open_0 7 rfl)

abbrev tr_r_X11_shut (x1 : Int) (x2 : Int) (x3 : Int) (A : St) (z : Int) (u : St) : Prop := (∃ t2 : Nat, t2 = 51 + 31 * ((A 0 9)).toNat ∧ (∃ z3 : Int, ∃ A4 : St, q_X9_shutWith t2 x1 x2 x3 A z3 A4 ∧ (∃ z7 : Int, ∃ A8 : St, q_X11_actAnswer z3 A4 z7 A8 ∧ (z = z7 ∧ u = A8))))
def r_X11_shut (x1 : Int) (x2 : Int) (x3 : Int) (A : St) (z : Int) (u : St) : Prop := tr_r_X11_shut x1 x2 x3 A z u
theorem u_r_X11_shut {x1 : Int} {x2 : Int} {x3 : Int} {A : St} {z : Int} {u : St} (h : tr_r_X11_shut x1 x2 x3 A z u) : r_X11_shut x1 x2 x3 A z u := h
def ws_kc_X11_shut : List Cond := .code yX11_shut cX11_shut 4 (some .int) :: WY
set_option maxHeartbeats 4000000 in
set_option maxRecDepth 100000 in
theorem kc_X11_shut (l : Launch) (dC : Nat → ClassId) (dI : Nat → Nat → Nat) (cB cI cJ cZ cQ : ClassId) (aL aS : Nat) (q : Nat → Nat) (A : St) (x1 x2 x3 : Int) (hI : IK A) (hx1 : (-2147483648 : Int) ≤ x1 ∧ x1 ≤ 2147483647) (hx2 : (-2147483648 : Int) ≤ x2 ∧ x2 ≤ 2147483647) (hx3 : (-2147483648 : Int) ≤ x3 ∧ x3 ≤ 2147483647) : KMi l yX11_shut ws_kc_X11_shut ({ frames := 4, cells := 0, slots := 0, locals := 91 } : Room) aL aS (dC, dI) (tyA cB cI cJ cZ cQ) (WK cB cI cJ cZ cQ q) A [.ref (q 0), .int (iI x1), .int (iI x2), .int (iI x3)] (fun z u => r_X11_shut x1 x2 x3 A z u ∧ IK u ∧ fk [35, 37, 38, 39, 40, 44, 46, 47, 48, 49, 50, 76, 78, 79, 80, 81, 107, 109, 110, 111, 112] [] A u ∧ (-2147483648 ≤ z ∧ z ≤ 2147483647)) := by
  refine k_meti (cc := cX11_shut) (maxL := 4) WK_adr (plainFor_of_name (by decide +kernel)) rfl (Nat.le_of_ble_eq_true rfl) (fun p e s m below meth c Q AS ls hx hb hml hown hts hK hDD hA0 hE RET H locs hP hS hl => ?_)
  have hown : s.vm.findClass RX11 = some m.cls := hown
  have hl : lv_has ls 4 [(0, .ref (q 0)), (1, .int (iI x1)), (2, .int (iI x2)), (3, .int (iI x3))] := hl
  have hiX11 : ∀ w ∈ u_ws RX11 TX11 11, w ∈ ws_kc_X11_shut := fun w h => List.mem_cons_of_mem _ (wy_layX11 w h)
  refine lv_aload_n hx hb (dk_at dkX11_shut_0 0 rfl) rfl (lv_at hl 0 rfl) ?_
  refine lv_aload_n hx hb (dk_at dkX11_shut_0 1 rfl) rfl (lv_at hl 0 rfl) ?_
  have r1 : (0 : Int) ≤ (A 0 9) ∧ (A 0 9) ≤ 1 := irK_9 hI
  obtain ⟨t2, et2⟩ : ∃ t : Nat, t = 51 + 31 * ((A 0 9)).toNat := ⟨_, rfl⟩
  have ht2 : isT t2 := by rw [et2]; exact isT.b r1
  refine va_get (D := (dC, dI)) (ci := 11) (v := .ref (q (51 + 31 * (A 0 9).toNat))) (C := RX11) (T := TX11) (N := 11) hx hb hts hiX11 hown hK hP 0 (wkK) rfl 9 (by decide) (hts _ (List.mem_cons_of_mem _ wkq_10_36)) (fun _ h9 => h9) rfl (dk_at dkX11_shut_0 2 rfl) ?_
  refine tp_v (y := .ref (q t2)) (by rw [et2]) ?_
  refine lv_iload_n hx hb (dk_at dkX11_shut_0 3 rfl) rfl (lv_at hl 1 rfl) ?_
  refine lv_iload_n hx hb (dk_at dkX11_shut_0 4 rfl) rfl (lv_at hl 2 rfl) ?_
  refine lv_iload_n hx hb (dk_at dkX11_shut_0 5 rfl) rfl (lv_at hl 3 rfl) ?_
  refine k_calli (As := [.int (iI x1), .int (iI x2), .int (iI x3)]) (rest := [.ref (q 0)]) ⟨hx, hb, hml, hown, hts⟩ hE (kc_X9_shutWith l dC dI cB cI cJ cZ cQ aL aS q _ t2 x1 x2 x3 hI ht2 hx1 hx2 hx3) (cwV 3 hts (goodVk wkq_11_27 wkq_9_40 wkq_9_41 wkq_0_6 wkq_9_16) rfl rfl rfl (by decide +kernel) ⟨Nat.le_of_ble_eq_true rfl, Nat.le_of_ble_eq_true rfl⟩) hK hDD hA0 hP hS t2 9 (wkT ht2) rfl rfl hl.1 (Nat.le_of_ble_eq_true rfl) (dk_at dkX11_shut_0 6 rfl) (fun z3 A4 H locs hw5 hP hS => ?_)
  have ghw5 : q_X9_shutWith t2 x1 x2 x3 A z3 A4 := hw5
  obtain ⟨_, hI, hf6, hw5⟩ := hw5
  refine k_calli (As := [.int (iI z3)]) (rest := []) ⟨hx, hb, hml, hown, hts⟩ hE (kc_X11_actAnswer l dC dI cB cI cJ cZ cQ aL aS q _ z3 hI hw5) (cwV 1 hts (goodVk wkq_11_20 wkq_11_21 wkq_11_22 wkq_10_26 wkq_11_23) rfl rfl rfl (by decide +kernel) ⟨Nat.le_of_ble_eq_true rfl, Nat.le_of_ble_eq_true rfl⟩) hK hDD hA0 hP hS 0 11 (wkK) rfl rfl hl.1 (Nat.le_of_ble_eq_true rfl) (dk_at dkX11_shut_0 7 rfl) (fun z7 A8 H locs hw9 hP hS => ?_)
  have ghw9 : q_X11_actAnswer z3 A4 z7 A8 := hw9
  obtain ⟨_, hI, hf10, hw9⟩ := hw9
  exact RET z7 _ _ _ _ _ ⟨(u_r_X11_shut ⟨t2, et2, ⟨z3, A4, ghw5, ⟨z7, A8, ghw9, ⟨rfl, rfl⟩⟩⟩⟩), hI, fk.trans (fk.trans (fk.rf) hf6 rfl rfl) hf10 rfl rfl, hw9⟩ hP hS (dk_at dkX11_shut_0 8 rfl)
theorem dkX11_lend_0 : dkq cX11_lend [(0, .aload_n 0, 1), (1, .aload_n 0, 1), (2, .getfield 74, 3), (5, .iload_n 1, 1), (6, .iload_n 2, 1), (7, .iload_n 3, 1), (8, .invokevirtual 191, 3), (11, .invokevirtual 195, 3), (14, .ireturn, 1)] = true := by decide +kernel
theorem dkX11_take_0 : dkq cX11_take [(0, .aload_n 0, 1), (1, .aload_n 0, 1), (2, .getfield 74, 3), (5, .iload_n 1, 1), (6, .iload_n 2, 1), (7, .invokevirtual 199, 3), (10, .invokevirtual 195, 3), (13, .ireturn, 1)] = true := by decide +kernel
theorem dkX11_lay_0 : dkq cX11_lay [(0, .aload_n 0, 1), (1, .aload_n 0, 1), (2, .getfield 74, 3), (5, .iload_n 1, 1), (6, .iload_n 2, 1), (7, .iload_n 3, 1), (8, .invokevirtual 202, 3), (11, .invokevirtual 195, 3), (14, .ireturn, 1)] = true := by decide +kernel
theorem dkX11_snap_0 : dkq cX11_snap [(0, .aload_n 0, 1), (1, .getfield 74, 3), (4, .iconst 2, 1), (5, .iload_n 1, 1), (6, .invokevirtual 125, 3), (9, .ifCond .eq 20, 3), (12, .aload_n 0, 1), (13, .getfield 74, 3), (16, .getfield 152, 3), (19, .getfield 155, 3), (22, .iload_n 1, 1), (23, .iaload, 1), (24, .bipush 40, 2), (26, .if_icmp .ne 9, 3), (29, .aload_n 0, 1), (30, .iconst 3, 1)] = true := by decide +kernel
theorem dkX11_snap_1 : dkq cX11_snap [(31, .invokevirtual 85, 3), (34, .ireturn, 1), (35, .aload_n 0, 1), (36, .getfield 74, 3), (39, .getfield 152, 3), (42, .getfield 155, 3), (45, .iload_n 1, 1), (46, .bipush 40, 2), (48, .iastore, 1), (49, .aload_n 0, 1), (50, .getfield 74, 3), (53, .getfield 152, 3), (56, .getfield 158, 3), (59, .iload_n 1, 1), (60, .iaload, 1), (61, .ireturn, 1)] = true := by decide +kernel
theorem dkX11_row_0 : dkq cX11_row [(0, .aload_n 0, 1), (1, .getfield 63, 3), (4, .aload_n 0, 1), (5, .getfield 74, 3), (8, .getfield 152, 3), (11, .invokevirtual 205, 3), (14, .aload_n 0, 1), (15, .invokevirtual 209, 3), (18, .istore_n 1, 1), (19, .aload_n 0, 1), (20, .getfield 74, 3), (23, .getfield 152, 3), (26, .aload_n 0, 1), (27, .getfield 63, 3), (30, .invokevirtual 205, 3), (33, .aload_n 0, 1)] = true := by decide +kernel
theorem dkX11_row_1 : dkq cX11_row [(34, .getfield 10, 3), (37, .iconst 0, 1), (38, .putfield 93, 3), (41, .iload_n 1, 1), (42, .ireturn, 1)] = true := by decide +kernel
theorem dkX11_reach_0 : dkq cX11_reach [(0, .aload_n 0, 1), (1, .getfield 74, 3), (4, .iconst 3, 1), (5, .iload_n 1, 1), (6, .invokevirtual 125, 3), (9, .ifCond .eq 15, 3), (12, .aload_n 0, 1), (13, .getfield 74, 3), (16, .iconst 0, 1), (17, .iload_n 2, 1), (18, .invokevirtual 125, 3), (21, .ifCond .ne 5, 3), (24, .iconst (-1), 1), (25, .ireturn, 1), (26, .aload_n 0, 1), (27, .getfield 28, 3)] = true := by decide +kernel
theorem dkX11_reach_1 : dkq cX11_reach [(30, .aload_n 0, 1), (31, .getfield 74, 3), (34, .iload_n 1, 1), (35, .aload_n 0, 1), (36, .getfield 74, 3), (39, .iload_n 1, 1), (40, .invokevirtual 171, 3), (43, .iconst 0, 1), (44, .iload_n 2, 1), (45, .invokevirtual 212, 3), (48, .ireturn, 1)] = true := by decide +kernel
theorem dkX11_opens_0 : dkq cX11_opens [(0, .aload_n 0, 1), (1, .getfield 74, 3), (4, .iconst 3, 1), (5, .iload_n 1, 1), (6, .invokevirtual 125, 3), (9, .ifCond .eq 15, 3), (12, .aload_n 0, 1), (13, .getfield 74, 3), (16, .iconst 1, 1), (17, .iload_n 2, 1), (18, .invokevirtual 125, 3), (21, .ifCond .ne 5, 3), (24, .iconst (-1), 1), (25, .ireturn, 1), (26, .aload_n 0, 1), (27, .getfield 28, 3)] = true := by decide +kernel
theorem dkX11_opens_1 : dkq cX11_opens [(30, .aload_n 0, 1), (31, .getfield 74, 3), (34, .iload_n 1, 1), (35, .aload_n 0, 1), (36, .getfield 74, 3), (39, .iload_n 1, 1), (40, .invokevirtual 171, 3), (43, .iconst 1, 1), (44, .iload_n 2, 1), (45, .invokevirtual 212, 3), (48, .ireturn, 1)] = true := by decide +kernel
theorem dkX11_errands_0 : dkq cX11_errands [(0, .aload_n 0, 1), (1, .getfield 74, 3), (4, .iconst 3, 1), (5, .iload_n 1, 1), (6, .invokevirtual 125, 3), (9, .ifCond .ne 5, 3), (12, .iconst (-1), 1), (13, .ireturn, 1), (14, .aload_n 0, 1), (15, .getfield 28, 3), (18, .aload_n 0, 1), (19, .getfield 74, 3), (22, .iload_n 1, 1), (23, .aload_n 0, 1), (24, .getfield 74, 3), (27, .iload_n 1, 1)] = true := by decide +kernel
theorem dkX11_errands_1 : dkq cX11_errands [(28, .invokevirtual 171, 3), (31, .iconst 2, 1), (32, .iconst 0, 1), (33, .invokevirtual 212, 3), (36, .ireturn, 1)] = true := by decide +kernel
theorem dkX11_lent_0 : dkq cX11_lent [(0, .aload_n 0, 1), (1, .getfield 74, 3), (4, .iconst 3, 1), (5, .iload_n 1, 1), (6, .invokevirtual 125, 3), (9, .ifCond .eq 24, 3), (12, .aload_n 0, 1), (13, .getfield 74, 3), (16, .iconst 0, 1), (17, .iload_n 2, 1), (18, .invokevirtual 125, 3), (21, .ifCond .eq 12, 3), (24, .iload_n 3, 1), (25, .ifCond .lt 8, 3), (28, .iload_n 3, 1), (29, .iconst 2, 1)] = true := by decide +kernel
theorem dkX11_lent_1 : dkq cX11_lent [(30, .if_icmp .le 5, 3), (33, .iconst (-1), 1), (34, .ireturn, 1), (35, .aload_n 0, 1), (36, .getfield 28, 3), (39, .aload_n 0, 1), (40, .getfield 74, 3), (43, .iload_n 1, 1), (44, .iload_n 2, 1), (45, .invokevirtual 216, 3), (48, .istore 4, 2), (50, .iload 4, 2), (52, .iconst (-1), 1), (53, .if_icmp .eq 7, 3), (56, .iload_n 3, 1), (57, .ifCond .ne 6, 3)] = true := by decide +kernel
theorem dkX11_lent_2 : dkq cX11_lent [(60, .iload 4, 2), (62, .ireturn, 1), (63, .aload_n 0, 1), (64, .getfield 28, 3), (67, .getfield 220, 3), (70, .istore 5, 2), (72, .iload_n 3, 1), (73, .iconst 1, 1), (74, .if_icmp .ne 6, 3), (77, .iload 5, 2), (79, .ireturn, 1), (80, .aload_n 0, 1), (81, .getfield 28, 3), (84, .aload_n 0, 1), (85, .getfield 74, 3), (88, .iload_n 1, 1)] = true := by decide +kernel
theorem dkX11_lent_3 : dkq cX11_lent [(89, .aload_n 0, 1), (90, .getfield 74, 3), (93, .iload_n 1, 1), (94, .invokevirtual 171, 3), (97, .iconst 0, 1), (98, .iload_n 2, 1), (99, .invokevirtual 212, 3), (102, .istore 6, 2), (104, .iload 6, 2), (106, .iconst (-1), 1), (107, .if_icmp .ne 7, 3), (110, .iconst (-1), 1), (111, .goto 8, 3), (114, .iload 6, 2), (116, .iload 5, 2), (118, .isub, 1)] = true := by decide +kernel
theorem dkX11_lent_4 : dkq cX11_lent [(119, .ireturn, 1)] = true := by decide +kernel
theorem dkX11_locked_0 : dkq cX11_locked [(0, .iconst 0, 1), (1, .istore_n 1, 1), (2, .iconst 0, 1), (3, .istore_n 2, 1), (4, .iload_n 2, 1), (5, .aload_n 0, 1), (6, .getfield 74, 3), (9, .getfield 122, 3), (12, .iconst 3, 1), (13, .iaload, 1), (14, .if_icmp .ge 57, 3), (17, .aload_n 0, 1), (18, .getfield 74, 3), (21, .getfield 152, 3), (24, .getfield 168, 3), (27, .iload_n 2, 1)] = true := by decide +kernel
theorem dkX11_locked_1 : dkq cX11_locked [(28, .iaload, 1), (29, .istore_n 3, 1), (30, .aload_n 0, 1), (31, .getfield 74, 3), (34, .iload_n 3, 1), (35, .invokevirtual 223, 3), (38, .ifCond .eq 27, 3), (41, .aload_n 0, 1), (42, .getfield 28, 3), (45, .aload_n 0, 1), (46, .getfield 74, 3), (49, .iload_n 2, 1), (50, .invokevirtual 174, 3), (53, .iconst 1, 1), (54, .iload_n 3, 1), (55, .ishl, 1)] = true := by decide +kernel
theorem dkX11_locked_2 : dkq cX11_locked [(56, .if_icmp .ne 9, 3), (59, .iload_n 1, 1), (60, .iconst 1, 1), (61, .iload_n 2, 1), (62, .ishl, 1), (63, .ior, 1), (64, .istore_n 1, 1), (65, .iinc 2 1, 3), (68, .goto (-64), 3), (71, .iload_n 1, 1), (72, .ireturn, 1)] = true := by decide +kernel
theorem dkX11_can_0 : dkq cX11_can [(0, .aload_n 0, 1), (1, .getfield 74, 3), (4, .iconst 1, 1), (5, .iload_n 2, 1), (6, .invokevirtual 125, 3), (9, .ifCond .eq 22, 3), (12, .iload_n 1, 1), (13, .ifCond .lt 18, 3), (16, .iload_n 1, 1), (17, .iconst 1, 1), (18, .aload_n 0, 1), (19, .getfield 74, 3), (22, .getfield 122, 3), (25, .iconst 3, 1), (26, .iaload, 1), (27, .ishl, 1)] = true := by decide +kernel
theorem dkX11_can_1 : dkq cX11_can [(28, .if_icmp .lt 5, 3), (31, .iconst (-1), 1), (32, .ireturn, 1), (33, .aload_n 0, 1), (34, .getfield 74, 3), (37, .iload_n 2, 1), (38, .invokevirtual 226, 3), (41, .istore_n 3, 1), (42, .iload_n 3, 1), (43, .iconst (-1), 1), (44, .if_icmp .eq 15, 3), (47, .iload_n 3, 1), (48, .iload_n 1, 1), (49, .iconst (-1), 1), (50, .ixor, 1), (51, .iand, 1)] = true := by decide +kernel
theorem dkX11_can_2 : dkq cX11_can [(52, .ifCond .ne 7, 3), (55, .iconst 1, 1), (56, .goto 4, 3), (59, .iconst 0, 1), (60, .ireturn, 1)] = true := by decide +kernel
theorem dkX11_needs_0 : dkq cX11_needs [(0, .aload_n 0, 1), (1, .getfield 74, 3), (4, .iconst 1, 1), (5, .iload_n 1, 1), (6, .invokevirtual 125, 3), (9, .ifCond .eq 12, 3), (12, .iload_n 2, 1), (13, .ifCond .lt 8, 3), (16, .iload_n 2, 1), (17, .iconst 1, 1), (18, .if_icmp .le 5, 3), (21, .iconst (-1), 1), (22, .ireturn, 1), (23, .aload_n 0, 1), (24, .getfield 74, 3), (27, .iload_n 1, 1)] = true := by decide +kernel
theorem dkX11_needs_1 : dkq cX11_needs [(28, .invokevirtual 226, 3), (31, .istore_n 3, 1), (32, .iload_n 3, 1), (33, .iconst (-1), 1), (34, .if_icmp .ne 5, 3), (37, .iconst (-1), 1), (38, .ireturn, 1), (39, .iload_n 2, 1), (40, .ifCond .ne 10, 3), (43, .iload_n 3, 1), (44, .invokestatic 114, 3), (47, .goto 11, 3), (50, .aload_n 0, 1), (51, .getfield 74, 3), (54, .iload_n 1, 1), (55, .invokevirtual 229, 3)] = true := by decide +kernel
theorem dkX11_needs_2 : dkq cX11_needs [(58, .ireturn, 1)] = true := by decide +kernel
theorem dkX11_handingAnswer_0 : dkq cX11_handingAnswer [(0, .iload_n 1, 1), (1, .ifCond .ne 9, 3), (4, .aload_n 0, 1), (5, .iconst 3, 1), (6, .invokevirtual 85, 3), (9, .pop, 1), (10, .iload_n 1, 1), (11, .ireturn, 1)] = true := by decide +kernel
theorem dkX11_firstImpossible_0 : dkq cX11_firstImpossible [(0, .iconst 0, 1), (1, .istore_n 1, 1), (2, .iconst 0, 1), (3, .istore_n 2, 1), (4, .iload_n 2, 1), (5, .aload_n 0, 1), (6, .getfield 10, 3), (9, .getfield 93, 3), (12, .if_icmp .ge 68, 3), (15, .iload_n 2, 1), (16, .iconst 3, 1), (17, .iadd, 1), (18, .aload_n 0, 1), (19, .getfield 10, 3), (22, .getfield 93, 3), (25, .if_icmp .le 5, 3)] = true := by decide +kernel
theorem dkX11_firstImpossible_1 : dkq cX11_firstImpossible [(28, .iload_n 1, 1), (29, .ireturn, 1), (30, .aload_n 0, 1), (31, .getfield 74, 3), (34, .aload_n 0, 1), (35, .getfield 10, 3), (38, .iload_n 2, 1), (39, .invokevirtual 277, 3), (42, .aload_n 0, 1), (43, .getfield 10, 3), (46, .iload_n 2, 1), (47, .iconst 1, 1), (48, .iadd, 1), (49, .invokevirtual 277, 3), (52, .aload_n 0, 1), (53, .getfield 10, 3)] = true := by decide +kernel
theorem dkX11_firstImpossible_2 : dkq cX11_firstImpossible [(56, .iload_n 2, 1), (57, .iconst 2, 1), (58, .iadd, 1), (59, .invokevirtual 277, 3), (62, .invokevirtual 280, 3), (65, .iconst (-1), 1), (66, .if_icmp .ne 5, 3), (69, .iload_n 1, 1), (70, .ireturn, 1), (71, .iinc 1 1, 3), (74, .iinc 2 3, 3), (77, .goto (-73), 3), (80, .iconst (-1), 1), (81, .ireturn, 1)] = true := by decide +kernel
