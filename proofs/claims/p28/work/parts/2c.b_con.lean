abbrev tr_r_X0_mark (x1 : Int) (A : St) (u : St) : Prop := (((x1 < 0) ∧ (u = A)) ∨ ((¬ x1 < 0) ∧ (((x1 < (A 6 11)) ∧ (∃ z4 : Int, z4 = x1 / 64 ∧ (∃ z5 : Int, z5 = x1 % 64 ∧ (∃ z6 : Int, z6 = pShl 1 z5 ∧ (∃ z7 : Int, z7 = A 7 (z4).toNat ∧ (∃ z8 : Int, z8 = pAnd z7 z6 ∧ (∃ z9 : Int, ((-1 ≤ z9 ∧ z9 ≤ 1) ∧ (z9 = 0 ↔ z8 = 0) ∧ (z9 < 0 ↔ z8 < 0)) ∧ (((¬ z9 = 0) ∧ (u = A)) ∨ ((z9 = 0) ∧ (∃ z12 : Int, z12 = pOr z7 z6 ∧ (∃ A13 : St, A13 = stA A 7 (z4).toNat z12 ∧ (∃ z17 : Int, z17 = A13 (18 + ((A 6 8)).toNat) (z4).toNat ∧ (∃ z18 : Int, z18 = pOr z17 z6 ∧ (∃ A19 : St, A19 = stA A13 (18 + ((A 6 8)).toNat) (z4).toNat z18 ∧ (u = A19))))))))))))))) ∨ ((¬ x1 < (A 6 11)) ∧ (u = A)))))
def r_X0_mark (x1 : Int) (A : St) (u : St) : Prop := tr_r_X0_mark x1 A u
theorem u_r_X0_mark {x1 : Int} {A : St} {u : St} (h : tr_r_X0_mark x1 A u) : r_X0_mark x1 A u := h
def q_X0_mark (x1 : Int) (A : St) (u : St) : Prop := r_X0_mark x1 A u ∧ IK u ∧ fk [7, 18, 19] [] A u ∧ (True)
def ws_kc_X0_mark : List Cond := .code yX0_mark cX0_mark 5 none :: WY
set_option maxHeartbeats 4000000 in
set_option maxRecDepth 100000 in
theorem kc_X0_mark (l : Launch) (dC : Nat → ClassId) (dI : Nat → Nat → Nat) (cB cI cJ cZ cQ : ClassId) (aL aS : Nat) (q : Nat → Nat) (A : St) (x1 : Int) (hI : IK A) (hx1 : (-2147483648 : Int) ≤ x1 ∧ x1 ≤ 2147483647) : KMv l yX0_mark ws_kc_X0_mark ({ frames := 0, cells := 0, slots := 0, locals := 0 } : Room) aL aS (dC, dI) (tyA cB cI cJ cZ cQ) (WK cB cI cJ cZ cQ q) A [.ref (q 6), .int (iI x1)] (fun u => r_X0_mark x1 A u ∧ IK u ∧ fk [7, 18, 19] [] A u ∧ (True)) := by
  refine k_metv (cc := cX0_mark) (maxL := 5) WK_adr (plainFor_of_name (by decide +kernel)) rfl (Nat.le_of_ble_eq_true rfl) (fun p e s m below meth c Q AS ls hx hb hml hown hts hK hDD hA0 hE RET H locs hP hS hl => ?_)
  have hown : s.vm.findClass RX0 = some m.cls := hown
  have hl : lv_has ls 5 [(0, .ref (q 6)), (1, .int (iI x1))] := hl
  have hiX0 : ∀ w ∈ u_ws RX0 TX0 17, w ∈ ws_kc_X0_mark := fun w h => List.mem_cons_of_mem _ (wy_layX0 w h)
  refine lv_iload_n hx hb (dk_at dkX0_mark_0 0 rfl) rfl (lv_at hl 1 rfl) ?_
  refine lv_if_lt (tgt := 12) hx hb (dk_at dkX0_mark_0 1 rfl) (by decide) (fun c1 => ?_) (fun c1 => ?_)
  · have c1 : x1 < 0 := (i_lt0 hx1).mp c1
    exact RET _ _ _ _ _ ⟨(u_r_X0_mark (Or.inl ⟨c1, rfl⟩)), hI, fk.rf, trivial⟩ hP hS (dk_at dkX0_mark_0 6 rfl)
  · have c1 : ¬ x1 < 0 := mt (i_lt0 hx1).mpr c1
    refine lv_iload_n hx hb (dk_at dkX0_mark_0 2 rfl) rfl (lv_at hl 1 rfl) ?_
    refine lv_aload_n hx hb (dk_at dkX0_mark_0 3 rfl) rfl (lv_at hl 0 rfl) ?_
    have r2 : (-2147483648 : Int) ≤ (A 6 11) ∧ (A 6 11) ≤ 76832 := irAL_11 hI
    refine va_get (D := (dC, dI)) (ci := 0) (v := .int (iI (A 6 11))) (C := RX0) (T := TX0) (N := 17) hx hb hts hiX0 hown hK hP 6 (wkAL) rfl 11 (by decide) (hts _ (List.mem_cons_of_mem _ wkq_0_20)) (fun _ h9 => h9) rfl (dk_at dkX0_mark_0 4 rfl) ?_
    refine lv_icmp_lt (tgt := 13) hx hb (dk_at dkX0_mark_0 5 rfl) (by decide) (fun c3 => ?_) (fun c3 => ?_)
    · have c3 : x1 < (A 6 11) := (i_lt hx1 (rb r2 (by decide) (by decide))).mp c3
      refine lv_iload_n hx hb (dk_at dkX0_mark_0 7 rfl) rfl (lv_at hl 1 rfl) ?_
      refine lv_bipush (v := iI 64) hx hb (dk_at dkX0_mark_0 8 rfl) (by decide +kernel) ?_
      refine x_div hx hb (dk_at dkX0_mark_0 9 rfl) (by omega) (by omega) (fun z4 hz4 hz4b => ?_)
      refine lv_istore_n (lv' := [(2, .int (iI z4)), (0, .ref (q 6)), (1, .int (iI x1))]) hx hb (dk_at dkX0_mark_0 10 rfl) rfl hl (by decide) rfl (fun ls hl => ?_)
      refine lv_lconst (v := jI 1) hx hb (dk_at dkX0_mark_0 11 rfl) (by decide +kernel) ?_
      refine lv_iload_n hx hb (dk_at dkX0_mark_0 12 rfl) rfl (lv_at hl 2 rfl) ?_
      refine lv_bipush (v := iI 64) hx hb (dk_at dkX0_mark_0 13 rfl) (by decide +kernel) ?_
      refine x_rem hx hb (dk_at dkX0_mark_0 14 rfl) (by omega) (by omega) (fun z5 hz5 hz5b => ?_)
      have gz5 := Hd.mk hz5
      clear hz5
      refine lv_lshl hx hb (dk_at dkX0_mark_0 15 rfl) rfl ?_
      refine x_abslE (fun z6 gz6 hz6 => ?_)
      refine lv_lstore_n (lv' := [(3, .long (jI z6)), (2, .int (iI z4)), (0, .ref (q 6)), (1, .int (iI x1))]) hx hb (dk_at dkX0_mark_1 0 rfl) rfl hl (by decide) rfl (fun ls hl => ?_)
      refine lv_aload_n hx hb (dk_at dkX0_mark_1 1 rfl) rfl (lv_at hl 2 rfl) ?_
      refine va_get (D := (dC, dI)) (ci := 0) (v := .ref (q 7)) (C := RX0) (T := TX0) (N := 17) hx hb hts hiX0 hown hK hP 6 (wkAL) rfl 0 (by decide) (hts _ (List.mem_cons_of_mem _ wkq_2_8)) (fun _ h9 => h9) rfl (dk_at dkX0_mark_1 2 rfl) ?_
      refine lv_iload_n hx hb (dk_at dkX0_mark_1 3 rfl) rfl (lv_at hl 1 rfl) ?_
      refine x_lald (Wf := WK cB cI cJ cZ cQ q) hx hb hK hP 7 2 (wkALs) rfl (by omega) (by decide) (dk_at dkX0_mark_1 4 rfl) (fun z7 hz7 => ?_)
      have rz7 : (-9223372036854775808 : Int) ≤ z7 ∧ z7 ≤ 9223372036854775807 := by rw [hz7]; exact irALs hI
      have gz7 := Hd.mk hz7
      refine lv_lload_n hx hb (dk_at dkX0_mark_1 5 rfl) rfl (lv_at hl 0 rfl) ?_
      refine lv_land hx hb (dk_at dkX0_mark_1 6 rfl) ?_
      refine x_abslE (fun z8 gz8 hz8 => ?_)
      refine lv_lconst (v := jI 0) hx hb (dk_at dkX0_mark_1 7 rfl) (by decide +kernel) ?_
      refine x_lcmp hx hb (dk_at dkX0_mark_1 8 rfl) (by omega) (by omega) (fun z9 hz9 hz9b hz9c => ?_)
      have gz9 := Hd.mk (And.intro hz9 (And.intro hz9b hz9c))
      clear hz9b hz9c
      refine lv_if_ne (tgt := 58) hx hb (dk_at dkX0_mark_1 9 rfl) (by decide) (fun c10 => ?_) (fun c10 => ?_)
      · have c10 : ¬ z9 = 0 := mt (i_eq0 (by omega)).mpr c10
        exact RET _ _ _ _ _ ⟨(u_r_X0_mark (Or.inr ⟨c1, (Or.inl ⟨c3, ⟨z4, hz4, ⟨z5, gz5.out, ⟨z6, gz6.out, ⟨z7, gz7.out, ⟨z8, gz8.out, ⟨z9, gz9.out, (Or.inl ⟨c10, rfl⟩)⟩⟩⟩⟩⟩⟩⟩)⟩)), hI, fk.rf, trivial⟩ hP hS (dk_at dkX0_mark_2 10 rfl)
      · have c10 : z9 = 0 := (i_eq0 (by omega)).mp c10
        refine lv_aload_n hx hb (dk_at dkX0_mark_1 10 rfl) rfl (lv_at hl 2 rfl) ?_
        refine va_get (D := (dC, dI)) (ci := 0) (v := .ref (q 7)) (C := RX0) (T := TX0) (N := 17) hx hb hts hiX0 hown hK hP 6 (wkAL) rfl 0 (by decide) (hts _ (List.mem_cons_of_mem _ wkq_2_8)) (fun _ h9 => h9) rfl (dk_at dkX0_mark_1 11 rfl) ?_
        refine lv_iload_n hx hb (dk_at dkX0_mark_1 12 rfl) rfl (lv_at hl 1 rfl) ?_
        refine lv_dup2_11 hx hb (dk_at dkX0_mark_1 13 rfl) rfl rfl ?_
        refine x_lald (Wf := WK cB cI cJ cZ cQ q) hx hb hK hP 7 2 (wkALs) rfl (by omega) (by decide) (dk_at dkX0_mark_1 14 rfl) (fun z11 hz11 => ?_)
        have rz11 : (-9223372036854775808 : Int) ≤ z11 ∧ z11 ≤ 9223372036854775807 := by rw [hz11]; exact irALs hI
        have gz11 := Hd.mk hz11
        have ez11 : z11 = z7 := hz11.trans hz7.symm
        refine tp_l (y := jI z7) (congrArg jI ez11) ?_
        refine lv_lload_n hx hb (dk_at dkX0_mark_1 15 rfl) rfl (lv_at hl 0 rfl) ?_
        refine lv_lor hx hb (dk_at dkX0_mark_2 0 rfl) ?_
        refine x_abslE (fun z12 gz12 hz12 => ?_)
        refine k_last (Wf := WK cB cI cJ cZ cQ q) hx hb hK hP hDD hS 7 2 (wkALs) rfl (by omega) (by decide) (dk_at dkX0_mark_2 1 rfl) (wsALs) (fun H locs A13 hA13 hP hS => ?_)
        have hI := isALs hA13 hI (show (-9223372036854775808 : Int) ≤ z12 ∧ z12 ≤ 9223372036854775807 from (by omega))
        refine lv_aload_n hx hb (dk_at dkX0_mark_2 2 rfl) rfl (lv_at hl 2 rfl) ?_
        have e14 : A13 6 8 = (A 6 8) := (rd_ne hA13 (by decide) 8)
        have r15 : (0 : Int) ≤ (A 6 8) ∧ (A 6 8) ≤ 1 := by rw [← e14]; exact irAL_8 hI
        refine va_get (D := (dC, dI)) (ci := 0) (v := .ref (q (18 + (A13 6 8).toNat))) (C := RX0) (T := TX0) (N := 17) hx hb hts hiX0 hown hK hP 6 (wkAL) rfl 8 (by decide) (hts _ (List.mem_cons_of_mem _ wkq_2_9)) (fun _ h9 => h9) rfl (dk_at dkX0_mark_2 3 rfl) ?_
        refine tp_v (y := .ref (q (18 + ((A 6 8)).toNat))) (by rw [e14]) ?_
        refine lv_iload_n hx hb (dk_at dkX0_mark_2 4 rfl) rfl (lv_at hl 1 rfl) ?_
        refine lv_dup2_11 hx hb (dk_at dkX0_mark_2 5 rfl) rfl rfl ?_
        have a16 : ∀ k, A13 (18 + ((A 6 8)).toNat) k = A (18 + ((A 6 8)).toNat) k := fun k => rd_ne hA13 (by omega) k
        refine x_lald (Wf := WK cB cI cJ cZ cQ q) hx hb hK hP (18 + ((A 6 8)).toNat) 2 (wkALf (i := (A 6 8)) (by omega)) rfl (by omega) (by decide) (dk_at dkX0_mark_2 6 rfl) (fun z17 hz17 => ?_)
        have rz17 : (-9223372036854775808 : Int) ≤ z17 ∧ z17 ≤ 9223372036854775807 := by rw [hz17]; exact irALf (i := (A 6 8)) (by omega) hI
        have gz17 := Hd.mk hz17
        have hz17 : z17 = A (18 + ((A 6 8)).toNat) (z4).toNat := hz17.trans (a16 _)
        refine lv_lload_n hx hb (dk_at dkX0_mark_2 7 rfl) rfl (lv_at hl 0 rfl) ?_
        refine lv_lor hx hb (dk_at dkX0_mark_2 8 rfl) ?_
        refine x_abslE (fun z18 gz18 hz18 => ?_)
        refine k_last (Wf := WK cB cI cJ cZ cQ q) hx hb hK hP hDD hS (18 + ((A 6 8)).toNat) 2 (wkALf (i := (A 6 8)) (by omega)) rfl (by omega) (by decide) (dk_at dkX0_mark_2 9 rfl) (wsALf (i := (A 6 8)) (by omega)) (fun H locs A19 hA19 hP hS => ?_)
        have hI := isALf (i := (A 6 8)) (by omega) hA19 hI (show (-9223372036854775808 : Int) ≤ z18 ∧ z18 ≤ 9223372036854775807 from (by omega))
        exact RET _ _ _ _ _ ⟨(u_r_X0_mark (Or.inr ⟨c1, (Or.inl ⟨c3, ⟨z4, hz4, ⟨z5, gz5.out, ⟨z6, gz6.out, ⟨z7, gz7.out, ⟨z8, gz8.out, ⟨z9, gz9.out, (Or.inr ⟨c10, ⟨z12, gz12.out, ⟨A13, hA13, ⟨z17, gz17.out, ⟨z18, gz18.out, ⟨A19, hA19, rfl⟩⟩⟩⟩⟩⟩)⟩⟩⟩⟩⟩⟩⟩)⟩)), hI, fk.da (fk.da (fk.rf) hA13 rfl) hA19 (by rcases (show (A 6 8) = 0 ∨ (A 6 8) = 1 by omega) with g | g <;> rw [g] <;> rfl), trivial⟩ hP hS (dk_at dkX0_mark_2 10 rfl)
    · have c3 : ¬ x1 < (A 6 11) := mt (i_lt hx1 (rb r2 (by decide) (by decide))).mpr c3
      exact RET _ _ _ _ _ ⟨(u_r_X0_mark (Or.inr ⟨c1, (Or.inr ⟨c3, rfl⟩)⟩)), hI, fk.rf, trivial⟩ hP hS (dk_at dkX0_mark_0 6 rfl)

abbrev tr_d_X0_markStart_2 (K1 : Int → Int → St → Prop) (z1 : Int) (u : St) (z45 : Int) (A47 : St) : Prop := ((IK A47) ∧ ((-2147483648 ≤ z45 ∧ z45 ≤ 2147483647) ∧ (K1 (z1 + 1) z45 A47)))
def d_X0_markStart_2 (K1 : Int → Int → St → Prop) (z1 : Int) (u : St) (z45 : Int) (A47 : St) : Prop := tr_d_X0_markStart_2 K1 z1 u z45 A47
theorem u_d_X0_markStart_2 {K1 : Int → Int → St → Prop} {z1 : Int} {u : St} {z45 : Int} {A47 : St} (h : tr_d_X0_markStart_2 K1 z1 u z45 A47) : d_X0_markStart_2 K1 z1 u z45 A47 := h
abbrev tr_d_X0_markStart_1 (ta : Nat) (x2 : Int) (x3 : Int) (A : St) (u : St) (K1 : Int → Int → St → Prop) (z1 : Int) (z2 : Int) (A4 : St) : Prop := ((IK A4) ∧ ((0 ≤ z1 ∧ z1 ≤ 2147483647) ∧ ((-2147483648 ≤ z2 ∧ z2 ≤ 2147483647) ∧ (∃ z14 : Int, z14 = A4 (ta + 1) (2 : Int).toNat ∧ (((z14 ≤ z1) ∧ (∃ z16 : Int, q_X0_shutNow ta A4 z16 ∧ (∃ z19 : Int, q_X0_hadAt ta x2 z16 A4 z19 ∧ (∃ z24 : Int, z24 = oMul z19 (A 6 10) ∧ (∃ z25 : Int, z25 = oWrap (z2 + z24) ∧ (∃ A26 : St, q_X0_mark z25 A4 A26 ∧ (u = A26))))))) ∨ ((¬ z14 ≤ z1) ∧ (∃ A29 : St, A29 = stA A4 14 (z1).toNat 0 ∧ (∃ z30 : Int, z30 = oShr x3 z1 ∧ (∃ z31 : Int, z31 = oAnd z30 1 ∧ (((z31 = 0) ∧ (d_X0_markStart_2 K1 z1 u z2 A29)) ∨ ((¬ z31 = 0) ∧ (∃ z36 : Int, z36 = A29 ((ta + 22) + 3) (z1).toNat ∧ (∃ A37 : St, A37 = stA A29 14 (z1).toNat z36 ∧ (∃ z42 : Int, z42 = A37 13 (z1).toNat ∧ (∃ z43 : Int, z43 = oMul z36 z42 ∧ (∃ z44 : Int, z44 = oWrap (z2 + z43) ∧ (d_X0_markStart_2 K1 z1 u z44 A37)))))))))))))))))
def d_X0_markStart_1 (ta : Nat) (x2 : Int) (x3 : Int) (A : St) (u : St) : Nat → Int → Int → St → Prop
  | 0, _, _, _ => False
  | nn9 + 1, z1, z2, A4 => tr_d_X0_markStart_1 ta x2 x3 A u (fun z1 z2 A4 => d_X0_markStart_1 ta x2 x3 A u nn9 z1 z2 A4) z1 z2 A4
theorem u_d_X0_markStart_1 {ta : Nat} {x2 : Int} {x3 : Int} {A : St} {u : St} {nn9 : Nat} {z1 : Int} {z2 : Int} {A4 : St} (h : tr_d_X0_markStart_1 ta x2 x3 A u (fun z1 z2 A4 => d_X0_markStart_1 ta x2 x3 A u nn9 z1 z2 A4) z1 z2 A4) : d_X0_markStart_1 ta x2 x3 A u (nn9 + 1) z1 z2 A4 := h
abbrev tr_r_X0_markStart (ta : Nat) (x2 : Int) (x3 : Int) (A : St) (u : St) : Prop := (∃ nn9 : Nat, d_X0_markStart_1 ta x2 x3 A u nn9 0 x2 A)
def r_X0_markStart (ta : Nat) (x2 : Int) (x3 : Int) (A : St) (u : St) : Prop := tr_r_X0_markStart ta x2 x3 A u
theorem u_r_X0_markStart {ta : Nat} {x2 : Int} {x3 : Int} {A : St} {u : St} (h : tr_r_X0_markStart ta x2 x3 A u) : r_X0_markStart ta x2 x3 A u := h
def q_X0_markStart (ta : Nat) (x2 : Int) (x3 : Int) (A : St) (u : St) : Prop := r_X0_markStart ta x2 x3 A u ∧ IK u ∧ fk [7, 14, 18, 19] [] A u ∧ (True)
def ws_kc_X0_markStart : List Cond := .code yX0_markStart cX0_markStart 6 none :: WY
set_option maxHeartbeats 4000000 in
set_option maxRecDepth 100000 in
theorem kc_X0_markStart (l : Launch) (dC : Nat → ClassId) (dI : Nat → Nat → Nat) (cB cI cJ cZ cQ : ClassId) (aL aS : Nat) (q : Nat → Nat) (A : St) (ta : Nat) (x2 x3 : Int) (hI : IK A) (hta : isT ta) (hx2 : (-2147483648 : Int) ≤ x2 ∧ x2 ≤ 2147483647) (hx3 : (-2147483648 : Int) ≤ x3 ∧ x3 ≤ 2147483647) : KMv l yX0_markStart ws_kc_X0_markStart ({ frames := 2, cells := 0, slots := 0, locals := 48 } : Room) aL aS (dC, dI) (tyA cB cI cJ cZ cQ) (WK cB cI cJ cZ cQ q) A [.ref (q 6), .ref (q ta), .int (iI x2), .int (iI x3)] (fun u => r_X0_markStart ta x2 x3 A u ∧ IK u ∧ fk [7, 14, 18, 19] [] A u ∧ (True)) := by
  refine k_metv (cc := cX0_markStart) (maxL := 6) WK_adr (plainFor_of_name (by decide +kernel)) rfl (Nat.le_of_ble_eq_true rfl) (fun p e s m below meth c Q AS ls hx hb hml hown hts hK hDD hA0 hE RET H locs hP hS hl => ?_)
  have hown : s.vm.findClass RX0 = some m.cls := hown
  have hl : lv_has ls 6 [(0, .ref (q 6)), (1, .ref (q ta)), (2, .int (iI x2)), (3, .int (iI x3))] := hl
  have hiX9 : ∀ w ∈ u_ws RX9 TX9 16, w ∈ ws_kc_X0_markStart := fun w h => List.mem_cons_of_mem _ (wy_layX9 w h)
  have hiX0 : ∀ w ∈ u_ws RX0 TX0 17, w ∈ ws_kc_X0_markStart := fun w h => List.mem_cons_of_mem _ (wy_layX0 w h)
  have hiX6 : ∀ w ∈ u_ws RX6 TX6 4, w ∈ ws_kc_X0_markStart := fun w h => List.mem_cons_of_mem _ (wy_layX6 w h)
  refine lv_iload_n hx hb (dk_at dkX0_markStart_0 0 rfl) rfl (lv_at hl 2 rfl) ?_
  refine lv_istore (lv' := [(4, .int (iI x2)), (0, .ref (q 6)), (1, .ref (q ta)), (2, .int (iI x2)), (3, .int (iI x3))]) hx hb (dk_at dkX0_markStart_0 1 rfl) hl (by decide) rfl (fun ls hl => ?_)
  refine lv_iconst (v := iI 0) hx hb (dk_at dkX0_markStart_0 2 rfl) (by decide +kernel) ?_
  refine lv_istore (lv' := [(5, .int (iI 0)), (4, .int (iI x2)), (0, .ref (q 6)), (1, .ref (q ta)), (2, .int (iI x2)), (3, .int (iI x3))]) hx hb (dk_at dkX0_markStart_0 3 rfl) hl (by decide) rfl (fun ls hl => ?_)
  have L6_5 : ∀ (n11 : Nat) (z1 z2 : Int) (A4 : St) (H : Heap) (locs : List Loc) (ls : Array Slot), (0 ≤ z1 ∧ z1 ≤ 2147483647) → (-2147483648 ≤ z2 ∧ z2 ≤ 2147483647) → (∀ (u : St), (∃ mm1 : Nat, (d_X0_markStart_1 ta x2 x3 A u mm1 z1 z2 A4)) → r_X0_markStart ta x2 x3 A u) → ((5 - z1).toNat = n11) → IK A4 → fk [14] [] A A4 → va_P (dC, dI) vwCl (WK cB cI cJ cZ cQ q A4) H → va_S AS s.heap H locs → lv_has ls 6 [(5, .int (iI z1)), (4, .int (iI z2)), (0, .ref (q 6)), (1, .ref (q ta)), (2, .int (iI x2)), (3, .int (iI x3))] → W p l e (headSpec ws_kc_X0_markStart ({ frames := 2, cells := 0, slots := 0, locals := 48 } : Room)).room s m [.ref (q 6), .ref (q ta), .int (iI x2), .int (iI x3)].toArray below meth c H locs 0 0 Q (F0 m 6 ls []) := by
    intro n11
    induction n11 using Nat.strongRecOn with
    | ind n11 ih6 =>
      intro z1 z2 A4 H locs ls f7 f8 hk1 hn11 hI hj3 hP hS hl
      have gI12 : Hd (IK A4) := Hd.mk hI
      refine lv_iload hx hb (dk_at dkX0_markStart_0 4 rfl) (lv_at hl 0 rfl) ?_
      refine lv_aload_n hx hb (dk_at dkX0_markStart_0 5 rfl) rfl (lv_at hl 3 rfl) ?_
      refine va_get (D := (dC, dI)) (ci := 9) (v := .ref (q (ta + 1))) (C := RX9) (T := TX9) (N := 16) hx hb hts hiX9 hown hK hP ta (wkT hta) rfl 0 (by decide) (hts _ (List.mem_cons_of_mem _ wkq_0_1)) (fun _ h9 => h9) rfl (dk_at dkX0_markStart_0 6 rfl) ?_
      refine lv_iconst (v := iI 2) hx hb (dk_at dkX0_markStart_0 7 rfl) (by decide +kernel) ?_
      have a13 : ∀ k, A4 (ta + 1) k = A (ta + 1) k := fun k => hj3 (ta + 1) k (isT.b2 (o := fun b => List.contains [14] (b + 1)) hta rfl rfl) (isT.b2 (o := fun b => fin2 [] (b + 1) k) hta rfl rfl)
      refine x_iald (Wf := WK cB cI cJ cZ cQ q) hx hb hK hP (ta + 1) 1 (wkTc hta) rfl (by decide) (by decide) (dk_at dkX0_markStart_0 8 rfl) (fun z14 hz14 => ?_)
      have rz14 : (0 : Int) ≤ z14 ∧ z14 ≤ 4 := by rw [hz14]; exact irTc2 hta hI
      have gz14 := Hd.mk hz14
      have hz14 : z14 = A (ta + 1) (2 : Int).toNat := hz14.trans (a13 _)
      refine lv_icmp_ge (tgt := 77) hx hb (dk_at dkX0_markStart_0 9 rfl) (by decide) (fun c15 => ?_) (fun c15 => ?_)
      · have c15 : z14 ≤ z1 := (i_le (rb rz14 (by decide) (by decide)) (rb f7 (by decide) (by decide))).mp c15
        refine lv_aload_n hx hb (dk_at dkX0_markStart_2 12 rfl) rfl (lv_at hl 2 rfl) ?_
        refine lv_iload hx hb (dk_at dkX0_markStart_2 13 rfl) (lv_at hl 1 rfl) ?_
        refine lv_aload_n hx hb (dk_at dkX0_markStart_2 14 rfl) rfl (lv_at hl 2 rfl) ?_
        refine lv_aload_n hx hb (dk_at dkX0_markStart_2 15 rfl) rfl (lv_at hl 3 rfl) ?_
        refine lv_iload_n hx hb (dk_at dkX0_markStart_3 0 rfl) rfl (lv_at hl 4 rfl) ?_
        refine lv_aload_n hx hb (dk_at dkX0_markStart_3 1 rfl) rfl (lv_at hl 2 rfl) ?_
        refine lv_aload_n hx hb (dk_at dkX0_markStart_3 2 rfl) rfl (lv_at hl 3 rfl) ?_
        refine k_calli (As := [.ref (q ta)]) (rest := [.int (iI x2), .ref (q ta), .ref (q 6), .int (iI z2), .ref (q 6)]) ⟨hx, hb, hml, hown, hts⟩ hE (kc_X0_shutNow l dC dI cB cI cJ cZ cQ aL aS q _ ta hI hta) (cwV 1 hts (goodVk wkq_2_15 wkq_2_16 wkq_2_17 wkq_0_14 wkq_2_18) rfl rfl rfl (by decide +kernel) ⟨Nat.le_of_ble_eq_true rfl, Nat.le_of_ble_eq_true rfl⟩) hK hDD hA0 hP hS 6 0 (wkAL) rfl rfl hl.1 (Nat.le_of_ble_eq_true rfl) (dk_at dkX0_markStart_3 3 rfl) (fun z16 A17 H locs hw18 hP hS => ?_)
        obtain ⟨rfl, hw18⟩ := hw18
        have ghw18 : q_X0_shutNow ta A4 z16 := hw18
        have hw18 := hw18.2
        refine k_calli (As := [.ref (q ta), .int (iI x2), .int (iI z16)]) (rest := [.int (iI z2), .ref (q 6)]) ⟨hx, hb, hml, hown, hts⟩ hE (kc_X0_hadAt l dC dI cB cI cJ cZ cQ aL aS q _ ta x2 z16 hI hta hx2 hw18) (cwV 3 hts (goodVk wkq_2_19 wkq_2_20 wkq_2_21 wkq_0_14 wkq_2_22) rfl rfl rfl (by decide +kernel) ⟨Nat.le_of_ble_eq_true rfl, Nat.le_of_ble_eq_true rfl⟩) hK hDD hA0 hP hS 6 0 (wkAL) rfl rfl hl.1 (Nat.le_of_ble_eq_true rfl) (dk_at dkX0_markStart_3 4 rfl) (fun z19 A20 H locs hw21 hP hS => ?_)
        obtain ⟨rfl, hw21⟩ := hw21
        have ghw21 : q_X0_hadAt ta x2 z16 A4 z19 := hw21
        have hw21 := hw21.2
        refine lv_aload_n hx hb (dk_at dkX0_markStart_3 5 rfl) rfl (lv_at hl 2 rfl) ?_
        have e22 : A4 6 10 = (A 6 10) := (hj3 6 10 rfl rfl)
        have r23 : (-2147483648 : Int) ≤ (A 6 10) ∧ (A 6 10) ≤ 2147483647 := by rw [← e22]; exact irAL_10 hI
        refine va_get (D := (dC, dI)) (ci := 0) (v := .int (iI (A4 6 10))) (C := RX0) (T := TX0) (N := 17) hx hb hts hiX0 hown hK hP 6 (wkAL) rfl 10 (by decide) (hts _ (List.mem_cons_of_mem _ wkq_0_43)) (fun _ h9 => h9) rfl (dk_at dkX0_markStart_3 6 rfl) ?_
        refine tp_i (y := iI (A 6 10)) (congrArg iI e22) ?_
        refine lv_imul hx hb (dk_at dkX0_markStart_3 7 rfl) ?_
        refine x_absE (fun z24 gz24 hz24 => ?_)
        refine x_addv (v := z2 + z24) hx hb (dk_at dkX0_markStart_3 8 rfl) (by omega) ?_
        refine x_absE (fun z25 gz25 hz25 => ?_)
        refine k_callv (As := [.int (iI z25)]) (rest := []) ⟨hx, hb, hml, hown, hts⟩ hE (kc_X0_mark l dC dI cB cI cJ cZ cQ aL aS q _ z25 hI hz25) (cwV 1 hts (goodVk wkq_2_23 wkq_2_24 wkq_2_25 wkq_0_14 wkq_2_26) rfl rfl rfl (by decide +kernel) ⟨Nat.le_of_ble_eq_true rfl, Nat.le_of_ble_eq_true rfl⟩) hK hDD hA0 hP hS 6 0 (wkAL) rfl rfl hl.1 (Nat.le_of_ble_eq_true rfl) (dk_at dkX0_markStart_3 9 rfl) (fun A26 H locs hw27 hP hS => ?_)
        have ghw27 : q_X0_mark z25 A4 A26 := hw27
        obtain ⟨_, hI, hf28, hw27⟩ := hw27
        clear hw27
        exact RET _ _ _ _ _ ⟨hk1 _ ⟨0 + 1, (u_d_X0_markStart_1 ⟨gI12.out, ⟨f7, ⟨f8, ⟨z14, gz14.out, (Or.inl ⟨c15, ⟨z16, ghw18, ⟨z19, ghw21, ⟨z24, gz24.out, ⟨z25, gz25.out, ⟨A26, ghw27, rfl⟩⟩⟩⟩⟩⟩)⟩⟩⟩⟩)⟩, hI, fk.trans (fk.trans (fk.rf) hj3 rfl rfl) hf28 rfl rfl, trivial⟩ hP hS (dk_at dkX0_markStart_3 10 rfl)
      · have c15 : ¬ z14 ≤ z1 := mt (i_le (rb rz14 (by decide) (by decide)) (rb f7 (by decide) (by decide))).mpr c15
        refine lv_aload_n hx hb (dk_at dkX0_markStart_0 10 rfl) rfl (lv_at hl 2 rfl) ?_
        refine va_get (D := (dC, dI)) (ci := 0) (v := .ref (q 14)) (C := RX0) (T := TX0) (N := 17) hx hb hts hiX0 hown hK hP 6 (wkAL) rfl 3 (by decide) (hts _ (List.mem_cons_of_mem _ wkq_2_14)) (fun _ h9 => h9) rfl (dk_at dkX0_markStart_0 11 rfl) ?_
        refine lv_iload hx hb (dk_at dkX0_markStart_0 12 rfl) (lv_at hl 0 rfl) ?_
        refine lv_iconst (v := iI 0) hx hb (dk_at dkX0_markStart_0 13 rfl) (by decide +kernel) ?_
        refine k_iast (Wf := WK cB cI cJ cZ cQ q) hx hb hK hP hDD hS 14 1 (wkALl) rfl (by omega) (by decide) (dk_at dkX0_markStart_0 14 rfl) (wsALl) (fun H locs A29 hA29 hP hS => ?_)
        have hI := isALl hA29 hI (show (-2147483648 : Int) ≤ 0 ∧ 0 ≤ 2147483647 from ⟨by decide, by decide⟩)
        refine lv_iload_n hx hb (dk_at dkX0_markStart_0 15 rfl) rfl (lv_at hl 5 rfl) ?_
        refine lv_iload hx hb (dk_at dkX0_markStart_1 0 rfl) (lv_at hl 0 rfl) ?_
        refine lv_ishr hx hb (dk_at dkX0_markStart_1 1 rfl) ?_
        refine x_absE (fun z30 gz30 hz30 => ?_)
        refine lv_iconst (v := iI 1) hx hb (dk_at dkX0_markStart_1 2 rfl) (by decide +kernel) ?_
        refine lv_iand hx hb (dk_at dkX0_markStart_1 3 rfl) ?_
        refine x_andE (b := 1) (by omega) (fun z31 gz31 hz31 => ?_)
        have J71_33 : ∀ (z45 : Int) (A47 : St) (H : Heap) (locs : List Loc) (ls : Array Slot), (-2147483648 ≤ z45 ∧ z45 ≤ 2147483647) → (∀ (u : St), (∃ mm1 : Nat, (d_X0_markStart_2 (fun z1' z2' A4' => d_X0_markStart_1 ta x2 x3 A u mm1 z1' z2' A4') z1 u z45 A47)) → r_X0_markStart ta x2 x3 A u) → IK A47 → fk [14] [] A29 A47 → va_P (dC, dI) vwCl (WK cB cI cJ cZ cQ q A47) H → va_S AS s.heap H locs → lv_has ls 6 [(5, .int (iI z1)), (4, .int (iI z45)), (0, .ref (q 6)), (1, .ref (q ta)), (2, .int (iI x2)), (3, .int (iI x3))] → W p l e (headSpec ws_kc_X0_markStart ({ frames := 2, cells := 0, slots := 0, locals := 48 } : Room)).room s m [.ref (q 6), .ref (q ta), .int (iI x2), .int (iI x3)].toArray below meth c H locs 0 0 Q (F0 m 71 ls []) := by
          intro z45 A47 H locs ls f48 hk2 hI hj46 hP hS hl
          have gI49 : Hd (IK A47) := Hd.mk hI
          refine lv_iinc (v := iI (z1 + 1)) (lv' := [(5, .int (iI (z1 + 1))), (4, .int (iI z45)), (0, .ref (q 6)), (1, .ref (q ta)), (2, .int (iI x2)), (3, .int (iI x3))]) hx hb (dk_at dkX0_markStart_2 10 rfl) hl (k := 0) rfl (i_inc (by omega)) (by decide) rfl (fun ls hl => ?_)
          refine lv_goto (tgt := 6) hx hb (dk_at dkX0_markStart_2 11 rfl) (by decide) ?_
          exact ih6 _ (by omega) (z1 + 1) z45 _ _ _ _ (by omega) (by omega) (fun uq ⟨mm1, hq⟩ => hk2 _ ⟨mm1, (u_d_X0_markStart_2 ⟨gI49.out, ⟨f48, hq⟩⟩)⟩) rfl hI (fk.trans (fk.da (fk.trans (fk.rf) hj3 rfl rfl) hA29 rfl) hj46 rfl rfl) hP hS (lv_sub hl [0, 1, 2, 3, 4, 5] rfl)
        refine lv_if_eq (tgt := 71) hx hb (dk_at dkX0_markStart_1 4 rfl) (by decide) (fun c32 => ?_) (fun c32 => ?_)
        · have c32 : z31 = 0 := (i_eq0 (by omega)).mp c32
          exact J71_33 z2 _ _ _ _ (by omega) (fun uq ⟨mm1, hq⟩ => hk1 _ ⟨mm1 + 1, (u_d_X0_markStart_1 ⟨gI12.out, ⟨f7, ⟨f8, ⟨z14, gz14.out, (Or.inr ⟨c15, ⟨A29, hA29, ⟨z30, gz30.out, ⟨z31, gz31.out, (Or.inl ⟨c32, hq⟩)⟩⟩⟩⟩)⟩⟩⟩⟩)⟩) hI (fk.rf) hP hS (lv_sub hl [0, 1, 2, 3, 4, 5] rfl)
        · have c32 : ¬ z31 = 0 := mt (i_eq0 (by omega)).mpr c32
          refine lv_aload_n hx hb (dk_at dkX0_markStart_1 5 rfl) rfl (lv_at hl 2 rfl) ?_
          refine va_get (D := (dC, dI)) (ci := 0) (v := .ref (q 14)) (C := RX0) (T := TX0) (N := 17) hx hb hts hiX0 hown hK hP 6 (wkAL) rfl 3 (by decide) (hts _ (List.mem_cons_of_mem _ wkq_2_14)) (fun _ h9 => h9) rfl (dk_at dkX0_markStart_1 6 rfl) ?_
          refine lv_iload hx hb (dk_at dkX0_markStart_1 7 rfl) (lv_at hl 0 rfl) ?_
          refine lv_aload_n hx hb (dk_at dkX0_markStart_1 8 rfl) rfl (lv_at hl 3 rfl) ?_
          refine va_get (D := (dC, dI)) (ci := 9) (v := .ref (q (ta + 22))) (C := RX9) (T := TX9) (N := 16) hx hb hts hiX9 hown hK hP ta (wkT hta) rfl 14 (by decide) (hts _ (List.mem_cons_of_mem _ wkq_0_18)) (fun _ h9 => h9) rfl (dk_at dkX0_markStart_1 9 rfl) ?_
          refine va_get (D := (dC, dI)) (ci := 6) (v := .ref (q ((ta + 22) + 3))) (C := RX6) (T := TX6) (N := 4) hx hb hts hiX6 hown hK hP (ta + 22) (wkS hta.s) rfl 2 (by decide) (hts _ (List.mem_cons_of_mem _ wkq_0_40)) (fun _ h9 => h9) rfl (dk_at dkX0_markStart_1 10 rfl) ?_
          refine lv_iload hx hb (dk_at dkX0_markStart_1 11 rfl) (lv_at hl 0 rfl) ?_
          have a35 : ∀ k, A4 ((ta + 22) + 3) k = A ((ta + 22) + 3) k := fun k => hj3 ((ta + 22) + 3) k (isS.b2 (o := fun b => List.contains [14] (b + 3)) hta.s rfl rfl rfl rfl) (isS.b2 (o := fun b => fin2 [] (b + 3) k) hta.s rfl rfl rfl rfl)
          have a34 : ∀ k, A29 ((ta + 22) + 3) k = A ((ta + 22) + 3) k := fun k => (rd_ne hA29 (by rcases hta.s with h | h | h | h <;> omega) k).trans (a35 k)
          refine x_iald (Wf := WK cB cI cJ cZ cQ q) hx hb hK hP ((ta + 22) + 3) 1 (wkSz hta.s) rfl (by omega) (by decide) (dk_at dkX0_markStart_1 12 rfl) (fun z36 hz36 => ?_)
          have rz36 : (0 : Int) ≤ z36 ∧ z36 ≤ 6 := by rw [hz36]; exact irSz hta.s hI
          have gz36 := Hd.mk hz36
          have hz36 : z36 = A ((ta + 22) + 3) (z1).toNat := hz36.trans (a34 _)
          refine k_iast (Wf := WK cB cI cJ cZ cQ q) hx hb hK hP hDD hS 14 1 (wkALl) rfl (by omega) (by decide) (dk_at dkX0_markStart_1 13 rfl) (wsALl) (fun H locs A37 hA37 hP hS => ?_)
          have hI := isALl hA37 hI (show (-2147483648 : Int) ≤ z36 ∧ z36 ≤ 2147483647 from (rb rz36 (by decide) (by decide)))
          refine lv_iload hx hb (dk_at dkX0_markStart_1 14 rfl) (lv_at hl 1 rfl) ?_
          refine lv_aload_n hx hb (dk_at dkX0_markStart_1 15 rfl) rfl (lv_at hl 2 rfl) ?_
          refine va_get (D := (dC, dI)) (ci := 0) (v := .ref (q 14)) (C := RX0) (T := TX0) (N := 17) hx hb hts hiX0 hown hK hP 6 (wkAL) rfl 3 (by decide) (hts _ (List.mem_cons_of_mem _ wkq_2_14)) (fun _ h9 => h9) rfl (dk_at dkX0_markStart_2 0 rfl) ?_
          refine lv_iload hx hb (dk_at dkX0_markStart_2 1 rfl) (lv_at hl 0 rfl) ?_
          refine x_iald (Wf := WK cB cI cJ cZ cQ q) hx hb hK hP 14 1 (wkALl) rfl (by omega) (by decide) (dk_at dkX0_markStart_2 2 rfl) (fun z38 hz38 => ?_)
          have rz38 : (-2147483648 : Int) ≤ z38 ∧ z38 ≤ 2147483647 := by rw [hz38]; exact irALl hI
          have gz38 := Hd.mk hz38
          have ez38 : z38 = z36 := hz38.trans (rd_is hA37)
          refine tp_i (y := iI z36) (congrArg iI ez38) ?_
          refine lv_aload_n hx hb (dk_at dkX0_markStart_2 3 rfl) rfl (lv_at hl 2 rfl) ?_
          refine va_get (D := (dC, dI)) (ci := 0) (v := .ref (q 13)) (C := RX0) (T := TX0) (N := 17) hx hb hts hiX0 hown hK hP 6 (wkAL) rfl 2 (by decide) (hts _ (List.mem_cons_of_mem _ wkq_0_39)) (fun _ h9 => h9) rfl (dk_at dkX0_markStart_2 4 rfl) ?_
          refine lv_iload hx hb (dk_at dkX0_markStart_2 5 rfl) (lv_at hl 0 rfl) ?_
          have a41 : ∀ k, A4 13 k = A 13 k := fun k => hj3 13 k rfl rfl
          have a40 : ∀ k, A29 13 k = A 13 k := fun k => (rd_ne hA29 (by decide) k).trans (a41 k)
          have a39 : ∀ k, A37 13 k = A 13 k := fun k => (rd_ne hA37 (by decide) k).trans (a40 k)
          refine x_iald (Wf := WK cB cI cJ cZ cQ q) hx hb hK hP 13 1 (wkALu) rfl (by omega) (by decide) (dk_at dkX0_markStart_2 6 rfl) (fun z42 hz42 => ?_)
          have rz42 : (-2147483648 : Int) ≤ z42 ∧ z42 ≤ 2147483647 := by rw [hz42]; exact irALu hI
          have gz42 := Hd.mk hz42
          have hz42 : z42 = A 13 (z1).toNat := hz42.trans (a39 _)
          refine lv_imul hx hb (dk_at dkX0_markStart_2 7 rfl) ?_
          refine x_absE (fun z43 gz43 hz43 => ?_)
          refine x_addv (v := z2 + z43) hx hb (dk_at dkX0_markStart_2 8 rfl) (by omega) ?_
          refine x_absE (fun z44 gz44 hz44 => ?_)
          refine lv_istore (lv' := [(4, .int (iI z44)), (5, .int (iI z1)), (0, .ref (q 6)), (1, .ref (q ta)), (2, .int (iI x2)), (3, .int (iI x3))]) hx hb (dk_at dkX0_markStart_2 9 rfl) hl (by decide) rfl (fun ls hl => ?_)
          exact J71_33 z44 _ _ _ _ (by omega) (fun uq ⟨mm1, hq⟩ => hk1 _ ⟨mm1 + 1, (u_d_X0_markStart_1 ⟨gI12.out, ⟨f7, ⟨f8, ⟨z14, gz14.out, (Or.inr ⟨c15, ⟨A29, hA29, ⟨z30, gz30.out, ⟨z31, gz31.out, (Or.inr ⟨c32, ⟨z36, gz36.out, ⟨A37, hA37, ⟨z42, gz42.out, ⟨z43, gz43.out, ⟨z44, gz44.out, hq⟩⟩⟩⟩⟩⟩)⟩⟩⟩⟩)⟩⟩⟩⟩)⟩) hI (fk.da (fk.rf) hA37 rfl) hP hS (lv_sub hl [1, 0, 2, 3, 4, 5] rfl)
  exact L6_5 _ 0 x2 _ _ _ _ (by omega) (by omega) (fun uq ⟨mm1, hq⟩ => (u_r_X0_markStart ⟨mm1, hq⟩)) rfl hI (fk.rf) hP hS (lv_sub hl [0, 1, 2, 3, 4, 5] rfl)

abbrev tr_d_X0_advance_2 (K1 : Int → Int → St → Prop) (z5 : Int) (A23 : St) (z : Int) (u : St) (z32 : Int) : Prop := ((0 ≤ z32 ∧ z32 ≤ 1) ∧ (K1 (z5 + 1) z32 A23))
def d_X0_advance_2 (K1 : Int → Int → St → Prop) (z5 : Int) (A23 : St) (z : Int) (u : St) (z32 : Int) : Prop := tr_d_X0_advance_2 K1 z5 A23 z u z32
theorem u_d_X0_advance_2 {K1 : Int → Int → St → Prop} {z5 : Int} {A23 : St} {z : Int} {u : St} {z32 : Int} (h : tr_d_X0_advance_2 K1 z5 A23 z u z32) : d_X0_advance_2 K1 z5 A23 z u z32 := h
abbrev tr_d_X0_advance_1 (A : St) (z : Int) (u : St) (K1 : Int → Int → St → Prop) (z5 : Int) (z6 : Int) (A8 : St) : Prop := ((IK A8) ∧ ((0 ≤ z5 ∧ z5 ≤ 2147483647) ∧ ((0 ≤ z6 ∧ z6 ≤ 1) ∧ (((1201 ≤ z5) ∧ (z = z6 ∧ u = A8)) ∨ ((¬ 1201 ≤ z5) ∧ ((((A 6 11) ≤ 64 * z5) ∧ (z = z6 ∧ u = A8)) ∨ ((¬ (A 6 11) ≤ 64 * z5) ∧ (∃ A23 : St, A23 = stA A8 (18 + ((A 6 7)).toNat) (z5).toNat 0 ∧ (∃ z28 : Int, z28 = A23 (18 + ((A 6 8)).toNat) (z5).toNat ∧ (∃ z29 : Int, ((-1 ≤ z29 ∧ z29 ≤ 1) ∧ (z29 = 0 ↔ z28 = 0) ∧ (z29 < 0 ↔ z28 < 0)) ∧ (((z29 = 0) ∧ (d_X0_advance_2 K1 z5 A23 z u z6)) ∨ ((¬ z29 = 0) ∧ (d_X0_advance_2 K1 z5 A23 z u 1)))))))))))))
def d_X0_advance_1 (A : St) (z : Int) (u : St) : Nat → Int → Int → St → Prop
  | 0, _, _, _ => False
  | nn9 + 1, z5, z6, A8 => tr_d_X0_advance_1 A z u (fun z5 z6 A8 => d_X0_advance_1 A z u nn9 z5 z6 A8) z5 z6 A8
theorem u_d_X0_advance_1 {A : St} {z : Int} {u : St} {nn9 : Nat} {z5 : Int} {z6 : Int} {A8 : St} (h : tr_d_X0_advance_1 A z u (fun z5 z6 A8 => d_X0_advance_1 A z u nn9 z5 z6 A8) z5 z6 A8) : d_X0_advance_1 A z u (nn9 + 1) z5 z6 A8 := h
abbrev tr_r_X0_advance (A : St) (z : Int) (u : St) : Prop := (∃ A3 : St, A3 = stA A 6 7 (A 6 8) ∧ (∃ A4 : St, A4 = stA A3 6 8 (A 6 7) ∧ (∃ nn9 : Nat, d_X0_advance_1 A z u nn9 0 0 A4)))
def r_X0_advance (A : St) (z : Int) (u : St) : Prop := tr_r_X0_advance A z u
theorem u_r_X0_advance {A : St} {z : Int} {u : St} (h : tr_r_X0_advance A z u) : r_X0_advance A z u := h
def q_X0_advance (A : St) (z : Int) (u : St) : Prop := r_X0_advance A z u ∧ IK u ∧ fk [18, 19] [(6, 7), (6, 8)] A u ∧ (0 ≤ z ∧ z ≤ 1)
def ws_kc_X0_advance : List Cond := .code yX0_advance cX0_advance 4 (some .boolean) :: WY
set_option maxHeartbeats 4000000 in
set_option maxRecDepth 100000 in
theorem kc_X0_advance (l : Launch) (dC : Nat → ClassId) (dI : Nat → Nat → Nat) (cB cI cJ cZ cQ : ClassId) (aL aS : Nat) (q : Nat → Nat) (A : St) (hI : IK A) : KMi l yX0_advance ws_kc_X0_advance ({ frames := 0, cells := 0, slots := 0, locals := 0 } : Room) aL aS (dC, dI) (tyA cB cI cJ cZ cQ) (WK cB cI cJ cZ cQ q) A [.ref (q 6)] (fun z u => r_X0_advance A z u ∧ IK u ∧ fk [18, 19] [(6, 7), (6, 8)] A u ∧ (0 ≤ z ∧ z ≤ 1)) := by
  refine k_metz (cc := cX0_advance) (maxL := 4) WK_adr (plainFor_of_name (by decide +kernel)) rfl (Nat.le_of_ble_eq_true rfl) (fun z u h => h.2.2.2) (fun p e s m below meth c Q AS ls hx hb hml hown hts hK hDD hA0 hE RET H locs hP hS hl => ?_)
  have hown : s.vm.findClass RX0 = some m.cls := hown
  have hl : lv_has ls 4 [(0, .ref (q 6))] := hl
  have hiX0 : ∀ w ∈ u_ws RX0 TX0 17, w ∈ ws_kc_X0_advance := fun w h => List.mem_cons_of_mem _ (wy_layX0 w h)
  refine lv_aload_n hx hb (dk_at dkX0_advance_0 0 rfl) rfl (lv_at hl 0 rfl) ?_
  have r1 : (0 : Int) ≤ (A 6 7) ∧ (A 6 7) ≤ 1 := irAL_7 hI
  refine va_get (D := (dC, dI)) (ci := 0) (v := .ref (q (18 + (A 6 7).toNat))) (C := RX0) (T := TX0) (N := 17) hx hb hts hiX0 hown hK hP 6 (wkAL) rfl 7 (by decide) (hts _ (List.mem_cons_of_mem _ wkq_2_31)) (fun _ h9 => h9) rfl (dk_at dkX0_advance_0 1 rfl) ?_
  refine lv_astore_n (lv' := [(1, .ref (q (18 + ((A 6 7)).toNat))), (0, .ref (q 6))]) hx hb (dk_at dkX0_advance_0 2 rfl) rfl hl (by decide) rfl (fun ls hl => ?_)
  refine lv_aload_n hx hb (dk_at dkX0_advance_0 3 rfl) rfl (lv_at hl 1 rfl) ?_
  refine lv_aload_n hx hb (dk_at dkX0_advance_0 4 rfl) rfl (lv_at hl 1 rfl) ?_
  have r2 : (0 : Int) ≤ (A 6 8) ∧ (A 6 8) ≤ 1 := irAL_8 hI
  refine va_get (D := (dC, dI)) (ci := 0) (v := .ref (q (18 + (A 6 8).toNat))) (C := RX0) (T := TX0) (N := 17) hx hb hts hiX0 hown hK hP 6 (wkAL) rfl 8 (by decide) (hts _ (List.mem_cons_of_mem _ wkq_2_9)) (fun _ h9 => h9) rfl (dk_at dkX0_advance_0 5 rfl) ?_
  refine k_put (Wf := WK cB cI cJ cZ cQ q) (D := (dC, dI)) (ci := 0) (v := .ref (q (18 + ((A 6 8)).toNat))) (ty := .array .long) (C := RX0) (T := TX0) (N := 17) hx hb hts hiX0 tyX0 tyX0_ok nmX0 hown hK hP hDD hS 6 (wkAL) rfl 7 (by decide) (hts _ (List.mem_cons_of_mem _ wkq_2_31)) (fun _ h9 => h9) rfl (by decide +kernel) rfl rfl (Nat.le_of_ble_eq_true rfl) (dk_at dkX0_advance_0 6 rfl) (wfAL_7 (v := (A 6 8))) (fun H locs A3 hA3 hP hS => ?_)
  have hI := isAL_7 hA3 hI (show (0 : Int) ≤ (A 6 8) ∧ (A 6 8) ≤ 1 from r2)
  refine lv_aload_n hx hb (dk_at dkX0_advance_0 7 rfl) rfl (lv_at hl 1 rfl) ?_
  refine lv_aload_n hx hb (dk_at dkX0_advance_0 8 rfl) rfl (lv_at hl 0 rfl) ?_
  refine k_put (Wf := WK cB cI cJ cZ cQ q) (D := (dC, dI)) (ci := 0) (v := .ref (q (18 + ((A 6 7)).toNat))) (ty := .array .long) (C := RX0) (T := TX0) (N := 17) hx hb hts hiX0 tyX0 tyX0_ok nmX0 hown hK hP hDD hS 6 (wkAL) rfl 8 (by decide) (hts _ (List.mem_cons_of_mem _ wkq_2_9)) (fun _ h9 => h9) rfl (by decide +kernel) rfl rfl (Nat.le_of_ble_eq_true rfl) (dk_at dkX0_advance_0 9 rfl) (wfAL_8 (v := (A 6 7))) (fun H locs A4 hA4 hP hS => ?_)
  have hI := isAL_8 hA4 hI (show (0 : Int) ≤ (A 6 7) ∧ (A 6 7) ≤ 1 from r1)
  refine lv_iconst (v := iI 0) hx hb (dk_at dkX0_advance_0 10 rfl) (by decide +kernel) ?_
  refine lv_istore_n (lv' := [(2, .int (iI 0)), (1, .ref (q (18 + ((A 6 7)).toNat))), (0, .ref (q 6))]) hx hb (dk_at dkX0_advance_0 11 rfl) rfl hl (by decide) rfl (fun ls hl => ?_)
  refine lv_iconst (v := iI 0) hx hb (dk_at dkX0_advance_0 12 rfl) (by decide +kernel) ?_
  refine lv_istore_n (lv' := [(3, .int (iI 0)), (2, .int (iI 0)), (1, .ref (q (18 + ((A 6 7)).toNat))), (0, .ref (q 6))]) hx hb (dk_at dkX0_advance_0 13 rfl) rfl hl (by decide) rfl (fun ls hl => ?_)
  have L22_9 : ∀ (n13 : Nat) (z5 z6 : Int) (A8 : St) (H : Heap) (locs : List Loc) (ls : Array Slot), (0 ≤ z5 ∧ z5 ≤ 2147483647) → (0 ≤ z6 ∧ z6 ≤ 1) → (∀ (z : Int) (u : St), (∃ mm1 : Nat, (d_X0_advance_1 A z u mm1 z5 z6 A8)) → r_X0_advance A z u) → ((1202 - z5).toNat = n13) → IK A8 → fk [18, 19] [] A4 A8 → va_P (dC, dI) vwCl (WK cB cI cJ cZ cQ q A8) H → va_S AS s.heap H locs → lv_has ls 4 [(3, .int (iI z5)), (2, .int (iI z6)), (1, .ref (q (18 + ((A 6 7)).toNat))), (0, .ref (q 6))] → W p l e (headSpec ws_kc_X0_advance ({ frames := 0, cells := 0, slots := 0, locals := 0 } : Room)).room s m [.ref (q 6)].toArray below meth c H locs 0 0 Q (F0 m 22 ls []) := by
    intro n13
    induction n13 using Nat.strongRecOn with
    | ind n13 ih10 =>
      intro z5 z6 A8 H locs ls f11 f12 hk1 hn13 hI hj7 hP hS hl
      have gI14 : Hd (IK A8) := Hd.mk hI
      refine lv_iload_n hx hb (dk_at dkX0_advance_0 14 rfl) rfl (lv_at hl 0 rfl) ?_
      refine lv_sipush (v := iI 1201) hx hb (dk_at dkX0_advance_0 15 rfl) (by decide +kernel) ?_
      refine lv_icmp_ge (tgt := 66) hx hb (dk_at dkX0_advance_1 0 rfl) (by decide) (fun c15 => ?_) (fun c15 => ?_)
      · have c15 : 1201 ≤ z5 := (i_le ⟨by decide, by decide⟩ (rb f11 (by decide) (by decide))).mp c15
        refine lv_iload_n hx hb (dk_at dkX0_advance_2 7 rfl) rfl (lv_at hl 1 rfl) ?_
        exact RET z6 _ _ _ _ _ ⟨hk1 _ _ ⟨0 + 1, (u_d_X0_advance_1 ⟨gI14.out, ⟨f11, ⟨f12, (Or.inl ⟨c15, ⟨rfl, rfl⟩⟩)⟩⟩⟩)⟩, hI, fk.trans (fk.df (fk.df (fk.rf) hA3 rfl) hA4 rfl) hj7 rfl rfl, f12⟩ hP hS (dk_at dkX0_advance_2 8 rfl)
      · have c15 : ¬ 1201 ≤ z5 := mt (i_le ⟨by decide, by decide⟩ (rb f11 (by decide) (by decide))).mpr c15
        refine lv_iload_n hx hb (dk_at dkX0_advance_1 1 rfl) rfl (lv_at hl 0 rfl) ?_
        refine lv_bipush (v := iI 64) hx hb (dk_at dkX0_advance_1 2 rfl) (by decide +kernel) ?_
        refine x_mulv (v := 64 * z5) hx hb (dk_at dkX0_advance_1 3 rfl) (by omega) ?_
        refine lv_aload_n hx hb (dk_at dkX0_advance_1 4 rfl) rfl (lv_at hl 3 rfl) ?_
        have e18 : A3 6 11 = (A 6 11) := (rd_at hA3 (by decide))
        have e17 : A4 6 11 = (A 6 11) := (rd_at hA4 (by decide)).trans e18
        have e16 : A8 6 11 = (A 6 11) := (hj7 6 11 rfl rfl).trans e17
        have r19 : (-2147483648 : Int) ≤ (A 6 11) ∧ (A 6 11) ≤ 76832 := by rw [← e16]; exact irAL_11 hI
        refine va_get (D := (dC, dI)) (ci := 0) (v := .int (iI (A8 6 11))) (C := RX0) (T := TX0) (N := 17) hx hb hts hiX0 hown hK hP 6 (wkAL) rfl 11 (by decide) (hts _ (List.mem_cons_of_mem _ wkq_0_20)) (fun _ h9 => h9) rfl (dk_at dkX0_advance_1 5 rfl) ?_
        refine tp_i (y := iI (A 6 11)) (congrArg iI e16) ?_
        refine lv_icmp_ge (tgt := 66) hx hb (dk_at dkX0_advance_1 6 rfl) (by decide) (fun c20 => ?_) (fun c20 => ?_)
        · have c20 : (A 6 11) ≤ 64 * z5 := (i_le (rb r19 (by decide) (by decide)) (by omega)).mp c20
          refine lv_iload_n hx hb (dk_at dkX0_advance_2 7 rfl) rfl (lv_at hl 1 rfl) ?_
          exact RET z6 _ _ _ _ _ ⟨hk1 _ _ ⟨0 + 1, (u_d_X0_advance_1 ⟨gI14.out, ⟨f11, ⟨f12, (Or.inr ⟨c15, (Or.inl ⟨c20, ⟨rfl, rfl⟩⟩)⟩)⟩⟩⟩)⟩, hI, fk.trans (fk.df (fk.df (fk.rf) hA3 rfl) hA4 rfl) hj7 rfl rfl, f12⟩ hP hS (dk_at dkX0_advance_2 8 rfl)
        · have c20 : ¬ (A 6 11) ≤ 64 * z5 := mt (i_le (rb r19 (by decide) (by decide)) (by omega)).mpr c20
          refine lv_aload_n hx hb (dk_at dkX0_advance_1 7 rfl) rfl (lv_at hl 3 rfl) ?_
          have e22 : A4 6 8 = (A 6 7) := rd_is hA4
          have e21 : A8 6 8 = (A 6 7) := (hj7 6 8 rfl rfl).trans e22
          refine va_get (D := (dC, dI)) (ci := 0) (v := .ref (q (18 + (A8 6 8).toNat))) (C := RX0) (T := TX0) (N := 17) hx hb hts hiX0 hown hK hP 6 (wkAL) rfl 8 (by decide) (hts _ (List.mem_cons_of_mem _ wkq_2_9)) (fun _ h9 => h9) rfl (dk_at dkX0_advance_1 8 rfl) ?_
          refine tp_v (y := .ref (q (18 + ((A 6 7)).toNat))) (by rw [e21]) ?_
          refine lv_iload_n hx hb (dk_at dkX0_advance_1 9 rfl) rfl (lv_at hl 0 rfl) ?_
          refine lv_lconst (v := jI 0) hx hb (dk_at dkX0_advance_1 10 rfl) (by decide +kernel) ?_
          refine k_last (Wf := WK cB cI cJ cZ cQ q) hx hb hK hP hDD hS (18 + ((A 6 7)).toNat) 2 (wkALf (i := (A 6 7)) (by omega)) rfl (by omega) (by decide) (dk_at dkX0_advance_1 11 rfl) (wsALf (i := (A 6 7)) (by omega)) (fun H locs A23 hA23 hP hS => ?_)
          have hI := isALf (i := (A 6 7)) (by omega) hA23 hI (show (-9223372036854775808 : Int) ≤ 0 ∧ 0 ≤ 9223372036854775807 from ⟨by decide, by decide⟩)
          refine lv_aload_n hx hb (dk_at dkX0_advance_1 12 rfl) rfl (lv_at hl 3 rfl) ?_
          have e27 : A3 6 7 = (A 6 8) := rd_is hA3
          have e26 : A4 6 7 = (A 6 8) := (rd_at hA4 (by decide)).trans e27
          have e25 : A8 6 7 = (A 6 8) := (hj7 6 7 rfl rfl).trans e26
          have e24 : A23 6 7 = (A 6 8) := (rd_ne hA23 (by omega) 7).trans e25
          refine va_get (D := (dC, dI)) (ci := 0) (v := .ref (q (18 + (A23 6 7).toNat))) (C := RX0) (T := TX0) (N := 17) hx hb hts hiX0 hown hK hP 6 (wkAL) rfl 7 (by decide) (hts _ (List.mem_cons_of_mem _ wkq_2_31)) (fun _ h9 => h9) rfl (dk_at dkX0_advance_1 13 rfl) ?_
          refine tp_v (y := .ref (q (18 + ((A 6 8)).toNat))) (by rw [e24]) ?_
          refine lv_iload_n hx hb (dk_at dkX0_advance_1 14 rfl) rfl (lv_at hl 0 rfl) ?_
          refine x_lald (Wf := WK cB cI cJ cZ cQ q) hx hb hK hP (18 + ((A 6 8)).toNat) 2 (wkALf (i := (A 6 8)) (by omega)) rfl (by omega) (by decide) (dk_at dkX0_advance_1 15 rfl) (fun z28 hz28 => ?_)
          have rz28 : (-9223372036854775808 : Int) ≤ z28 ∧ z28 ≤ 9223372036854775807 := by rw [hz28]; exact irALf (i := (A 6 8)) (by omega) hI
          have gz28 := Hd.mk hz28
          refine lv_lconst (v := jI 0) hx hb (dk_at dkX0_advance_2 0 rfl) (by decide +kernel) ?_
          refine x_lcmp hx hb (dk_at dkX0_advance_2 1 rfl) (by omega) (by omega) (fun z29 hz29 hz29b hz29c => ?_)
          have gz29 := Hd.mk (And.intro hz29 (And.intro hz29b hz29c))
          clear hz29b hz29c
          have J60_31 : ∀ (z32 : Int) (H : Heap) (locs : List Loc) (ls : Array Slot), (0 ≤ z32 ∧ z32 ≤ 1) → (∀ (z : Int) (u : St), (∃ mm1 : Nat, (d_X0_advance_2 (fun z5' z6' A8' => d_X0_advance_1 A z u mm1 z5' z6' A8') z5 A23 z u z32)) → r_X0_advance A z u) → va_P (dC, dI) vwCl (WK cB cI cJ cZ cQ q A23) H → va_S AS s.heap H locs → lv_has ls 4 [(3, .int (iI z5)), (2, .int (iI z32)), (1, .ref (q (18 + ((A 6 7)).toNat))), (0, .ref (q 6))] → W p l e (headSpec ws_kc_X0_advance ({ frames := 0, cells := 0, slots := 0, locals := 0 } : Room)).room s m [.ref (q 6)].toArray below meth c H locs 0 0 Q (F0 m 60 ls []) := by
            intro z32 H locs ls f34 hk2 hP hS hl
            refine lv_iinc (v := iI (z5 + 1)) (lv' := [(3, .int (iI (z5 + 1))), (2, .int (iI z32)), (1, .ref (q (18 + ((A 6 7)).toNat))), (0, .ref (q 6))]) hx hb (dk_at dkX0_advance_2 5 rfl) hl (k := 0) rfl (i_inc (by omega)) (by decide) rfl (fun ls hl => ?_)
            refine lv_goto (tgt := 22) hx hb (dk_at dkX0_advance_2 6 rfl) (by decide) ?_
            exact ih10 _ (by omega) (z5 + 1) z32 _ _ _ _ (by omega) (by omega) (fun zq uq ⟨mm1, hq⟩ => hk2 _ _ ⟨mm1, (u_d_X0_advance_2 ⟨f34, hq⟩)⟩) rfl hI (fk.da (fk.trans (fk.rf) hj7 rfl rfl) hA23 (by rcases (show (A 6 7) = 0 ∨ (A 6 7) = 1 by omega) with g | g <;> rw [g] <;> rfl)) hP hS (lv_sub hl [0, 1, 2, 3] rfl)
          refine lv_if_eq (tgt := 60) hx hb (dk_at dkX0_advance_2 2 rfl) (by decide) (fun c30 => ?_) (fun c30 => ?_)
          · have c30 : z29 = 0 := (i_eq0 (by omega)).mp c30
            exact J60_31 z6 _ _ _ (by omega) (fun zq uq ⟨mm1, hq⟩ => hk1 _ _ ⟨mm1 + 1, (u_d_X0_advance_1 ⟨gI14.out, ⟨f11, ⟨f12, (Or.inr ⟨c15, (Or.inr ⟨c20, ⟨A23, hA23, ⟨z28, gz28.out, ⟨z29, gz29.out, (Or.inl ⟨c30, hq⟩)⟩⟩⟩⟩)⟩)⟩⟩⟩)⟩) hP hS (lv_sub hl [0, 1, 2, 3] rfl)
          · have c30 : ¬ z29 = 0 := mt (i_eq0 (by omega)).mpr c30
            refine lv_iconst (v := iI 1) hx hb (dk_at dkX0_advance_2 3 rfl) (by decide +kernel) ?_
            refine lv_istore_n (lv' := [(2, .int (iI 1)), (3, .int (iI z5)), (1, .ref (q (18 + ((A 6 7)).toNat))), (0, .ref (q 6))]) hx hb (dk_at dkX0_advance_2 4 rfl) rfl hl (by decide) rfl (fun ls hl => ?_)
            exact J60_31 1 _ _ _ (by omega) (fun zq uq ⟨mm1, hq⟩ => hk1 _ _ ⟨mm1 + 1, (u_d_X0_advance_1 ⟨gI14.out, ⟨f11, ⟨f12, (Or.inr ⟨c15, (Or.inr ⟨c20, ⟨A23, hA23, ⟨z28, gz28.out, ⟨z29, gz29.out, (Or.inr ⟨c30, hq⟩)⟩⟩⟩⟩)⟩)⟩⟩⟩)⟩) hP hS (lv_sub hl [1, 0, 2, 3] rfl)
  exact L22_9 _ 0 0 _ _ _ _ (by omega) (by omega) (fun zq uq ⟨mm1, hq⟩ => (u_r_X0_advance ⟨A3, hA3, ⟨A4, hA4, ⟨mm1, hq⟩⟩⟩)) rfl hI (fk.rf) hP hS (lv_sub hl [0, 1, 2, 3] rfl)

abbrev tr_r_X0_isGoal (x1 : Int) (x2 : Int) (x3 : Int) (A : St) (z : Int) : Prop := ((((A 6 13) < 0 ∨ 2 < (A 6 13)) ∧ (((¬ (A 6 15) = (A 6 14)) ∧ (z = 0)) ∨ (((A 6 15) = (A 6 14)) ∧ (z = 1)))) ∨ ((A 6 13) = 0 ∧ (((¬ x1 = (A 6 14)) ∧ (z = 0)) ∨ ((x1 = (A 6 14)) ∧ (z = 1)))) ∨ ((A 6 13) = 1 ∧ (∃ z9 : Int, z9 = oShr x2 (A 6 14) ∧ (∃ z10 : Int, z10 = oAnd z9 1 ∧ (((¬ z10 = 0) ∧ (z = 0)) ∨ ((z10 = 0) ∧ (z = 1)))))) ∨ ((A 6 13) = 2 ∧ (∃ z13 : Int, z13 = oShl 1 (A 6 9) ∧ (∃ z14 : Int, z14 = oWrap (z13 - 1) ∧ (((¬ x3 = z14) ∧ (z = 0)) ∨ ((x3 = z14) ∧ (z = 1)))))))
def r_X0_isGoal (x1 : Int) (x2 : Int) (x3 : Int) (A : St) (z : Int) : Prop := tr_r_X0_isGoal x1 x2 x3 A z
theorem u_r_X0_isGoal {x1 : Int} {x2 : Int} {x3 : Int} {A : St} {z : Int} (h : tr_r_X0_isGoal x1 x2 x3 A z) : r_X0_isGoal x1 x2 x3 A z := h
def q_X0_isGoal (x1 : Int) (x2 : Int) (x3 : Int) (A : St) (z : Int) : Prop := r_X0_isGoal x1 x2 x3 A z ∧ (0 ≤ z ∧ z ≤ 1)
def ws_kc_X0_isGoal : List Cond := .code yX0_isGoal cX0_isGoal 4 (some .boolean) :: WY
set_option maxHeartbeats 4000000 in
set_option maxRecDepth 100000 in
theorem kc_X0_isGoal (l : Launch) (dC : Nat → ClassId) (dI : Nat → Nat → Nat) (cB cI cJ cZ cQ : ClassId) (aL aS : Nat) (q : Nat → Nat) (A : St) (x1 x2 x3 : Int) (hI : IK A) (hx1 : (-2147483648 : Int) ≤ x1 ∧ x1 ≤ 2147483647) (hx2 : (-2147483648 : Int) ≤ x2 ∧ x2 ≤ 2147483647) (hx3 : (-2147483648 : Int) ≤ x3 ∧ x3 ≤ 2147483647) : KMi l yX0_isGoal ws_kc_X0_isGoal ({ frames := 0, cells := 0, slots := 0, locals := 0 } : Room) aL aS (dC, dI) (tyA cB cI cJ cZ cQ) (WK cB cI cJ cZ cQ q) A [.ref (q 6), .int (iI x1), .int (iI x2), .int (iI x3)] (fun z u => A = u ∧ r_X0_isGoal x1 x2 x3 A z ∧ (0 ≤ z ∧ z ≤ 1)) := by
  refine k_metz (cc := cX0_isGoal) (maxL := 4) WK_adr (plainFor_of_name (by decide +kernel)) rfl (Nat.le_of_ble_eq_true rfl) (fun z u h => h.2.2) (fun p e s m below meth c Q AS ls hx hb hml hown hts hK hDD hA0 hE RET H locs hP hS hl => ?_)
  have hown : s.vm.findClass RX0 = some m.cls := hown
  have hl : lv_has ls 4 [(0, .ref (q 6)), (1, .int (iI x1)), (2, .int (iI x2)), (3, .int (iI x3))] := hl
  have hiX0 : ∀ w ∈ u_ws RX0 TX0 17, w ∈ ws_kc_X0_isGoal := fun w h => List.mem_cons_of_mem _ (wy_layX0 w h)
  refine lv_aload_n hx hb (dk_at dkX0_isGoal_0 0 rfl) rfl (lv_at hl 0 rfl) ?_
  have r1 : (-2147483648 : Int) ≤ (A 6 13) ∧ (A 6 13) ≤ 2147483647 := irAL_13 hI
  refine va_get (D := (dC, dI)) (ci := 0) (v := .int (iI (A 6 13))) (C := RX0) (T := TX0) (N := 17) hx hb hts hiX0 hown hK hP 6 (wkAL) rfl 13 (by decide) (hts _ (List.mem_cons_of_mem _ wkq_0_16)) (fun _ h9 => h9) rfl (dk_at dkX0_isGoal_0 1 rfl) ?_
  rcases (show ((A 6 13) < 0 ∨ 2 < (A 6 13)) ∨ (A 6 13) = 0 ∨ (A 6 13) = 1 ∨ (A 6 13) = 2 by omega) with c2 | c2 | c2 | c2
  · refine lv_tableOut (tgt := 81) hx hb (dk_at dkX0_isGoal_0 2 rfl) (by rw [iI_toInt r1]; exact c2) (by decide) ?_
    refine lv_aload_n hx hb (dk_at dkX0_isGoal_2 2 rfl) rfl (lv_at hl 0 rfl) ?_
    have r3 : (-2147483648 : Int) ≤ (A 6 15) ∧ (A 6 15) ≤ 2147483647 := irAL_15 hI
    refine va_get (D := (dC, dI)) (ci := 0) (v := .int (iI (A 6 15))) (C := RX0) (T := TX0) (N := 17) hx hb hts hiX0 hown hK hP 6 (wkAL) rfl 15 (by decide) (hts _ (List.mem_cons_of_mem _ wkq_0_2)) (fun _ h9 => h9) rfl (dk_at dkX0_isGoal_2 3 rfl) ?_
    refine lv_aload_n hx hb (dk_at dkX0_isGoal_2 4 rfl) rfl (lv_at hl 0 rfl) ?_
    have r4 : (-2147483648 : Int) ≤ (A 6 14) ∧ (A 6 14) ≤ 2147483647 := irAL_14 hI
    refine va_get (D := (dC, dI)) (ci := 0) (v := .int (iI (A 6 14))) (C := RX0) (T := TX0) (N := 17) hx hb hts hiX0 hown hK hP 6 (wkAL) rfl 14 (by decide) (hts _ (List.mem_cons_of_mem _ wkq_0_17)) (fun _ h9 => h9) rfl (dk_at dkX0_isGoal_2 5 rfl) ?_
    refine lv_icmp_ne (tgt := 96) hx hb (dk_at dkX0_isGoal_2 6 rfl) (by decide) (fun c5 => ?_) (fun c5 => ?_)
    · have c5 : ¬ (A 6 15) = (A 6 14) := mt (i_eq r3 r4).mpr c5
      refine lv_iconst (v := iI 0) hx hb (dk_at dkX0_isGoal_2 9 rfl) (by decide +kernel) ?_
      exact RET 0 _ _ _ _ _ ⟨rfl, (u_r_X0_isGoal (Or.inl ⟨c2, (Or.inl ⟨c5, rfl⟩)⟩)), ⟨by decide, by decide⟩⟩ hP hS (dk_at dkX0_isGoal_2 10 rfl)
    · have c5 : (A 6 15) = (A 6 14) := (i_eq r3 r4).mp c5
      refine lv_iconst (v := iI 1) hx hb (dk_at dkX0_isGoal_2 7 rfl) (by decide +kernel) ?_
      refine lv_goto (tgt := 97) hx hb (dk_at dkX0_isGoal_2 8 rfl) (by decide) ?_
      exact RET 1 _ _ _ _ _ ⟨rfl, (u_r_X0_isGoal (Or.inl ⟨c2, (Or.inr ⟨c5, rfl⟩)⟩)), ⟨by decide, by decide⟩⟩ hP hS (dk_at dkX0_isGoal_2 10 rfl)
  · refine tp_i (y := iI 0) (congrArg iI c2) ?_
    refine lv_tableIn (off := 28) (tgt := 32) hx hb (dk_at dkX0_isGoal_0 2 rfl) (by decide +kernel) (by decide +kernel) (by decide +kernel) (by decide) ?_
    refine lv_iload_n hx hb (dk_at dkX0_isGoal_0 3 rfl) rfl (lv_at hl 1 rfl) ?_
    refine lv_aload_n hx hb (dk_at dkX0_isGoal_0 4 rfl) rfl (lv_at hl 0 rfl) ?_
    have r6 : (-2147483648 : Int) ≤ (A 6 14) ∧ (A 6 14) ≤ 2147483647 := irAL_14 hI
    refine va_get (D := (dC, dI)) (ci := 0) (v := .int (iI (A 6 14))) (C := RX0) (T := TX0) (N := 17) hx hb hts hiX0 hown hK hP 6 (wkAL) rfl 14 (by decide) (hts _ (List.mem_cons_of_mem _ wkq_0_17)) (fun _ h9 => h9) rfl (dk_at dkX0_isGoal_0 5 rfl) ?_
    refine lv_icmp_ne (tgt := 44) hx hb (dk_at dkX0_isGoal_0 6 rfl) (by decide) (fun c7 => ?_) (fun c7 => ?_)
    · have c7 : ¬ x1 = (A 6 14) := mt (i_eq hx1 r6).mpr c7
      refine lv_iconst (v := iI 0) hx hb (dk_at dkX0_isGoal_0 9 rfl) (by decide +kernel) ?_
      exact RET 0 _ _ _ _ _ ⟨rfl, (u_r_X0_isGoal (Or.inr (Or.inl ⟨c2, (Or.inl ⟨c7, rfl⟩)⟩))), ⟨by decide, by decide⟩⟩ hP hS (dk_at dkX0_isGoal_0 10 rfl)
    · have c7 : x1 = (A 6 14) := (i_eq hx1 r6).mp c7
      refine lv_iconst (v := iI 1) hx hb (dk_at dkX0_isGoal_0 7 rfl) (by decide +kernel) ?_
      refine lv_goto (tgt := 45) hx hb (dk_at dkX0_isGoal_0 8 rfl) (by decide) ?_
      exact RET 1 _ _ _ _ _ ⟨rfl, (u_r_X0_isGoal (Or.inr (Or.inl ⟨c2, (Or.inr ⟨c7, rfl⟩)⟩))), ⟨by decide, by decide⟩⟩ hP hS (dk_at dkX0_isGoal_0 10 rfl)
  · refine tp_i (y := iI 1) (congrArg iI c2) ?_
    refine lv_tableIn (off := 42) (tgt := 46) hx hb (dk_at dkX0_isGoal_0 2 rfl) (by decide +kernel) (by decide +kernel) (by decide +kernel) (by decide) ?_
    refine lv_iload_n hx hb (dk_at dkX0_isGoal_0 11 rfl) rfl (lv_at hl 2 rfl) ?_
    refine lv_aload_n hx hb (dk_at dkX0_isGoal_0 12 rfl) rfl (lv_at hl 0 rfl) ?_
    have r8 : (-2147483648 : Int) ≤ (A 6 14) ∧ (A 6 14) ≤ 2147483647 := irAL_14 hI
    refine va_get (D := (dC, dI)) (ci := 0) (v := .int (iI (A 6 14))) (C := RX0) (T := TX0) (N := 17) hx hb hts hiX0 hown hK hP 6 (wkAL) rfl 14 (by decide) (hts _ (List.mem_cons_of_mem _ wkq_0_17)) (fun _ h9 => h9) rfl (dk_at dkX0_isGoal_0 13 rfl) ?_
    refine lv_ishr hx hb (dk_at dkX0_isGoal_0 14 rfl) ?_
    refine x_absE (fun z9 gz9 hz9 => ?_)
    refine lv_iconst (v := iI 1) hx hb (dk_at dkX0_isGoal_0 15 rfl) (by decide +kernel) ?_
    refine lv_iand hx hb (dk_at dkX0_isGoal_1 0 rfl) ?_
    refine x_andE (b := 1) (by omega) (fun z10 gz10 hz10 => ?_)
    refine lv_if_ne (tgt := 61) hx hb (dk_at dkX0_isGoal_1 1 rfl) (by decide) (fun c11 => ?_) (fun c11 => ?_)
    · have c11 : ¬ z10 = 0 := mt (i_eq0 (by omega)).mpr c11
      refine lv_iconst (v := iI 0) hx hb (dk_at dkX0_isGoal_1 4 rfl) (by decide +kernel) ?_
      exact RET 0 _ _ _ _ _ ⟨rfl, (u_r_X0_isGoal (Or.inr (Or.inr (Or.inl ⟨c2, ⟨z9, gz9.out, ⟨z10, gz10.out, (Or.inl ⟨c11, rfl⟩)⟩⟩⟩)))), ⟨by decide, by decide⟩⟩ hP hS (dk_at dkX0_isGoal_1 5 rfl)
    · have c11 : z10 = 0 := (i_eq0 (by omega)).mp c11
      refine lv_iconst (v := iI 1) hx hb (dk_at dkX0_isGoal_1 2 rfl) (by decide +kernel) ?_
      refine lv_goto (tgt := 62) hx hb (dk_at dkX0_isGoal_1 3 rfl) (by decide) ?_
      exact RET 1 _ _ _ _ _ ⟨rfl, (u_r_X0_isGoal (Or.inr (Or.inr (Or.inl ⟨c2, ⟨z9, gz9.out, ⟨z10, gz10.out, (Or.inr ⟨c11, rfl⟩)⟩⟩⟩)))), ⟨by decide, by decide⟩⟩ hP hS (dk_at dkX0_isGoal_1 5 rfl)
  · refine tp_i (y := iI 2) (congrArg iI c2) ?_
    refine lv_tableIn (off := 59) (tgt := 63) hx hb (dk_at dkX0_isGoal_0 2 rfl) (by decide +kernel) (by decide +kernel) (by decide +kernel) (by decide) ?_
    refine lv_iload_n hx hb (dk_at dkX0_isGoal_1 6 rfl) rfl (lv_at hl 3 rfl) ?_
    refine lv_iconst (v := iI 1) hx hb (dk_at dkX0_isGoal_1 7 rfl) (by decide +kernel) ?_
    refine lv_aload_n hx hb (dk_at dkX0_isGoal_1 8 rfl) rfl (lv_at hl 0 rfl) ?_
    have r12 : (0 : Int) ≤ (A 6 9) ∧ (A 6 9) ≤ 2 := irAL_9 hI
    refine va_get (D := (dC, dI)) (ci := 0) (v := .int (iI (A 6 9))) (C := RX0) (T := TX0) (N := 17) hx hb hts hiX0 hown hK hP 6 (wkAL) rfl 9 (by decide) (hts _ (List.mem_cons_of_mem _ wkq_0_29)) (fun _ h9 => h9) rfl (dk_at dkX0_isGoal_1 9 rfl) ?_
    refine lv_ishl hx hb (dk_at dkX0_isGoal_1 10 rfl) ?_
    refine x_absE (fun z13 gz13 hz13 => ?_)
    refine lv_iconst (v := iI 1) hx hb (dk_at dkX0_isGoal_1 11 rfl) (by decide +kernel) ?_
    refine x_subv (v := z13 - 1) hx hb (dk_at dkX0_isGoal_1 12 rfl) (by omega) ?_
    refine x_absE (fun z14 gz14 hz14 => ?_)
    refine lv_icmp_ne (tgt := 79) hx hb (dk_at dkX0_isGoal_1 13 rfl) (by decide) (fun c15 => ?_) (fun c15 => ?_)
    · have c15 : ¬ x3 = z14 := mt (i_eq hx3 hz14).mpr c15
      refine lv_iconst (v := iI 0) hx hb (dk_at dkX0_isGoal_2 0 rfl) (by decide +kernel) ?_
      exact RET 0 _ _ _ _ _ ⟨rfl, (u_r_X0_isGoal (Or.inr (Or.inr (Or.inr ⟨c2, ⟨z13, gz13.out, ⟨z14, gz14.out, (Or.inl ⟨c15, rfl⟩)⟩⟩⟩)))), ⟨by decide, by decide⟩⟩ hP hS (dk_at dkX0_isGoal_2 1 rfl)
    · have c15 : x3 = z14 := (i_eq hx3 hz14).mp c15
      refine lv_iconst (v := iI 1) hx hb (dk_at dkX0_isGoal_1 14 rfl) (by decide +kernel) ?_
      refine lv_goto (tgt := 80) hx hb (dk_at dkX0_isGoal_1 15 rfl) (by decide) ?_
      exact RET 1 _ _ _ _ _ ⟨rfl, (u_r_X0_isGoal (Or.inr (Or.inr (Or.inr ⟨c2, ⟨z13, gz13.out, ⟨z14, gz14.out, (Or.inr ⟨c15, rfl⟩)⟩⟩⟩)))), ⟨by decide, by decide⟩⟩ hP hS (dk_at dkX0_isGoal_2 1 rfl)

abbrev tr_r_X9_otherSide (ta : Nat) (x1 : Int) (x2 : Int) (A : St) (z : Int) : Prop := (∃ z1 : Int, q_X9_isThere_1_1 ta x1 A z1 ∧ (((¬ z1 = 0) ∧ (∃ z5 : Int, z5 = A (ta + 8) (x1).toNat ∧ (((¬ z5 = x2) ∧ (z = z5)) ∨ ((z5 = x2) ∧ (∃ z8 : Int, z8 = A (ta + 9) (x1).toNat ∧ (z = z8)))))) ∨ ((z1 = 0) ∧ (z = (-1)))))
def r_X9_otherSide (ta : Nat) (x1 : Int) (x2 : Int) (A : St) (z : Int) : Prop := tr_r_X9_otherSide ta x1 x2 A z
theorem u_r_X9_otherSide {ta : Nat} {x1 : Int} {x2 : Int} {A : St} {z : Int} (h : tr_r_X9_otherSide ta x1 x2 A z) : r_X9_otherSide ta x1 x2 A z := h
def q_X9_otherSide (ta : Nat) (x1 : Int) (x2 : Int) (A : St) (z : Int) : Prop := r_X9_otherSide ta x1 x2 A z ∧ (-2147483648 ≤ z ∧ z ≤ 2147483647)
def ws_kc_X9_otherSide : List Cond := .code yX9_otherSide cX9_otherSide 3 (some .int) :: WY
set_option maxHeartbeats 4000000 in
set_option maxRecDepth 100000 in
theorem kc_X9_otherSide (l : Launch) (dC : Nat → ClassId) (dI : Nat → Nat → Nat) (cB cI cJ cZ cQ : ClassId) (aL aS : Nat) (q : Nat → Nat) (A : St) (ta : Nat) (x1 x2 : Int) (hI : IK A) (hta : isT ta) (hx1 : (-2147483648 : Int) ≤ x1 ∧ x1 ≤ 2147483647) (hx2 : (-2147483648 : Int) ≤ x2 ∧ x2 ≤ 2147483647) : KMi l yX9_otherSide ws_kc_X9_otherSide ({ frames := 1, cells := 0, slots := 0, locals := 22 } : Room) aL aS (dC, dI) (tyA cB cI cJ cZ cQ) (WK cB cI cJ cZ cQ q) A [.ref (q ta), .int (iI x1), .int (iI x2)] (fun z u => A = u ∧ r_X9_otherSide ta x1 x2 A z ∧ (-2147483648 ≤ z ∧ z ≤ 2147483647)) := by
  refine k_meti (cc := cX9_otherSide) (maxL := 3) WK_adr (plainFor_of_name (by decide +kernel)) rfl (Nat.le_of_ble_eq_true rfl) (fun p e s m below meth c Q AS ls hx hb hml hown hts hK hDD hA0 hE RET H locs hP hS hl => ?_)
  have hown : s.vm.findClass RX9 = some m.cls := hown
  have hl : lv_has ls 3 [(0, .ref (q ta)), (1, .int (iI x1)), (2, .int (iI x2))] := hl
  have hiX9 : ∀ w ∈ u_ws RX9 TX9 16, w ∈ ws_kc_X9_otherSide := fun w h => List.mem_cons_of_mem _ (wy_layX9 w h)
  refine lv_aload_n hx hb (dk_at dkX9_otherSide_0 0 rfl) rfl (lv_at hl 0 rfl) ?_
  refine lv_iconst (v := iI 1) hx hb (dk_at dkX9_otherSide_0 1 rfl) (by decide +kernel) ?_
  refine lv_iload_n hx hb (dk_at dkX9_otherSide_0 2 rfl) rfl (lv_at hl 1 rfl) ?_
  refine k_calli (As := [.int (iI 1), .int (iI x1)]) (rest := []) ⟨hx, hb, hml, hown, hts⟩ hE (kc_X9_isThere_1_1 l dC dI cB cI cJ cZ cQ aL aS q _ ta x1 hI hta hx1) (cwV 2 hts (goodVk wkq_2_52 wkq_0_22 wkq_0_23 wkq_0_6 wkq_0_24) rfl rfl rfl (by decide +kernel) ⟨Nat.le_of_ble_eq_true rfl, Nat.le_of_ble_eq_true rfl⟩) hK hDD hA0 hP hS ta 9 (wkT hta) rfl rfl hl.1 (Nat.le_of_ble_eq_true rfl) (dk_at dkX9_otherSide_0 3 rfl) (fun z1 A2 H locs hw3 hP hS => ?_)
  obtain ⟨rfl, hw3⟩ := hw3
  have ghw3 : q_X9_isThere_1_1 ta x1 A z1 := hw3
  have hw3 := hw3.2
  have rz1 : 0 ≤ z1 ∧ z1 ≤ 1 := hw3.1
  have hw3 := hw3.2
  refine lv_if_ne (tgt := 11) hx hb (dk_at dkX9_otherSide_0 4 rfl) (by decide) (fun c4 => ?_) (fun c4 => ?_)
  · have c4 : ¬ z1 = 0 := mt (i_eq0 (rb rz1 (by decide) (by decide))).mpr c4
    have hw3b := hw3 (by omega)
    clear hw3
    refine lv_aload_n hx hb (dk_at dkX9_otherSide_0 7 rfl) rfl (lv_at hl 0 rfl) ?_
    refine va_get (D := (dC, dI)) (ci := 9) (v := .ref (q (ta + 8))) (C := RX9) (T := TX9) (N := 16) hx hb hts hiX9 hown hK hP ta (wkT hta) rfl 2 (by decide) (hts _ (List.mem_cons_of_mem _ wkq_1_14)) (fun _ h9 => h9) rfl (dk_at dkX9_otherSide_0 8 rfl) ?_
    refine lv_iload_n hx hb (dk_at dkX9_otherSide_0 9 rfl) rfl (lv_at hl 1 rfl) ?_
    refine x_iald (Wf := WK cB cI cJ cZ cQ q) hx hb hK hP (ta + 8) 1 (wkTf hta) rfl (by omega) (by decide) (dk_at dkX9_otherSide_0 10 rfl) (fun z5 hz5 => ?_)
    have rz5 : (-2147483648 : Int) ≤ z5 ∧ z5 ≤ 2147483647 := by rw [hz5]; exact irTf hta hI
    have gz5 := Hd.mk hz5
    refine lv_iload_n hx hb (dk_at dkX9_otherSide_0 11 rfl) rfl (lv_at hl 2 rfl) ?_
    refine lv_icmp_ne (tgt := 30) hx hb (dk_at dkX9_otherSide_0 12 rfl) (by decide) (fun c6 => ?_) (fun c6 => ?_)
    · have c6 : ¬ z5 = x2 := mt (i_eq rz5 hx2).mpr c6
      refine lv_aload_n hx hb (dk_at dkX9_otherSide_1 2 rfl) rfl (lv_at hl 0 rfl) ?_
      refine va_get (D := (dC, dI)) (ci := 9) (v := .ref (q (ta + 8))) (C := RX9) (T := TX9) (N := 16) hx hb hts hiX9 hown hK hP ta (wkT hta) rfl 2 (by decide) (hts _ (List.mem_cons_of_mem _ wkq_1_14)) (fun _ h9 => h9) rfl (dk_at dkX9_otherSide_1 3 rfl) ?_
      refine lv_iload_n hx hb (dk_at dkX9_otherSide_1 4 rfl) rfl (lv_at hl 1 rfl) ?_
      refine x_iald (Wf := WK cB cI cJ cZ cQ q) hx hb hK hP (ta + 8) 1 (wkTf hta) rfl (by omega) (by decide) (dk_at dkX9_otherSide_1 5 rfl) (fun z7 hz7 => ?_)
      have rz7 : (-2147483648 : Int) ≤ z7 ∧ z7 ≤ 2147483647 := by rw [hz7]; exact irTf hta hI
      have gz7 := Hd.mk hz7
      have ez7 : z7 = z5 := hz7.trans hz5.symm
      refine tp_i (y := iI z5) (congrArg iI ez7) ?_
      exact RET z5 _ _ _ _ _ ⟨rfl, (u_r_X9_otherSide ⟨z1, ghw3, (Or.inl ⟨c4, ⟨z5, gz5.out, (Or.inl ⟨c6, rfl⟩)⟩⟩)⟩), rz5⟩ hP hS (dk_at dkX9_otherSide_1 6 rfl)
    · have c6 : z5 = x2 := (i_eq rz5 hx2).mp c6
      refine lv_aload_n hx hb (dk_at dkX9_otherSide_0 13 rfl) rfl (lv_at hl 0 rfl) ?_
      refine va_get (D := (dC, dI)) (ci := 9) (v := .ref (q (ta + 9))) (C := RX9) (T := TX9) (N := 16) hx hb hts hiX9 hown hK hP ta (wkT hta) rfl 3 (by decide) (hts _ (List.mem_cons_of_mem _ wkq_1_15)) (fun _ h9 => h9) rfl (dk_at dkX9_otherSide_0 14 rfl) ?_
      refine lv_iload_n hx hb (dk_at dkX9_otherSide_0 15 rfl) rfl (lv_at hl 1 rfl) ?_
      refine x_iald (Wf := WK cB cI cJ cZ cQ q) hx hb hK hP (ta + 9) 1 (wkTs hta) rfl (by omega) (by decide) (dk_at dkX9_otherSide_1 0 rfl) (fun z8 hz8 => ?_)
      have rz8 : (-2147483648 : Int) ≤ z8 ∧ z8 ≤ 2147483647 := by rw [hz8]; exact irTs hta hI
      have gz8 := Hd.mk hz8
      refine lv_goto (tgt := 36) hx hb (dk_at dkX9_otherSide_1 1 rfl) (by decide) ?_
      exact RET z8 _ _ _ _ _ ⟨rfl, (u_r_X9_otherSide ⟨z1, ghw3, (Or.inl ⟨c4, ⟨z5, gz5.out, (Or.inr ⟨c6, ⟨z8, gz8.out, rfl⟩⟩)⟩⟩)⟩), rz8⟩ hP hS (dk_at dkX9_otherSide_1 6 rfl)
  · have c4 : z1 = 0 := (i_eq0 (rb rz1 (by decide) (by decide))).mp c4
    clear hw3
    refine lv_iconst (v := iI (-1)) hx hb (dk_at dkX9_otherSide_0 5 rfl) (by decide +kernel) ?_
    exact RET (-1) _ _ _ _ _ ⟨rfl, (u_r_X9_otherSide ⟨z1, ghw3, (Or.inr ⟨c4, rfl⟩)⟩), ⟨by decide, by decide⟩⟩ hP hS (dk_at dkX9_otherSide_0 6 rfl)

abbrev tr_d_X0_markGoing_2 (K1 : Int → St → Prop) (z13 : Int) (u : St) (A46 : St) : Prop := ((IK A46) ∧ (K1 (z13 + 1) A46))
def d_X0_markGoing_2 (K1 : Int → St → Prop) (z13 : Int) (u : St) (A46 : St) : Prop := tr_d_X0_markGoing_2 K1 z13 u A46
theorem u_d_X0_markGoing_2 {K1 : Int → St → Prop} {z13 : Int} {u : St} {A46 : St} (h : tr_d_X0_markGoing_2 K1 z13 u A46) : d_X0_markGoing_2 K1 z13 u A46 := h
abbrev tr_d_X0_markGoing_1 (ta : Nat) (x2 : Int) (x3 : Int) (x4 : Int) (x5 : Int) (z12 : Int) (A : St) (u : St) (K1 : Int → St → Prop) (z13 : Int) (A15 : St) : Prop := ((IK A15) ∧ ((0 ≤ z13 ∧ z13 ≤ 2147483647) ∧ (((10 ≤ z13) ∧ (u = A15)) ∨ ((¬ 10 ≤ z13) ∧ (∃ z22 : Int, z22 = oShr z12 z13 ∧ (((z22 = 0) ∧ (u = A15)) ∨ ((¬ z22 = 0) ∧ (∃ z24 : Int, z24 = oShr z12 z13 ∧ (∃ z25 : Int, z25 = oAnd z24 1 ∧ (((z25 = 0) ∧ (d_X0_markGoing_2 K1 z13 u A15)) ∨ ((¬ z25 = 0) ∧ (∃ z28 : Int, q_X9_otherSide ta z13 x3 A15 z28 ∧ (∃ z31 : Int, q_X0_hadAt ta z28 x5 A15 z31 ∧ (∃ z34 : Int, z34 = oXor x4 (-1) ∧ (∃ z35 : Int, z35 = oAnd z31 z34 ∧ (∃ z36 : Int, z36 = oWrap (x2 + z28) ∧ (∃ z37 : Int, z37 = oWrap (z36 - x3) ∧ (∃ z40 : Int, z40 = oMul z35 (A 6 10) ∧ (∃ z41 : Int, z41 = oWrap (z37 + z40) ∧ (∃ A42 : St, q_X0_mark z41 A15 A42 ∧ (d_X0_markGoing_2 K1 z13 u A42)))))))))))))))))))))
def d_X0_markGoing_1 (ta : Nat) (x2 : Int) (x3 : Int) (x4 : Int) (x5 : Int) (z12 : Int) (A : St) (u : St) : Nat → Int → St → Prop
  | 0, _, _ => False
  | nn9 + 1, z13, A15 => tr_d_X0_markGoing_1 ta x2 x3 x4 x5 z12 A u (fun z13 A15 => d_X0_markGoing_1 ta x2 x3 x4 x5 z12 A u nn9 z13 A15) z13 A15
theorem u_d_X0_markGoing_1 {ta : Nat} {x2 : Int} {x3 : Int} {x4 : Int} {x5 : Int} {z12 : Int} {A : St} {u : St} {nn9 : Nat} {z13 : Int} {A15 : St} (h : tr_d_X0_markGoing_1 ta x2 x3 x4 x5 z12 A u (fun z13 A15 => d_X0_markGoing_1 ta x2 x3 x4 x5 z12 A u nn9 z13 A15) z13 A15) : d_X0_markGoing_1 ta x2 x3 x4 x5 z12 A u (nn9 + 1) z13 A15 := h
abbrev tr_r_X0_markGoing (ta : Nat) (x2 : Int) (x3 : Int) (x4 : Int) (x5 : Int) (A : St) (u : St) : Prop := (∃ z1 : Int, q_J6_bitCount_0f7a4 x5 A z1 ∧ (((11 * x3 + z1 < 88) ∧ (∃ z7 : Int, z7 = A 15 (x3).toNat ∧ (∃ z8 : Int, z8 = oXor x5 (-1) ∧ (∃ z9 : Int, z9 = oAnd z7 z8 ∧ (∃ z10 : Int, z10 = A 16 (11 * x3 + z1).toNat ∧ (∃ z11 : Int, z11 = oXor z10 (-1) ∧ (∃ z12 : Int, z12 = oAnd z9 z11 ∧ (∃ nn9 : Nat, d_X0_markGoing_1 ta x2 x3 x4 x5 z12 A u nn9 0 A)))))))) ∨ ((¬ 11 * x3 + z1 < 88) ∧ (u = A))))
def r_X0_markGoing (ta : Nat) (x2 : Int) (x3 : Int) (x4 : Int) (x5 : Int) (A : St) (u : St) : Prop := tr_r_X0_markGoing ta x2 x3 x4 x5 A u
theorem u_r_X0_markGoing {ta : Nat} {x2 : Int} {x3 : Int} {x4 : Int} {x5 : Int} {A : St} {u : St} (h : tr_r_X0_markGoing ta x2 x3 x4 x5 A u) : r_X0_markGoing ta x2 x3 x4 x5 A u := h
def q_X0_markGoing (ta : Nat) (x2 : Int) (x3 : Int) (x4 : Int) (x5 : Int) (A : St) (u : St) : Prop := r_X0_markGoing ta x2 x3 x4 x5 A u ∧ IK u ∧ fk [7, 18, 19] [] A u ∧ (True)
def ws_kc_X0_markGoing : List Cond := .code yX0_markGoing cX0_markGoing 11 none :: WY
set_option maxHeartbeats 4000000 in
set_option maxRecDepth 100000 in
theorem kc_X0_markGoing (l : Launch) (dC : Nat → ClassId) (dI : Nat → Nat → Nat) (cB cI cJ cZ cQ : ClassId) (aL aS : Nat) (q : Nat → Nat) (A : St) (ta : Nat) (x2 x3 x4 x5 : Int) (hI : IK A) (hta : isT ta) (hx2 : (-2147483648 : Int) ≤ x2 ∧ x2 ≤ 2147483647) (hx3 : (0 : Int) ≤ x3 ∧ x3 ≤ 7) (hx4 : (-2147483648 : Int) ≤ x4 ∧ x4 ≤ 2147483647) (hx5 : (-2147483648 : Int) ≤ x5 ∧ x5 ≤ 2147483647) : KMv l yX0_markGoing ws_kc_X0_markGoing ({ frames := 2, cells := 0, slots := 0, locals := 48 } : Room) aL aS (dC, dI) (tyA cB cI cJ cZ cQ) (WK cB cI cJ cZ cQ q) A [.ref (q 6), .ref (q ta), .int (iI x2), .int (iI x3), .int (iI x4), .int (iI x5)] (fun u => r_X0_markGoing ta x2 x3 x4 x5 A u ∧ IK u ∧ fk [7, 18, 19] [] A u ∧ (True)) := by
  refine k_metv (cc := cX0_markGoing) (maxL := 11) WK_adr (plainFor_of_name (by decide +kernel)) rfl (Nat.le_of_ble_eq_true rfl) (fun p e s m below meth c Q AS ls hx hb hml hown hts hK hDD hA0 hE RET H locs hP hS hl => ?_)
  have hown : s.vm.findClass RX0 = some m.cls := hown
  have hl : lv_has ls 11 [(0, .ref (q 6)), (1, .ref (q ta)), (2, .int (iI x2)), (3, .int (iI x3)), (4, .int (iI x4)), (5, .int (iI x5))] := hl
  have hiX0 : ∀ w ∈ u_ws RX0 TX0 17, w ∈ ws_kc_X0_markGoing := fun w h => List.mem_cons_of_mem _ (wy_layX0 w h)
  refine lv_iload_n hx hb (dk_at dkX0_markGoing_0 0 rfl) rfl (lv_at hl 3 rfl) ?_
  refine lv_bipush (v := iI 11) hx hb (dk_at dkX0_markGoing_0 1 rfl) (by decide +kernel) ?_
  refine x_mulv (v := 11 * x3) hx hb (dk_at dkX0_markGoing_0 2 rfl) (by omega) ?_
  refine lv_iload hx hb (dk_at dkX0_markGoing_0 3 rfl) (lv_at hl 5 rfl) ?_
  refine k_callSi (As := [.int (iI x5)]) (rest := [.int (iI (11 * x3))]) ⟨hx, hb, hml, hown, hts⟩ hE (kc_J6_bitCount_0f7a4 l dC dI cB cI cJ cZ cQ aL aS q _ x5 hI hx5) (va_cwS 1 hts (goodSk wkq_1_16 wkq_1_17 wkq_1_18 wkq_1_19) rfl rfl rfl (by decide +kernel) ⟨Nat.le_of_ble_eq_true rfl, Nat.le_of_ble_eq_true rfl⟩) hK hDD hA0 hP hS rfl hl.1 (Nat.le_of_ble_eq_true rfl) (dk_at dkX0_markGoing_0 4 rfl) (fun z1 A2 H locs hw3 hP hS => ?_)
  obtain ⟨rfl, hw3⟩ := hw3
  have ghw3 : q_J6_bitCount_0f7a4 x5 A z1 := hw3
  have hw3 := hw3.2
  refine x_addv (v := 11 * x3 + z1) hx hb (dk_at dkX0_markGoing_0 5 rfl) (by omega) ?_
  refine lv_istore (lv' := [(6, .int (iI (11 * x3 + z1))), (0, .ref (q 6)), (1, .ref (q ta)), (2, .int (iI x2)), (3, .int (iI x3)), (4, .int (iI x4)), (5, .int (iI x5))]) hx hb (dk_at dkX0_markGoing_0 6 rfl) hl (by decide) rfl (fun ls hl => ?_)
  refine lv_iload_n hx hb (dk_at dkX0_markGoing_0 7 rfl) rfl (lv_at hl 4 rfl) ?_
  refine lv_if_lt (tgt := 29) hx hb (dk_at dkX0_markGoing_0 8 rfl) (by decide) (fun c4 => False.elim (by have c4 : x3 < 0 := (i_lt0 (rb hx3 (by decide) (by decide))).mp c4; omega)) (fun _ => ?_)
  refine lv_iload_n hx hb (dk_at dkX0_markGoing_0 9 rfl) rfl (lv_at hl 4 rfl) ?_
  refine lv_bipush (v := iI 8) hx hb (dk_at dkX0_markGoing_0 10 rfl) (by decide +kernel) ?_
  refine lv_icmp_ge (tgt := 29) hx hb (dk_at dkX0_markGoing_0 11 rfl) (by decide) (fun c5 => False.elim (by have c5 : 8 ≤ x3 := (i_le ⟨by decide, by decide⟩ (rb hx3 (by decide) (by decide))).mp c5; omega)) (fun _ => ?_)
  refine lv_iload hx hb (dk_at dkX0_markGoing_0 12 rfl) (lv_at hl 0 rfl) ?_
  refine lv_bipush (v := iI 88) hx hb (dk_at dkX0_markGoing_0 13 rfl) (by decide +kernel) ?_
  refine lv_icmp_lt (tgt := 30) hx hb (dk_at dkX0_markGoing_0 14 rfl) (by decide) (fun c6 => ?_) (fun c6 => ?_)
  · have c6 : 11 * x3 + z1 < 88 := (i_lt (by omega) ⟨by decide, by decide⟩).mp c6
    refine lv_aload_n hx hb (dk_at dkX0_markGoing_1 0 rfl) rfl (lv_at hl 1 rfl) ?_
    refine va_get (D := (dC, dI)) (ci := 0) (v := .ref (q 15)) (C := RX0) (T := TX0) (N := 17) hx hb hts hiX0 hown hK hP 6 (wkAL) rfl 4 (by decide) (hts _ (List.mem_cons_of_mem _ wkq_1_4)) (fun _ h9 => h9) rfl (dk_at dkX0_markGoing_1 1 rfl) ?_
    refine lv_iload_n hx hb (dk_at dkX0_markGoing_1 2 rfl) rfl (lv_at hl 4 rfl) ?_
    refine x_iald (Wf := WK cB cI cJ cZ cQ q) hx hb hK hP 15 1 (wkALd) rfl (by omega) (by decide) (dk_at dkX0_markGoing_1 3 rfl) (fun z7 hz7 => ?_)
    have rz7 : (-2147483648 : Int) ≤ z7 ∧ z7 ≤ 2147483647 := by rw [hz7]; exact irALd hI
    have gz7 := Hd.mk hz7
    refine lv_iload hx hb (dk_at dkX0_markGoing_1 4 rfl) (lv_at hl 6 rfl) ?_
    refine lv_iconst (v := iI (-1)) hx hb (dk_at dkX0_markGoing_1 5 rfl) (by decide +kernel) ?_
    refine lv_ixor hx hb (dk_at dkX0_markGoing_1 6 rfl) ?_
    refine x_absE (fun z8 gz8 hz8 => ?_)
    refine lv_iand hx hb (dk_at dkX0_markGoing_1 7 rfl) ?_
    refine x_absE (fun z9 gz9 hz9 => ?_)
    refine lv_aload_n hx hb (dk_at dkX0_markGoing_1 8 rfl) rfl (lv_at hl 1 rfl) ?_
    refine va_get (D := (dC, dI)) (ci := 0) (v := .ref (q 16)) (C := RX0) (T := TX0) (N := 17) hx hb hts hiX0 hown hK hP 6 (wkAL) rfl 5 (by decide) (hts _ (List.mem_cons_of_mem _ wkq_1_27)) (fun _ h9 => h9) rfl (dk_at dkX0_markGoing_1 9 rfl) ?_
    refine lv_iload hx hb (dk_at dkX0_markGoing_1 10 rfl) (lv_at hl 0 rfl) ?_
    refine x_iald (Wf := WK cB cI cJ cZ cQ q) hx hb hK hP 16 1 (wkALb) rfl (by omega) (by decide) (dk_at dkX0_markGoing_1 11 rfl) (fun z10 hz10 => ?_)
    have rz10 : (-2147483648 : Int) ≤ z10 ∧ z10 ≤ 2147483647 := by rw [hz10]; exact irALb hI
    have gz10 := Hd.mk hz10
    refine lv_iconst (v := iI (-1)) hx hb (dk_at dkX0_markGoing_1 12 rfl) (by decide +kernel) ?_
    refine lv_ixor hx hb (dk_at dkX0_markGoing_1 13 rfl) ?_
    refine x_absE (fun z11 gz11 hz11 => ?_)
    refine lv_iand hx hb (dk_at dkX0_markGoing_1 14 rfl) ?_
    refine x_absE (fun z12 gz12 hz12 => ?_)
    refine lv_istore (lv' := [(7, .int (iI z12)), (6, .int (iI (11 * x3 + z1))), (0, .ref (q 6)), (1, .ref (q ta)), (2, .int (iI x2)), (3, .int (iI x3)), (4, .int (iI x4)), (5, .int (iI x5))]) hx hb (dk_at dkX0_markGoing_1 15 rfl) hl (by decide) rfl (fun ls hl => ?_)
    refine lv_iconst (v := iI 0) hx hb (dk_at dkX0_markGoing_2 0 rfl) (by decide +kernel) ?_
    refine lv_istore (lv' := [(8, .int (iI 0)), (7, .int (iI z12)), (6, .int (iI (11 * x3 + z1))), (0, .ref (q 6)), (1, .ref (q ta)), (2, .int (iI x2)), (3, .int (iI x3)), (4, .int (iI x4)), (5, .int (iI x5))]) hx hb (dk_at dkX0_markGoing_2 1 rfl) hl (by decide) rfl (fun ls hl => ?_)
    have L56_16 : ∀ (n19 : Nat) (z13 : Int) (A15 : St) (H : Heap) (locs : List Loc) (ls : Array Slot), (0 ≤ z13 ∧ z13 ≤ 2147483647) → (∀ (u : St), (∃ mm1 : Nat, (d_X0_markGoing_1 ta x2 x3 x4 x5 z12 A u mm1 z13 A15)) → r_X0_markGoing ta x2 x3 x4 x5 A u) → ((11 - z13).toNat = n19) → IK A15 → fk [7, 18, 19] [] A A15 → va_P (dC, dI) vwCl (WK cB cI cJ cZ cQ q A15) H → va_S AS s.heap H locs → lv_has ls 11 [(8, .int (iI z13)), (7, .int (iI z12)), (6, .int (iI (11 * x3 + z1))), (0, .ref (q 6)), (1, .ref (q ta)), (2, .int (iI x2)), (3, .int (iI x3)), (4, .int (iI x4)), (5, .int (iI x5))] → W p l e (headSpec ws_kc_X0_markGoing ({ frames := 2, cells := 0, slots := 0, locals := 48 } : Room)).room s m [.ref (q 6), .ref (q ta), .int (iI x2), .int (iI x3), .int (iI x4), .int (iI x5)].toArray below meth c H locs 0 0 Q (F0 m 56 ls []) := by
      intro n19
      induction n19 using Nat.strongRecOn with
      | ind n19 ih17 =>
        intro z13 A15 H locs ls f18 hk1 hn19 hI hj14 hP hS hl
        have gI20 : Hd (IK A15) := Hd.mk hI
        refine lv_iload hx hb (dk_at dkX0_markGoing_2 2 rfl) (lv_at hl 0 rfl) ?_
        refine lv_bipush (v := iI 10) hx hb (dk_at dkX0_markGoing_2 3 rfl) (by decide +kernel) ?_
        refine lv_icmp_ge (tgt := 130) hx hb (dk_at dkX0_markGoing_2 4 rfl) (by decide) (fun c21 => ?_) (fun c21 => ?_)
        · have c21 : 10 ≤ z13 := (i_le ⟨by decide, by decide⟩ (rb f18 (by decide) (by decide))).mp c21
          exact RET _ _ _ _ _ ⟨hk1 _ ⟨0 + 1, (u_d_X0_markGoing_1 ⟨gI20.out, ⟨f18, (Or.inl ⟨c21, rfl⟩)⟩⟩)⟩, hI, fk.trans (fk.rf) hj14 rfl rfl, trivial⟩ hP hS (dk_at dkX0_markGoing_4 12 rfl)
        · have c21 : ¬ 10 ≤ z13 := mt (i_le ⟨by decide, by decide⟩ (rb f18 (by decide) (by decide))).mpr c21
          refine lv_iload hx hb (dk_at dkX0_markGoing_2 5 rfl) (lv_at hl 1 rfl) ?_
          refine lv_iload hx hb (dk_at dkX0_markGoing_2 6 rfl) (lv_at hl 0 rfl) ?_
          refine lv_ishr hx hb (dk_at dkX0_markGoing_2 7 rfl) ?_
          refine x_absE (fun z22 gz22 hz22 => ?_)
          refine lv_if_eq (tgt := 130) hx hb (dk_at dkX0_markGoing_2 8 rfl) (by decide) (fun c23 => ?_) (fun c23 => ?_)
          · have c23 : z22 = 0 := (i_eq0 hz22).mp c23
            exact RET _ _ _ _ _ ⟨hk1 _ ⟨0 + 1, (u_d_X0_markGoing_1 ⟨gI20.out, ⟨f18, (Or.inr ⟨c21, ⟨z22, gz22.out, (Or.inl ⟨c23, rfl⟩)⟩⟩)⟩⟩)⟩, hI, fk.trans (fk.rf) hj14 rfl rfl, trivial⟩ hP hS (dk_at dkX0_markGoing_4 12 rfl)
          · have c23 : ¬ z22 = 0 := mt (i_eq0 hz22).mpr c23
            refine lv_iload hx hb (dk_at dkX0_markGoing_2 9 rfl) (lv_at hl 1 rfl) ?_
            refine lv_iload hx hb (dk_at dkX0_markGoing_2 10 rfl) (lv_at hl 0 rfl) ?_
            refine lv_ishr hx hb (dk_at dkX0_markGoing_2 11 rfl) ?_
            refine x_absE (fun z24 gz24 hz24 => ?_)
            refine lv_iconst (v := iI 1) hx hb (dk_at dkX0_markGoing_2 12 rfl) (by decide +kernel) ?_
            refine lv_iand hx hb (dk_at dkX0_markGoing_2 13 rfl) ?_
            refine x_andE (b := 1) (by omega) (fun z25 gz25 hz25 => ?_)
            have J124_27 : ∀ (A46 : St) (H : Heap) (locs : List Loc) (ls : Array Slot), (∀ (u : St), (∃ mm1 : Nat, (d_X0_markGoing_2 (fun z13' A15' => d_X0_markGoing_1 ta x2 x3 x4 x5 z12 A u mm1 z13' A15') z13 u A46)) → r_X0_markGoing ta x2 x3 x4 x5 A u) → IK A46 → fk [7, 18, 19] [] A15 A46 → va_P (dC, dI) vwCl (WK cB cI cJ cZ cQ q A46) H → va_S AS s.heap H locs → lv_has ls 11 [(8, .int (iI z13)), (7, .int (iI z12)), (6, .int (iI (11 * x3 + z1))), (0, .ref (q 6)), (1, .ref (q ta)), (2, .int (iI x2)), (3, .int (iI x3)), (4, .int (iI x4)), (5, .int (iI x5))] → W p l e (headSpec ws_kc_X0_markGoing ({ frames := 2, cells := 0, slots := 0, locals := 48 } : Room)).room s m [.ref (q 6), .ref (q ta), .int (iI x2), .int (iI x3), .int (iI x4), .int (iI x5)].toArray below meth c H locs 0 0 Q (F0 m 124 ls []) := by
              intro A46 H locs ls hk2 hI hj45 hP hS hl
              have gI47 : Hd (IK A46) := Hd.mk hI
              refine lv_iinc (v := iI (z13 + 1)) (lv' := [(8, .int (iI (z13 + 1))), (7, .int (iI z12)), (6, .int (iI (11 * x3 + z1))), (0, .ref (q 6)), (1, .ref (q ta)), (2, .int (iI x2)), (3, .int (iI x3)), (4, .int (iI x4)), (5, .int (iI x5))]) hx hb (dk_at dkX0_markGoing_4 10 rfl) hl (k := 0) rfl (i_inc (by omega)) (by decide) rfl (fun ls hl => ?_)
              refine lv_goto (tgt := 56) hx hb (dk_at dkX0_markGoing_4 11 rfl) (by decide) ?_
              exact ih17 _ (by omega) (z13 + 1) _ _ _ _ (by omega) (fun uq ⟨mm1, hq⟩ => hk2 _ ⟨mm1, (u_d_X0_markGoing_2 ⟨gI47.out, hq⟩)⟩) rfl hI (fk.trans (fk.trans (fk.rf) hj14 rfl rfl) hj45 rfl rfl) hP hS (lv_sub hl [0, 1, 2, 3, 4, 5, 6, 7, 8] rfl)
            refine lv_if_eq (tgt := 124) hx hb (dk_at dkX0_markGoing_2 14 rfl) (by decide) (fun c26 => ?_) (fun c26 => ?_)
            · have c26 : z25 = 0 := (i_eq0 (by omega)).mp c26
              exact J124_27 _ _ _ _ (fun uq ⟨mm1, hq⟩ => hk1 _ ⟨mm1 + 1, (u_d_X0_markGoing_1 ⟨gI20.out, ⟨f18, (Or.inr ⟨c21, ⟨z22, gz22.out, (Or.inr ⟨c23, ⟨z24, gz24.out, ⟨z25, gz25.out, (Or.inl ⟨c26, hq⟩)⟩⟩⟩)⟩⟩)⟩⟩)⟩) hI (fk.rf) hP hS (lv_sub hl [0, 1, 2, 3, 4, 5, 6, 7, 8] rfl)
            · have c26 : ¬ z25 = 0 := mt (i_eq0 (by omega)).mpr c26
              refine lv_aload_n hx hb (dk_at dkX0_markGoing_2 15 rfl) rfl (lv_at hl 4 rfl) ?_
              refine lv_iload hx hb (dk_at dkX0_markGoing_3 0 rfl) (lv_at hl 0 rfl) ?_
              refine lv_iload_n hx hb (dk_at dkX0_markGoing_3 1 rfl) rfl (lv_at hl 6 rfl) ?_
              refine k_calli (As := [.int (iI z13), .int (iI x3)]) (rest := []) ⟨hx, hb, hml, hown, hts⟩ hE (kc_X9_otherSide l dC dI cB cI cJ cZ cQ aL aS q _ ta z13 x3 hI hta (rb f18 (by decide) (by decide)) (rb hx3 (by decide) (by decide))) (cwV 2 hts (goodVk wkq_2_48 wkq_2_49 wkq_2_50 wkq_0_6 wkq_2_51) rfl rfl rfl (by decide +kernel) ⟨Nat.le_of_ble_eq_true rfl, Nat.le_of_ble_eq_true rfl⟩) hK hDD hA0 hP hS ta 9 (wkT hta) rfl rfl hl.1 (Nat.le_of_ble_eq_true rfl) (dk_at dkX0_markGoing_3 2 rfl) (fun z28 A29 H locs hw30 hP hS => ?_)
              obtain ⟨rfl, hw30⟩ := hw30
              have ghw30 : q_X9_otherSide ta z13 x3 A15 z28 := hw30
              have hw30 := hw30.2
              refine lv_istore (lv' := [(9, .int (iI z28)), (8, .int (iI z13)), (7, .int (iI z12)), (6, .int (iI (11 * x3 + z1))), (0, .ref (q 6)), (1, .ref (q ta)), (2, .int (iI x2)), (3, .int (iI x3)), (4, .int (iI x4)), (5, .int (iI x5))]) hx hb (dk_at dkX0_markGoing_3 3 rfl) hl (by decide) rfl (fun ls hl => ?_)
              refine lv_aload_n hx hb (dk_at dkX0_markGoing_3 4 rfl) rfl (lv_at hl 4 rfl) ?_
              refine lv_aload_n hx hb (dk_at dkX0_markGoing_3 5 rfl) rfl (lv_at hl 5 rfl) ?_
              refine lv_iload hx hb (dk_at dkX0_markGoing_3 6 rfl) (lv_at hl 0 rfl) ?_
              refine lv_iload hx hb (dk_at dkX0_markGoing_3 7 rfl) (lv_at hl 9 rfl) ?_
              refine k_calli (As := [.ref (q ta), .int (iI z28), .int (iI x5)]) (rest := []) ⟨hx, hb, hml, hown, hts⟩ hE (kc_X0_hadAt l dC dI cB cI cJ cZ cQ aL aS q _ ta z28 x5 hI hta hw30 hx5) (cwV 3 hts (goodVk wkq_2_19 wkq_2_20 wkq_2_21 wkq_0_14 wkq_2_22) rfl rfl rfl (by decide +kernel) ⟨Nat.le_of_ble_eq_true rfl, Nat.le_of_ble_eq_true rfl⟩) hK hDD hA0 hP hS 6 0 (wkAL) rfl rfl hl.1 (Nat.le_of_ble_eq_true rfl) (dk_at dkX0_markGoing_3 8 rfl) (fun z31 A32 H locs hw33 hP hS => ?_)
              obtain ⟨rfl, hw33⟩ := hw33
              have ghw33 : q_X0_hadAt ta z28 x5 A15 z31 := hw33
              have hw33 := hw33.2
              refine lv_iload hx hb (dk_at dkX0_markGoing_3 9 rfl) (lv_at hl 8 rfl) ?_
              refine lv_iconst (v := iI (-1)) hx hb (dk_at dkX0_markGoing_3 10 rfl) (by decide +kernel) ?_
              refine lv_ixor hx hb (dk_at dkX0_markGoing_3 11 rfl) ?_
              refine x_absE (fun z34 gz34 hz34 => ?_)
              refine lv_iand hx hb (dk_at dkX0_markGoing_3 12 rfl) ?_
              refine x_absE (fun z35 gz35 hz35 => ?_)
              refine lv_istore (lv' := [(10, .int (iI z35)), (9, .int (iI z28)), (8, .int (iI z13)), (7, .int (iI z12)), (6, .int (iI (11 * x3 + z1))), (0, .ref (q 6)), (1, .ref (q ta)), (2, .int (iI x2)), (3, .int (iI x3)), (4, .int (iI x4)), (5, .int (iI x5))]) hx hb (dk_at dkX0_markGoing_3 13 rfl) hl (by decide) rfl (fun ls hl => ?_)
              refine lv_aload_n hx hb (dk_at dkX0_markGoing_3 14 rfl) rfl (lv_at hl 5 rfl) ?_
              refine lv_iload_n hx hb (dk_at dkX0_markGoing_3 15 rfl) rfl (lv_at hl 7 rfl) ?_
              refine lv_iload hx hb (dk_at dkX0_markGoing_4 0 rfl) (lv_at hl 1 rfl) ?_
              refine x_addv (v := x2 + z28) hx hb (dk_at dkX0_markGoing_4 1 rfl) (by omega) ?_
              refine x_absE (fun z36 gz36 hz36 => ?_)
              refine lv_iload_n hx hb (dk_at dkX0_markGoing_4 2 rfl) rfl (lv_at hl 8 rfl) ?_
              refine x_subv (v := z36 - x3) hx hb (dk_at dkX0_markGoing_4 3 rfl) (by omega) ?_
              refine x_absE (fun z37 gz37 hz37 => ?_)
              refine lv_iload hx hb (dk_at dkX0_markGoing_4 4 rfl) (lv_at hl 0 rfl) ?_
              refine lv_aload_n hx hb (dk_at dkX0_markGoing_4 5 rfl) rfl (lv_at hl 5 rfl) ?_
              have e38 : A15 6 10 = (A 6 10) := (hj14 6 10 rfl rfl)
              have r39 : (-2147483648 : Int) ≤ (A 6 10) ∧ (A 6 10) ≤ 2147483647 := by rw [← e38]; exact irAL_10 hI
              refine va_get (D := (dC, dI)) (ci := 0) (v := .int (iI (A15 6 10))) (C := RX0) (T := TX0) (N := 17) hx hb hts hiX0 hown hK hP 6 (wkAL) rfl 10 (by decide) (hts _ (List.mem_cons_of_mem _ wkq_0_43)) (fun _ h9 => h9) rfl (dk_at dkX0_markGoing_4 6 rfl) ?_
              refine tp_i (y := iI (A 6 10)) (congrArg iI e38) ?_
              refine lv_imul hx hb (dk_at dkX0_markGoing_4 7 rfl) ?_
              refine x_absE (fun z40 gz40 hz40 => ?_)
              refine x_addv (v := z37 + z40) hx hb (dk_at dkX0_markGoing_4 8 rfl) (by omega) ?_
              refine x_absE (fun z41 gz41 hz41 => ?_)
              refine k_callv (As := [.int (iI z41)]) (rest := []) ⟨hx, hb, hml, hown, hts⟩ hE (kc_X0_mark l dC dI cB cI cJ cZ cQ aL aS q _ z41 hI hz41) (cwV 1 hts (goodVk wkq_2_23 wkq_2_24 wkq_2_25 wkq_0_14 wkq_2_26) rfl rfl rfl (by decide +kernel) ⟨Nat.le_of_ble_eq_true rfl, Nat.le_of_ble_eq_true rfl⟩) hK hDD hA0 hP hS 6 0 (wkAL) rfl rfl hl.1 (Nat.le_of_ble_eq_true rfl) (dk_at dkX0_markGoing_4 9 rfl) (fun A42 H locs hw43 hP hS => ?_)
              have ghw43 : q_X0_mark z41 A15 A42 := hw43
              obtain ⟨_, hI, hf44, hw43⟩ := hw43
              clear hw43
              exact J124_27 _ _ _ _ (fun uq ⟨mm1, hq⟩ => hk1 _ ⟨mm1 + 1, (u_d_X0_markGoing_1 ⟨gI20.out, ⟨f18, (Or.inr ⟨c21, ⟨z22, gz22.out, (Or.inr ⟨c23, ⟨z24, gz24.out, ⟨z25, gz25.out, (Or.inr ⟨c26, ⟨z28, ghw30, ⟨z31, ghw33, ⟨z34, gz34.out, ⟨z35, gz35.out, ⟨z36, gz36.out, ⟨z37, gz37.out, ⟨z40, gz40.out, ⟨z41, gz41.out, ⟨A42, ghw43, hq⟩⟩⟩⟩⟩⟩⟩⟩⟩⟩)⟩⟩⟩)⟩⟩)⟩⟩)⟩) hI (fk.trans (fk.rf) hf44 rfl rfl) hP hS (lv_sub hl [2, 3, 4, 5, 6, 7, 8, 9, 10] rfl)
    exact L56_16 _ 0 _ _ _ _ (by omega) (fun uq ⟨mm1, hq⟩ => (u_r_X0_markGoing ⟨z1, ghw3, (Or.inl ⟨c6, ⟨z7, gz7.out, ⟨z8, gz8.out, ⟨z9, gz9.out, ⟨z10, gz10.out, ⟨z11, gz11.out, ⟨z12, gz12.out, ⟨mm1, hq⟩⟩⟩⟩⟩⟩⟩⟩)⟩)) rfl hI (fk.rf) hP hS (lv_sub hl [0, 1, 2, 3, 4, 5, 6, 7, 8] rfl)
  · have c6 : ¬ 11 * x3 + z1 < 88 := mt (i_lt (by omega) ⟨by decide, by decide⟩).mpr c6
    exact RET _ _ _ _ _ ⟨(u_r_X0_markGoing ⟨z1, ghw3, (Or.inr ⟨c6, rfl⟩)⟩), hI, fk.rf, trivial⟩ hP hS (dk_at dkX0_markGoing_0 15 rfl)

abbrev tr_d_X0_markOpening_2 (K1 : Int → St → Prop) (z1 : Int) (u : St) (A54 : St) : Prop := ((IK A54) ∧ (K1 (z1 + 1) A54))
def d_X0_markOpening_2 (K1 : Int → St → Prop) (z1 : Int) (u : St) (A54 : St) : Prop := tr_d_X0_markOpening_2 K1 z1 u A54
theorem u_d_X0_markOpening_2 {K1 : Int → St → Prop} {z1 : Int} {u : St} {A54 : St} (h : tr_d_X0_markOpening_2 K1 z1 u A54) : d_X0_markOpening_2 K1 z1 u A54 := h
abbrev tr_d_X0_markOpening_1 (ta : Nat) (x2 : Int) (x3 : Int) (x4 : Int) (A : St) (u : St) (K1 : Int → St → Prop) (z1 : Int) (A3 : St) : Prop := ((IK A3) ∧ ((0 ≤ z1 ∧ z1 ≤ 2147483647) ∧ (∃ z12 : Int, z12 = A3 (ta + 1) (2 : Int).toNat ∧ (((z12 ≤ z1) ∧ (u = A3)) ∨ ((¬ z12 ≤ z1) ∧ (∃ z15 : Int, z15 = A3 13 (z1).toNat ∧ (((z15 ≤ 0) ∧ (d_X0_markOpening_2 K1 z1 u A3)) ∨ ((¬ z15 ≤ 0) ∧ (∃ z18 : Int, z18 = A3 14 (z1).toNat ∧ (((z18 ≤ 0) ∧ (d_X0_markOpening_2 K1 z1 u A3)) ∨ ((¬ z18 ≤ 0) ∧ (∃ z21 : Int, q_X6_inRow (ta + 22) z1 (z18 - 1) A3 z21 ∧ (∃ z24 : Int, q_X9_isAt ta z21 x3 A3 z24 ∧ (((z24 = 0) ∧ (d_X0_markOpening_2 K1 z1 u A3)) ∨ ((¬ z24 = 0) ∧ (∃ A29 : St, A29 = stA A3 14 (z1).toNat (z18 - 1) ∧ (∃ z30 : Int, q_X0_shutNow ta A29 z30 ∧ (∃ z33 : Int, q_X0_hadAt ta x3 z30 A29 z33 ∧ (∃ z36 : Int, z36 = oXor x4 (-1) ∧ (∃ z37 : Int, z37 = oAnd z33 z36 ∧ (∃ A39 : St, A39 = stA A29 14 (z1).toNat z18 ∧ (∃ z43 : Int, z43 = oWrap (x2 - z15) ∧ (∃ z48 : Int, z48 = oMul z37 (A 6 10) ∧ (∃ z49 : Int, z49 = oWrap (z43 + z48) ∧ (∃ A50 : St, q_X0_mark z49 A39 A50 ∧ (d_X0_markOpening_2 K1 z1 u A50))))))))))))))))))))))))))
def d_X0_markOpening_1 (ta : Nat) (x2 : Int) (x3 : Int) (x4 : Int) (A : St) (u : St) : Nat → Int → St → Prop
  | 0, _, _ => False
  | nn9 + 1, z1, A3 => tr_d_X0_markOpening_1 ta x2 x3 x4 A u (fun z1 A3 => d_X0_markOpening_1 ta x2 x3 x4 A u nn9 z1 A3) z1 A3
theorem u_d_X0_markOpening_1 {ta : Nat} {x2 : Int} {x3 : Int} {x4 : Int} {A : St} {u : St} {nn9 : Nat} {z1 : Int} {A3 : St} (h : tr_d_X0_markOpening_1 ta x2 x3 x4 A u (fun z1 A3 => d_X0_markOpening_1 ta x2 x3 x4 A u nn9 z1 A3) z1 A3) : d_X0_markOpening_1 ta x2 x3 x4 A u (nn9 + 1) z1 A3 := h
abbrev tr_r_X0_markOpening (ta : Nat) (x2 : Int) (x3 : Int) (x4 : Int) (A : St) (u : St) : Prop := (∃ nn9 : Nat, d_X0_markOpening_1 ta x2 x3 x4 A u nn9 0 A)
def r_X0_markOpening (ta : Nat) (x2 : Int) (x3 : Int) (x4 : Int) (A : St) (u : St) : Prop := tr_r_X0_markOpening ta x2 x3 x4 A u
theorem u_r_X0_markOpening {ta : Nat} {x2 : Int} {x3 : Int} {x4 : Int} {A : St} {u : St} (h : tr_r_X0_markOpening ta x2 x3 x4 A u) : r_X0_markOpening ta x2 x3 x4 A u := h
def q_X0_markOpening (ta : Nat) (x2 : Int) (x3 : Int) (x4 : Int) (A : St) (u : St) : Prop := r_X0_markOpening ta x2 x3 x4 A u ∧ IK u ∧ fk [7, 14, 18, 19] [] A u ∧ (True)
def ws_kc_X0_markOpening : List Cond := .code yX0_markOpening cX0_markOpening 7 none :: WY
set_option maxHeartbeats 4000000 in
set_option maxRecDepth 100000 in
theorem kc_X0_markOpening (l : Launch) (dC : Nat → ClassId) (dI : Nat → Nat → Nat) (cB cI cJ cZ cQ : ClassId) (aL aS : Nat) (q : Nat → Nat) (A : St) (ta : Nat) (x2 x3 x4 : Int) (hI : IK A) (hta : isT ta) (hx2 : (-2147483648 : Int) ≤ x2 ∧ x2 ≤ 2147483647) (hx3 : (-2147483648 : Int) ≤ x3 ∧ x3 ≤ 2147483647) (hx4 : (-2147483648 : Int) ≤ x4 ∧ x4 ≤ 2147483647) : KMv l yX0_markOpening ws_kc_X0_markOpening ({ frames := 2, cells := 0, slots := 0, locals := 48 } : Room) aL aS (dC, dI) (tyA cB cI cJ cZ cQ) (WK cB cI cJ cZ cQ q) A [.ref (q 6), .ref (q ta), .int (iI x2), .int (iI x3), .int (iI x4)] (fun u => r_X0_markOpening ta x2 x3 x4 A u ∧ IK u ∧ fk [7, 14, 18, 19] [] A u ∧ (True)) := by
  refine k_metv (cc := cX0_markOpening) (maxL := 7) WK_adr (plainFor_of_name (by decide +kernel)) rfl (Nat.le_of_ble_eq_true rfl) (fun p e s m below meth c Q AS ls hx hb hml hown hts hK hDD hA0 hE RET H locs hP hS hl => ?_)
  have hown : s.vm.findClass RX0 = some m.cls := hown
  have hl : lv_has ls 7 [(0, .ref (q 6)), (1, .ref (q ta)), (2, .int (iI x2)), (3, .int (iI x3)), (4, .int (iI x4))] := hl
  have hiX9 : ∀ w ∈ u_ws RX9 TX9 16, w ∈ ws_kc_X0_markOpening := fun w h => List.mem_cons_of_mem _ (wy_layX9 w h)
  have hiX0 : ∀ w ∈ u_ws RX0 TX0 17, w ∈ ws_kc_X0_markOpening := fun w h => List.mem_cons_of_mem _ (wy_layX0 w h)
  refine lv_iconst (v := iI 0) hx hb (dk_at dkX0_markOpening_0 0 rfl) (by decide +kernel) ?_
  refine lv_istore (lv' := [(5, .int (iI 0)), (0, .ref (q 6)), (1, .ref (q ta)), (2, .int (iI x2)), (3, .int (iI x3)), (4, .int (iI x4))]) hx hb (dk_at dkX0_markOpening_0 1 rfl) hl (by decide) rfl (fun ls hl => ?_)
  have L3_4 : ∀ (n9 : Nat) (z1 : Int) (A3 : St) (H : Heap) (locs : List Loc) (ls : Array Slot), (0 ≤ z1 ∧ z1 ≤ 2147483647) → (∀ (u : St), (∃ mm1 : Nat, (d_X0_markOpening_1 ta x2 x3 x4 A u mm1 z1 A3)) → r_X0_markOpening ta x2 x3 x4 A u) → ((5 - z1).toNat = n9) → IK A3 → fk [7, 14, 18, 19] [] A A3 → va_P (dC, dI) vwCl (WK cB cI cJ cZ cQ q A3) H → va_S AS s.heap H locs → lv_has ls 7 [(5, .int (iI z1)), (0, .ref (q 6)), (1, .ref (q ta)), (2, .int (iI x2)), (3, .int (iI x3)), (4, .int (iI x4))] → W p l e (headSpec ws_kc_X0_markOpening ({ frames := 2, cells := 0, slots := 0, locals := 48 } : Room)).room s m [.ref (q 6), .ref (q ta), .int (iI x2), .int (iI x3), .int (iI x4)].toArray below meth c H locs 0 0 Q (F0 m 3 ls []) := by
    intro n9
    induction n9 using Nat.strongRecOn with
    | ind n9 ih5 =>
      intro z1 A3 H locs ls f6 hk1 hn9 hI hj2 hP hS hl
      have gI10 : Hd (IK A3) := Hd.mk hI
      refine lv_iload hx hb (dk_at dkX0_markOpening_0 2 rfl) (lv_at hl 0 rfl) ?_
      refine lv_aload_n hx hb (dk_at dkX0_markOpening_0 3 rfl) rfl (lv_at hl 2 rfl) ?_
      refine va_get (D := (dC, dI)) (ci := 9) (v := .ref (q (ta + 1))) (C := RX9) (T := TX9) (N := 16) hx hb hts hiX9 hown hK hP ta (wkT hta) rfl 0 (by decide) (hts _ (List.mem_cons_of_mem _ wkq_0_1)) (fun _ h9 => h9) rfl (dk_at dkX0_markOpening_0 4 rfl) ?_
      refine lv_iconst (v := iI 2) hx hb (dk_at dkX0_markOpening_0 5 rfl) (by decide +kernel) ?_
      have a11 : ∀ k, A3 (ta + 1) k = A (ta + 1) k := fun k => hj2 (ta + 1) k (isT.b2 (o := fun b => List.contains [7, 14, 18, 19] (b + 1)) hta rfl rfl) (isT.b2 (o := fun b => fin2 [] (b + 1) k) hta rfl rfl)
      refine x_iald (Wf := WK cB cI cJ cZ cQ q) hx hb hK hP (ta + 1) 1 (wkTc hta) rfl (by decide) (by decide) (dk_at dkX0_markOpening_0 6 rfl) (fun z12 hz12 => ?_)
      have rz12 : (0 : Int) ≤ z12 ∧ z12 ≤ 4 := by rw [hz12]; exact irTc2 hta hI
      have gz12 := Hd.mk hz12
      have hz12 : z12 = A (ta + 1) (2 : Int).toNat := hz12.trans (a11 _)
      refine lv_icmp_ge (tgt := 127) hx hb (dk_at dkX0_markOpening_0 7 rfl) (by decide) (fun c13 => ?_) (fun c13 => ?_)
      · have c13 : z12 ≤ z1 := (i_le (rb rz12 (by decide) (by decide)) (rb f6 (by decide) (by decide))).mp c13
        exact RET _ _ _ _ _ ⟨hk1 _ ⟨0 + 1, (u_d_X0_markOpening_1 ⟨gI10.out, ⟨f6, ⟨z12, gz12.out, (Or.inl ⟨c13, rfl⟩)⟩⟩⟩)⟩, hI, fk.trans (fk.rf) hj2 rfl rfl, trivial⟩ hP hS (dk_at dkX0_markOpening_4 11 rfl)
      · have c13 : ¬ z12 ≤ z1 := mt (i_le (rb rz12 (by decide) (by decide)) (rb f6 (by decide) (by decide))).mpr c13
        refine lv_aload_n hx hb (dk_at dkX0_markOpening_0 8 rfl) rfl (lv_at hl 1 rfl) ?_
        refine va_get (D := (dC, dI)) (ci := 0) (v := .ref (q 13)) (C := RX0) (T := TX0) (N := 17) hx hb hts hiX0 hown hK hP 6 (wkAL) rfl 2 (by decide) (hts _ (List.mem_cons_of_mem _ wkq_0_39)) (fun _ h9 => h9) rfl (dk_at dkX0_markOpening_0 9 rfl) ?_
        refine lv_iload hx hb (dk_at dkX0_markOpening_0 10 rfl) (lv_at hl 0 rfl) ?_
        have a14 : ∀ k, A3 13 k = A 13 k := fun k => hj2 13 k rfl rfl
        refine x_iald (Wf := WK cB cI cJ cZ cQ q) hx hb hK hP 13 1 (wkALu) rfl (by omega) (by decide) (dk_at dkX0_markOpening_0 11 rfl) (fun z15 hz15 => ?_)
        have rz15 : (-2147483648 : Int) ≤ z15 ∧ z15 ≤ 2147483647 := by rw [hz15]; exact irALu hI
        have gz15 := Hd.mk hz15
        have hz15 : z15 = A 13 (z1).toNat := hz15.trans (a14 _)
        have J121_17 : ∀ (A54 : St) (H : Heap) (locs : List Loc) (ls : Array Slot), (∀ (u : St), (∃ mm1 : Nat, (d_X0_markOpening_2 (fun z1' A3' => d_X0_markOpening_1 ta x2 x3 x4 A u mm1 z1' A3') z1 u A54)) → r_X0_markOpening ta x2 x3 x4 A u) → IK A54 → fk [7, 14, 18, 19] [] A3 A54 → va_P (dC, dI) vwCl (WK cB cI cJ cZ cQ q A54) H → va_S AS s.heap H locs → lv_has ls 7 [(5, .int (iI z1)), (0, .ref (q 6)), (1, .ref (q ta)), (2, .int (iI x2)), (3, .int (iI x3)), (4, .int (iI x4))] → W p l e (headSpec ws_kc_X0_markOpening ({ frames := 2, cells := 0, slots := 0, locals := 48 } : Room)).room s m [.ref (q 6), .ref (q ta), .int (iI x2), .int (iI x3), .int (iI x4)].toArray below meth c H locs 0 0 Q (F0 m 121 ls []) := by
          intro A54 H locs ls hk2 hI hj53 hP hS hl
          have gI55 : Hd (IK A54) := Hd.mk hI
          refine lv_iinc (v := iI (z1 + 1)) (lv' := [(5, .int (iI (z1 + 1))), (0, .ref (q 6)), (1, .ref (q ta)), (2, .int (iI x2)), (3, .int (iI x3)), (4, .int (iI x4))]) hx hb (dk_at dkX0_markOpening_4 9 rfl) hl (k := 0) rfl (i_inc (by omega)) (by decide) rfl (fun ls hl => ?_)
          refine lv_goto (tgt := 3) hx hb (dk_at dkX0_markOpening_4 10 rfl) (by decide) ?_
          exact ih5 _ (by omega) (z1 + 1) _ _ _ _ (by omega) (fun uq ⟨mm1, hq⟩ => hk2 _ ⟨mm1, (u_d_X0_markOpening_2 ⟨gI55.out, hq⟩)⟩) rfl hI (fk.trans (fk.trans (fk.rf) hj2 rfl rfl) hj53 rfl rfl) hP hS (lv_sub hl [0, 1, 2, 3, 4, 5] rfl)
        refine lv_if_le (tgt := 121) hx hb (dk_at dkX0_markOpening_0 12 rfl) (by decide) (fun c16 => ?_) (fun c16 => ?_)
        · have c16 : z15 ≤ 0 := (i_le0 rz15).mp c16
          exact J121_17 _ _ _ _ (fun uq ⟨mm1, hq⟩ => hk1 _ ⟨mm1 + 1, (u_d_X0_markOpening_1 ⟨gI10.out, ⟨f6, ⟨z12, gz12.out, (Or.inr ⟨c13, ⟨z15, gz15.out, (Or.inl ⟨c16, hq⟩)⟩⟩)⟩⟩⟩)⟩) hI (fk.rf) hP hS (lv_sub hl [0, 1, 2, 3, 4, 5] rfl)
        · have c16 : ¬ z15 ≤ 0 := mt (i_le0 rz15).mpr c16
          refine lv_aload_n hx hb (dk_at dkX0_markOpening_0 13 rfl) rfl (lv_at hl 1 rfl) ?_
          refine va_get (D := (dC, dI)) (ci := 0) (v := .ref (q 14)) (C := RX0) (T := TX0) (N := 17) hx hb hts hiX0 hown hK hP 6 (wkAL) rfl 3 (by decide) (hts _ (List.mem_cons_of_mem _ wkq_2_14)) (fun _ h9 => h9) rfl (dk_at dkX0_markOpening_0 14 rfl) ?_
          refine lv_iload hx hb (dk_at dkX0_markOpening_0 15 rfl) (lv_at hl 0 rfl) ?_
          refine x_iald (Wf := WK cB cI cJ cZ cQ q) hx hb hK hP 14 1 (wkALl) rfl (by omega) (by decide) (dk_at dkX0_markOpening_1 0 rfl) (fun z18 hz18 => ?_)
          have rz18 : (-2147483648 : Int) ≤ z18 ∧ z18 ≤ 2147483647 := by rw [hz18]; exact irALl hI
          have gz18 := Hd.mk hz18
          refine lv_if_le (tgt := 121) hx hb (dk_at dkX0_markOpening_1 1 rfl) (by decide) (fun c19 => ?_) (fun c19 => ?_)
          · have c19 : z18 ≤ 0 := (i_le0 rz18).mp c19
            exact J121_17 _ _ _ _ (fun uq ⟨mm1, hq⟩ => hk1 _ ⟨mm1 + 1, (u_d_X0_markOpening_1 ⟨gI10.out, ⟨f6, ⟨z12, gz12.out, (Or.inr ⟨c13, ⟨z15, gz15.out, (Or.inr ⟨c16, ⟨z18, gz18.out, (Or.inl ⟨c19, hq⟩)⟩⟩)⟩⟩)⟩⟩⟩)⟩) hI (fk.rf) hP hS (lv_sub hl [0, 1, 2, 3, 4, 5] rfl)
          · have c19 : ¬ z18 ≤ 0 := mt (i_le0 rz18).mpr c19
            refine lv_aload_n hx hb (dk_at dkX0_markOpening_1 2 rfl) rfl (lv_at hl 2 rfl) ?_
            refine lv_aload_n hx hb (dk_at dkX0_markOpening_1 3 rfl) rfl (lv_at hl 2 rfl) ?_
            refine va_get (D := (dC, dI)) (ci := 9) (v := .ref (q (ta + 22))) (C := RX9) (T := TX9) (N := 16) hx hb hts hiX9 hown hK hP ta (wkT hta) rfl 14 (by decide) (hts _ (List.mem_cons_of_mem _ wkq_0_18)) (fun _ h9 => h9) rfl (dk_at dkX0_markOpening_1 4 rfl) ?_
            refine lv_iload hx hb (dk_at dkX0_markOpening_1 5 rfl) (lv_at hl 0 rfl) ?_
            refine lv_aload_n hx hb (dk_at dkX0_markOpening_1 6 rfl) rfl (lv_at hl 1 rfl) ?_
            refine va_get (D := (dC, dI)) (ci := 0) (v := .ref (q 14)) (C := RX0) (T := TX0) (N := 17) hx hb hts hiX0 hown hK hP 6 (wkAL) rfl 3 (by decide) (hts _ (List.mem_cons_of_mem _ wkq_2_14)) (fun _ h9 => h9) rfl (dk_at dkX0_markOpening_1 7 rfl) ?_
            refine lv_iload hx hb (dk_at dkX0_markOpening_1 8 rfl) (lv_at hl 0 rfl) ?_
            refine x_iald (Wf := WK cB cI cJ cZ cQ q) hx hb hK hP 14 1 (wkALl) rfl (by omega) (by decide) (dk_at dkX0_markOpening_1 9 rfl) (fun z20 hz20 => ?_)
            have rz20 : (-2147483648 : Int) ≤ z20 ∧ z20 ≤ 2147483647 := by rw [hz20]; exact irALl hI
            have gz20 := Hd.mk hz20
            have ez20 : z20 = z18 := hz20.trans hz18.symm
            refine tp_i (y := iI z18) (congrArg iI ez20) ?_
            refine lv_iconst (v := iI 1) hx hb (dk_at dkX0_markOpening_1 10 rfl) (by decide +kernel) ?_
            refine x_subv (v := z18 - 1) hx hb (dk_at dkX0_markOpening_1 11 rfl) (by omega) ?_
            refine k_calli (As := [.int (iI z1), .int (iI (z18 - 1))]) (rest := [.ref (q ta)]) ⟨hx, hb, hml, hown, hts⟩ hE (kc_X6_inRow l dC dI cB cI cJ cZ cQ aL aS q _ (ta + 22) z1 (z18 - 1) hI hta.s (rb f6 (by decide) (by decide)) (by omega)) (cwV 2 hts (goodVk wkq_2_57 wkq_0_55 wkq_0_56 wkq_0_52 wkq_0_57) rfl rfl rfl (by decide +kernel) ⟨Nat.le_of_ble_eq_true rfl, Nat.le_of_ble_eq_true rfl⟩) hK hDD hA0 hP hS (ta + 22) 6 (wkS hta.s) rfl rfl hl.1 (Nat.le_of_ble_eq_true rfl) (dk_at dkX0_markOpening_1 12 rfl) (fun z21 A22 H locs hw23 hP hS => ?_)
            obtain ⟨rfl, hw23⟩ := hw23
            have ghw23 : q_X6_inRow (ta + 22) z1 (z18 - 1) A3 z21 := hw23
            have hw23 := hw23.2
            refine lv_iload_n hx hb (dk_at dkX0_markOpening_1 13 rfl) rfl (lv_at hl 4 rfl) ?_
            refine k_calli (As := [.int (iI z21), .int (iI x3)]) (rest := []) ⟨hx, hb, hml, hown, hts⟩ hE (kc_X9_isAt l dC dI cB cI cJ cZ cQ aL aS q _ ta z21 x3 hI hta (by omega) hx3) (cwV 2 hts (goodVk wkq_1_10 wkq_1_11 wkq_1_12 wkq_0_6 wkq_1_13) rfl rfl rfl (by decide +kernel) ⟨Nat.le_of_ble_eq_true rfl, Nat.le_of_ble_eq_true rfl⟩) hK hDD hA0 hP hS ta 9 (wkT hta) rfl rfl hl.1 (Nat.le_of_ble_eq_true rfl) (dk_at dkX0_markOpening_1 14 rfl) (fun z24 A25 H locs hw26 hP hS => ?_)
            obtain ⟨rfl, hw26⟩ := hw26
            have ghw26 : q_X9_isAt ta z21 x3 A3 z24 := hw26
            have hw26 := hw26.2
            have rz24 : 0 ≤ z24 ∧ z24 ≤ 1 := hw26.1
            have hw26 := hw26.2
            refine lv_if_eq (tgt := 121) hx hb (dk_at dkX0_markOpening_1 15 rfl) (by decide) (fun c27 => ?_) (fun c27 => ?_)
            · have c27 : z24 = 0 := (i_eq0 (rb rz24 (by decide) (by decide))).mp c27
              clear hw26
              exact J121_17 _ _ _ _ (fun uq ⟨mm1, hq⟩ => hk1 _ ⟨mm1 + 1, (u_d_X0_markOpening_1 ⟨gI10.out, ⟨f6, ⟨z12, gz12.out, (Or.inr ⟨c13, ⟨z15, gz15.out, (Or.inr ⟨c16, ⟨z18, gz18.out, (Or.inr ⟨c19, ⟨z21, ghw23, ⟨z24, ghw26, (Or.inl ⟨c27, hq⟩)⟩⟩⟩)⟩⟩)⟩⟩)⟩⟩⟩)⟩) hI (fk.rf) hP hS (lv_sub hl [0, 1, 2, 3, 4, 5] rfl)
            · have c27 : ¬ z24 = 0 := mt (i_eq0 (rb rz24 (by decide) (by decide))).mpr c27
              have hw26b := hw26 (by omega)
              clear hw26
              refine lv_aload_n hx hb (dk_at dkX0_markOpening_2 0 rfl) rfl (lv_at hl 1 rfl) ?_
              refine va_get (D := (dC, dI)) (ci := 0) (v := .ref (q 14)) (C := RX0) (T := TX0) (N := 17) hx hb hts hiX0 hown hK hP 6 (wkAL) rfl 3 (by decide) (hts _ (List.mem_cons_of_mem _ wkq_2_14)) (fun _ h9 => h9) rfl (dk_at dkX0_markOpening_2 1 rfl) ?_
              refine lv_iload hx hb (dk_at dkX0_markOpening_2 2 rfl) (lv_at hl 0 rfl) ?_
              refine lv_dup2_11 hx hb (dk_at dkX0_markOpening_2 3 rfl) rfl rfl ?_
              refine x_iald (Wf := WK cB cI cJ cZ cQ q) hx hb hK hP 14 1 (wkALl) rfl (by omega) (by decide) (dk_at dkX0_markOpening_2 4 rfl) (fun z28 hz28 => ?_)
              have rz28 : (-2147483648 : Int) ≤ z28 ∧ z28 ≤ 2147483647 := by rw [hz28]; exact irALl hI
              have gz28 := Hd.mk hz28
              have ez28 : z28 = z18 := hz28.trans hz18.symm
              refine tp_i (y := iI z18) (congrArg iI ez28) ?_
              refine lv_iconst (v := iI 1) hx hb (dk_at dkX0_markOpening_2 5 rfl) (by decide +kernel) ?_
              refine x_subv (v := z18 - 1) hx hb (dk_at dkX0_markOpening_2 6 rfl) (by omega) ?_
              refine k_iast (Wf := WK cB cI cJ cZ cQ q) hx hb hK hP hDD hS 14 1 (wkALl) rfl (by omega) (by decide) (dk_at dkX0_markOpening_2 7 rfl) (wsALl) (fun H locs A29 hA29 hP hS => ?_)
              have hI := isALl hA29 hI (show (-2147483648 : Int) ≤ z18 - 1 ∧ z18 - 1 ≤ 2147483647 from (by omega))
              refine lv_aload_n hx hb (dk_at dkX0_markOpening_2 8 rfl) rfl (lv_at hl 1 rfl) ?_
              refine lv_aload_n hx hb (dk_at dkX0_markOpening_2 9 rfl) rfl (lv_at hl 2 rfl) ?_
              refine lv_iload_n hx hb (dk_at dkX0_markOpening_2 10 rfl) rfl (lv_at hl 4 rfl) ?_
              refine lv_aload_n hx hb (dk_at dkX0_markOpening_2 11 rfl) rfl (lv_at hl 1 rfl) ?_
              refine lv_aload_n hx hb (dk_at dkX0_markOpening_2 12 rfl) rfl (lv_at hl 2 rfl) ?_
              refine k_calli (As := [.ref (q ta)]) (rest := [.int (iI x3), .ref (q ta), .ref (q 6)]) ⟨hx, hb, hml, hown, hts⟩ hE (kc_X0_shutNow l dC dI cB cI cJ cZ cQ aL aS q _ ta hI hta) (cwV 1 hts (goodVk wkq_2_15 wkq_2_16 wkq_2_17 wkq_0_14 wkq_2_18) rfl rfl rfl (by decide +kernel) ⟨Nat.le_of_ble_eq_true rfl, Nat.le_of_ble_eq_true rfl⟩) hK hDD hA0 hP hS 6 0 (wkAL) rfl rfl hl.1 (Nat.le_of_ble_eq_true rfl) (dk_at dkX0_markOpening_2 13 rfl) (fun z30 A31 H locs hw32 hP hS => ?_)
              obtain ⟨rfl, hw32⟩ := hw32
              have ghw32 : q_X0_shutNow ta A29 z30 := hw32
              have hw32 := hw32.2
              refine k_calli (As := [.ref (q ta), .int (iI x3), .int (iI z30)]) (rest := []) ⟨hx, hb, hml, hown, hts⟩ hE (kc_X0_hadAt l dC dI cB cI cJ cZ cQ aL aS q _ ta x3 z30 hI hta hx3 hw32) (cwV 3 hts (goodVk wkq_2_19 wkq_2_20 wkq_2_21 wkq_0_14 wkq_2_22) rfl rfl rfl (by decide +kernel) ⟨Nat.le_of_ble_eq_true rfl, Nat.le_of_ble_eq_true rfl⟩) hK hDD hA0 hP hS 6 0 (wkAL) rfl rfl hl.1 (Nat.le_of_ble_eq_true rfl) (dk_at dkX0_markOpening_2 14 rfl) (fun z33 A34 H locs hw35 hP hS => ?_)
              obtain ⟨rfl, hw35⟩ := hw35
              have ghw35 : q_X0_hadAt ta x3 z30 A29 z33 := hw35
              have hw35 := hw35.2
              refine lv_iload hx hb (dk_at dkX0_markOpening_2 15 rfl) (lv_at hl 5 rfl) ?_
              refine lv_iconst (v := iI (-1)) hx hb (dk_at dkX0_markOpening_3 0 rfl) (by decide +kernel) ?_
              refine lv_ixor hx hb (dk_at dkX0_markOpening_3 1 rfl) ?_
              refine x_absE (fun z36 gz36 hz36 => ?_)
              refine lv_iand hx hb (dk_at dkX0_markOpening_3 2 rfl) ?_
              refine x_absE (fun z37 gz37 hz37 => ?_)
              refine lv_istore (lv' := [(6, .int (iI z37)), (5, .int (iI z1)), (0, .ref (q 6)), (1, .ref (q ta)), (2, .int (iI x2)), (3, .int (iI x3)), (4, .int (iI x4))]) hx hb (dk_at dkX0_markOpening_3 3 rfl) hl (by decide) rfl (fun ls hl => ?_)
              refine lv_aload_n hx hb (dk_at dkX0_markOpening_3 4 rfl) rfl (lv_at hl 2 rfl) ?_
              refine va_get (D := (dC, dI)) (ci := 0) (v := .ref (q 14)) (C := RX0) (T := TX0) (N := 17) hx hb hts hiX0 hown hK hP 6 (wkAL) rfl 3 (by decide) (hts _ (List.mem_cons_of_mem _ wkq_2_14)) (fun _ h9 => h9) rfl (dk_at dkX0_markOpening_3 5 rfl) ?_
              refine lv_iload hx hb (dk_at dkX0_markOpening_3 6 rfl) (lv_at hl 1 rfl) ?_
              refine lv_dup2_11 hx hb (dk_at dkX0_markOpening_3 7 rfl) rfl rfl ?_
              refine x_iald (Wf := WK cB cI cJ cZ cQ q) hx hb hK hP 14 1 (wkALl) rfl (by omega) (by decide) (dk_at dkX0_markOpening_3 8 rfl) (fun z38 hz38 => ?_)
              have rz38 : (-2147483648 : Int) ≤ z38 ∧ z38 ≤ 2147483647 := by rw [hz38]; exact irALl hI
              have gz38 := Hd.mk hz38
              have ez38 : z38 = z18 - 1 := hz38.trans (rd_is hA29)
              refine tp_i (y := iI (z18 - 1)) (congrArg iI ez38) ?_
              refine lv_iconst (v := iI 1) hx hb (dk_at dkX0_markOpening_3 9 rfl) (by decide +kernel) ?_
              refine x_addv (v := z18) hx hb (dk_at dkX0_markOpening_3 10 rfl) (by omega) ?_
              refine k_iast (Wf := WK cB cI cJ cZ cQ q) hx hb hK hP hDD hS 14 1 (wkALl) rfl (by omega) (by decide) (dk_at dkX0_markOpening_3 11 rfl) (wsALl) (fun H locs A39 hA39 hP hS => ?_)
              have hI := isALl hA39 hI (show (-2147483648 : Int) ≤ z18 ∧ z18 ≤ 2147483647 from rz18)
              refine lv_aload_n hx hb (dk_at dkX0_markOpening_3 12 rfl) rfl (lv_at hl 2 rfl) ?_
              refine lv_iload_n hx hb (dk_at dkX0_markOpening_3 13 rfl) rfl (lv_at hl 4 rfl) ?_
              refine lv_aload_n hx hb (dk_at dkX0_markOpening_3 14 rfl) rfl (lv_at hl 2 rfl) ?_
              refine va_get (D := (dC, dI)) (ci := 0) (v := .ref (q 13)) (C := RX0) (T := TX0) (N := 17) hx hb hts hiX0 hown hK hP 6 (wkAL) rfl 2 (by decide) (hts _ (List.mem_cons_of_mem _ wkq_0_39)) (fun _ h9 => h9) rfl (dk_at dkX0_markOpening_3 15 rfl) ?_
              refine lv_iload hx hb (dk_at dkX0_markOpening_4 0 rfl) (lv_at hl 1 rfl) ?_
              have a41 : ∀ k, A29 13 k = A 13 k := fun k => (rd_ne hA29 (by decide) k).trans (a14 k)
              have a40 : ∀ k, A39 13 k = A 13 k := fun k => (rd_ne hA39 (by decide) k).trans (a41 k)
              refine x_iald (Wf := WK cB cI cJ cZ cQ q) hx hb hK hP 13 1 (wkALu) rfl (by omega) (by decide) (dk_at dkX0_markOpening_4 1 rfl) (fun z42 hz42 => ?_)
              have rz42 : (-2147483648 : Int) ≤ z42 ∧ z42 ≤ 2147483647 := by rw [hz42]; exact irALu hI
              have gz42 := Hd.mk hz42
              have hz42 : z42 = A 13 (z1).toNat := hz42.trans (a40 _)
              have ez42 : z42 = z15 := hz42.trans hz15.symm
              refine tp_i (y := iI z15) (congrArg iI ez42) ?_
              refine x_subv (v := x2 - z15) hx hb (dk_at dkX0_markOpening_4 2 rfl) (by omega) ?_
              refine x_absE (fun z43 gz43 hz43 => ?_)
              refine lv_iload hx hb (dk_at dkX0_markOpening_4 3 rfl) (lv_at hl 0 rfl) ?_
              refine lv_aload_n hx hb (dk_at dkX0_markOpening_4 4 rfl) rfl (lv_at hl 2 rfl) ?_
              have e46 : A3 6 10 = (A 6 10) := (hj2 6 10 rfl rfl)
              have e45 : A29 6 10 = (A 6 10) := (rd_ne hA29 (by decide) 10).trans e46
              have e44 : A39 6 10 = (A 6 10) := (rd_ne hA39 (by decide) 10).trans e45
              have r47 : (-2147483648 : Int) ≤ (A 6 10) ∧ (A 6 10) ≤ 2147483647 := by rw [← e44]; exact irAL_10 hI
              refine va_get (D := (dC, dI)) (ci := 0) (v := .int (iI (A39 6 10))) (C := RX0) (T := TX0) (N := 17) hx hb hts hiX0 hown hK hP 6 (wkAL) rfl 10 (by decide) (hts _ (List.mem_cons_of_mem _ wkq_0_43)) (fun _ h9 => h9) rfl (dk_at dkX0_markOpening_4 5 rfl) ?_
              refine tp_i (y := iI (A 6 10)) (congrArg iI e44) ?_
              refine lv_imul hx hb (dk_at dkX0_markOpening_4 6 rfl) ?_
              refine x_absE (fun z48 gz48 hz48 => ?_)
              refine x_addv (v := z43 + z48) hx hb (dk_at dkX0_markOpening_4 7 rfl) (by omega) ?_
              refine x_absE (fun z49 gz49 hz49 => ?_)
              refine k_callv (As := [.int (iI z49)]) (rest := []) ⟨hx, hb, hml, hown, hts⟩ hE (kc_X0_mark l dC dI cB cI cJ cZ cQ aL aS q _ z49 hI hz49) (cwV 1 hts (goodVk wkq_2_23 wkq_2_24 wkq_2_25 wkq_0_14 wkq_2_26) rfl rfl rfl (by decide +kernel) ⟨Nat.le_of_ble_eq_true rfl, Nat.le_of_ble_eq_true rfl⟩) hK hDD hA0 hP hS 6 0 (wkAL) rfl rfl hl.1 (Nat.le_of_ble_eq_true rfl) (dk_at dkX0_markOpening_4 8 rfl) (fun A50 H locs hw51 hP hS => ?_)
              have ghw51 : q_X0_mark z49 A39 A50 := hw51
              obtain ⟨_, hI, hf52, hw51⟩ := hw51
              clear hw51
              exact J121_17 _ _ _ _ (fun uq ⟨mm1, hq⟩ => hk1 _ ⟨mm1 + 1, (u_d_X0_markOpening_1 ⟨gI10.out, ⟨f6, ⟨z12, gz12.out, (Or.inr ⟨c13, ⟨z15, gz15.out, (Or.inr ⟨c16, ⟨z18, gz18.out, (Or.inr ⟨c19, ⟨z21, ghw23, ⟨z24, ghw26, (Or.inr ⟨c27, ⟨A29, hA29, ⟨z30, ghw32, ⟨z33, ghw35, ⟨z36, gz36.out, ⟨z37, gz37.out, ⟨A39, hA39, ⟨z43, gz43.out, ⟨z48, gz48.out, ⟨z49, gz49.out, ⟨A50, ghw51, hq⟩⟩⟩⟩⟩⟩⟩⟩⟩⟩⟩)⟩⟩⟩)⟩⟩)⟩⟩)⟩⟩⟩)⟩) hI (fk.trans (fk.da (fk.da (fk.rf) hA29 rfl) hA39 rfl) hf52 rfl rfl) hP hS (lv_sub hl [1, 2, 3, 4, 5, 6] rfl)
  exact L3_4 _ 0 _ _ _ _ (by omega) (fun uq ⟨mm1, hq⟩ => (u_r_X0_markOpening ⟨mm1, hq⟩)) rfl hI (fk.rf) hP hS (lv_sub hl [0, 1, 2, 3, 4, 5] rfl)

abbrev tr_d_X0_visit_2 (K1 : Int → St → Prop) (z5 : Int) (A7 : St) (z : Int) (u : St) (z48 : Int) : Prop := ((0 ≤ z48 ∧ z48 ≤ 6) ∧ (∃ A51 : St, A51 = stA A7 14 (z5).toNat z48 ∧ (K1 (z5 + 1) A51)))
def d_X0_visit_2 (K1 : Int → St → Prop) (z5 : Int) (A7 : St) (z : Int) (u : St) (z48 : Int) : Prop := tr_d_X0_visit_2 K1 z5 A7 z u z48
theorem u_d_X0_visit_2 {K1 : Int → St → Prop} {z5 : Int} {A7 : St} {z : Int} {u : St} {z48 : Int} (h : tr_d_X0_visit_2 K1 z5 A7 z u z48) : d_X0_visit_2 K1 z5 A7 z u z48 := h
abbrev tr_d_X0_visit_1 (ta : Nat) (x2 : Int) (z1 : Int) (A : St) (z : Int) (u : St) (K1 : Int → St → Prop) (z5 : Int) (A7 : St) : Prop := ((IK A7) ∧ ((0 ≤ z5 ∧ z5 ≤ 2147483647) ∧ (∃ z16 : Int, z16 = A7 (ta + 1) (2 : Int).toNat ∧ (((z16 ≤ z5) ∧ (∃ z18 : Int, z18 = x2 % z1 ∧ (∃ z20 : Int, z20 = x2 / (A 6 10) ∧ (∃ z21 : Int, q_X0_shutNow ta A7 z21 ∧ (∃ z26 : Int, z26 = oShl 1 z18 ∧ (∃ z27 : Int, z27 = oOr (A 6 15) z26 ∧ (∃ A28 : St, A28 = stA A7 6 15 z27 ∧ (∃ z29 : Int, q_X0_isGoal z18 z21 z20 A28 z29 ∧ (((z29 = 0) ∧ (∃ A33 : St, q_X0_markGoing ta x2 z18 z20 z21 A28 A33 ∧ (∃ A36 : St, q_X0_markOpening ta x2 z18 z20 A33 A36 ∧ (z = 0 ∧ u = A36)))) ∨ ((¬ z29 = 0) ∧ (z = 1 ∧ u = A28))))))))))) ∨ ((¬ z16 ≤ z5) ∧ (∃ z40 : Int, z40 = A7 13 (z5).toNat ∧ (((1 ≤ z40) ∧ (∃ z44 : Int, z44 = x2 / z40 ∧ (∃ z46 : Int, z46 = A7 ((ta + 22) + 3) (z5).toNat ∧ (∃ z47 : Int, z47 = z44 % (z46 + 1) ∧ (d_X0_visit_2 K1 z5 A7 z u z47))))) ∨ ((¬ 1 ≤ z40) ∧ (d_X0_visit_2 K1 z5 A7 z u 0)))))))))
def d_X0_visit_1 (ta : Nat) (x2 : Int) (z1 : Int) (A : St) (z : Int) (u : St) : Nat → Int → St → Prop
  | 0, _, _ => False
  | nn9 + 1, z5, A7 => tr_d_X0_visit_1 ta x2 z1 A z u (fun z5 A7 => d_X0_visit_1 ta x2 z1 A z u nn9 z5 A7) z5 A7
theorem u_d_X0_visit_1 {ta : Nat} {x2 : Int} {z1 : Int} {A : St} {z : Int} {u : St} {nn9 : Nat} {z5 : Int} {A7 : St} (h : tr_d_X0_visit_1 ta x2 z1 A z u (fun z5 A7 => d_X0_visit_1 ta x2 z1 A z u nn9 z5 A7) z5 A7) : d_X0_visit_1 ta x2 z1 A z u (nn9 + 1) z5 A7 := h
abbrev tr_r_X0_visit (ta : Nat) (x2 : Int) (A : St) (z : Int) (u : St) : Prop := (∃ z1 : Int, z1 = A (ta + 1) (0 : Int).toNat ∧ (((z1 < 1) ∧ (z = 0 ∧ u = A)) ∨ ((¬ z1 < 1) ∧ (((1 ≤ (A 6 10)) ∧ (∃ nn9 : Nat, d_X0_visit_1 ta x2 z1 A z u nn9 0 A)) ∨ ((¬ 1 ≤ (A 6 10)) ∧ (z = 0 ∧ u = A))))))
def r_X0_visit (ta : Nat) (x2 : Int) (A : St) (z : Int) (u : St) : Prop := tr_r_X0_visit ta x2 A z u
theorem u_r_X0_visit {ta : Nat} {x2 : Int} {A : St} {z : Int} {u : St} (h : tr_r_X0_visit ta x2 A z u) : r_X0_visit ta x2 A z u := h
def q_X0_visit (ta : Nat) (x2 : Int) (A : St) (z : Int) (u : St) : Prop := r_X0_visit ta x2 A z u ∧ IK u ∧ fk [7, 14, 18, 19] [(6, 15)] A u ∧ (0 ≤ z ∧ z ≤ 1)
def ws_kc_X0_visit : List Cond := .code yX0_visit cX0_visit 7 (some .boolean) :: WY
set_option maxHeartbeats 4000000 in
set_option maxRecDepth 100000 in
theorem kc_X0_visit (l : Launch) (dC : Nat → ClassId) (dI : Nat → Nat → Nat) (cB cI cJ cZ cQ : ClassId) (aL aS : Nat) (q : Nat → Nat) (A : St) (ta : Nat) (x2 : Int) (hI : IK A) (hta : isT ta) (hx2 : (0 : Int) ≤ x2 ∧ x2 ≤ 76863) : KMi l yX0_visit ws_kc_X0_visit ({ frames := 3, cells := 0, slots := 0, locals := 78 } : Room) aL aS (dC, dI) (tyA cB cI cJ cZ cQ) (WK cB cI cJ cZ cQ q) A [.ref (q 6), .ref (q ta), .int (iI x2)] (fun z u => r_X0_visit ta x2 A z u ∧ IK u ∧ fk [7, 14, 18, 19] [(6, 15)] A u ∧ (0 ≤ z ∧ z ≤ 1)) := by
  refine k_metz (cc := cX0_visit) (maxL := 7) WK_adr (plainFor_of_name (by decide +kernel)) rfl (Nat.le_of_ble_eq_true rfl) (fun z u h => h.2.2.2) (fun p e s m below meth c Q AS ls hx hb hml hown hts hK hDD hA0 hE RET H locs hP hS hl => ?_)
  have hown : s.vm.findClass RX0 = some m.cls := hown
  have hl : lv_has ls 7 [(0, .ref (q 6)), (1, .ref (q ta)), (2, .int (iI x2))] := hl
  have hiX9 : ∀ w ∈ u_ws RX9 TX9 16, w ∈ ws_kc_X0_visit := fun w h => List.mem_cons_of_mem _ (wy_layX9 w h)
  have hiX0 : ∀ w ∈ u_ws RX0 TX0 17, w ∈ ws_kc_X0_visit := fun w h => List.mem_cons_of_mem _ (wy_layX0 w h)
  have hiX6 : ∀ w ∈ u_ws RX6 TX6 4, w ∈ ws_kc_X0_visit := fun w h => List.mem_cons_of_mem _ (wy_layX6 w h)
  refine lv_aload_n hx hb (dk_at dkX0_visit_0 0 rfl) rfl (lv_at hl 1 rfl) ?_
  refine va_get (D := (dC, dI)) (ci := 9) (v := .ref (q (ta + 1))) (C := RX9) (T := TX9) (N := 16) hx hb hts hiX9 hown hK hP ta (wkT hta) rfl 0 (by decide) (hts _ (List.mem_cons_of_mem _ wkq_0_1)) (fun _ h9 => h9) rfl (dk_at dkX0_visit_0 1 rfl) ?_
  refine lv_iconst (v := iI 0) hx hb (dk_at dkX0_visit_0 2 rfl) (by decide +kernel) ?_
  refine x_iald (Wf := WK cB cI cJ cZ cQ q) hx hb hK hP (ta + 1) 1 (wkTc hta) rfl (by decide) (by decide) (dk_at dkX0_visit_0 3 rfl) (fun z1 hz1 => ?_)
  have rz1 : (0 : Int) ≤ z1 ∧ z1 ≤ 8 := by rw [hz1]; exact irTc0 hta hI
  have gz1 := Hd.mk hz1
  refine lv_istore_n (lv' := [(3, .int (iI z1)), (0, .ref (q 6)), (1, .ref (q ta)), (2, .int (iI x2))]) hx hb (dk_at dkX0_visit_0 4 rfl) rfl hl (by decide) rfl (fun ls hl => ?_)
  refine lv_iload_n hx hb (dk_at dkX0_visit_0 5 rfl) rfl (lv_at hl 0 rfl) ?_
  refine lv_iconst (v := iI 1) hx hb (dk_at dkX0_visit_0 6 rfl) (by decide +kernel) ?_
  refine lv_icmp_lt (tgt := 20) hx hb (dk_at dkX0_visit_0 7 rfl) (by decide) (fun c2 => ?_) (fun c2 => ?_)
  · have c2 : z1 < 1 := (i_lt (rb rz1 (by decide) (by decide)) ⟨by decide, by decide⟩).mp c2
    refine lv_iconst (v := iI 0) hx hb (dk_at dkX0_visit_0 12 rfl) (by decide +kernel) ?_
    exact RET 0 _ _ _ _ _ ⟨(u_r_X0_visit ⟨z1, gz1.out, (Or.inl ⟨c2, ⟨rfl, rfl⟩⟩)⟩), hI, fk.rf, ⟨by decide, by decide⟩⟩ hP hS (dk_at dkX0_visit_0 13 rfl)
  · have c2 : ¬ z1 < 1 := mt (i_lt (rb rz1 (by decide) (by decide)) ⟨by decide, by decide⟩).mpr c2
    refine lv_aload_n hx hb (dk_at dkX0_visit_0 8 rfl) rfl (lv_at hl 1 rfl) ?_
    have r3 : (-2147483648 : Int) ≤ (A 6 10) ∧ (A 6 10) ≤ 2147483647 := irAL_10 hI
    refine va_get (D := (dC, dI)) (ci := 0) (v := .int (iI (A 6 10))) (C := RX0) (T := TX0) (N := 17) hx hb hts hiX0 hown hK hP 6 (wkAL) rfl 10 (by decide) (hts _ (List.mem_cons_of_mem _ wkq_0_43)) (fun _ h9 => h9) rfl (dk_at dkX0_visit_0 9 rfl) ?_
    refine lv_iconst (v := iI 1) hx hb (dk_at dkX0_visit_0 10 rfl) (by decide +kernel) ?_
    refine lv_icmp_ge (tgt := 22) hx hb (dk_at dkX0_visit_0 11 rfl) (by decide) (fun c4 => ?_) (fun c4 => ?_)
    · have c4 : 1 ≤ (A 6 10) := (i_le ⟨by decide, by decide⟩ r3).mp c4
      refine lv_iconst (v := iI 0) hx hb (dk_at dkX0_visit_0 14 rfl) (by decide +kernel) ?_
      refine lv_istore (lv' := [(4, .int (iI 0)), (3, .int (iI z1)), (0, .ref (q 6)), (1, .ref (q ta)), (2, .int (iI x2))]) hx hb (dk_at dkX0_visit_0 15 rfl) hl (by decide) rfl (fun ls hl => ?_)
      have L25_8 : ∀ (n13 : Nat) (z5 : Int) (A7 : St) (H : Heap) (locs : List Loc) (ls : Array Slot), (0 ≤ z5 ∧ z5 ≤ 2147483647) → (∀ (z : Int) (u : St), (∃ mm1 : Nat, (d_X0_visit_1 ta x2 z1 A z u mm1 z5 A7)) → r_X0_visit ta x2 A z u) → ((5 - z5).toNat = n13) → IK A7 → fk [14] [] A A7 → va_P (dC, dI) vwCl (WK cB cI cJ cZ cQ q A7) H → va_S AS s.heap H locs → lv_has ls 7 [(4, .int (iI z5)), (3, .int (iI z1)), (0, .ref (q 6)), (1, .ref (q ta)), (2, .int (iI x2))] → W p l e (headSpec ws_kc_X0_visit ({ frames := 3, cells := 0, slots := 0, locals := 78 } : Room)).room s m [.ref (q 6), .ref (q ta), .int (iI x2)].toArray below meth c H locs 0 0 Q (F0 m 25 ls []) := by
        intro n13
        induction n13 using Nat.strongRecOn with
        | ind n13 ih9 =>
          intro z5 A7 H locs ls f10 hk1 hn13 hI hj6 hP hS hl
          have gI14 : Hd (IK A7) := Hd.mk hI
          refine lv_iload hx hb (dk_at dkX0_visit_1 0 rfl) (lv_at hl 0 rfl) ?_
          refine lv_aload_n hx hb (dk_at dkX0_visit_1 1 rfl) rfl (lv_at hl 3 rfl) ?_
          refine va_get (D := (dC, dI)) (ci := 9) (v := .ref (q (ta + 1))) (C := RX9) (T := TX9) (N := 16) hx hb hts hiX9 hown hK hP ta (wkT hta) rfl 0 (by decide) (hts _ (List.mem_cons_of_mem _ wkq_0_1)) (fun _ h9 => h9) rfl (dk_at dkX0_visit_1 2 rfl) ?_
          refine lv_iconst (v := iI 2) hx hb (dk_at dkX0_visit_1 3 rfl) (by decide +kernel) ?_
          have a15 : ∀ k, A7 (ta + 1) k = A (ta + 1) k := fun k => hj6 (ta + 1) k (isT.b2 (o := fun b => List.contains [14] (b + 1)) hta rfl rfl) (isT.b2 (o := fun b => fin2 [] (b + 1) k) hta rfl rfl)
          refine x_iald (Wf := WK cB cI cJ cZ cQ q) hx hb hK hP (ta + 1) 1 (wkTc hta) rfl (by decide) (by decide) (dk_at dkX0_visit_1 4 rfl) (fun z16 hz16 => ?_)
          have rz16 : (0 : Int) ≤ z16 ∧ z16 ≤ 4 := by rw [hz16]; exact irTc2 hta hI
          have gz16 := Hd.mk hz16
          have hz16 : z16 = A (ta + 1) (2 : Int).toNat := hz16.trans (a15 _)
          refine lv_icmp_ge (tgt := 86) hx hb (dk_at dkX0_visit_1 5 rfl) (by decide) (fun c17 => ?_) (fun c17 => ?_)
          · have c17 : z16 ≤ z5 := (i_le (rb rz16 (by decide) (by decide)) (rb f10 (by decide) (by decide))).mp c17
            refine lv_iload_n hx hb (dk_at dkX0_visit_3 2 rfl) rfl (lv_at hl 4 rfl) ?_
            refine lv_iload_n hx hb (dk_at dkX0_visit_3 3 rfl) rfl (lv_at hl 1 rfl) ?_
            refine x_rem hx hb (dk_at dkX0_visit_3 4 rfl) (by omega) (by omega) (fun z18 hz18 hz18b => ?_)
            have gz18 := Hd.mk hz18
            clear hz18
            refine lv_istore (lv' := [(4, .int (iI z18)), (3, .int (iI z1)), (0, .ref (q 6)), (1, .ref (q ta)), (2, .int (iI x2))]) hx hb (dk_at dkX0_visit_3 5 rfl) hl (by decide) rfl (fun ls hl => ?_)
            refine lv_iload_n hx hb (dk_at dkX0_visit_3 6 rfl) rfl (lv_at hl 4 rfl) ?_
            refine lv_aload_n hx hb (dk_at dkX0_visit_3 7 rfl) rfl (lv_at hl 2 rfl) ?_
            have e19 : A7 6 10 = (A 6 10) := (hj6 6 10 rfl rfl)
            refine va_get (D := (dC, dI)) (ci := 0) (v := .int (iI (A7 6 10))) (C := RX0) (T := TX0) (N := 17) hx hb hts hiX0 hown hK hP 6 (wkAL) rfl 10 (by decide) (hts _ (List.mem_cons_of_mem _ wkq_0_43)) (fun _ h9 => h9) rfl (dk_at dkX0_visit_3 8 rfl) ?_
            refine tp_i (y := iI (A 6 10)) (congrArg iI e19) ?_
            refine x_div hx hb (dk_at dkX0_visit_3 9 rfl) (by omega) (by omega) (fun z20 hz20 hz20b => ?_)
            have gz20 := Hd.mk hz20
            clear hz20
            refine lv_istore (lv' := [(5, .int (iI z20)), (4, .int (iI z18)), (3, .int (iI z1)), (0, .ref (q 6)), (1, .ref (q ta)), (2, .int (iI x2))]) hx hb (dk_at dkX0_visit_3 10 rfl) hl (by decide) rfl (fun ls hl => ?_)
            refine lv_aload_n hx hb (dk_at dkX0_visit_3 11 rfl) rfl (lv_at hl 3 rfl) ?_
            refine lv_aload_n hx hb (dk_at dkX0_visit_3 12 rfl) rfl (lv_at hl 4 rfl) ?_
            refine k_calli (As := [.ref (q ta)]) (rest := []) ⟨hx, hb, hml, hown, hts⟩ hE (kc_X0_shutNow l dC dI cB cI cJ cZ cQ aL aS q _ ta hI hta) (cwV 1 hts (goodVk wkq_2_15 wkq_2_16 wkq_2_17 wkq_0_14 wkq_2_18) rfl rfl rfl (by decide +kernel) ⟨Nat.le_of_ble_eq_true rfl, Nat.le_of_ble_eq_true rfl⟩) hK hDD hA0 hP hS 6 0 (wkAL) rfl rfl hl.1 (Nat.le_of_ble_eq_true rfl) (dk_at dkX0_visit_3 13 rfl) (fun z21 A22 H locs hw23 hP hS => ?_)
            obtain ⟨rfl, hw23⟩ := hw23
            have ghw23 : q_X0_shutNow ta A7 z21 := hw23
            have hw23 := hw23.2
            refine lv_istore (lv' := [(6, .int (iI z21)), (5, .int (iI z20)), (4, .int (iI z18)), (3, .int (iI z1)), (0, .ref (q 6)), (1, .ref (q ta)), (2, .int (iI x2))]) hx hb (dk_at dkX0_visit_3 14 rfl) hl (by decide) rfl (fun ls hl => ?_)
            refine lv_aload_n hx hb (dk_at dkX0_visit_3 15 rfl) rfl (lv_at hl 4 rfl) ?_
            refine lv_dup hx hb (dk_at dkX0_visit_4 0 rfl) rfl ?_
            have e24 : A7 6 15 = (A 6 15) := (hj6 6 15 rfl rfl)
            have r25 : (-2147483648 : Int) ≤ (A 6 15) ∧ (A 6 15) ≤ 2147483647 := by rw [← e24]; exact irAL_15 hI
            refine va_get (D := (dC, dI)) (ci := 0) (v := .int (iI (A7 6 15))) (C := RX0) (T := TX0) (N := 17) hx hb hts hiX0 hown hK hP 6 (wkAL) rfl 15 (by decide) (hts _ (List.mem_cons_of_mem _ wkq_0_2)) (fun _ h9 => h9) rfl (dk_at dkX0_visit_4 1 rfl) ?_
            refine tp_i (y := iI (A 6 15)) (congrArg iI e24) ?_
            refine lv_iconst (v := iI 1) hx hb (dk_at dkX0_visit_4 2 rfl) (by decide +kernel) ?_
            refine lv_iload hx hb (dk_at dkX0_visit_4 3 rfl) (lv_at hl 2 rfl) ?_
            refine lv_ishl hx hb (dk_at dkX0_visit_4 4 rfl) ?_
            refine x_absE (fun z26 gz26 hz26 => ?_)
            refine lv_ior hx hb (dk_at dkX0_visit_4 5 rfl) ?_
            refine x_absE (fun z27 gz27 hz27 => ?_)
            refine k_put (Wf := WK cB cI cJ cZ cQ q) (D := (dC, dI)) (ci := 0) (v := .int (iI z27)) (ty := .int) (C := RX0) (T := TX0) (N := 17) hx hb hts hiX0 tyX0 tyX0_ok nmX0 hown hK hP hDD hS 6 (wkAL) rfl 15 (by decide) (hts _ (List.mem_cons_of_mem _ wkq_0_2)) (fun _ h9 => h9) rfl (by decide +kernel) rfl rfl (Nat.le_of_ble_eq_true rfl) (dk_at dkX0_visit_4 6 rfl) (wfAL_15 (v := z27)) (fun H locs A28 hA28 hP hS => ?_)
            have hI := isAL_15 hA28 hI (show (-2147483648 : Int) ≤ z27 ∧ z27 ≤ 2147483647 from hz27)
            refine lv_aload_n hx hb (dk_at dkX0_visit_4 7 rfl) rfl (lv_at hl 4 rfl) ?_
            refine lv_iload hx hb (dk_at dkX0_visit_4 8 rfl) (lv_at hl 2 rfl) ?_
            refine lv_iload hx hb (dk_at dkX0_visit_4 9 rfl) (lv_at hl 0 rfl) ?_
            refine lv_iload hx hb (dk_at dkX0_visit_4 10 rfl) (lv_at hl 1 rfl) ?_
            refine k_calli (As := [.int (iI z18), .int (iI z21), .int (iI z20)]) (rest := []) ⟨hx, hb, hml, hown, hts⟩ hE (kc_X0_isGoal l dC dI cB cI cJ cZ cQ aL aS q _ z18 z21 z20 hI (by omega) hw23 (by omega)) (cwV 3 hts (goodVk wkq_2_40 wkq_2_41 wkq_2_42 wkq_0_14 wkq_2_43) rfl rfl rfl (by decide +kernel) ⟨Nat.le_of_ble_eq_true rfl, Nat.le_of_ble_eq_true rfl⟩) hK hDD hA0 hP hS 6 0 (wkAL) rfl rfl hl.1 (Nat.le_of_ble_eq_true rfl) (dk_at dkX0_visit_4 11 rfl) (fun z29 A30 H locs hw31 hP hS => ?_)
            obtain ⟨rfl, hw31⟩ := hw31
            have ghw31 : q_X0_isGoal z18 z21 z20 A28 z29 := hw31
            have hw31 := hw31.2
            refine lv_if_eq (tgt := 134) hx hb (dk_at dkX0_visit_4 12 rfl) (by decide) (fun c32 => ?_) (fun c32 => ?_)
            · have c32 : z29 = 0 := (i_eq0 (rb hw31 (by decide) (by decide))).mp c32
              refine lv_aload_n hx hb (dk_at dkX0_visit_4 15 rfl) rfl (lv_at hl 4 rfl) ?_
              refine lv_aload_n hx hb (dk_at dkX0_visit_5 0 rfl) rfl (lv_at hl 5 rfl) ?_
              refine lv_iload_n hx hb (dk_at dkX0_visit_5 1 rfl) rfl (lv_at hl 6 rfl) ?_
              refine lv_iload hx hb (dk_at dkX0_visit_5 2 rfl) (lv_at hl 2 rfl) ?_
              refine lv_iload hx hb (dk_at dkX0_visit_5 3 rfl) (lv_at hl 1 rfl) ?_
              refine lv_iload hx hb (dk_at dkX0_visit_5 4 rfl) (lv_at hl 0 rfl) ?_
              refine k_callv (As := [.ref (q ta), .int (iI x2), .int (iI z18), .int (iI z20), .int (iI z21)]) (rest := []) ⟨hx, hb, hml, hown, hts⟩ hE (kc_X0_markGoing l dC dI cB cI cJ cZ cQ aL aS q _ ta x2 z18 z20 z21 hI hta (rb hx2 (by decide) (by decide)) (by omega) (by omega) hw23) (cwV 5 hts (goodVk wkq_2_44 wkq_2_45 wkq_2_46 wkq_0_14 wkq_2_47) rfl rfl rfl (by decide +kernel) ⟨Nat.le_of_ble_eq_true rfl, Nat.le_of_ble_eq_true rfl⟩) hK hDD hA0 hP hS 6 0 (wkAL) rfl rfl hl.1 (Nat.le_of_ble_eq_true rfl) (dk_at dkX0_visit_5 5 rfl) (fun A33 H locs hw34 hP hS => ?_)
              have ghw34 : q_X0_markGoing ta x2 z18 z20 z21 A28 A33 := hw34
              obtain ⟨_, hI, hf35, hw34⟩ := hw34
              clear hw34
              refine lv_aload_n hx hb (dk_at dkX0_visit_5 6 rfl) rfl (lv_at hl 4 rfl) ?_
              refine lv_aload_n hx hb (dk_at dkX0_visit_5 7 rfl) rfl (lv_at hl 5 rfl) ?_
              refine lv_iload_n hx hb (dk_at dkX0_visit_5 8 rfl) rfl (lv_at hl 6 rfl) ?_
              refine lv_iload hx hb (dk_at dkX0_visit_5 9 rfl) (lv_at hl 2 rfl) ?_
              refine lv_iload hx hb (dk_at dkX0_visit_5 10 rfl) (lv_at hl 1 rfl) ?_
              refine k_callv (As := [.ref (q ta), .int (iI x2), .int (iI z18), .int (iI z20)]) (rest := []) ⟨hx, hb, hml, hown, hts⟩ hE (kc_X0_markOpening l dC dI cB cI cJ cZ cQ aL aS q _ ta x2 z18 z20 hI hta (rb hx2 (by decide) (by decide)) (by omega) (by omega)) (cwV 4 hts (goodVk wkq_2_53 wkq_2_54 wkq_2_55 wkq_0_14 wkq_2_56) rfl rfl rfl (by decide +kernel) ⟨Nat.le_of_ble_eq_true rfl, Nat.le_of_ble_eq_true rfl⟩) hK hDD hA0 hP hS 6 0 (wkAL) rfl rfl hl.1 (Nat.le_of_ble_eq_true rfl) (dk_at dkX0_visit_5 11 rfl) (fun A36 H locs hw37 hP hS => ?_)
              have ghw37 : q_X0_markOpening ta x2 z18 z20 A33 A36 := hw37
              obtain ⟨_, hI, hf38, hw37⟩ := hw37
              clear hw37
              refine lv_iconst (v := iI 0) hx hb (dk_at dkX0_visit_5 12 rfl) (by decide +kernel) ?_
              exact RET 0 _ _ _ _ _ ⟨hk1 _ _ ⟨0 + 1, (u_d_X0_visit_1 ⟨gI14.out, ⟨f10, ⟨z16, gz16.out, (Or.inl ⟨c17, ⟨z18, gz18.out, ⟨z20, gz20.out, ⟨z21, ghw23, ⟨z26, gz26.out, ⟨z27, gz27.out, ⟨A28, hA28, ⟨z29, ghw31, (Or.inl ⟨c32, ⟨A33, ghw34, ⟨A36, ghw37, ⟨rfl, rfl⟩⟩⟩⟩)⟩⟩⟩⟩⟩⟩⟩⟩)⟩⟩⟩)⟩, hI, fk.trans (fk.trans (fk.df (fk.trans (fk.rf) hj6 rfl rfl) hA28 rfl) hf35 rfl rfl) hf38 rfl rfl, ⟨by decide, by decide⟩⟩ hP hS (dk_at dkX0_visit_5 13 rfl)
            · have c32 : ¬ z29 = 0 := mt (i_eq0 (rb hw31 (by decide) (by decide))).mpr c32
              refine lv_iconst (v := iI 1) hx hb (dk_at dkX0_visit_4 13 rfl) (by decide +kernel) ?_
              exact RET 1 _ _ _ _ _ ⟨hk1 _ _ ⟨0 + 1, (u_d_X0_visit_1 ⟨gI14.out, ⟨f10, ⟨z16, gz16.out, (Or.inl ⟨c17, ⟨z18, gz18.out, ⟨z20, gz20.out, ⟨z21, ghw23, ⟨z26, gz26.out, ⟨z27, gz27.out, ⟨A28, hA28, ⟨z29, ghw31, (Or.inr ⟨c32, ⟨rfl, rfl⟩⟩)⟩⟩⟩⟩⟩⟩⟩⟩)⟩⟩⟩)⟩, hI, fk.df (fk.trans (fk.rf) hj6 rfl rfl) hA28 rfl, ⟨by decide, by decide⟩⟩ hP hS (dk_at dkX0_visit_4 14 rfl)
          · have c17 : ¬ z16 ≤ z5 := mt (i_le (rb rz16 (by decide) (by decide)) (rb f10 (by decide) (by decide))).mpr c17
            refine lv_aload_n hx hb (dk_at dkX0_visit_1 6 rfl) rfl (lv_at hl 2 rfl) ?_
            refine va_get (D := (dC, dI)) (ci := 0) (v := .ref (q 14)) (C := RX0) (T := TX0) (N := 17) hx hb hts hiX0 hown hK hP 6 (wkAL) rfl 3 (by decide) (hts _ (List.mem_cons_of_mem _ wkq_2_14)) (fun _ h9 => h9) rfl (dk_at dkX0_visit_1 7 rfl) ?_
            refine lv_iload hx hb (dk_at dkX0_visit_1 8 rfl) (lv_at hl 0 rfl) ?_
            refine lv_aload_n hx hb (dk_at dkX0_visit_1 9 rfl) rfl (lv_at hl 2 rfl) ?_
            refine va_get (D := (dC, dI)) (ci := 0) (v := .ref (q 13)) (C := RX0) (T := TX0) (N := 17) hx hb hts hiX0 hown hK hP 6 (wkAL) rfl 2 (by decide) (hts _ (List.mem_cons_of_mem _ wkq_0_39)) (fun _ h9 => h9) rfl (dk_at dkX0_visit_1 10 rfl) ?_
            refine lv_iload hx hb (dk_at dkX0_visit_1 11 rfl) (lv_at hl 0 rfl) ?_
            have a39 : ∀ k, A7 13 k = A 13 k := fun k => hj6 13 k rfl rfl
            refine x_iald (Wf := WK cB cI cJ cZ cQ q) hx hb hK hP 13 1 (wkALu) rfl (by omega) (by decide) (dk_at dkX0_visit_1 12 rfl) (fun z40 hz40 => ?_)
            have rz40 : (-2147483648 : Int) ≤ z40 ∧ z40 ≤ 2147483647 := by rw [hz40]; exact irALu hI
            have gz40 := Hd.mk hz40
            have hz40 : z40 = A 13 (z5).toNat := hz40.trans (a39 _)
            refine lv_iconst (v := iI 1) hx hb (dk_at dkX0_visit_1 13 rfl) (by decide +kernel) ?_
            have J79_42 : ∀ (z48 : Int) (H : Heap) (locs : List Loc) (ls : Array Slot), (0 ≤ z48 ∧ z48 ≤ 6) → (∀ (z : Int) (u : St), (∃ mm1 : Nat, (d_X0_visit_2 (fun z5' A7' => d_X0_visit_1 ta x2 z1 A z u mm1 z5' A7') z5 A7 z u z48)) → r_X0_visit ta x2 A z u) → va_P (dC, dI) vwCl (WK cB cI cJ cZ cQ q A7) H → va_S AS s.heap H locs → lv_has ls 7 [(4, .int (iI z5)), (3, .int (iI z1)), (0, .ref (q 6)), (1, .ref (q ta)), (2, .int (iI x2))] → W p l e (headSpec ws_kc_X0_visit ({ frames := 3, cells := 0, slots := 0, locals := 78 } : Room)).room s m [.ref (q 6), .ref (q ta), .int (iI x2)].toArray below meth c H locs 0 0 Q (F0 m 79 ls [.int (iI z48), .int (iI z5), .ref (q 14)]) := by
              intro z48 H locs ls f50 hk2 hP hS hl
              refine k_iast (Wf := WK cB cI cJ cZ cQ q) hx hb hK hP hDD hS 14 1 (wkALl) rfl (by omega) (by decide) (dk_at dkX0_visit_2 15 rfl) (wsALl) (fun H locs A51 hA51 hP hS => ?_)
              have hI := isALl hA51 hI (show (-2147483648 : Int) ≤ z48 ∧ z48 ≤ 2147483647 from (rb f50 (by decide) (by decide)))
              refine lv_iinc (v := iI (z5 + 1)) (lv' := [(4, .int (iI (z5 + 1))), (3, .int (iI z1)), (0, .ref (q 6)), (1, .ref (q ta)), (2, .int (iI x2))]) hx hb (dk_at dkX0_visit_3 0 rfl) hl (k := 0) rfl (i_inc (by omega)) (by decide) rfl (fun ls hl => ?_)
              refine lv_goto (tgt := 25) hx hb (dk_at dkX0_visit_3 1 rfl) (by decide) ?_
              exact ih9 _ (by omega) (z5 + 1) _ _ _ _ (by omega) (fun zq uq ⟨mm1, hq⟩ => hk2 _ _ ⟨mm1, (u_d_X0_visit_2 ⟨f50, ⟨A51, hA51, hq⟩⟩)⟩) rfl hI (fk.da (fk.trans (fk.rf) hj6 rfl rfl) hA51 rfl) hP hS (lv_sub hl [0, 1, 2, 3, 4] rfl)
            refine lv_icmp_ge (tgt := 57) hx hb (dk_at dkX0_visit_1 14 rfl) (by decide) (fun c41 => ?_) (fun c41 => ?_)
            · have c41 : 1 ≤ z40 := (i_le ⟨by decide, by decide⟩ rz40).mp c41
              refine lv_iload_n hx hb (dk_at dkX0_visit_2 1 rfl) rfl (lv_at hl 4 rfl) ?_
              refine lv_aload_n hx hb (dk_at dkX0_visit_2 2 rfl) rfl (lv_at hl 2 rfl) ?_
              refine va_get (D := (dC, dI)) (ci := 0) (v := .ref (q 13)) (C := RX0) (T := TX0) (N := 17) hx hb hts hiX0 hown hK hP 6 (wkAL) rfl 2 (by decide) (hts _ (List.mem_cons_of_mem _ wkq_0_39)) (fun _ h9 => h9) rfl (dk_at dkX0_visit_2 3 rfl) ?_
              refine lv_iload hx hb (dk_at dkX0_visit_2 4 rfl) (lv_at hl 0 rfl) ?_
              refine x_iald (Wf := WK cB cI cJ cZ cQ q) hx hb hK hP 13 1 (wkALu) rfl (by omega) (by decide) (dk_at dkX0_visit_2 5 rfl) (fun z43 hz43 => ?_)
              have rz43 : (-2147483648 : Int) ≤ z43 ∧ z43 ≤ 2147483647 := by rw [hz43]; exact irALu hI
              have gz43 := Hd.mk hz43
              have hz43 : z43 = A 13 (z5).toNat := hz43.trans (a39 _)
              have ez43 : z43 = z40 := hz43.trans hz40.symm
              refine tp_i (y := iI z40) (congrArg iI ez43) ?_
              refine x_div hx hb (dk_at dkX0_visit_2 6 rfl) (by omega) (by omega) (fun z44 hz44 hz44b => ?_)
              have gz44 := Hd.mk hz44
              clear hz44
              refine lv_aload_n hx hb (dk_at dkX0_visit_2 7 rfl) rfl (lv_at hl 3 rfl) ?_
              refine va_get (D := (dC, dI)) (ci := 9) (v := .ref (q (ta + 22))) (C := RX9) (T := TX9) (N := 16) hx hb hts hiX9 hown hK hP ta (wkT hta) rfl 14 (by decide) (hts _ (List.mem_cons_of_mem _ wkq_0_18)) (fun _ h9 => h9) rfl (dk_at dkX0_visit_2 8 rfl) ?_
              refine va_get (D := (dC, dI)) (ci := 6) (v := .ref (q ((ta + 22) + 3))) (C := RX6) (T := TX6) (N := 4) hx hb hts hiX6 hown hK hP (ta + 22) (wkS hta.s) rfl 2 (by decide) (hts _ (List.mem_cons_of_mem _ wkq_0_40)) (fun _ h9 => h9) rfl (dk_at dkX0_visit_2 9 rfl) ?_
              refine lv_iload hx hb (dk_at dkX0_visit_2 10 rfl) (lv_at hl 0 rfl) ?_
              have a45 : ∀ k, A7 ((ta + 22) + 3) k = A ((ta + 22) + 3) k := fun k => hj6 ((ta + 22) + 3) k (isS.b2 (o := fun b => List.contains [14] (b + 3)) hta.s rfl rfl rfl rfl) (isS.b2 (o := fun b => fin2 [] (b + 3) k) hta.s rfl rfl rfl rfl)
              refine x_iald (Wf := WK cB cI cJ cZ cQ q) hx hb hK hP ((ta + 22) + 3) 1 (wkSz hta.s) rfl (by omega) (by decide) (dk_at dkX0_visit_2 11 rfl) (fun z46 hz46 => ?_)
              have rz46 : (0 : Int) ≤ z46 ∧ z46 ≤ 6 := by rw [hz46]; exact irSz hta.s hI
              have gz46 := Hd.mk hz46
              have hz46 : z46 = A ((ta + 22) + 3) (z5).toNat := hz46.trans (a45 _)
              refine lv_iconst (v := iI 1) hx hb (dk_at dkX0_visit_2 12 rfl) (by decide +kernel) ?_
              refine x_addv (v := z46 + 1) hx hb (dk_at dkX0_visit_2 13 rfl) (by omega) ?_
              refine x_rem hx hb (dk_at dkX0_visit_2 14 rfl) (by omega) (by omega) (fun z47 hz47 hz47b => ?_)
              have gz47 := Hd.mk hz47
              clear hz47
              exact J79_42 z47 _ _ _ (by omega) (fun zq uq ⟨mm1, hq⟩ => hk1 _ _ ⟨mm1 + 1, (u_d_X0_visit_1 ⟨gI14.out, ⟨f10, ⟨z16, gz16.out, (Or.inr ⟨c17, ⟨z40, gz40.out, (Or.inl ⟨c41, ⟨z44, gz44.out, ⟨z46, gz46.out, ⟨z47, gz47.out, hq⟩⟩⟩⟩)⟩⟩)⟩⟩⟩)⟩) hP hS (lv_sub hl [0, 1, 2, 3, 4] rfl)
            · have c41 : ¬ 1 ≤ z40 := mt (i_le ⟨by decide, by decide⟩ rz40).mpr c41
              refine lv_iconst (v := iI 0) hx hb (dk_at dkX0_visit_1 15 rfl) (by decide +kernel) ?_
              refine lv_goto (tgt := 79) hx hb (dk_at dkX0_visit_2 0 rfl) (by decide) ?_
              exact J79_42 0 _ _ _ (by omega) (fun zq uq ⟨mm1, hq⟩ => hk1 _ _ ⟨mm1 + 1, (u_d_X0_visit_1 ⟨gI14.out, ⟨f10, ⟨z16, gz16.out, (Or.inr ⟨c17, ⟨z40, gz40.out, (Or.inr ⟨c41, hq⟩)⟩⟩)⟩⟩⟩)⟩) hP hS (lv_sub hl [0, 1, 2, 3, 4] rfl)
      exact L25_8 _ 0 _ _ _ _ (by omega) (fun zq uq ⟨mm1, hq⟩ => (u_r_X0_visit ⟨z1, gz1.out, (Or.inr ⟨c2, (Or.inl ⟨c4, ⟨mm1, hq⟩⟩)⟩)⟩)) rfl hI (fk.rf) hP hS (lv_sub hl [0, 1, 2, 3, 4] rfl)
    · have c4 : ¬ 1 ≤ (A 6 10) := mt (i_le ⟨by decide, by decide⟩ r3).mpr c4
      refine lv_iconst (v := iI 0) hx hb (dk_at dkX0_visit_0 12 rfl) (by decide +kernel) ?_
      exact RET 0 _ _ _ _ _ ⟨(u_r_X0_visit ⟨z1, gz1.out, (Or.inr ⟨c2, (Or.inr ⟨c4, ⟨rfl, rfl⟩⟩)⟩)⟩), hI, fk.rf, ⟨by decide, by decide⟩⟩ hP hS (dk_at dkX0_visit_0 13 rfl)

abbrev tr_d_X0_searchLevel_4 (K1 : Int → St → Prop) (z1 : Int) (A19 : St) (z : Int) (u : St) : Prop := (K1 (z1 + 1) A19)
def d_X0_searchLevel_4 (K1 : Int → St → Prop) (z1 : Int) (A19 : St) (z : Int) (u : St) : Prop := tr_d_X0_searchLevel_4 K1 z1 A19 z u
theorem u_d_X0_searchLevel_4 {K1 : Int → St → Prop} {z1 : Int} {A19 : St} {z : Int} {u : St} (h : tr_d_X0_searchLevel_4 K1 z1 A19 z u) : d_X0_searchLevel_4 K1 z1 A19 z u := h
abbrev tr_d_X0_searchLevel_3 (K2 : Int → Int → St → Prop) (z16 : Int) (z17 : Int) (z : Int) (u : St) (A40 : St) : Prop := ((IK A40) ∧ (∃ z42 : Int, z42 = pUshr z17 1 ∧ (K2 (z16 + 1) z42 A40)))
def d_X0_searchLevel_3 (K2 : Int → Int → St → Prop) (z16 : Int) (z17 : Int) (z : Int) (u : St) (A40 : St) : Prop := tr_d_X0_searchLevel_3 K2 z16 z17 z u A40
theorem u_d_X0_searchLevel_3 {K2 : Int → Int → St → Prop} {z16 : Int} {z17 : Int} {z : Int} {u : St} {A40 : St} (h : tr_d_X0_searchLevel_3 K2 z16 z17 z u A40) : d_X0_searchLevel_3 K2 z16 z17 z u A40 := h
abbrev tr_d_X0_searchLevel_2 (K1 : Int → St → Prop) (ta : Nat) (z1 : Int) (z : Int) (u : St) (K2 : Int → Int → St → Prop) (z16 : Int) (z17 : Int) (A19 : St) : Prop := ((IK A19) ∧ ((0 ≤ z16 ∧ z16 ≤ 2147483647) ∧ ((-9223372036854775808 ≤ z17 ∧ z17 ≤ 9223372036854775807) ∧ (((64 ≤ z16) ∧ (d_X0_searchLevel_4 K1 z1 A19 z u)) ∨ ((¬ 64 ≤ z16) ∧ (∃ z28 : Int, ((-1 ≤ z28 ∧ z28 ≤ 1) ∧ (z28 = 0 ↔ z17 = 0) ∧ (z28 < 0 ↔ z17 < 0)) ∧ (((z28 = 0) ∧ (d_X0_searchLevel_4 K1 z1 A19 z u)) ∨ ((¬ z28 = 0) ∧ (∃ z30 : Int, z30 = pAnd z17 1 ∧ (∃ z31 : Int, ((-1 ≤ z31 ∧ z31 ≤ 1) ∧ (z31 = 0 ↔ z30 = 0) ∧ (z31 < 0 ↔ z30 < 0)) ∧ (((z31 = 0) ∧ (d_X0_searchLevel_3 K2 z16 z17 z u A19)) ∨ ((¬ z31 = 0) ∧ (∃ z34 : Int, ∃ A35 : St, q_X0_visit ta (64 * z1 + z16) A19 z34 A35 ∧ (((z34 = 0) ∧ (d_X0_searchLevel_3 K2 z16 z17 z u A35)) ∨ ((¬ z34 = 0) ∧ (z = 1 ∧ u = A35))))))))))))))))
def d_X0_searchLevel_2 (K1 : Int → St → Prop) (ta : Nat) (z1 : Int) (z : Int) (u : St) : Nat → Int → Int → St → Prop
  | 0, _, _, _ => False
  | nn9 + 1, z16, z17, A19 => tr_d_X0_searchLevel_2 K1 ta z1 z u (fun z16 z17 A19 => d_X0_searchLevel_2 K1 ta z1 z u nn9 z16 z17 A19) z16 z17 A19
theorem u_d_X0_searchLevel_2 {K1 : Int → St → Prop} {ta : Nat} {z1 : Int} {z : Int} {u : St} {nn9 : Nat} {z16 : Int} {z17 : Int} {A19 : St} (h : tr_d_X0_searchLevel_2 K1 ta z1 z u (fun z16 z17 A19 => d_X0_searchLevel_2 K1 ta z1 z u nn9 z16 z17 A19) z16 z17 A19) : d_X0_searchLevel_2 K1 ta z1 z u (nn9 + 1) z16 z17 A19 := h
abbrev tr_d_X0_searchLevel_1 (ta : Nat) (A : St) (z : Int) (u : St) (K1 : Int → St → Prop) (z1 : Int) (A3 : St) : Prop := ((IK A3) ∧ ((0 ≤ z1 ∧ z1 ≤ 2147483647) ∧ (((1201 ≤ z1) ∧ (z = 0 ∧ u = A3)) ∨ ((¬ 1201 ≤ z1) ∧ ((((A 6 11) ≤ 64 * z1) ∧ (z = 0 ∧ u = A3)) ∨ ((¬ (A 6 11) ≤ 64 * z1) ∧ (∃ z15 : Int, z15 = A3 (18 + ((A 6 7)).toNat) (z1).toNat ∧ (∃ nn9 : Nat, d_X0_searchLevel_2 K1 ta z1 z u nn9 0 z15 A3))))))))
def d_X0_searchLevel_1 (ta : Nat) (A : St) (z : Int) (u : St) : Nat → Int → St → Prop
  | 0, _, _ => False
  | nn9 + 1, z1, A3 => tr_d_X0_searchLevel_1 ta A z u (fun z1 A3 => d_X0_searchLevel_1 ta A z u nn9 z1 A3) z1 A3
theorem u_d_X0_searchLevel_1 {ta : Nat} {A : St} {z : Int} {u : St} {nn9 : Nat} {z1 : Int} {A3 : St} (h : tr_d_X0_searchLevel_1 ta A z u (fun z1 A3 => d_X0_searchLevel_1 ta A z u nn9 z1 A3) z1 A3) : d_X0_searchLevel_1 ta A z u (nn9 + 1) z1 A3 := h
abbrev tr_r_X0_searchLevel (ta : Nat) (A : St) (z : Int) (u : St) : Prop := (∃ nn9 : Nat, d_X0_searchLevel_1 ta A z u nn9 0 A)
def r_X0_searchLevel (ta : Nat) (A : St) (z : Int) (u : St) : Prop := tr_r_X0_searchLevel ta A z u
theorem u_r_X0_searchLevel {ta : Nat} {A : St} {z : Int} {u : St} (h : tr_r_X0_searchLevel ta A z u) : r_X0_searchLevel ta A z u := h
def q_X0_searchLevel (ta : Nat) (A : St) (z : Int) (u : St) : Prop := r_X0_searchLevel ta A z u ∧ IK u ∧ fk [7, 14, 18, 19] [(6, 15)] A u ∧ (0 ≤ z ∧ z ≤ 1)
def ws_kc_X0_searchLevel : List Cond := .code yX0_searchLevel cX0_searchLevel 6 (some .boolean) :: WY
set_option maxHeartbeats 4000000 in
set_option maxRecDepth 100000 in
theorem kc_X0_searchLevel (l : Launch) (dC : Nat → ClassId) (dI : Nat → Nat → Nat) (cB cI cJ cZ cQ : ClassId) (aL aS : Nat) (q : Nat → Nat) (A : St) (ta : Nat) (hI : IK A) (hta : isT ta) : KMi l yX0_searchLevel ws_kc_X0_searchLevel ({ frames := 4, cells := 0, slots := 0, locals := 104 } : Room) aL aS (dC, dI) (tyA cB cI cJ cZ cQ) (WK cB cI cJ cZ cQ q) A [.ref (q 6), .ref (q ta)] (fun z u => r_X0_searchLevel ta A z u ∧ IK u ∧ fk [7, 14, 18, 19] [(6, 15)] A u ∧ (0 ≤ z ∧ z ≤ 1)) := by
  refine k_metz (cc := cX0_searchLevel) (maxL := 6) WK_adr (plainFor_of_name (by decide +kernel)) rfl (Nat.le_of_ble_eq_true rfl) (fun z u h => h.2.2.2) (fun p e s m below meth c Q AS ls hx hb hml hown hts hK hDD hA0 hE RET H locs hP hS hl => ?_)
  have hown : s.vm.findClass RX0 = some m.cls := hown
  have hl : lv_has ls 6 [(0, .ref (q 6)), (1, .ref (q ta))] := hl
  have hiX0 : ∀ w ∈ u_ws RX0 TX0 17, w ∈ ws_kc_X0_searchLevel := fun w h => List.mem_cons_of_mem _ (wy_layX0 w h)
  refine lv_iconst (v := iI 0) hx hb (dk_at dkX0_searchLevel_0 0 rfl) (by decide +kernel) ?_
  refine lv_istore_n (lv' := [(2, .int (iI 0)), (0, .ref (q 6)), (1, .ref (q ta))]) hx hb (dk_at dkX0_searchLevel_0 1 rfl) rfl hl (by decide) rfl (fun ls hl => ?_)
  have L2_4 : ∀ (n7 : Nat) (z1 : Int) (A3 : St) (H : Heap) (locs : List Loc) (ls : Array Slot), (0 ≤ z1 ∧ z1 ≤ 2147483647) → (∀ (z : Int) (u : St), (∃ mm1 : Nat, (d_X0_searchLevel_1 ta A z u mm1 z1 A3)) → r_X0_searchLevel ta A z u) → ((1202 - z1).toNat = n7) → IK A3 → fk [7, 14, 18, 19] [(6, 15)] A A3 → va_P (dC, dI) vwCl (WK cB cI cJ cZ cQ q A3) H → va_S AS s.heap H locs → lv_has ls 6 [(2, .int (iI z1)), (0, .ref (q 6)), (1, .ref (q ta))] → W p l e (headSpec ws_kc_X0_searchLevel ({ frames := 4, cells := 0, slots := 0, locals := 104 } : Room)).room s m [.ref (q 6), .ref (q ta)].toArray below meth c H locs 0 0 Q (F0 m 2 ls []) := by
    intro n7
    induction n7 using Nat.strongRecOn with
    | ind n7 ih5 =>
      intro z1 A3 H locs ls f6 hk1 hn7 hI hj2 hP hS hl
      have gI8 : Hd (IK A3) := Hd.mk hI
      refine lv_iload_n hx hb (dk_at dkX0_searchLevel_0 2 rfl) rfl (lv_at hl 0 rfl) ?_
      refine lv_sipush (v := iI 1201) hx hb (dk_at dkX0_searchLevel_0 3 rfl) (by decide +kernel) ?_
      refine lv_icmp_ge (tgt := 84) hx hb (dk_at dkX0_searchLevel_0 4 rfl) (by decide) (fun c9 => ?_) (fun c9 => ?_)
      · have c9 : 1201 ≤ z1 := (i_le ⟨by decide, by decide⟩ (rb f6 (by decide) (by decide))).mp c9
        refine lv_iconst (v := iI 0) hx hb (dk_at dkX0_searchLevel_3 2 rfl) (by decide +kernel) ?_
        exact RET 0 _ _ _ _ _ ⟨hk1 _ _ ⟨0 + 1, (u_d_X0_searchLevel_1 ⟨gI8.out, ⟨f6, (Or.inl ⟨c9, ⟨rfl, rfl⟩⟩)⟩⟩)⟩, hI, fk.trans (fk.rf) hj2 rfl rfl, ⟨by decide, by decide⟩⟩ hP hS (dk_at dkX0_searchLevel_3 3 rfl)
      · have c9 : ¬ 1201 ≤ z1 := mt (i_le ⟨by decide, by decide⟩ (rb f6 (by decide) (by decide))).mpr c9
        refine lv_iload_n hx hb (dk_at dkX0_searchLevel_0 5 rfl) rfl (lv_at hl 0 rfl) ?_
        refine lv_bipush (v := iI 64) hx hb (dk_at dkX0_searchLevel_0 6 rfl) (by decide +kernel) ?_
        refine x_mulv (v := 64 * z1) hx hb (dk_at dkX0_searchLevel_0 7 rfl) (by omega) ?_
        refine lv_aload_n hx hb (dk_at dkX0_searchLevel_0 8 rfl) rfl (lv_at hl 1 rfl) ?_
        have e10 : A3 6 11 = (A 6 11) := (hj2 6 11 rfl rfl)
        have r11 : (-2147483648 : Int) ≤ (A 6 11) ∧ (A 6 11) ≤ 76832 := by rw [← e10]; exact irAL_11 hI
        refine va_get (D := (dC, dI)) (ci := 0) (v := .int (iI (A3 6 11))) (C := RX0) (T := TX0) (N := 17) hx hb hts hiX0 hown hK hP 6 (wkAL) rfl 11 (by decide) (hts _ (List.mem_cons_of_mem _ wkq_0_20)) (fun _ h9 => h9) rfl (dk_at dkX0_searchLevel_0 9 rfl) ?_
        refine tp_i (y := iI (A 6 11)) (congrArg iI e10) ?_
        refine lv_icmp_ge (tgt := 84) hx hb (dk_at dkX0_searchLevel_0 10 rfl) (by decide) (fun c12 => ?_) (fun c12 => ?_)
        · have c12 : (A 6 11) ≤ 64 * z1 := (i_le (rb r11 (by decide) (by decide)) (by omega)).mp c12
          refine lv_iconst (v := iI 0) hx hb (dk_at dkX0_searchLevel_3 2 rfl) (by decide +kernel) ?_
          exact RET 0 _ _ _ _ _ ⟨hk1 _ _ ⟨0 + 1, (u_d_X0_searchLevel_1 ⟨gI8.out, ⟨f6, (Or.inr ⟨c9, (Or.inl ⟨c12, ⟨rfl, rfl⟩⟩)⟩)⟩⟩)⟩, hI, fk.trans (fk.rf) hj2 rfl rfl, ⟨by decide, by decide⟩⟩ hP hS (dk_at dkX0_searchLevel_3 3 rfl)
        · have c12 : ¬ (A 6 11) ≤ 64 * z1 := mt (i_le (rb r11 (by decide) (by decide)) (by omega)).mpr c12
          refine lv_aload_n hx hb (dk_at dkX0_searchLevel_0 11 rfl) rfl (lv_at hl 1 rfl) ?_
          have e13 : A3 6 7 = (A 6 7) := (hj2 6 7 rfl rfl)
          have r14 : (0 : Int) ≤ (A 6 7) ∧ (A 6 7) ≤ 1 := by rw [← e13]; exact irAL_7 hI
          refine va_get (D := (dC, dI)) (ci := 0) (v := .ref (q (18 + (A3 6 7).toNat))) (C := RX0) (T := TX0) (N := 17) hx hb hts hiX0 hown hK hP 6 (wkAL) rfl 7 (by decide) (hts _ (List.mem_cons_of_mem _ wkq_2_31)) (fun _ h9 => h9) rfl (dk_at dkX0_searchLevel_0 12 rfl) ?_
          refine tp_v (y := .ref (q (18 + ((A 6 7)).toNat))) (by rw [e13]) ?_
          refine lv_iload_n hx hb (dk_at dkX0_searchLevel_0 13 rfl) rfl (lv_at hl 0 rfl) ?_
          refine x_lald (Wf := WK cB cI cJ cZ cQ q) hx hb hK hP (18 + ((A 6 7)).toNat) 2 (wkALf (i := (A 6 7)) (by omega)) rfl (by omega) (by decide) (dk_at dkX0_searchLevel_0 14 rfl) (fun z15 hz15 => ?_)
          have rz15 : (-9223372036854775808 : Int) ≤ z15 ∧ z15 ≤ 9223372036854775807 := by rw [hz15]; exact irALf (i := (A 6 7)) (by omega) hI
          have gz15 := Hd.mk hz15
          refine lv_lstore_n (lv' := [(3, .long (jI z15)), (2, .int (iI z1)), (0, .ref (q 6)), (1, .ref (q ta))]) hx hb (dk_at dkX0_searchLevel_0 15 rfl) rfl hl (by decide) rfl (fun ls hl => ?_)
          refine lv_iconst (v := iI 0) hx hb (dk_at dkX0_searchLevel_1 0 rfl) (by decide +kernel) ?_
          refine lv_istore (lv' := [(5, .int (iI 0)), (3, .long (jI z15)), (2, .int (iI z1)), (0, .ref (q 6)), (1, .ref (q ta))]) hx hb (dk_at dkX0_searchLevel_1 1 rfl) hl (by decide) rfl (fun ls hl => ?_)
          have L30_20 : ∀ (n24 : Nat) (z16 z17 : Int) (A19 : St) (H : Heap) (locs : List Loc) (ls : Array Slot), (0 ≤ z16 ∧ z16 ≤ 2147483647) → (-9223372036854775808 ≤ z17 ∧ z17 ≤ 9223372036854775807) → (∀ (z : Int) (u : St), (∃ mm1 mm2 : Nat, (d_X0_searchLevel_2 (fun z1' A3' => d_X0_searchLevel_1 ta A z u mm1 z1' A3') ta z1 z u mm2 z16 z17 A19)) → r_X0_searchLevel ta A z u) → ((65 - z16).toNat = n24) → IK A19 → fk [7, 14, 18, 19] [(6, 15)] A3 A19 → va_P (dC, dI) vwCl (WK cB cI cJ cZ cQ q A19) H → va_S AS s.heap H locs → lv_has ls 6 [(5, .int (iI z16)), (3, .long (jI z17)), (2, .int (iI z1)), (0, .ref (q 6)), (1, .ref (q ta))] → W p l e (headSpec ws_kc_X0_searchLevel ({ frames := 4, cells := 0, slots := 0, locals := 104 } : Room)).room s m [.ref (q 6), .ref (q ta)].toArray below meth c H locs 0 0 Q (F0 m 30 ls []) := by
            intro n24
            induction n24 using Nat.strongRecOn with
            | ind n24 ih21 =>
              intro z16 z17 A19 H locs ls f22 f23 hk2 hn24 hI hj18 hP hS hl
              have gI25 : Hd (IK A19) := Hd.mk hI
              refine lv_iload hx hb (dk_at dkX0_searchLevel_1 2 rfl) (lv_at hl 0 rfl) ?_
              refine lv_bipush (v := iI 64) hx hb (dk_at dkX0_searchLevel_1 3 rfl) (by decide +kernel) ?_
              have J78_27 : ∀ (H : Heap) (locs : List Loc) (ls : Array Slot), (∀ (z : Int) (u : St), (∃ mm1 mm2 : Nat, (d_X0_searchLevel_4 (fun z1' A3' => d_X0_searchLevel_1 ta A z u mm1 z1' A3') z1 A19 z u)) → r_X0_searchLevel ta A z u) → va_P (dC, dI) vwCl (WK cB cI cJ cZ cQ q A19) H → va_S AS s.heap H locs → lv_has ls 6 [(5, .int (iI z16)), (3, .long (jI z17)), (2, .int (iI z1)), (0, .ref (q 6)), (1, .ref (q ta))] → W p l e (headSpec ws_kc_X0_searchLevel ({ frames := 4, cells := 0, slots := 0, locals := 104 } : Room)).room s m [.ref (q 6), .ref (q ta)].toArray below meth c H locs 0 0 Q (F0 m 78 ls []) := by
                intro H locs ls hk4 hP hS hl
                refine lv_iinc (v := iI (z1 + 1)) (lv' := [(2, .int (iI (z1 + 1))), (5, .int (iI z16)), (3, .long (jI z17)), (0, .ref (q 6)), (1, .ref (q ta))]) hx hb (dk_at dkX0_searchLevel_3 0 rfl) hl (k := 2) rfl (i_inc (by omega)) (by decide) rfl (fun ls hl => ?_)
                refine lv_goto (tgt := 2) hx hb (dk_at dkX0_searchLevel_3 1 rfl) (by decide) ?_
                exact ih5 _ (by omega) (z1 + 1) _ _ _ _ (by omega) (fun zq uq ⟨mm1, hq⟩ => hk4 _ _ ⟨mm1, 0, (u_d_X0_searchLevel_4 hq)⟩) rfl hI (fk.trans (fk.trans (fk.rf) hj2 rfl rfl) hj18 rfl rfl) hP hS (lv_sub hl [0, 3, 4] rfl)
              refine lv_icmp_ge (tgt := 78) hx hb (dk_at dkX0_searchLevel_1 4 rfl) (by decide) (fun c26 => ?_) (fun c26 => ?_)
              · have c26 : 64 ≤ z16 := (i_le ⟨by decide, by decide⟩ (rb f22 (by decide) (by decide))).mp c26
                exact J78_27 _ _ _ (fun zq uq ⟨mm1, mm2, hq⟩ => hk2 _ _ ⟨mm1, mm2 + 1, (u_d_X0_searchLevel_2 ⟨gI25.out, ⟨f22, ⟨f23, (Or.inl ⟨c26, hq⟩)⟩⟩⟩)⟩) hP hS (lv_sub hl [0, 1, 2, 3, 4] rfl)
              · have c26 : ¬ 64 ≤ z16 := mt (i_le ⟨by decide, by decide⟩ (rb f22 (by decide) (by decide))).mpr c26
                refine lv_lload_n hx hb (dk_at dkX0_searchLevel_1 5 rfl) rfl (lv_at hl 1 rfl) ?_
                refine lv_lconst (v := jI 0) hx hb (dk_at dkX0_searchLevel_1 6 rfl) (by decide +kernel) ?_
                refine x_lcmp hx hb (dk_at dkX0_searchLevel_1 7 rfl) (by omega) (by omega) (fun z28 hz28 hz28b hz28c => ?_)
                have gz28 := Hd.mk (And.intro hz28 (And.intro hz28b hz28c))
                clear hz28b hz28c
                refine lv_if_eq (tgt := 78) hx hb (dk_at dkX0_searchLevel_1 8 rfl) (by decide) (fun c29 => ?_) (fun c29 => ?_)
                · have c29 : z28 = 0 := (i_eq0 (by omega)).mp c29
                  exact J78_27 _ _ _ (fun zq uq ⟨mm1, mm2, hq⟩ => hk2 _ _ ⟨mm1, mm2 + 1, (u_d_X0_searchLevel_2 ⟨gI25.out, ⟨f22, ⟨f23, (Or.inr ⟨c26, ⟨z28, gz28.out, (Or.inl ⟨c29, hq⟩)⟩⟩)⟩⟩⟩)⟩) hP hS (lv_sub hl [0, 1, 2, 3, 4] rfl)
                · have c29 : ¬ z28 = 0 := mt (i_eq0 (by omega)).mpr c29
                  refine lv_lload_n hx hb (dk_at dkX0_searchLevel_1 9 rfl) rfl (lv_at hl 1 rfl) ?_
                  refine lv_lconst (v := jI 1) hx hb (dk_at dkX0_searchLevel_1 10 rfl) (by decide +kernel) ?_
                  refine lv_land hx hb (dk_at dkX0_searchLevel_1 11 rfl) ?_
                  refine x_abslE (fun z30 gz30 hz30 => ?_)
                  refine lv_lconst (v := jI 0) hx hb (dk_at dkX0_searchLevel_1 12 rfl) (by decide +kernel) ?_
                  refine x_lcmp hx hb (dk_at dkX0_searchLevel_1 13 rfl) (by omega) (by omega) (fun z31 hz31 hz31b hz31c => ?_)
                  have gz31 := Hd.mk (And.intro hz31 (And.intro hz31b hz31c))
                  clear hz31b hz31c
                  have J68_33 : ∀ (A40 : St) (H : Heap) (locs : List Loc) (ls : Array Slot), (∀ (z : Int) (u : St), (∃ mm1 mm2 : Nat, (d_X0_searchLevel_3 (fun z16' z17' A19' => d_X0_searchLevel_2 (fun z1' A3' => d_X0_searchLevel_1 ta A z u mm1 z1' A3') ta z1 z u mm2 z16' z17' A19') z16 z17 z u A40)) → r_X0_searchLevel ta A z u) → IK A40 → fk [7, 14, 18, 19] [(6, 15)] A19 A40 → va_P (dC, dI) vwCl (WK cB cI cJ cZ cQ q A40) H → va_S AS s.heap H locs → lv_has ls 6 [(5, .int (iI z16)), (3, .long (jI z17)), (2, .int (iI z1)), (0, .ref (q 6)), (1, .ref (q ta))] → W p l e (headSpec ws_kc_X0_searchLevel ({ frames := 4, cells := 0, slots := 0, locals := 104 } : Room)).room s m [.ref (q 6), .ref (q ta)].toArray below meth c H locs 0 0 Q (F0 m 68 ls []) := by
                    intro A40 H locs ls hk3 hI hj39 hP hS hl
                    have gI41 : Hd (IK A40) := Hd.mk hI
                    refine lv_lload_n hx hb (dk_at dkX0_searchLevel_2 10 rfl) rfl (lv_at hl 1 rfl) ?_
                    refine lv_iconst (v := iI 1) hx hb (dk_at dkX0_searchLevel_2 11 rfl) (by decide +kernel) ?_
                    refine lv_lushr hx hb (dk_at dkX0_searchLevel_2 12 rfl) rfl ?_
                    refine x_abslE (fun z42 gz42 hz42 => ?_)
                    refine lv_lstore_n (lv' := [(3, .long (jI z42)), (5, .int (iI z16)), (2, .int (iI z1)), (0, .ref (q 6)), (1, .ref (q ta))]) hx hb (dk_at dkX0_searchLevel_2 13 rfl) rfl hl (by decide) rfl (fun ls hl => ?_)
                    refine lv_iinc (v := iI (z16 + 1)) (lv' := [(5, .int (iI (z16 + 1))), (3, .long (jI z42)), (2, .int (iI z1)), (0, .ref (q 6)), (1, .ref (q ta))]) hx hb (dk_at dkX0_searchLevel_2 14 rfl) hl (k := 1) rfl (i_inc (by omega)) (by decide) rfl (fun ls hl => ?_)
                    refine lv_goto (tgt := 30) hx hb (dk_at dkX0_searchLevel_2 15 rfl) (by decide) ?_
                    exact ih21 _ (by omega) (z16 + 1) z42 _ _ _ _ (by omega) (by omega) (fun zq uq ⟨mm1, mm2, hq⟩ => hk3 _ _ ⟨mm1, mm2, (u_d_X0_searchLevel_3 ⟨gI41.out, ⟨z42, gz42.out, hq⟩⟩)⟩) rfl hI (fk.trans (fk.trans (fk.rf) hj18 rfl rfl) hj39 rfl rfl) hP hS (lv_sub hl [0, 1, 2, 3, 4] rfl)
                  refine lv_if_eq (tgt := 68) hx hb (dk_at dkX0_searchLevel_1 14 rfl) (by decide) (fun c32 => ?_) (fun c32 => ?_)
                  · have c32 : z31 = 0 := (i_eq0 (by omega)).mp c32
                    exact J68_33 _ _ _ _ (fun zq uq ⟨mm1, mm2, hq⟩ => hk2 _ _ ⟨mm1, mm2 + 1, (u_d_X0_searchLevel_2 ⟨gI25.out, ⟨f22, ⟨f23, (Or.inr ⟨c26, ⟨z28, gz28.out, (Or.inr ⟨c29, ⟨z30, gz30.out, ⟨z31, gz31.out, (Or.inl ⟨c32, hq⟩)⟩⟩⟩)⟩⟩)⟩⟩⟩)⟩) hI (fk.rf) hP hS (lv_sub hl [0, 1, 2, 3, 4] rfl)
                  · have c32 : ¬ z31 = 0 := mt (i_eq0 (by omega)).mpr c32
                    refine lv_aload_n hx hb (dk_at dkX0_searchLevel_1 15 rfl) rfl (lv_at hl 3 rfl) ?_
                    refine lv_aload_n hx hb (dk_at dkX0_searchLevel_2 0 rfl) rfl (lv_at hl 4 rfl) ?_
                    refine lv_iload_n hx hb (dk_at dkX0_searchLevel_2 1 rfl) rfl (lv_at hl 2 rfl) ?_
                    refine lv_bipush (v := iI 64) hx hb (dk_at dkX0_searchLevel_2 2 rfl) (by decide +kernel) ?_
                    refine x_mulv (v := 64 * z1) hx hb (dk_at dkX0_searchLevel_2 3 rfl) (by omega) ?_
                    refine lv_iload hx hb (dk_at dkX0_searchLevel_2 4 rfl) (lv_at hl 0 rfl) ?_
                    refine x_addv (v := 64 * z1 + z16) hx hb (dk_at dkX0_searchLevel_2 5 rfl) (by omega) ?_
                    refine k_calli (As := [.ref (q ta), .int (iI (64 * z1 + z16))]) (rest := []) ⟨hx, hb, hml, hown, hts⟩ hE (kc_X0_visit l dC dI cB cI cJ cZ cQ aL aS q _ ta (64 * z1 + z16) hI hta (by omega)) (cwV 2 hts (goodVk wkq_2_36 wkq_2_37 wkq_2_38 wkq_0_14 wkq_2_39) rfl rfl rfl (by decide +kernel) ⟨Nat.le_of_ble_eq_true rfl, Nat.le_of_ble_eq_true rfl⟩) hK hDD hA0 hP hS 6 0 (wkAL) rfl rfl hl.1 (Nat.le_of_ble_eq_true rfl) (dk_at dkX0_searchLevel_2 6 rfl) (fun z34 A35 H locs hw36 hP hS => ?_)
                    have ghw36 : q_X0_visit ta (64 * z1 + z16) A19 z34 A35 := hw36
                    obtain ⟨_, hI, hf37, hw36⟩ := hw36
                    refine lv_if_eq (tgt := 68) hx hb (dk_at dkX0_searchLevel_2 7 rfl) (by decide) (fun c38 => ?_) (fun c38 => ?_)
                    · have c38 : z34 = 0 := (i_eq0 (rb hw36 (by decide) (by decide))).mp c38
                      exact J68_33 _ _ _ _ (fun zq uq ⟨mm1, mm2, hq⟩ => hk2 _ _ ⟨mm1, mm2 + 1, (u_d_X0_searchLevel_2 ⟨gI25.out, ⟨f22, ⟨f23, (Or.inr ⟨c26, ⟨z28, gz28.out, (Or.inr ⟨c29, ⟨z30, gz30.out, ⟨z31, gz31.out, (Or.inr ⟨c32, ⟨z34, A35, ghw36, (Or.inl ⟨c38, hq⟩)⟩⟩)⟩⟩⟩)⟩⟩)⟩⟩⟩)⟩) hI (fk.trans (fk.rf) hf37 rfl rfl) hP hS (lv_sub hl [0, 1, 2, 3, 4] rfl)
                    · have c38 : ¬ z34 = 0 := mt (i_eq0 (rb hw36 (by decide) (by decide))).mpr c38
                      refine lv_iconst (v := iI 1) hx hb (dk_at dkX0_searchLevel_2 8 rfl) (by decide +kernel) ?_
                      exact RET 1 _ _ _ _ _ ⟨hk2 _ _ ⟨0, 0 + 1, (u_d_X0_searchLevel_2 ⟨gI25.out, ⟨f22, ⟨f23, (Or.inr ⟨c26, ⟨z28, gz28.out, (Or.inr ⟨c29, ⟨z30, gz30.out, ⟨z31, gz31.out, (Or.inr ⟨c32, ⟨z34, A35, ghw36, (Or.inr ⟨c38, ⟨rfl, rfl⟩⟩)⟩⟩)⟩⟩⟩)⟩⟩)⟩⟩⟩)⟩, hI, fk.trans (fk.trans (fk.trans (fk.rf) hj2 rfl rfl) hj18 rfl rfl) hf37 rfl rfl, ⟨by decide, by decide⟩⟩ hP hS (dk_at dkX0_searchLevel_2 9 rfl)
          exact L30_20 _ 0 z15 _ _ _ _ (by omega) (by omega) (fun zq uq ⟨mm1, mm2, hq⟩ => hk1 _ _ ⟨mm1 + 1, (u_d_X0_searchLevel_1 ⟨gI8.out, ⟨f6, (Or.inr ⟨c9, (Or.inr ⟨c12, ⟨z15, gz15.out, ⟨mm2, hq⟩⟩⟩)⟩)⟩⟩)⟩) rfl hI (fk.rf) hP hS (lv_sub hl [0, 1, 2, 3, 4] rfl)
  exact L2_4 _ 0 _ _ _ _ (by omega) (fun zq uq ⟨mm1, hq⟩ => (u_r_X0_searchLevel ⟨mm1, hq⟩)) rfl hI (fk.rf) hP hS (lv_sub hl [0, 1, 2] rfl)
theorem dkX0_placesOf_0 : dkq cX0_placesOf [(0, .aload_n 0, 1), (1, .aload_n 1, 1), (2, .iload_n 2, 1), (3, .aload_n 1, 1), (4, .iload_n 2, 1), (5, .invokevirtual 67, 3), (8, .iconst 3, 1), (9, .iconst 1, 1), (10, .aload_n 1, 1), (11, .getfield 73, 3), (14, .iconst 0, 1), (15, .iaload, 1), (16, .ishl, 1), (17, .iconst 1, 1), (18, .isub, 1), (19, .invokevirtual 76, 3)] = true := by decide +kernel
theorem dkX0_placesOf_1 : dkq cX0_placesOf [(22, .pop, 1), (23, .aload_n 0, 1), (24, .getfield 61, 3), (27, .ireturn, 1)] = true := by decide +kernel
theorem dkX0_bestLent_0 : dkq cX0_bestLent [(0, .aload_n 1, 1), (1, .iload_n 2, 1), (2, .invokevirtual 67, 3), (5, .istore 4, 2), (7, .iconst (-1), 1), (8, .istore 5, 2), (10, .aload_n 0, 1), (11, .iconst (-1), 1), (12, .putfield 64, 3), (15, .iconst 0, 1), (16, .istore 6, 2), (18, .iload 6, 2), (20, .aload_n 1, 1), (21, .getfield 73, 3), (24, .iconst 2, 1), (25, .iaload, 1)] = true := by decide +kernel
theorem dkX0_bestLent_1 : dkq cX0_bestLent [(26, .if_icmp .ge 82, 3), (29, .iload 4, 2), (31, .iload 6, 2), (33, .ishr, 1), (34, .iconst 1, 1), (35, .iand, 1), (36, .ifCond .ne 66, 3), (39, .aload_n 1, 1), (40, .getfield 80, 3), (43, .getfield 84, 3), (46, .iload 6, 2), (48, .iaload, 1), (49, .bipush 40, 2), (51, .if_icmp .eq 51, 3), (54, .aload_n 0, 1), (55, .aload_n 1, 1)] = true := by decide +kernel
theorem dkX0_bestLent_2 : dkq cX0_bestLent [(56, .iload_n 2, 1), (57, .iload 4, 2), (59, .iconst 1, 1), (60, .iload 6, 2), (62, .ishl, 1), (63, .ior, 1), (64, .iconst 0, 1), (65, .iload_n 3, 1), (66, .invokevirtual 76, 3), (69, .istore 7, 2), (71, .iload 7, 2), (73, .iconst (-1), 1), (74, .if_icmp .eq 28, 3), (77, .iload 5, 2), (79, .iconst (-1), 1), (80, .if_icmp .eq 12, 3)] = true := by decide +kernel
theorem dkX0_bestLent_3 : dkq cX0_bestLent [(83, .iload 7, 2), (85, .aload_n 0, 1), (86, .getfield 64, 3), (89, .if_icmp .ge 13, 3), (92, .iload 6, 2), (94, .istore 5, 2), (96, .aload_n 0, 1), (97, .iload 7, 2), (99, .putfield 64, 3), (102, .iinc 6 1, 3), (105, .goto (-87), 3), (108, .iload 5, 2), (110, .ireturn, 1)] = true := by decide +kernel
theorem dkX0_search_0 : dkq cX0_search [(0, .aload_n 1, 1), (1, .iconst 3, 1), (2, .iload_n 2, 1), (3, .invokevirtual 89, 3), (6, .ifCond .ne 5, 3), (9, .iconst (-1), 1), (10, .ireturn, 1), (11, .aload_n 0, 1), (12, .iload 4, 2), (14, .putfield 55, 3), (17, .aload_n 0, 1), (18, .iload 5, 2), (20, .putfield 58, 3), (23, .aload_n 0, 1), (24, .iconst 0, 1), (25, .putfield 61, 3)] = true := by decide +kernel
theorem dkX0_search_1 : dkq cX0_search [(28, .aload_n 0, 1), (29, .aload_n 1, 1), (30, .iload_n 2, 1), (31, .invokevirtual 93, 3), (34, .aload_n 0, 1), (35, .aload_n 1, 1), (36, .iload_n 3, 1), (37, .invokevirtual 97, 3), (40, .aload_n 0, 1), (41, .aload_n 1, 1), (42, .invokevirtual 100, 3), (45, .aload_n 0, 1), (46, .aload_n 1, 1), (47, .iload_n 2, 1), (48, .iload_n 3, 1), (49, .invokestatic 104, 3)] = true := by decide +kernel
theorem dkX0_search_2 : dkq cX0_search [(52, .invokevirtual 109, 3), (55, .aload_n 0, 1), (56, .invokevirtual 113, 3), (59, .aload_n 0, 1), (60, .aload_n 1, 1), (61, .aload_n 1, 1), (62, .getfield 80, 3), (65, .getfield 116, 3), (68, .iload_n 2, 1), (69, .iaload, 1), (70, .iload_n 3, 1), (71, .invokevirtual 119, 3), (74, .iconst 0, 1), (75, .istore 6, 2), (77, .iload 6, 2), (79, .aload_n 0, 1)] = true := by decide +kernel
theorem dkX0_search_3 : dkq cX0_search [(80, .getfield 49, 3), (83, .if_icmp .gt 29, 3), (86, .aload_n 0, 1), (87, .invokevirtual 122, 3), (90, .ifCond .ne 5, 3), (93, .iconst (-1), 1), (94, .ireturn, 1), (95, .aload_n 0, 1), (96, .aload_n 1, 1), (97, .invokevirtual 126, 3), (100, .ifCond .eq 6, 3), (103, .iload 6, 2), (105, .ireturn, 1), (106, .iinc 6 1, 3), (109, .goto (-32), 3), (112, .iconst (-1), 1)] = true := by decide +kernel
theorem dkX0_search_4 : dkq cX0_search [(113, .ireturn, 1)] = true := by decide +kernel
theorem dkX1_add_0 : dkq cX1_add [(0, .aload_n 0, 1), (1, .getfield 25, 3), (4, .ifCond .lt 12, 3), (7, .aload_n 0, 1), (8, .getfield 25, 3), (11, .bipush 20, 2), (13, .if_icmp .lt 5, 3), (16, .iconst 0, 1), (17, .ireturn, 1), (18, .aload_n 0, 1), (19, .getfield 11, 3), (22, .aload_n 0, 1), (23, .getfield 25, 3), (26, .iload_n 1, 1), (27, .iastore, 1), (28, .aload_n 0, 1)] = true := by decide +kernel
theorem dkX1_add_1 : dkq cX1_add [(29, .getfield 15, 3), (32, .aload_n 0, 1), (33, .getfield 25, 3), (36, .iload_n 2, 1), (37, .bastore, 1), (38, .aload_n 0, 1), (39, .dup, 1), (40, .getfield 25, 3), (43, .iconst 1, 1), (44, .iadd, 1), (45, .putfield 25, 3), (48, .iconst 1, 1), (49, .ireturn, 1)] = true := by decide +kernel
theorem dkX1_survey_0 : dkq cX1_survey [(0, .aload_n 0, 1), (1, .iconst 0, 1), (2, .putfield 29, 3), (5, .aload_n 0, 1), (6, .iconst 0, 1), (7, .putfield 32, 3), (10, .aload_n 0, 1), (11, .iconst 0, 1), (12, .putfield 35, 3), (15, .iconst 1, 1), (16, .istore_n 3, 1), (17, .iconst 0, 1), (18, .istore 4, 2), (20, .iload 4, 2), (22, .iconst 3, 1), (23, .if_icmp .gt 52, 3)] = true := by decide +kernel
theorem dkX1_survey_1 : dkq cX1_survey [(26, .iconst 0, 1), (27, .istore 5, 2), (29, .iload 5, 2), (31, .iload_n 3, 1), (32, .if_icmp .ge 28, 3), (35, .aload_n 0, 1), (36, .aload_n 1, 1), (37, .iload 5, 2), (39, .iload 4, 2), (41, .invokevirtual 38, 3), (44, .ifCond .eq 10, 3), (47, .aload_n 0, 1), (48, .iload 4, 2), (50, .iload_n 2, 1), (51, .invokevirtual 42, 3), (54, .iinc 5 1, 3)] = true := by decide +kernel
theorem dkX1_survey_2 : dkq cX1_survey [(57, .goto (-28), 3), (60, .iload_n 3, 1), (61, .aload_n 1, 1), (62, .getfield 46, 3), (65, .iconst 1, 1), (66, .iaload, 1), (67, .imul, 1), (68, .istore_n 3, 1), (69, .iinc 4 1, 3), (72, .goto (-52), 3), (75, .return_, 1)] = true := by decide +kernel
theorem dkX1_isRow_0 : dkq cX1_isRow [(0, .aload_n 1, 1), (1, .getfield 46, 3), (4, .iconst 1, 1), (5, .iaload, 1), (6, .istore 4, 2), (8, .iload_n 2, 1), (9, .istore 5, 2), (11, .iconst 0, 1), (12, .istore 6, 2), (14, .iload_n 3, 1), (15, .iconst 1, 1), (16, .isub, 1), (17, .istore 7, 2), (19, .iload 7, 2), (21, .ifCond .lt 76, 3), (24, .iload 7, 2)] = true := by decide +kernel
theorem dkX1_isRow_1 : dkq cX1_isRow [(26, .iconst 3, 1), (27, .if_icmp .ge 70, 3), (30, .iload 4, 2), (32, .ifCond .le 65, 3), (35, .iload 5, 2), (37, .iload 4, 2), (39, .irem, 1), (40, .istore 8, 2), (42, .aload_n 1, 1), (43, .getfield 51, 3), (46, .iload 8, 2), (48, .ishr, 1), (49, .iconst 1, 1), (50, .iand, 1), (51, .ifCond .eq 13, 3), (54, .iload 6, 2)] = true := by decide +kernel
theorem dkX1_isRow_2 : dkq cX1_isRow [(56, .iload 8, 2), (58, .ishr, 1), (59, .iconst 1, 1), (60, .iand, 1), (61, .ifCond .eq 5, 3), (64, .iconst 0, 1), (65, .ireturn, 1), (66, .iload 6, 2), (68, .iconst 1, 1), (69, .iload 8, 2), (71, .ishl, 1), (72, .ior, 1), (73, .istore 6, 2), (75, .aload_n 0, 1), (76, .getfield 22, 3), (79, .iload 7, 2)] = true := by decide +kernel
theorem dkX1_isRow_3 : dkq cX1_isRow [(81, .iload 8, 2), (83, .iastore, 1), (84, .iload 5, 2), (86, .iload 4, 2), (88, .idiv, 1), (89, .istore 5, 2), (91, .iinc 7 (-1), 3), (94, .goto (-75), 3), (97, .iconst 1, 1), (98, .ireturn, 1)] = true := by decide +kernel
theorem dkX1_weigh_0 : dkq cX1_weigh [(0, .aload_n 0, 1), (1, .iload_n 1, 1), (2, .invokevirtual 54, 3), (5, .istore_n 3, 1), (6, .iload_n 3, 1), (7, .iconst (-1), 1), (8, .if_icmp .ne 4, 3), (11, .return_, 1), (12, .aload_n 0, 1), (13, .getfield 29, 3), (16, .ifCond .ne 37, 3), (19, .aload_n 0, 1), (20, .iload_n 1, 1), (21, .putfield 32, 3), (24, .iconst 0, 1), (25, .istore 4, 2)] = true := by decide +kernel
theorem dkX1_weigh_1 : dkq cX1_weigh [(27, .iload 4, 2), (29, .iconst 3, 1), (30, .if_icmp .ge 23, 3), (33, .aload_n 0, 1), (34, .getfield 19, 3), (37, .iload 4, 2), (39, .aload_n 0, 1), (40, .getfield 22, 3), (43, .iload 4, 2), (45, .iaload, 1), (46, .iastore, 1), (47, .iinc 4 1, 3), (50, .goto (-23), 3), (53, .aload_n 0, 1), (54, .dup, 1), (55, .getfield 29, 3)] = true := by decide +kernel
theorem dkX1_weigh_2 : dkq cX1_weigh [(58, .iconst 1, 1), (59, .iadd, 1), (60, .putfield 29, 3), (63, .aload_n 0, 1), (64, .iload_n 3, 1), (65, .invokevirtual 58, 3), (68, .iload_n 2, 1), (69, .if_icmp .ne 13, 3), (72, .aload_n 0, 1), (73, .dup, 1), (74, .getfield 35, 3), (77, .iconst 1, 1), (78, .iadd, 1), (79, .putfield 35, 3), (82, .return_, 1)] = true := by decide +kernel
theorem dkX1_leftOf_0 : dkq cX1_leftOf [(0, .iload_n 1, 1), (1, .istore_n 2, 1), (2, .iconst 0, 1), (3, .istore_n 3, 1), (4, .iload_n 3, 1), (5, .aload_n 0, 1), (6, .getfield 25, 3), (9, .if_icmp .ge 57, 3), (12, .iload_n 3, 1), (13, .bipush 20, 2), (15, .if_icmp .ge 51, 3), (18, .aload_n 0, 1), (19, .iload_n 2, 1), (20, .invokevirtual 58, 3), (23, .aload_n 0, 1), (24, .getfield 11, 3)] = true := by decide +kernel
theorem dkX1_leftOf_1 : dkq cX1_leftOf [(27, .iload_n 3, 1), (28, .iaload, 1), (29, .if_icmp .ne 7, 3), (32, .iconst 1, 1), (33, .goto 4, 3), (36, .iconst 0, 1), (37, .aload_n 0, 1), (38, .getfield 15, 3), (41, .iload_n 3, 1), (42, .baload, 1), (43, .if_icmp .eq 5, 3), (46, .iconst (-1), 1), (47, .ireturn, 1), (48, .aload_n 0, 1), (49, .getfield 15, 3), (52, .iload_n 3, 1)] = true := by decide +kernel
theorem dkX1_leftOf_2 : dkq cX1_leftOf [(53, .baload, 1), (54, .ifCond .eq 6, 3), (57, .iinc 2 (-1), 3), (60, .iinc 3 1, 3), (63, .goto (-59), 3), (66, .iload_n 2, 1), (67, .ireturn, 1)] = true := by decide +kernel
theorem dkX1_topOf_0 : dkq cX1_topOf [(0, .iload_n 1, 1), (1, .ifCond .le 19, 3), (4, .iload_n 1, 1), (5, .iconst 3, 1), (6, .if_icmp .gt 14, 3), (9, .aload_n 0, 1), (10, .getfield 22, 3), (13, .iload_n 1, 1), (14, .iconst 1, 1), (15, .isub, 1), (16, .iaload, 1), (17, .goto 4, 3), (20, .iconst (-1), 1), (21, .ireturn, 1)] = true := by decide +kernel
theorem dkX2_areCrossing_0 : dkq cX2_areCrossing [(0, .aload_n 0, 1), (1, .bipush 6, 2), (3, .iload_n 1, 1), (4, .invokevirtual 30, 3), (7, .ifCond .eq 13, 3), (10, .aload_n 0, 1), (11, .bipush 6, 2), (13, .iload_n 2, 1), (14, .invokevirtual 30, 3), (17, .ifCond .ne 5, 3), (20, .iconst 0, 1), (21, .ireturn, 1), (22, .aload_n 0, 1), (23, .getfield 34, 3), (26, .iload_n 1, 1), (27, .iaload, 1)] = true := by decide +kernel
theorem dkX2_areCrossing_1 : dkq cX2_areCrossing [(28, .istore_n 3, 1), (29, .aload_n 0, 1), (30, .getfield 37, 3), (33, .iload_n 1, 1), (34, .iaload, 1), (35, .istore 4, 2), (37, .aload_n 0, 1), (38, .getfield 34, 3), (41, .iload_n 2, 1), (42, .iaload, 1), (43, .istore 5, 2), (45, .aload_n 0, 1), (46, .getfield 37, 3), (49, .iload_n 2, 1), (50, .iaload, 1), (51, .istore 6, 2)] = true := by decide +kernel
theorem dkX2_areCrossing_2 : dkq cX2_areCrossing [(53, .aload_n 0, 1), (54, .getfield 40, 3), (57, .iload_n 1, 1), (58, .iaload, 1), (59, .aload_n 0, 1), (60, .getfield 40, 3), (63, .iload_n 2, 1), (64, .iaload, 1), (65, .if_icmp .ne 18, 3), (68, .iload_n 3, 1), (69, .iload 6, 2), (71, .if_icmp .ge 12, 3), (74, .iload 5, 2), (76, .iload 4, 2), (78, .if_icmp .ge 5, 3), (81, .iconst 1, 1)] = true := by decide +kernel
theorem dkX2_areCrossing_3 : dkq cX2_areCrossing [(82, .ireturn, 1), (83, .iload_n 3, 1), (84, .iload 5, 2), (86, .if_icmp .ge 17, 3), (89, .iload 5, 2), (91, .iload 4, 2), (93, .if_icmp .ge 10, 3), (96, .iload 4, 2), (98, .iload 6, 2), (100, .if_icmp .lt 22, 3), (103, .iload 5, 2), (105, .iload_n 3, 1), (106, .if_icmp .ge 20, 3), (109, .iload_n 3, 1), (110, .iload 6, 2), (112, .if_icmp .ge 14, 3)] = true := by decide +kernel
theorem dkX2_areCrossing_4 : dkq cX2_areCrossing [(115, .iload 6, 2), (117, .iload 4, 2), (119, .if_icmp .ge 7, 3), (122, .iconst 1, 1), (123, .goto 4, 3), (126, .iconst 0, 1), (127, .ireturn, 1)] = true := by decide +kernel
