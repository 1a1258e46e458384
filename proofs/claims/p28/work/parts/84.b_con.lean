abbrev tr_d_X12_works_2 (K1 : Int → Int → St → Prop) (z1 : Int) (z2 : Int) (A4 : St) (z : Int) (u : St) (z37 : Int) : Prop := ((-9223372036854775808 ≤ z37 ∧ z37 ≤ 9223372036854775807) ∧ (∃ A40 : St, A40 = (stA A4 42 (z2).toNat z37) ∧ (K1 (z1 + 1) (z2 + 1) A40)))
def d_X12_works_2 (K1 : Int → Int → St → Prop) (z1 : Int) (z2 : Int) (A4 : St) (z : Int) (u : St) (z37 : Int) : Prop := tr_d_X12_works_2 K1 z1 z2 A4 z u z37
theorem u_d_X12_works_2 {K1 : Int → Int → St → Prop} {z1 : Int} {z2 : Int} {A4 : St} {z : Int} {u : St} {z37 : Int} (h : tr_d_X12_works_2 K1 z1 z2 A4 z u z37) : d_X12_works_2 K1 z1 z2 A4 z u z37 := h
abbrev tr_d_X12_works_1 (x2 : Int) (A : St) (z : Int) (u : St) (K1 : Int → Int → St → Prop) (z1 : Int) (z2 : Int) (A4 : St) : Prop := ((IM A4) ∧ ((0 ≤ z1 ∧ z1 ≤ 3200) ∧ ((0 ≤ z2 ∧ z2 ≤ 1600) ∧ (((1600 * (A 0 12) + x2 ≤ z1) ∧ (∃ z17 : Int, z17 = A4 42 (0 : Int).toNat ∧ (z = z17 ∧ u = A4))) ∨ ((¬ 1600 * (A 0 12) + x2 ≤ z1) ∧ (∃ z18 : Int, z18 = A4 33 (z1).toNat ∧ (((9 < z18) ∧ (((¬ z18 = 22) ∧ (∃ z21 : Int, z21 = A4 42 (z2 - 2).toNat ∧ (∃ z22 : Int, z22 = A4 42 (z2 - 1).toNat ∧ (∃ z23 : Int, q_X12_made z18 z21 z22 A4 z23 ∧ (∃ A26 : St, A26 = (stA A4 42 (z2 - 2).toNat z23) ∧ (K1 (z1 + 1) (z2 - 1) A26)))))) ∨ ((z18 = 22) ∧ (∃ z27 : Int, z27 = A4 42 (z2 - 1).toNat ∧ (∃ z28 : Int, z28 = pSub 1 z27 ∧ (∃ A29 : St, A29 = (stA A4 42 (z2 - 1).toNat z28) ∧ (K1 (z1 + 1) z2 A29))))))) ∨ ((¬ 9 < z18) ∧ (((¬ z18 = 0) ∧ (((¬ z18 = 9) ∧ (∃ z33 : Int, z33 = A4 43 (z18).toNat ∧ (∃ z34 : Int, z34 = oI2l z33 ∧ (d_X12_works_2 K1 z1 z2 A4 z u z34)))) ∨ ((z18 = 9) ∧ (d_X12_works_2 K1 z1 z2 A4 z u 1)))) ∨ ((z18 = 0) ∧ (∃ z35 : Int, z35 = A4 34 (z1).toNat ∧ (∃ z36 : Int, z36 = oI2l z35 ∧ (d_X12_works_2 K1 z1 z2 A4 z u z36)))))))))))))
def d_X12_works_1 (x2 : Int) (A : St) (z : Int) (u : St) : Nat → Int → Int → St → Prop
  | 0, _, _, _ => False
  | nn9 + 1, z1, z2, A4 => tr_d_X12_works_1 x2 A z u (fun z1 z2 A4 => d_X12_works_1 x2 A z u nn9 z1 z2 A4) z1 z2 A4
theorem u_d_X12_works_1 {x2 : Int} {A : St} {z : Int} {u : St} {nn9 : Nat} {z1 : Int} {z2 : Int} {A4 : St} (h : tr_d_X12_works_1 x2 A z u (fun z1 z2 A4 => d_X12_works_1 x2 A z u nn9 z1 z2 A4) z1 z2 A4) : d_X12_works_1 x2 A z u (nn9 + 1) z1 z2 A4 := h
abbrev tr_r_X12_works (x1 : Int) (x2 : Int) (A : St) (z : Int) (u : St) : Prop := (∃ nn9 : Nat, d_X12_works_1 x2 A z u nn9 (1600 * (A 0 12) + x1) 0 A)
def r_X12_works (x1 : Int) (x2 : Int) (A : St) (z : Int) (u : St) : Prop := tr_r_X12_works x1 x2 A z u
theorem u_r_X12_works {x1 : Int} {x2 : Int} {A : St} {z : Int} {u : St} (h : tr_r_X12_works x1 x2 A z u) : r_X12_works x1 x2 A z u := h
def q_X12_works (x1 : Int) (x2 : Int) (A : St) (z : Int) (u : St) : Prop := r_X12_works x1 x2 A z u ∧ IM u ∧ fr [42] [] A u ∧ (-9223372036854775808 ≤ z ∧ z ≤ 9223372036854775807)
def ws_mb_X12_works : List Cond := .code yX12_works cX12_works 6 (some .long) :: WX
set_option maxHeartbeats 4000000 in
set_option maxRecDepth 100000 in
theorem mb_X12_works (l : Launch) (dC : Nat → ClassId) (dI : Nat → Nat → Nat) (cB cI cJ cZ cQ : ClassId) (q : Nat → Nat) (A : St) (x1 x2 : Int) (hI : IM A) (hx1 : (0 : Int) ≤ x1 ∧ x1 ≤ 1600) (hx2 : (0 : Int) ≤ x2 ∧ x2 ≤ 1600) (hp0 : x1 ≤ x2) (hp1 : wfc (A 33) (1600 * (A 0 12) + x1).toNat (x2 - x1).toNat) : XMl l yX12_works ws_mb_X12_works ({ frames := 2, cells := 0, slots := 0, locals := 49 } : Room) (dC, dI) (tyA cB cI cJ cZ cQ) (WM cI cJ cZ q) A [.ref (q 0), .int (iI x1), .int (iI x2)] (fun z u => r_X12_works x1 x2 A z u ∧ IM u ∧ fr [42] [] A u ∧ (-9223372036854775808 ≤ z ∧ z ≤ 9223372036854775807)) := by
  refine x_metl (cc := cX12_works) (maxL := 6) WM_adr (by decide +kernel) rfl (Nat.le_of_ble_eq_true rfl) (fun p e s m below meth c Q AS ls hx hb hml hown hts hK hDD hA0 hP hS hl RET => ?_)
  have hown : s.vm.findClass RX12 = some m.cls := hown
  have hl : lv_has ls 6 [(0, .ref (q 0)), (1, .int (iI x1)), (2, .int (iI x2))] := hl
  have hiX12 : ∀ w ∈ u_ws RX12 TX12 85, w ∈ ws_mb_X12_works := fun w h => List.mem_cons_of_mem _ (wx_lay w h)
  obtain ⟨H, hHe⟩ : ∃ H : Heap, H = s.heap := ⟨_, rfl⟩
  rw [← hHe] at hP
  have hS : va_S AS s.heap H [] := by rw [hHe]; exact hS
  suffices hgo : ∀ locs : List Loc, va_S AS s.heap H locs → W p l e (headSpec ws_mb_X12_works ({ frames := 2, cells := 0, slots := 0, locals := 49 } : Room)).room s m [.ref (q 0), .int (iI x1), .int (iI x2)].toArray below meth c H locs 0 0 Q (F0 m 0 ls []) by
    have := hgo [] hS
    rw [hHe] at this
    exact this
  clear hS hHe
  intro locs hS
  refine lv_iconst (v := iI 0) hx hb (dk_at dkX12_works_0 0 rfl) (by decide +kernel) ?_
  refine lv_istore_n (lv' := [(3, .int (iI 0)), (0, .ref (q 0)), (1, .int (iI x1)), (2, .int (iI x2))]) hx hb (dk_at dkX12_works_0 1 rfl) rfl hl (by decide) rfl (fun ls hl => ?_)
  refine lv_sipush (v := iI 1600) hx hb (dk_at dkX12_works_0 2 rfl) (by decide +kernel) ?_
  refine lv_aload_n hx hb (dk_at dkX12_works_0 3 rfl) rfl (lv_at hl 1 rfl) ?_
  refine va_get (D := (dC, dI)) (ci := 12) (v := .int (iI (A 0 12))) (C := RX12) (T := TX12) (N := 85) hx hb hts hiX12 hown hK hP 0 wm0 rfl 12 (by decide) (hts _ (List.mem_cons_of_mem _ wlq_4_14)) (fun _ h9 => h9) rfl (dk_at dkX12_works_0 4 rfl) ?_
  have r_A_0_12 : (0 : Int) ≤ (A 0 12) ∧ (A 0 12) ≤ 1 := hI 0 12
  refine x_mulv (v := 1600 * (A 0 12)) hx hb (dk_at dkX12_works_0 5 rfl) (by omega) ?_
  refine lv_iload_n hx hb (dk_at dkX12_works_0 6 rfl) rfl (lv_at hl 2 rfl) ?_
  refine x_addv (v := 1600 * (A 0 12) + x1) hx hb (dk_at dkX12_works_0 7 rfl) (by omega) ?_
  refine lv_istore (lv' := [(4, .int (iI (1600 * (A 0 12) + x1))), (3, .int (iI 0)), (0, .ref (q 0)), (1, .int (iI x1)), (2, .int (iI x2))]) hx hb (dk_at dkX12_works_0 8 rfl) hl (by decide) rfl (fun ls hl => ?_)
  have L14_5 : ∀ (n7 : Nat) (z1 z2 : Int) (A4 : St) (H : Heap) (locs : List Loc) (ls : Array Slot), (1600 * (A 0 12) + x1 ≤ z1) → (0 ≤ z1 ∧ z1 ≤ 3200) → (0 ≤ z2 ∧ z2 ≤ 1600) → (z2 ≤ z1 - (1600 * (A 0 12) + x1)) → (1600 * (A 0 12) + x1 ≤ z1) → (z1 ≤ 1600 * (A 0 12) + x2) → (Hd (z2 = dep (A 33) (1600 * (A 0 12) + x1).toNat (z1 - (1600 * (A 0 12) + x1)).toNat)) → (∀ (z : Int) (u : St), (∃ mm1 : Nat, (d_X12_works_1 x2 A z u mm1 z1 z2 A4)) → r_X12_works x1 x2 A z u) → ((1600 * (A 0 12) + x2 - z1).toNat = n7) → IM A4 → fr [42] [] A A4 → va_P (dC, dI) vwCl (WM cI cJ cZ q A4) H → va_S AS s.heap H locs → lv_has ls 6 [(4, .int (iI z1)), (3, .int (iI z2)), (0, .ref (q 0)), (1, .int (iI x1)), (2, .int (iI x2))] → W p l e (headSpec ws_mb_X12_works ({ frames := 2, cells := 0, slots := 0, locals := 49 } : Room)).room s m [.ref (q 0), .int (iI x1), .int (iI x2)].toArray below meth c H locs 0 0 Q (F0 m 14 ls []) := by
    intro n7
    induction n7 using Nat.strongRecOn with
    | ind n7 ih6 =>
      intro z1 z2 A4 H locs ls f8 f9 f10 f11 f12 f13 f14 hk1 hn7 hI hj3 hP hS hl
      have gI15 : Hd (IM A4) := Hd.mk hI
      refine lv_iload hx hb (dk_at dkX12_works_0 9 rfl) (lv_at hl 0 rfl) ?_
      refine lv_sipush (v := iI 1600) hx hb (dk_at dkX12_works_0 10 rfl) (by decide +kernel) ?_
      refine lv_aload_n hx hb (dk_at dkX12_works_0 11 rfl) rfl (lv_at hl 2 rfl) ?_
      have e_A4_12 : A4 0 12 = (A 0 12) := (hj3.2 12 rfl)
      refine va_get (D := (dC, dI)) (ci := 12) (v := .int (iI (A4 0 12))) (C := RX12) (T := TX12) (N := 85) hx hb hts hiX12 hown hK hP 0 wm0 rfl 12 (by decide) (hts _ (List.mem_cons_of_mem _ wlq_4_14)) (fun _ h9 => h9) rfl (dk_at dkX12_works_0 12 rfl) ?_
      refine tp_i (y := iI (A 0 12)) (congrArg iI e_A4_12) ?_
      refine x_mulv (v := 1600 * (A 0 12)) hx hb (dk_at dkX12_works_0 13 rfl) (by omega) ?_
      refine lv_iload_n hx hb (dk_at dkX12_works_0 14 rfl) rfl (lv_at hl 4 rfl) ?_
      refine x_addv (v := 1600 * (A 0 12) + x2) hx hb (dk_at dkX12_works_0 15 rfl) (by omega) ?_
      refine lv_icmp_ge (tgt := 156) hx hb (dk_at dkX12_works_1 0 rfl) (by decide) (fun c16 => ?_) (fun c16 => ?_)
      · have c16 : 1600 * (A 0 12) + x2 ≤ z1 := (i_le (by omega) (rb f9 (by decide) (by decide))).mp c16
        refine lv_aload_n hx hb (dk_at dkX12_works_5 8 rfl) rfl (lv_at hl 2 rfl) ?_
        refine va_get (D := (dC, dI)) (ci := 12) (v := .ref (q 42)) (C := RX12) (T := TX12) (N := 85) hx hb hts hiX12 hown hK hP 0 wm0 rfl 59 (by decide) (hts _ (List.mem_cons_of_mem _ wlq_4_33)) (fun _ h9 => h9) rfl (dk_at dkX12_works_5 9 rfl) ?_
        refine lv_iconst (v := iI 0) hx hb (dk_at dkX12_works_5 10 rfl) (by decide +kernel) ?_
        refine x_lald hx hb hK hP 42 2 wm42 rfl (by omega) (by decide) (dk_at dkX12_works_5 11 rfl) (fun z17 hz17 => ?_)
        have rz17 : (-9223372036854775808 : Int) ≤ z17 ∧ z17 ≤ 9223372036854775807 := by rw [hz17]; exact hI 42 _
        have gz17 := Hd.mk hz17
        have hz17 : z17 = A4 42 (0 : Int).toNat := hz17
        exact RET z17 _ _ _ _ _ ⟨hk1 _ _ ⟨0 + 1, (u_d_X12_works_1 ⟨gI15.out, ⟨f9, ⟨f10, (Or.inl ⟨c16, ⟨z17, gz17.out, ⟨rfl, rfl⟩⟩⟩)⟩⟩⟩)⟩, hI, fr.trans (fr.rf) hj3 rfl rfl, by omega⟩ hP hS (dk_at dkX12_works_5 12 rfl)
      · have c16 : ¬ 1600 * (A 0 12) + x2 ≤ z1 := mt (i_le (by omega) (rb f9 (by decide) (by decide))).mpr c16
        refine lv_aload_n hx hb (dk_at dkX12_works_1 1 rfl) rfl (lv_at hl 2 rfl) ?_
        refine va_get (D := (dC, dI)) (ci := 12) (v := .ref (q 33)) (C := RX12) (T := TX12) (N := 85) hx hb hts hiX12 hown hK hP 0 wm0 rfl 44 (by decide) (hts _ (List.mem_cons_of_mem _ wlq_1_30)) (fun _ h9 => h9) rfl (dk_at dkX12_works_1 2 rfl) ?_
        refine lv_iload hx hb (dk_at dkX12_works_1 3 rfl) (lv_at hl 0 rfl) ?_
        have a_A4_33 : A4 33 = A 33 := (hj3.1 33 (by decide) rfl)
        refine x_iald hx hb hK hP 33 1 wm33 rfl (by omega) (by decide) (dk_at dkX12_works_1 4 rfl) (fun z18 hz18 => ?_)
        have rz18 : (0 : Int) ≤ z18 ∧ z18 ≤ 22 := by rw [hz18]; exact hI 33 _
        have gz18 := Hd.mk hz18
        have hz18 : z18 = A 33 (z1).toNat := hz18.trans (congrFun a_A4_33 _)
        refine lv_istore (lv' := [(5, .int (iI z18)), (4, .int (iI z1)), (3, .int (iI z2)), (0, .ref (q 0)), (1, .int (iI x1)), (2, .int (iI x2))]) hx hb (dk_at dkX12_works_1 5 rfl) hl (by decide) rfl (fun ls hl => ?_)
        have hop := hz18
        have gk := okcI (k := z1) hp1 (by omega) (by omega) f14.out hop
        refine lv_iload hx hb (dk_at dkX12_works_1 6 rfl) (lv_at hl 0 rfl) ?_
        refine lv_bipush (v := iI 9) hx hb (dk_at dkX12_works_1 7 rfl) (by decide +kernel) ?_
        refine lv_icmp_gt (tgt := 92) hx hb (dk_at dkX12_works_1 8 rfl) (by decide) (fun c19 => ?_) (fun c19 => ?_)
        · have c19 : 9 < z18 := (i_lt ⟨by decide, by decide⟩ (rb rz18 (by decide) (by decide))).mp c19
          refine lv_iload hx hb (dk_at dkX12_works_3 1 rfl) (lv_at hl 0 rfl) ?_
          refine lv_bipush (v := iI 22) hx hb (dk_at dkX12_works_3 2 rfl) (by decide +kernel) ?_
          refine lv_icmp_ne (tgt := 120) hx hb (dk_at dkX12_works_3 3 rfl) (by decide) (fun c20 => ?_) (fun c20 => ?_)
          · have c20 : ¬ z18 = 22 := mt (i_eq (rb rz18 (by decide) (by decide)) ⟨by decide, by decide⟩).mpr c20
            refine lv_iinc (v := iI (z2 - 1)) (lv' := [(3, .int (iI (z2 - 1))), (5, .int (iI z18)), (4, .int (iI z1)), (0, .ref (q 0)), (1, .int (iI x1)), (2, .int (iI x2))]) hx hb (dk_at dkX12_works_4 3 rfl) hl (k := 2) rfl (i_inc (by omega)) (by decide) rfl (fun ls hl => ?_)
            refine lv_aload_n hx hb (dk_at dkX12_works_4 4 rfl) rfl (lv_at hl 3 rfl) ?_
            refine va_get (D := (dC, dI)) (ci := 12) (v := .ref (q 42)) (C := RX12) (T := TX12) (N := 85) hx hb hts hiX12 hown hK hP 0 wm0 rfl 59 (by decide) (hts _ (List.mem_cons_of_mem _ wlq_4_33)) (fun _ h9 => h9) rfl (dk_at dkX12_works_4 5 rfl) ?_
            refine lv_iload_n hx hb (dk_at dkX12_works_4 6 rfl) rfl (lv_at hl 0 rfl) ?_
            refine lv_iconst (v := iI 1) hx hb (dk_at dkX12_works_4 7 rfl) (by decide +kernel) ?_
            refine x_subv (v := z2 - 2) hx hb (dk_at dkX12_works_4 8 rfl) (by omega) ?_
            refine lv_iload hx hb (dk_at dkX12_works_4 9 rfl) (lv_at hl 1 rfl) ?_
            refine lv_aload_n hx hb (dk_at dkX12_works_4 10 rfl) rfl (lv_at hl 3 rfl) ?_
            refine va_get (D := (dC, dI)) (ci := 12) (v := .ref (q 42)) (C := RX12) (T := TX12) (N := 85) hx hb hts hiX12 hown hK hP 0 wm0 rfl 59 (by decide) (hts _ (List.mem_cons_of_mem _ wlq_4_33)) (fun _ h9 => h9) rfl (dk_at dkX12_works_4 11 rfl) ?_
            refine lv_iload_n hx hb (dk_at dkX12_works_4 12 rfl) rfl (lv_at hl 0 rfl) ?_
            refine lv_iconst (v := iI 1) hx hb (dk_at dkX12_works_4 13 rfl) (by decide +kernel) ?_
            refine x_subv (v := z2 - 2) hx hb (dk_at dkX12_works_4 14 rfl) (by omega) ?_
            refine x_lald hx hb hK hP 42 2 wm42 rfl (by omega) (by decide) (dk_at dkX12_works_4 15 rfl) (fun z21 hz21 => ?_)
            have rz21 : (-9223372036854775808 : Int) ≤ z21 ∧ z21 ≤ 9223372036854775807 := by rw [hz21]; exact hI 42 _
            have gz21 := Hd.mk hz21
            have hz21 : z21 = A4 42 (z2 - 2).toNat := hz21
            refine lv_aload_n hx hb (dk_at dkX12_works_5 0 rfl) rfl (lv_at hl 3 rfl) ?_
            refine va_get (D := (dC, dI)) (ci := 12) (v := .ref (q 42)) (C := RX12) (T := TX12) (N := 85) hx hb hts hiX12 hown hK hP 0 wm0 rfl 59 (by decide) (hts _ (List.mem_cons_of_mem _ wlq_4_33)) (fun _ h9 => h9) rfl (dk_at dkX12_works_5 1 rfl) ?_
            refine lv_iload_n hx hb (dk_at dkX12_works_5 2 rfl) rfl (lv_at hl 0 rfl) ?_
            refine x_lald hx hb hK hP 42 2 wm42 rfl (by omega) (by decide) (dk_at dkX12_works_5 3 rfl) (fun z22 hz22 => ?_)
            have rz22 : (-9223372036854775808 : Int) ≤ z22 ∧ z22 ≤ 9223372036854775807 := by rw [hz22]; exact hI 42 _
            have gz22 := Hd.mk hz22
            have hz22 : z22 = A4 42 (z2 - 1).toNat := hz22
            refine x_callSl (As := [.int (iI z18), .long (jI z21), .long (jI z22)]) (rest := [.int (iI (z2 - 2)), .ref (q 42)]) ⟨hx, hb, hml, hown, hts⟩ (mc_X12_made l dC dI cB cI cJ cZ cQ q _ z18 z21 z22 hI (rb rz18 (by decide) (by decide)) rz21 rz22) (va_cwS 3 hts (goodS wlq_4_35 wlq_4_36 wlq_0_8 wlq_4_27) rfl rfl rfl (by decide +kernel) ⟨Nat.le_of_ble_eq_true rfl, Nat.le_of_ble_eq_true rfl⟩) hK hDD hA0 hP hS rfl hl.1 (Nat.le_of_ble_eq_true rfl) (dk_at dkX12_works_5 4 rfl) (fun z23 A24 H locs hw25 hP hS => ?_)
            obtain ⟨rfl, hw25⟩ := hw25
            have ghw25 : q_X12_made z18 z21 z22 A4 z23 := hw25
            have hw25 := hw25.2
            refine x_last hx hb hK hP hDD hS 42 2 wm42 rfl (by omega) (by decide) (dk_at dkX12_works_5 5 rfl) ws42 (fun H locs hP hS => ?_)
            have hI := hI.st (j := 42) (i := (z2 - 2).toNat) (v := z23) (show (-9223372036854775808 : Int) ≤ z23 ∧ z23 ≤ 9223372036854775807 from (by omega))
            refine lv_iinc (v := iI (z1 + 1)) (lv' := [(4, .int (iI (z1 + 1))), (3, .int (iI (z2 - 1))), (5, .int (iI z18)), (0, .ref (q 0)), (1, .int (iI x1)), (2, .int (iI x2))]) hx hb (dk_at dkX12_works_5 6 rfl) hl (k := 2) rfl (i_inc (by omega)) (by decide) rfl (fun ls hl => ?_)
            refine lv_goto (tgt := 14) hx hb (dk_at dkX12_works_5 7 rfl) (by decide) ?_
            obtain ⟨A26, hA26⟩ : ∃ A26 : St, A26 = (stA A4 42 (z2 - 2).toNat z23) := ⟨_, rfl⟩
            rw [← hA26] at hP hI
            exact ih6 _ (by omega) (z1 + 1) (z2 - 1) _ _ _ _ (by omega) (by omega) (by omega) (by omega) (by omega) (by omega) (by exact Hd.mk (dep_stepI (k := z1) (by omega) (by omega) f14.out hop (by omega))) (fun zq uq ⟨mm1, hq⟩ => hk1 _ _ ⟨mm1 + 1, (u_d_X12_works_1 ⟨gI15.out, ⟨f9, ⟨f10, (Or.inr ⟨c16, ⟨z18, gz18.out, (Or.inl ⟨c19, (Or.inl ⟨c20, ⟨z21, gz21.out, ⟨z22, gz22.out, ⟨z23, ghw25, ⟨A26, hA26, hq⟩⟩⟩⟩⟩)⟩)⟩⟩)⟩⟩⟩)⟩) rfl hI (fr_def hA26 (fr.st (fr.trans (fr.rf) hj3 rfl rfl) (by decide) rfl)) hP hS (lv_sub hl [0, 1, 3, 4, 5] rfl)
          · have c20 : z18 = 22 := (i_eq (rb rz18 (by decide) (by decide)) ⟨by decide, by decide⟩).mp c20
            refine lv_aload_n hx hb (dk_at dkX12_works_3 4 rfl) rfl (lv_at hl 3 rfl) ?_
            refine va_get (D := (dC, dI)) (ci := 12) (v := .ref (q 42)) (C := RX12) (T := TX12) (N := 85) hx hb hts hiX12 hown hK hP 0 wm0 rfl 59 (by decide) (hts _ (List.mem_cons_of_mem _ wlq_4_33)) (fun _ h9 => h9) rfl (dk_at dkX12_works_3 5 rfl) ?_
            refine lv_iload_n hx hb (dk_at dkX12_works_3 6 rfl) rfl (lv_at hl 2 rfl) ?_
            refine lv_iconst (v := iI 1) hx hb (dk_at dkX12_works_3 7 rfl) (by decide +kernel) ?_
            refine x_subv (v := z2 - 1) hx hb (dk_at dkX12_works_3 8 rfl) (by omega) ?_
            refine lv_lconst (v := jI 1) hx hb (dk_at dkX12_works_3 9 rfl) (by decide +kernel) ?_
            refine lv_aload_n hx hb (dk_at dkX12_works_3 10 rfl) rfl (lv_at hl 3 rfl) ?_
            refine va_get (D := (dC, dI)) (ci := 12) (v := .ref (q 42)) (C := RX12) (T := TX12) (N := 85) hx hb hts hiX12 hown hK hP 0 wm0 rfl 59 (by decide) (hts _ (List.mem_cons_of_mem _ wlq_4_33)) (fun _ h9 => h9) rfl (dk_at dkX12_works_3 11 rfl) ?_
            refine lv_iload_n hx hb (dk_at dkX12_works_3 12 rfl) rfl (lv_at hl 2 rfl) ?_
            refine lv_iconst (v := iI 1) hx hb (dk_at dkX12_works_3 13 rfl) (by decide +kernel) ?_
            refine x_subv (v := z2 - 1) hx hb (dk_at dkX12_works_3 14 rfl) (by omega) ?_
            refine x_lald hx hb hK hP 42 2 wm42 rfl (by omega) (by decide) (dk_at dkX12_works_3 15 rfl) (fun z27 hz27 => ?_)
            have rz27 : (-9223372036854775808 : Int) ≤ z27 ∧ z27 ≤ 9223372036854775807 := by rw [hz27]; exact hI 42 _
            have gz27 := Hd.mk hz27
            have hz27 : z27 = A4 42 (z2 - 1).toNat := hz27
            refine lv_lsub hx hb (dk_at dkX12_works_4 0 rfl) ?_
            refine x_abslE (fun z28 gz28 hz28 => ?_)
            refine x_last hx hb hK hP hDD hS 42 2 wm42 rfl (by omega) (by decide) (dk_at dkX12_works_4 1 rfl) ws42 (fun H locs hP hS => ?_)
            have hI := hI.st (j := 42) (i := (z2 - 1).toNat) (v := z28) (show (-9223372036854775808 : Int) ≤ z28 ∧ z28 ≤ 9223372036854775807 from (by omega))
            refine lv_goto (tgt := 150) hx hb (dk_at dkX12_works_4 2 rfl) (by decide) ?_
            refine lv_iinc (v := iI (z1 + 1)) (lv' := [(4, .int (iI (z1 + 1))), (5, .int (iI z18)), (3, .int (iI z2)), (0, .ref (q 0)), (1, .int (iI x1)), (2, .int (iI x2))]) hx hb (dk_at dkX12_works_5 6 rfl) hl (k := 1) rfl (i_inc (by omega)) (by decide) rfl (fun ls hl => ?_)
            refine lv_goto (tgt := 14) hx hb (dk_at dkX12_works_5 7 rfl) (by decide) ?_
            obtain ⟨A29, hA29⟩ : ∃ A29 : St, A29 = (stA A4 42 (z2 - 1).toNat z28) := ⟨_, rfl⟩
            rw [← hA29] at hP hI
            exact ih6 _ (by omega) (z1 + 1) z2 _ _ _ _ (by omega) (by omega) (by omega) (by omega) (by omega) (by omega) (by exact Hd.mk (dep_stepI (k := z1) (by omega) (by omega) f14.out hop (by omega))) (fun zq uq ⟨mm1, hq⟩ => hk1 _ _ ⟨mm1 + 1, (u_d_X12_works_1 ⟨gI15.out, ⟨f9, ⟨f10, (Or.inr ⟨c16, ⟨z18, gz18.out, (Or.inl ⟨c19, (Or.inr ⟨c20, ⟨z27, gz27.out, ⟨z28, gz28.out, ⟨A29, hA29, hq⟩⟩⟩⟩)⟩)⟩⟩)⟩⟩⟩)⟩) rfl hI (fr_def hA29 (fr.st (fr.trans (fr.rf) hj3 rfl rfl) (by decide) rfl)) hP hS (lv_sub hl [0, 2, 3, 4, 5] rfl)
        · have c19 : ¬ 9 < z18 := mt (i_lt ⟨by decide, by decide⟩ (rb rz18 (by decide) (by decide))).mpr c19
          refine lv_aload_n hx hb (dk_at dkX12_works_1 9 rfl) rfl (lv_at hl 3 rfl) ?_
          refine va_get (D := (dC, dI)) (ci := 12) (v := .ref (q 42)) (C := RX12) (T := TX12) (N := 85) hx hb hts hiX12 hown hK hP 0 wm0 rfl 59 (by decide) (hts _ (List.mem_cons_of_mem _ wlq_4_33)) (fun _ h9 => h9) rfl (dk_at dkX12_works_1 10 rfl) ?_
          refine lv_iload_n hx hb (dk_at dkX12_works_1 11 rfl) rfl (lv_at hl 2 rfl) ?_
          refine lv_iload hx hb (dk_at dkX12_works_1 12 rfl) (lv_at hl 0 rfl) ?_
          have J85_31 : ∀ (z37 : Int) (H : Heap) (locs : List Loc) (ls : Array Slot), (-9223372036854775808 ≤ z37 ∧ z37 ≤ 9223372036854775807) → (∀ (z : Int) (u : St), (∃ mm1 : Nat, (d_X12_works_2 (fun z1' z2' A4' => d_X12_works_1 x2 A z u mm1 z1' z2' A4') z1 z2 A4 z u z37)) → r_X12_works x1 x2 A z u) → va_P (dC, dI) vwCl (WM cI cJ cZ q A4) H → va_S AS s.heap H locs → lv_has ls 6 [(5, .int (iI z18)), (4, .int (iI z1)), (3, .int (iI z2)), (0, .ref (q 0)), (1, .int (iI x1)), (2, .int (iI x2))] → W p l e (headSpec ws_mb_X12_works ({ frames := 2, cells := 0, slots := 0, locals := 49 } : Room)).room s m [.ref (q 0), .int (iI x1), .int (iI x2)].toArray below meth c H locs 0 0 Q (F0 m 85 ls [.long (jI z37), .int (iI z2), .ref (q 42)]) := by
            intro z37 H locs ls f39 hk2 hP hS hl
            refine x_last hx hb hK hP hDD hS 42 2 wm42 rfl (by omega) (by decide) (dk_at dkX12_works_2 14 rfl) ws42 (fun H locs hP hS => ?_)
            have hI := hI.st (j := 42) (i := (z2).toNat) (v := z37) (show (-9223372036854775808 : Int) ≤ z37 ∧ z37 ≤ 9223372036854775807 from (by omega))
            refine lv_iinc (v := iI (z2 + 1)) (lv' := [(3, .int (iI (z2 + 1))), (5, .int (iI z18)), (4, .int (iI z1)), (0, .ref (q 0)), (1, .int (iI x1)), (2, .int (iI x2))]) hx hb (dk_at dkX12_works_2 15 rfl) hl (k := 2) rfl (i_inc (by omega)) (by decide) rfl (fun ls hl => ?_)
            refine lv_goto (tgt := 150) hx hb (dk_at dkX12_works_3 0 rfl) (by decide) ?_
            refine lv_iinc (v := iI (z1 + 1)) (lv' := [(4, .int (iI (z1 + 1))), (3, .int (iI (z2 + 1))), (5, .int (iI z18)), (0, .ref (q 0)), (1, .int (iI x1)), (2, .int (iI x2))]) hx hb (dk_at dkX12_works_5 6 rfl) hl (k := 2) rfl (i_inc (by omega)) (by decide) rfl (fun ls hl => ?_)
            refine lv_goto (tgt := 14) hx hb (dk_at dkX12_works_5 7 rfl) (by decide) ?_
            obtain ⟨A40, hA40⟩ : ∃ A40 : St, A40 = (stA A4 42 (z2).toNat z37) := ⟨_, rfl⟩
            rw [← hA40] at hP hI
            exact ih6 _ (by omega) (z1 + 1) (z2 + 1) _ _ _ _ (by omega) (by omega) (by omega) (by omega) (by omega) (by omega) (by exact Hd.mk (dep_stepI (k := z1) (by omega) (by omega) f14.out hop (by omega))) (fun zq uq ⟨mm1, hq⟩ => hk2 _ _ ⟨mm1, (u_d_X12_works_2 ⟨f39, ⟨A40, hA40, hq⟩⟩)⟩) rfl hI (fr_def hA40 (fr.st (fr.trans (fr.rf) hj3 rfl rfl) (by decide) rfl)) hP hS (lv_sub hl [0, 1, 3, 4, 5] rfl)
          refine lv_if_ne (tgt := 66) hx hb (dk_at dkX12_works_1 13 rfl) (by decide) (fun c30 => ?_) (fun c30 => ?_)
          · have c30 : ¬ z18 = 0 := mt (i_eq0 (rb rz18 (by decide) (by decide))).mpr c30
            refine lv_iload hx hb (dk_at dkX12_works_2 4 rfl) (lv_at hl 0 rfl) ?_
            refine lv_bipush (v := iI 9) hx hb (dk_at dkX12_works_2 5 rfl) (by decide +kernel) ?_
            refine lv_icmp_ne (tgt := 77) hx hb (dk_at dkX12_works_2 6 rfl) (by decide) (fun c32 => ?_) (fun c32 => ?_)
            · have c32 : ¬ z18 = 9 := mt (i_eq (rb rz18 (by decide) (by decide)) ⟨by decide, by decide⟩).mpr c32
              refine lv_aload_n hx hb (dk_at dkX12_works_2 9 rfl) rfl (lv_at hl 3 rfl) ?_
              refine va_get (D := (dC, dI)) (ci := 12) (v := .ref (q 43)) (C := RX12) (T := TX12) (N := 85) hx hb hts hiX12 hown hK hP 0 wm0 rfl 60 (by decide) (hts _ (List.mem_cons_of_mem _ wlq_4_34)) (fun _ h9 => h9) rfl (dk_at dkX12_works_2 10 rfl) ?_
              refine lv_iload hx hb (dk_at dkX12_works_2 11 rfl) (lv_at hl 0 rfl) ?_
              have a_A4_43 : A4 43 = A 43 := (hj3.1 43 (by decide) rfl)
              refine x_iald hx hb hK hP 43 1 wm43 rfl (by omega) (by decide) (dk_at dkX12_works_2 12 rfl) (fun z33 hz33 => ?_)
              have rz33 : (-2147483648 : Int) ≤ z33 ∧ z33 ≤ 2147483647 := by rw [hz33]; exact hI 43 _
              have gz33 := Hd.mk hz33
              have hz33 : z33 = A 43 (z18).toNat := hz33.trans (congrFun a_A4_43 _)
              refine lv_i2l hx hb (dk_at dkX12_works_2 13 rfl) rfl ?_
              refine x_abslE (fun z34 gz34 hz34 => ?_)
              exact J85_31 z34 _ _ _ (by omega) (fun zq uq ⟨mm1, hq⟩ => hk1 _ _ ⟨mm1 + 1, (u_d_X12_works_1 ⟨gI15.out, ⟨f9, ⟨f10, (Or.inr ⟨c16, ⟨z18, gz18.out, (Or.inr ⟨c19, (Or.inl ⟨c30, (Or.inl ⟨c32, ⟨z33, gz33.out, ⟨z34, gz34.out, hq⟩⟩⟩)⟩)⟩)⟩⟩)⟩⟩⟩)⟩) hP hS (lv_sub hl [0, 1, 2, 3, 4, 5] rfl)
            · have c32 : z18 = 9 := (i_eq (rb rz18 (by decide) (by decide)) ⟨by decide, by decide⟩).mp c32
              refine lv_lconst (v := jI 1) hx hb (dk_at dkX12_works_2 7 rfl) (by decide +kernel) ?_
              refine lv_goto (tgt := 85) hx hb (dk_at dkX12_works_2 8 rfl) (by decide) ?_
              exact J85_31 1 _ _ _ (by omega) (fun zq uq ⟨mm1, hq⟩ => hk1 _ _ ⟨mm1 + 1, (u_d_X12_works_1 ⟨gI15.out, ⟨f9, ⟨f10, (Or.inr ⟨c16, ⟨z18, gz18.out, (Or.inr ⟨c19, (Or.inl ⟨c30, (Or.inr ⟨c32, hq⟩)⟩)⟩)⟩⟩)⟩⟩⟩)⟩) hP hS (lv_sub hl [0, 1, 2, 3, 4, 5] rfl)
          · have c30 : z18 = 0 := (i_eq0 (rb rz18 (by decide) (by decide))).mp c30
            refine lv_aload_n hx hb (dk_at dkX12_works_1 14 rfl) rfl (lv_at hl 3 rfl) ?_
            refine va_get (D := (dC, dI)) (ci := 12) (v := .ref (q 34)) (C := RX12) (T := TX12) (N := 85) hx hb hts hiX12 hown hK hP 0 wm0 rfl 45 (by decide) (hts _ (List.mem_cons_of_mem _ wlq_1_32)) (fun _ h9 => h9) rfl (dk_at dkX12_works_1 15 rfl) ?_
            refine lv_iload hx hb (dk_at dkX12_works_2 0 rfl) (lv_at hl 1 rfl) ?_
            have a_A4_34 : A4 34 = A 34 := (hj3.1 34 (by decide) rfl)
            refine x_iald hx hb hK hP 34 1 wm34 rfl (by omega) (by decide) (dk_at dkX12_works_2 1 rfl) (fun z35 hz35 => ?_)
            have rz35 : (-2147483648 : Int) ≤ z35 ∧ z35 ≤ 2147483647 := by rw [hz35]; exact hI 34 _
            have gz35 := Hd.mk hz35
            have hz35 : z35 = A 34 (z1).toNat := hz35.trans (congrFun a_A4_34 _)
            refine lv_i2l hx hb (dk_at dkX12_works_2 2 rfl) rfl ?_
            refine x_abslE (fun z36 gz36 hz36 => ?_)
            refine lv_goto (tgt := 85) hx hb (dk_at dkX12_works_2 3 rfl) (by decide) ?_
            exact J85_31 z36 _ _ _ (by omega) (fun zq uq ⟨mm1, hq⟩ => hk1 _ _ ⟨mm1 + 1, (u_d_X12_works_1 ⟨gI15.out, ⟨f9, ⟨f10, (Or.inr ⟨c16, ⟨z18, gz18.out, (Or.inr ⟨c19, (Or.inr ⟨c30, ⟨z35, gz35.out, ⟨z36, gz36.out, hq⟩⟩⟩)⟩)⟩⟩)⟩⟩⟩)⟩) hP hS (lv_sub hl [0, 1, 2, 3, 4, 5] rfl)
  exact L14_5 _ (1600 * (A 0 12) + x1) 0 _ _ _ _ (by omega) (by omega) (by omega) (by omega) (by omega) (by omega) (by exact Hd.mk (by rw [show 1600 * (A 0 12) + x1 - (1600 * (A 0 12) + x1) = 0 by omega]; rfl)) (fun zq uq ⟨mm1, hq⟩ => (u_r_X12_works ⟨mm1, hq⟩)) rfl hI (fr.rf) hP hS (lv_sub hl [0, 1, 2, 3, 4] rfl)

abbrev tr_d_X12_isBarred_2 (K1 : Int → St → Prop) (z2 : Int) (z : Int) (u : St) (A35 : St) : Prop := ((IM A35) ∧ (K1 (z2 + 1) A35))
def d_X12_isBarred_2 (K1 : Int → St → Prop) (z2 : Int) (z : Int) (u : St) (A35 : St) : Prop := tr_d_X12_isBarred_2 K1 z2 z u A35
theorem u_d_X12_isBarred_2 {K1 : Int → St → Prop} {z2 : Int} {z : Int} {u : St} {A35 : St} (h : tr_d_X12_isBarred_2 K1 z2 z u A35) : d_X12_isBarred_2 K1 z2 z u A35 := h
abbrev tr_d_X12_isBarred_1 (x1 : Int) (A : St) (z : Int) (u : St) (K1 : Int → St → Prop) (z2 : Int) (A4 : St) : Prop := ((IM A4) ∧ ((0 ≤ z2 ∧ z2 ≤ 12) ∧ (∃ z13 : Int, z13 = A4 29 ((A 0 12)).toNat ∧ (((6 * (A 0 12) + z13 ≤ z2) ∧ (z = 0 ∧ u = A4)) ∨ ((¬ 6 * (A 0 12) + z13 ≤ z2) ∧ (∃ z15 : Int, z15 = A4 30 (z2).toNat ∧ (((¬ z15 = x1) ∧ (d_X12_isBarred_2 K1 z2 z u A4)) ∨ ((z15 = x1) ∧ (∃ z18 : Int, z18 = A4 31 (z2).toNat ∧ (∃ z19 : Int, z19 = A4 32 (z2).toNat ∧ (∃ z28 : Int, ∃ A29 : St, q_X12_works z18 z19 A4 z28 A29 ∧ (∃ z32 : Int, ((-1 ≤ z32 ∧ z32 ≤ 1) ∧ (z32 = 0 ↔ z28 = 1) ∧ (z32 < 0 ↔ z28 < 1)) ∧ (((¬ z32 = 0) ∧ (d_X12_isBarred_2 K1 z2 z u A29)) ∨ ((z32 = 0) ∧ (z = 1 ∧ u = A29)))))))))))))))
def d_X12_isBarred_1 (x1 : Int) (A : St) (z : Int) (u : St) : Nat → Int → St → Prop
  | 0, _, _ => False
  | nn9 + 1, z2, A4 => tr_d_X12_isBarred_1 x1 A z u (fun z2 A4 => d_X12_isBarred_1 x1 A z u nn9 z2 A4) z2 A4
theorem u_d_X12_isBarred_1 {x1 : Int} {A : St} {z : Int} {u : St} {nn9 : Nat} {z2 : Int} {A4 : St} (h : tr_d_X12_isBarred_1 x1 A z u (fun z2 A4 => d_X12_isBarred_1 x1 A z u nn9 z2 A4) z2 A4) : d_X12_isBarred_1 x1 A z u (nn9 + 1) z2 A4 := h
abbrev tr_r_X12_isBarred (x1 : Int) (x2 : Int) (x3 : Int) (x4 : Int) (x5 : Int) (A : St) (z : Int) (u : St) : Prop := (∃ A1 : St, A1 = (stA (stA (stA (stA A 43 (1 : Int).toNat x2) 43 (2 : Int).toNat x3) 43 (3 : Int).toNat x4) 43 (4 : Int).toNat x5) ∧ (∃ nn9 : Nat, d_X12_isBarred_1 x1 A z u nn9 (6 * (A 0 12)) A1))
def r_X12_isBarred (x1 : Int) (x2 : Int) (x3 : Int) (x4 : Int) (x5 : Int) (A : St) (z : Int) (u : St) : Prop := tr_r_X12_isBarred x1 x2 x3 x4 x5 A z u
theorem u_r_X12_isBarred {x1 : Int} {x2 : Int} {x3 : Int} {x4 : Int} {x5 : Int} {A : St} {z : Int} {u : St} (h : tr_r_X12_isBarred x1 x2 x3 x4 x5 A z u) : r_X12_isBarred x1 x2 x3 x4 x5 A z u := h
def q_X12_isBarred (x1 : Int) (x2 : Int) (x3 : Int) (x4 : Int) (x5 : Int) (A : St) (z : Int) (u : St) : Prop := r_X12_isBarred x1 x2 x3 x4 x5 A z u ∧ IM u ∧ fr [42, 43] [] A u ∧ CI u ∧ (0 ≤ z ∧ z ≤ 1)
def ws_mb_X12_isBarred : List Cond := .code yX12_isBarred cX12_isBarred 7 (some .boolean) :: WX
set_option maxHeartbeats 4000000 in
set_option maxRecDepth 100000 in
theorem mb_X12_isBarred (l : Launch) (dC : Nat → ClassId) (dI : Nat → Nat → Nat) (cB cI cJ cZ cQ : ClassId) (q : Nat → Nat) (A : St) (x1 x2 x3 x4 x5 : Int) (hI : IM A) (hx1 : (-2147483648 : Int) ≤ x1 ∧ x1 ≤ 2147483647) (hx2 : (-2147483648 : Int) ≤ x2 ∧ x2 ≤ 2147483647) (hx3 : (-2147483648 : Int) ≤ x3 ∧ x3 ≤ 2147483647) (hx4 : (-2147483648 : Int) ≤ x4 ∧ x4 ≤ 2147483647) (hx5 : (-2147483648 : Int) ≤ x5 ∧ x5 ≤ 2147483647) (hcCI : CI A) : XMi l yX12_isBarred ws_mb_X12_isBarred ({ frames := 3, cells := 0, slots := 0, locals := 74 } : Room) (dC, dI) (tyA cB cI cJ cZ cQ) (WM cI cJ cZ q) A [.ref (q 0), .int (iI x1), .int (iI x2), .int (iI x3), .int (iI x4), .int (iI x5)] (fun z u => r_X12_isBarred x1 x2 x3 x4 x5 A z u ∧ IM u ∧ fr [42, 43] [] A u ∧ CI u ∧ (0 ≤ z ∧ z ≤ 1)) := by
  refine x_metz (cc := cX12_isBarred) (maxL := 7) WM_adr (by decide +kernel) rfl (Nat.le_of_ble_eq_true rfl) (fun z u h => h.2.2.2.2) (fun p e s m below meth c Q AS ls hx hb hml hown hts hK hDD hA0 hP hS hl RET => ?_)
  have hown : s.vm.findClass RX12 = some m.cls := hown
  have hl : lv_has ls 7 [(0, .ref (q 0)), (1, .int (iI x1)), (2, .int (iI x2)), (3, .int (iI x3)), (4, .int (iI x4)), (5, .int (iI x5))] := hl
  have hiX12 : ∀ w ∈ u_ws RX12 TX12 85, w ∈ ws_mb_X12_isBarred := fun w h => List.mem_cons_of_mem _ (wx_lay w h)
  obtain ⟨H, hHe⟩ : ∃ H : Heap, H = s.heap := ⟨_, rfl⟩
  rw [← hHe] at hP
  have hS : va_S AS s.heap H [] := by rw [hHe]; exact hS
  suffices hgo : ∀ locs : List Loc, va_S AS s.heap H locs → W p l e (headSpec ws_mb_X12_isBarred ({ frames := 3, cells := 0, slots := 0, locals := 74 } : Room)).room s m [.ref (q 0), .int (iI x1), .int (iI x2), .int (iI x3), .int (iI x4), .int (iI x5)].toArray below meth c H locs 0 0 Q (F0 m 0 ls []) by
    have := hgo [] hS
    rw [hHe] at this
    exact this
  clear hS hHe
  intro locs hS
  have hI0 := hI
  refine lv_aload_n hx hb (dk_at dkX12_isBarred_0 0 rfl) rfl (lv_at hl 0 rfl) ?_
  refine va_get (D := (dC, dI)) (ci := 12) (v := .ref (q 43)) (C := RX12) (T := TX12) (N := 85) hx hb hts hiX12 hown hK hP 0 wm0 rfl 60 (by decide) (hts _ (List.mem_cons_of_mem _ wlq_4_34)) (fun _ h9 => h9) rfl (dk_at dkX12_isBarred_0 1 rfl) ?_
  refine lv_iconst (v := iI 1) hx hb (dk_at dkX12_isBarred_0 2 rfl) (by decide +kernel) ?_
  refine lv_iload_n hx hb (dk_at dkX12_isBarred_0 3 rfl) rfl (lv_at hl 2 rfl) ?_
  refine x_iast hx hb hK hP hDD hS 43 1 wm43 rfl (by omega) (by decide) (dk_at dkX12_isBarred_0 4 rfl) ws43 (fun H locs hP hS => ?_)
  have hI := hI.st (j := 43) (i := (1 : Int).toNat) (v := x2) (show (-2147483648 : Int) ≤ x2 ∧ x2 ≤ 2147483647 from (by omega))
  refine lv_aload_n hx hb (dk_at dkX12_isBarred_0 5 rfl) rfl (lv_at hl 0 rfl) ?_
  refine va_get (D := (dC, dI)) (ci := 12) (v := .ref (q 43)) (C := RX12) (T := TX12) (N := 85) hx hb hts hiX12 hown hK hP 0 wm0 rfl 60 (by decide) (hts _ (List.mem_cons_of_mem _ wlq_4_34)) (fun _ h9 => h9) rfl (dk_at dkX12_isBarred_0 6 rfl) ?_
  refine lv_iconst (v := iI 2) hx hb (dk_at dkX12_isBarred_0 7 rfl) (by decide +kernel) ?_
  refine lv_iload_n hx hb (dk_at dkX12_isBarred_0 8 rfl) rfl (lv_at hl 3 rfl) ?_
  refine x_iast hx hb hK hP hDD hS 43 1 wm43 rfl (by omega) (by decide) (dk_at dkX12_isBarred_0 9 rfl) ws43 (fun H locs hP hS => ?_)
  have hI := hI.st (j := 43) (i := (2 : Int).toNat) (v := x3) (show (-2147483648 : Int) ≤ x3 ∧ x3 ≤ 2147483647 from (by omega))
  refine lv_aload_n hx hb (dk_at dkX12_isBarred_0 10 rfl) rfl (lv_at hl 0 rfl) ?_
  refine va_get (D := (dC, dI)) (ci := 12) (v := .ref (q 43)) (C := RX12) (T := TX12) (N := 85) hx hb hts hiX12 hown hK hP 0 wm0 rfl 60 (by decide) (hts _ (List.mem_cons_of_mem _ wlq_4_34)) (fun _ h9 => h9) rfl (dk_at dkX12_isBarred_0 11 rfl) ?_
  refine lv_iconst (v := iI 3) hx hb (dk_at dkX12_isBarred_0 12 rfl) (by decide +kernel) ?_
  refine lv_iload hx hb (dk_at dkX12_isBarred_0 13 rfl) (lv_at hl 4 rfl) ?_
  refine x_iast hx hb hK hP hDD hS 43 1 wm43 rfl (by omega) (by decide) (dk_at dkX12_isBarred_0 14 rfl) ws43 (fun H locs hP hS => ?_)
  have hI := hI.st (j := 43) (i := (3 : Int).toNat) (v := x4) (show (-2147483648 : Int) ≤ x4 ∧ x4 ≤ 2147483647 from (by omega))
  refine lv_aload_n hx hb (dk_at dkX12_isBarred_0 15 rfl) rfl (lv_at hl 0 rfl) ?_
  refine va_get (D := (dC, dI)) (ci := 12) (v := .ref (q 43)) (C := RX12) (T := TX12) (N := 85) hx hb hts hiX12 hown hK hP 0 wm0 rfl 60 (by decide) (hts _ (List.mem_cons_of_mem _ wlq_4_34)) (fun _ h9 => h9) rfl (dk_at dkX12_isBarred_1 0 rfl) ?_
  refine lv_iconst (v := iI 4) hx hb (dk_at dkX12_isBarred_1 1 rfl) (by decide +kernel) ?_
  refine lv_iload hx hb (dk_at dkX12_isBarred_1 2 rfl) (lv_at hl 5 rfl) ?_
  refine x_iast hx hb hK hP hDD hS 43 1 wm43 rfl (by omega) (by decide) (dk_at dkX12_isBarred_1 3 rfl) ws43 (fun H locs hP hS => ?_)
  have hI := hI.st (j := 43) (i := (4 : Int).toNat) (v := x5) (show (-2147483648 : Int) ≤ x5 ∧ x5 ≤ 2147483647 from (by omega))
  refine lv_bipush (v := iI 6) hx hb (dk_at dkX12_isBarred_1 4 rfl) (by decide +kernel) ?_
  refine lv_aload_n hx hb (dk_at dkX12_isBarred_1 5 rfl) rfl (lv_at hl 0 rfl) ?_
  refine va_get (D := (dC, dI)) (ci := 12) (v := .int (iI (A 0 12))) (C := RX12) (T := TX12) (N := 85) hx hb hts hiX12 hown hK hP 0 wm0 rfl 12 (by decide) (hts _ (List.mem_cons_of_mem _ wlq_4_14)) (fun _ h9 => h9) rfl (dk_at dkX12_isBarred_1 6 rfl) ?_
  have r_A_0_12 : (0 : Int) ≤ (A 0 12) ∧ (A 0 12) ≤ 1 := hI 0 12
  refine x_mulv (v := 6 * (A 0 12)) hx hb (dk_at dkX12_isBarred_1 7 rfl) (by omega) ?_
  refine lv_istore (lv' := [(6, .int (iI (6 * (A 0 12)))), (0, .ref (q 0)), (1, .int (iI x1)), (2, .int (iI x2)), (3, .int (iI x3)), (4, .int (iI x4)), (5, .int (iI x5))]) hx hb (dk_at dkX12_isBarred_1 8 rfl) hl (by decide) rfl (fun ls hl => ?_)
  obtain ⟨A1, hA1⟩ : ∃ A1 : St, A1 = (stA (stA (stA (stA A 43 (1 : Int).toNat x2) 43 (2 : Int).toNat x3) 43 (3 : Int).toNat x4) 43 (4 : Int).toNat x5) := ⟨_, rfl⟩
  rw [← hA1] at hP hI
  have L39_6 : ∀ (n8 : Nat) (z2 : Int) (A4 : St) (H : Heap) (locs : List Loc) (ls : Array Slot), (6 * (A 0 12) ≤ z2) → (0 ≤ z2 ∧ z2 ≤ 12) → (6 * (A 0 12) ≤ z2) → (∀ (z : Int) (u : St), (∃ mm1 : Nat, (d_X12_isBarred_1 x1 A z u mm1 z2 A4)) → r_X12_isBarred x1 x2 x3 x4 x5 A z u) → ((6 * (A 0 12) + A 29 ((A 0 12)).toNat - z2 + 1).toNat = n8) → IM A4 → fr [42] [] A1 A4 → va_P (dC, dI) vwCl (WM cI cJ cZ q A4) H → va_S AS s.heap H locs → lv_has ls 7 [(6, .int (iI z2)), (0, .ref (q 0)), (1, .int (iI x1)), (2, .int (iI x2)), (3, .int (iI x3)), (4, .int (iI x4)), (5, .int (iI x5))] → W p l e (headSpec ws_mb_X12_isBarred ({ frames := 3, cells := 0, slots := 0, locals := 74 } : Room)).room s m [.ref (q 0), .int (iI x1), .int (iI x2), .int (iI x3), .int (iI x4), .int (iI x5)].toArray below meth c H locs 0 0 Q (F0 m 39 ls []) := by
    intro n8
    induction n8 using Nat.strongRecOn with
    | ind n8 ih7 =>
      intro z2 A4 H locs ls f9 f10 f11 hk1 hn8 hI hj3 hP hS hl
      have gI12 : Hd (IM A4) := Hd.mk hI
      refine lv_iload hx hb (dk_at dkX12_isBarred_1 9 rfl) (lv_at hl 0 rfl) ?_
      refine lv_bipush (v := iI 6) hx hb (dk_at dkX12_isBarred_1 10 rfl) (by decide +kernel) ?_
      refine lv_aload_n hx hb (dk_at dkX12_isBarred_1 11 rfl) rfl (lv_at hl 1 rfl) ?_
      have e_A1_12 : A1 0 12 = (A 0 12) := by rw [hA1]; exact rfl
      have e_A4_12 : A4 0 12 = (A 0 12) := (hj3.2 12 rfl).trans e_A1_12
      refine va_get (D := (dC, dI)) (ci := 12) (v := .int (iI (A4 0 12))) (C := RX12) (T := TX12) (N := 85) hx hb hts hiX12 hown hK hP 0 wm0 rfl 12 (by decide) (hts _ (List.mem_cons_of_mem _ wlq_4_14)) (fun _ h9 => h9) rfl (dk_at dkX12_isBarred_1 12 rfl) ?_
      refine tp_i (y := iI (A 0 12)) (congrArg iI e_A4_12) ?_
      refine x_mulv (v := 6 * (A 0 12)) hx hb (dk_at dkX12_isBarred_1 13 rfl) (by omega) ?_
      refine lv_aload_n hx hb (dk_at dkX12_isBarred_1 14 rfl) rfl (lv_at hl 1 rfl) ?_
      refine va_get (D := (dC, dI)) (ci := 12) (v := .ref (q 29)) (C := RX12) (T := TX12) (N := 85) hx hb hts hiX12 hown hK hP 0 wm0 rfl 40 (by decide) (hts _ (List.mem_cons_of_mem _ wlq_3_25)) (fun _ h9 => h9) rfl (dk_at dkX12_isBarred_1 15 rfl) ?_
      refine lv_aload_n hx hb (dk_at dkX12_isBarred_2 0 rfl) rfl (lv_at hl 1 rfl) ?_
      refine va_get (D := (dC, dI)) (ci := 12) (v := .int (iI (A4 0 12))) (C := RX12) (T := TX12) (N := 85) hx hb hts hiX12 hown hK hP 0 wm0 rfl 12 (by decide) (hts _ (List.mem_cons_of_mem _ wlq_4_14)) (fun _ h9 => h9) rfl (dk_at dkX12_isBarred_2 1 rfl) ?_
      refine tp_i (y := iI (A 0 12)) (congrArg iI e_A4_12) ?_
      have a_A1_29 : A1 29 = A 29 := by rw [hA1]; exact rfl
      have a_A4_29 : A4 29 = A 29 := (hj3.1 29 (by decide) rfl).trans a_A1_29
      refine x_iald hx hb hK hP 29 1 wm29 rfl (by omega) (by decide) (dk_at dkX12_isBarred_2 2 rfl) (fun z13 hz13 => ?_)
      have rz13 : (0 : Int) ≤ z13 ∧ z13 ≤ 6 := by rw [hz13]; exact hI 29 _
      have gz13 := Hd.mk hz13
      have hz13 : z13 = A 29 ((A 0 12)).toNat := hz13.trans (congrFun a_A4_29 _)
      refine x_addv (v := 6 * (A 0 12) + z13) hx hb (dk_at dkX12_isBarred_2 3 rfl) (by omega) ?_
      refine lv_icmp_ge (tgt := 103) hx hb (dk_at dkX12_isBarred_2 4 rfl) (by decide) (fun c14 => ?_) (fun c14 => ?_)
      · have c14 : 6 * (A 0 12) + z13 ≤ z2 := (i_le (by omega) (rb f10 (by decide) (by decide))).mp c14
        refine lv_iconst (v := iI 0) hx hb (dk_at dkX12_isBarred_3 12 rfl) (by decide +kernel) ?_
        exact RET 0 _ _ _ _ _ ⟨hk1 _ _ ⟨0 + 1, (u_d_X12_isBarred_1 ⟨gI12.out, ⟨f10, ⟨z13, gz13.out, (Or.inl ⟨c14, ⟨rfl, rfl⟩⟩)⟩⟩⟩)⟩, hI, fr.trans (fr_def hA1 (fr.st (fr.st (fr.st (fr.st (fr.rf) (by decide) rfl) (by decide) rfl) (by decide) rfl) (by decide) rfl)) hj3 rfl rfl, (CI.fr (CI.fr hcCI (fr_def hA1 (fr.st (fr.st (fr.st (fr.st (fr.rf (M := [43]) (N := [])) (by decide) rfl) (by decide) rfl) (by decide) rfl) (by decide) rfl)) rfl rfl) hj3 rfl rfl), by omega⟩ hP hS (dk_at dkX12_isBarred_3 13 rfl)
      · have c14 : ¬ 6 * (A 0 12) + z13 ≤ z2 := mt (i_le (by omega) (rb f10 (by decide) (by decide))).mpr c14
        refine lv_aload_n hx hb (dk_at dkX12_isBarred_2 5 rfl) rfl (lv_at hl 1 rfl) ?_
        refine va_get (D := (dC, dI)) (ci := 12) (v := .ref (q 30)) (C := RX12) (T := TX12) (N := 85) hx hb hts hiX12 hown hK hP 0 wm0 rfl 41 (by decide) (hts _ (List.mem_cons_of_mem _ wlq_3_26)) (fun _ h9 => h9) rfl (dk_at dkX12_isBarred_2 6 rfl) ?_
        refine lv_iload hx hb (dk_at dkX12_isBarred_2 7 rfl) (lv_at hl 0 rfl) ?_
        have a_A1_30 : A1 30 = A 30 := by rw [hA1]; exact rfl
        have a_A4_30 : A4 30 = A 30 := (hj3.1 30 (by decide) rfl).trans a_A1_30
        refine x_iald hx hb hK hP 30 1 wm30 rfl (by omega) (by decide) (dk_at dkX12_isBarred_2 8 rfl) (fun z15 hz15 => ?_)
        have rz15 : (0 : Int) ≤ z15 ∧ z15 ≤ 9 := by rw [hz15]; exact hI 30 _
        have gz15 := Hd.mk hz15
        have hz15 : z15 = A 30 (z2).toNat := hz15.trans (congrFun a_A4_30 _)
        refine lv_iload_n hx hb (dk_at dkX12_isBarred_2 9 rfl) rfl (lv_at hl 2 rfl) ?_
        have J97_17 : ∀ (A35 : St) (H : Heap) (locs : List Loc) (ls : Array Slot), (∀ (z : Int) (u : St), (∃ mm1 : Nat, (d_X12_isBarred_2 (fun z2' A4' => d_X12_isBarred_1 x1 A z u mm1 z2' A4') z2 z u A35)) → r_X12_isBarred x1 x2 x3 x4 x5 A z u) → IM A35 → fr [42] [] A4 A35 → va_P (dC, dI) vwCl (WM cI cJ cZ q A35) H → va_S AS s.heap H locs → lv_has ls 7 [(6, .int (iI z2)), (0, .ref (q 0)), (1, .int (iI x1)), (2, .int (iI x2)), (3, .int (iI x3)), (4, .int (iI x4)), (5, .int (iI x5))] → W p l e (headSpec ws_mb_X12_isBarred ({ frames := 3, cells := 0, slots := 0, locals := 74 } : Room)).room s m [.ref (q 0), .int (iI x1), .int (iI x2), .int (iI x3), .int (iI x4), .int (iI x5)].toArray below meth c H locs 0 0 Q (F0 m 97 ls []) := by
          intro A35 H locs ls hk2 hI hj34 hP hS hl
          have gI36 : Hd (IM A35) := Hd.mk hI
          refine lv_iinc (v := iI (z2 + 1)) (lv' := [(6, .int (iI (z2 + 1))), (0, .ref (q 0)), (1, .int (iI x1)), (2, .int (iI x2)), (3, .int (iI x3)), (4, .int (iI x4)), (5, .int (iI x5))]) hx hb (dk_at dkX12_isBarred_3 10 rfl) hl (k := 0) rfl (i_inc (by omega)) (by decide) rfl (fun ls hl => ?_)
          refine lv_goto (tgt := 39) hx hb (dk_at dkX12_isBarred_3 11 rfl) (by decide) ?_
          exact ih7 _ (by omega) (z2 + 1) _ _ _ _ (by omega) (by omega) (by omega) (fun zq uq ⟨mm1, hq⟩ => hk2 _ _ ⟨mm1, (u_d_X12_isBarred_2 ⟨gI36.out, hq⟩)⟩) rfl hI (fr.trans (fr.trans (fr.rf) hj3 rfl rfl) hj34 rfl rfl) hP hS (lv_sub hl [0, 1, 2, 3, 4, 5, 6] rfl)
        refine lv_icmp_ne (tgt := 97) hx hb (dk_at dkX12_isBarred_2 10 rfl) (by decide) (fun c16 => ?_) (fun c16 => ?_)
        · have c16 : ¬ z15 = x1 := mt (i_eq (rb rz15 (by decide) (by decide)) hx1).mpr c16
          exact J97_17 _ _ _ _ (fun zq uq ⟨mm1, hq⟩ => hk1 _ _ ⟨mm1 + 1, (u_d_X12_isBarred_1 ⟨gI12.out, ⟨f10, ⟨z13, gz13.out, (Or.inr ⟨c14, ⟨z15, gz15.out, (Or.inl ⟨c16, hq⟩)⟩⟩)⟩⟩⟩)⟩) hI (fr.rf) hP hS (lv_sub hl [0, 1, 2, 3, 4, 5, 6] rfl)
        · have c16 : z15 = x1 := (i_eq (rb rz15 (by decide) (by decide)) hx1).mp c16
          refine lv_aload_n hx hb (dk_at dkX12_isBarred_2 11 rfl) rfl (lv_at hl 1 rfl) ?_
          refine lv_aload_n hx hb (dk_at dkX12_isBarred_2 12 rfl) rfl (lv_at hl 1 rfl) ?_
          refine va_get (D := (dC, dI)) (ci := 12) (v := .ref (q 31)) (C := RX12) (T := TX12) (N := 85) hx hb hts hiX12 hown hK hP 0 wm0 rfl 42 (by decide) (hts _ (List.mem_cons_of_mem _ wlq_3_27)) (fun _ h9 => h9) rfl (dk_at dkX12_isBarred_2 13 rfl) ?_
          refine lv_iload hx hb (dk_at dkX12_isBarred_2 14 rfl) (lv_at hl 0 rfl) ?_
          have a_A1_31 : A1 31 = A 31 := by rw [hA1]; exact rfl
          have a_A4_31 : A4 31 = A 31 := (hj3.1 31 (by decide) rfl).trans a_A1_31
          refine x_iald hx hb hK hP 31 1 wm31 rfl (by omega) (by decide) (dk_at dkX12_isBarred_2 15 rfl) (fun z18 hz18 => ?_)
          have rz18 : (0 : Int) ≤ z18 ∧ z18 ≤ 1600 := by rw [hz18]; exact hI 31 _
          have gz18 := Hd.mk hz18
          have hz18 : z18 = A 31 (z2).toNat := hz18.trans (congrFun a_A4_31 _)
          refine lv_aload_n hx hb (dk_at dkX12_isBarred_3 0 rfl) rfl (lv_at hl 1 rfl) ?_
          refine va_get (D := (dC, dI)) (ci := 12) (v := .ref (q 32)) (C := RX12) (T := TX12) (N := 85) hx hb hts hiX12 hown hK hP 0 wm0 rfl 43 (by decide) (hts _ (List.mem_cons_of_mem _ wlq_3_28)) (fun _ h9 => h9) rfl (dk_at dkX12_isBarred_3 1 rfl) ?_
          refine lv_iload hx hb (dk_at dkX12_isBarred_3 2 rfl) (lv_at hl 0 rfl) ?_
          have a_A1_32 : A1 32 = A 32 := by rw [hA1]; exact rfl
          have a_A4_32 : A4 32 = A 32 := (hj3.1 32 (by decide) rfl).trans a_A1_32
          refine x_iald hx hb hK hP 32 1 wm32 rfl (by omega) (by decide) (dk_at dkX12_isBarred_3 3 rfl) (fun z19 hz19 => ?_)
          have rz19 : (0 : Int) ≤ z19 ∧ z19 ≤ 1600 := by rw [hz19]; exact hI 32 _
          have gz19 := Hd.mk hz19
          have hz19 : z19 = A 32 (z2).toNat := hz19.trans (congrFun a_A4_32 _)
          have ca20 : A1 29 = A 29 := by rw [hA1]; exact rfl
          have ca21 : A4 29 = A 29 := (hj3.1 29 (by decide) rfl).trans ca20
          have ca22 : A1 31 = A 31 := by rw [hA1]; exact rfl
          have ca23 : A4 31 = A 31 := (hj3.1 31 (by decide) rfl).trans ca22
          have ca24 : A1 32 = A 32 := by rw [hA1]; exact rfl
          have ca25 : A4 32 = A 32 := (hj3.1 32 (by decide) rfl).trans ca24
          have ca26 : A1 33 = A 33 := by rw [hA1]; exact rfl
          have ca27 : A4 33 = A 33 := (hj3.1 33 (by decide) rfl).trans ca26
          have gat := CI.at hcCI hI0 (k := z2) (x := z18) (y := z19) (by omega) hz18 hz19
          refine x_calll (As := [.int (iI z18), .int (iI z19)]) (rest := []) ⟨hx, hb, hml, hown, hts⟩ (mb_X12_works l dC dI cB cI cJ cZ cQ q _ z18 z19 hI rz18 rz19 (by exact gat.1) (by rw [ca27, e_A4_12]; exact gat.2)) (cwV 2 hts (goodV wlq_5_30 wlq_5_31 wlq_5_32 wlq_0_8 wlq_4_32) rfl rfl rfl (by decide +kernel) ⟨Nat.le_of_ble_eq_true rfl, Nat.le_of_ble_eq_true rfl⟩) hK hDD hA0 hP hS 0 12 wm0 rfl rfl hl.1 (Nat.le_of_ble_eq_true rfl) (dk_at dkX12_isBarred_3 4 rfl) (fun z28 A29 H locs hw30 hP hS => ?_)
          have ghw30 : q_X12_works z18 z19 A4 z28 A29 := hw30
          obtain ⟨_, hI, hf31, hw30⟩ := hw30
          refine lv_lconst (v := jI 1) hx hb (dk_at dkX12_isBarred_3 5 rfl) (by decide +kernel) ?_
          refine x_lcmp hx hb (dk_at dkX12_isBarred_3 6 rfl) (by omega) (by omega) (fun z32 hz32 hz32b hz32c => ?_)
          have gz32 := Hd.mk (And.intro hz32 (And.intro hz32b hz32c))
          refine lv_if_ne (tgt := 97) hx hb (dk_at dkX12_isBarred_3 7 rfl) (by decide) (fun c33 => ?_) (fun c33 => ?_)
          · have c33 : ¬ z32 = 0 := mt (i_eq0 (by omega)).mpr c33
            exact J97_17 _ _ _ _ (fun zq uq ⟨mm1, hq⟩ => hk1 _ _ ⟨mm1 + 1, (u_d_X12_isBarred_1 ⟨gI12.out, ⟨f10, ⟨z13, gz13.out, (Or.inr ⟨c14, ⟨z15, gz15.out, (Or.inr ⟨c16, ⟨z18, gz18.out, ⟨z19, gz19.out, ⟨z28, A29, ghw30, ⟨z32, gz32.out, (Or.inl ⟨c33, hq⟩)⟩⟩⟩⟩⟩)⟩⟩)⟩⟩⟩)⟩) hI (fr.trans (fr.rf) hf31 rfl rfl) hP hS (lv_sub hl [0, 1, 2, 3, 4, 5, 6] rfl)
          · have c33 : z32 = 0 := (i_eq0 (by omega)).mp c33
            refine lv_iconst (v := iI 1) hx hb (dk_at dkX12_isBarred_3 8 rfl) (by decide +kernel) ?_
            exact RET 1 _ _ _ _ _ ⟨hk1 _ _ ⟨0 + 1, (u_d_X12_isBarred_1 ⟨gI12.out, ⟨f10, ⟨z13, gz13.out, (Or.inr ⟨c14, ⟨z15, gz15.out, (Or.inr ⟨c16, ⟨z18, gz18.out, ⟨z19, gz19.out, ⟨z28, A29, ghw30, ⟨z32, gz32.out, (Or.inr ⟨c33, ⟨rfl, rfl⟩⟩)⟩⟩⟩⟩⟩)⟩⟩)⟩⟩⟩)⟩, hI, fr.trans (fr.trans (fr_def hA1 (fr.st (fr.st (fr.st (fr.st (fr.rf) (by decide) rfl) (by decide) rfl) (by decide) rfl) (by decide) rfl)) hj3 rfl rfl) hf31 rfl rfl, (CI.fr (CI.fr (CI.fr hcCI (fr_def hA1 (fr.st (fr.st (fr.st (fr.st (fr.rf (M := [43]) (N := [])) (by decide) rfl) (by decide) rfl) (by decide) rfl) (by decide) rfl)) rfl rfl) hj3 rfl rfl) hf31 rfl rfl), by omega⟩ hP hS (dk_at dkX12_isBarred_3 9 rfl)
  exact L39_6 _ (6 * (A 0 12)) _ _ _ _ (by omega) (by omega) (by omega) (fun zq uq ⟨mm1, hq⟩ => (u_r_X12_isBarred ⟨A1, hA1, ⟨mm1, hq⟩⟩)) rfl hI (fr.rf) hP hS (lv_sub hl [0, 1, 2, 3, 4, 5, 6] rfl)

abbrev tr_r_X12_gone (x1 : Int) (x2 : Int) (A : St) (z : Int) (u : St) : Prop := (∃ z1 : Int, q_X12_placeOf x1 A z1 ∧ (∃ z4 : Int, q_X12_door10 x2 A z4 ∧ (∃ z7 : Int, z7 = A 8 (10 * (A 0 12) + x2).toNat ∧ (((¬ z7 = 0) ∧ (z = (-1) ∧ u = A)) ∨ ((z7 = 0) ∧ (∃ z9 : Int, q_X12_isAt z1 x2 A z9 ∧ (((z9 = 0) ∧ (z = (-1) ∧ u = A)) ∨ ((¬ z9 = 0) ∧ (∃ z13 : Int, q_X12_isShut x2 A z13 ∧ (((¬ z13 = 0) ∧ (z = (-1) ∧ u = A)) ∨ ((z13 = 0) ∧ (∃ z17 : Int, q_X12_keysOf x1 A z17 ∧ (∃ z20 : Int, q_X12_bitsOf z17 A z20 ∧ (∃ z23 : Int, q_X12_closedAll A z23 ∧ (∃ z26 : Int, ∃ A27 : St, q_X12_isBarred x2 x1 z1 z20 z23 A z26 A27 ∧ (((z26 = 0) ∧ (∃ z32 : Int, q_X12_otherSide x2 z1 A27 z32 ∧ (∃ A35 : St, A35 = (stA A27 18 (3 * (A 0 12) + x1).toNat z32) ∧ (∃ z36 : Int, q_X12_placeOf x1 A35 z36 ∧ (z = z36 ∧ u = A35))))) ∨ ((¬ z26 = 0) ∧ (z = (-1) ∧ u = A27))))))))))))))))))
def r_X12_gone (x1 : Int) (x2 : Int) (A : St) (z : Int) (u : St) : Prop := tr_r_X12_gone x1 x2 A z u
theorem u_r_X12_gone {x1 : Int} {x2 : Int} {A : St} {z : Int} {u : St} (h : tr_r_X12_gone x1 x2 A z u) : r_X12_gone x1 x2 A z u := h
def q_X12_gone (x1 : Int) (x2 : Int) (A : St) (z : Int) (u : St) : Prop := r_X12_gone x1 x2 A z u ∧ IM u ∧ fr [18, 42, 43] [] A u ∧ CI u ∧ (-2147483648 ≤ z ∧ z ≤ 2147483647)
def ws_mb_X12_gone : List Cond := .code yX12_gone cX12_gone 4 (some .int) :: WX
set_option maxHeartbeats 4000000 in
set_option maxRecDepth 100000 in
theorem mb_X12_gone (l : Launch) (dC : Nat → ClassId) (dI : Nat → Nat → Nat) (cB cI cJ cZ cQ : ClassId) (q : Nat → Nat) (A : St) (x1 x2 : Int) (hI : IM A) (hx1 : (0 : Int) ≤ x1 ∧ x1 ≤ 2) (hx2 : (0 : Int) ≤ x2 ∧ x2 ≤ 9) (hcCI : CI A) : XMi l yX12_gone ws_mb_X12_gone ({ frames := 4, cells := 0, slots := 0, locals := 100 } : Room) (dC, dI) (tyA cB cI cJ cZ cQ) (WM cI cJ cZ q) A [.ref (q 0), .int (iI x1), .int (iI x2)] (fun z u => r_X12_gone x1 x2 A z u ∧ IM u ∧ fr [18, 42, 43] [] A u ∧ CI u ∧ (-2147483648 ≤ z ∧ z ≤ 2147483647)) := by
  refine x_meti (cc := cX12_gone) (maxL := 4) WM_adr (by decide +kernel) rfl (Nat.le_of_ble_eq_true rfl) (fun p e s m below meth c Q AS ls hx hb hml hown hts hK hDD hA0 hP hS hl RET => ?_)
  have hown : s.vm.findClass RX12 = some m.cls := hown
  have hl : lv_has ls 4 [(0, .ref (q 0)), (1, .int (iI x1)), (2, .int (iI x2))] := hl
  have hiX12 : ∀ w ∈ u_ws RX12 TX12 85, w ∈ ws_mb_X12_gone := fun w h => List.mem_cons_of_mem _ (wx_lay w h)
  obtain ⟨H, hHe⟩ : ∃ H : Heap, H = s.heap := ⟨_, rfl⟩
  rw [← hHe] at hP
  have hS : va_S AS s.heap H [] := by rw [hHe]; exact hS
  suffices hgo : ∀ locs : List Loc, va_S AS s.heap H locs → W p l e (headSpec ws_mb_X12_gone ({ frames := 4, cells := 0, slots := 0, locals := 100 } : Room)).room s m [.ref (q 0), .int (iI x1), .int (iI x2)].toArray below meth c H locs 0 0 Q (F0 m 0 ls []) by
    have := hgo [] hS
    rw [hHe] at this
    exact this
  clear hS hHe
  intro locs hS
  refine lv_aload_n hx hb (dk_at dkX12_gone_0 0 rfl) rfl (lv_at hl 0 rfl) ?_
  refine lv_iload_n hx hb (dk_at dkX12_gone_0 1 rfl) rfl (lv_at hl 1 rfl) ?_
  refine x_calli (As := [.int (iI x1)]) (rest := []) ⟨hx, hb, hml, hown, hts⟩ (mc_X12_placeOf l dC dI cB cI cJ cZ cQ q _ x1 hI hx1) (cwV 1 hts (goodV wlq_5_35 wlq_5_36 wlq_5_37 wlq_0_8 wlq_5_25) rfl rfl rfl (by decide +kernel) ⟨Nat.le_of_ble_eq_true rfl, Nat.le_of_ble_eq_true rfl⟩) hK hDD hA0 hP hS 0 12 wm0 rfl rfl hl.1 (Nat.le_of_ble_eq_true rfl) (dk_at dkX12_gone_0 2 rfl) (fun z1 A2 H locs hw3 hP hS => ?_)
  obtain ⟨rfl, hw3⟩ := hw3
  have ghw3 : q_X12_placeOf x1 A z1 := hw3
  have hw3 := hw3.2
  refine lv_istore_n (lv' := [(3, .int (iI z1)), (0, .ref (q 0)), (1, .int (iI x1)), (2, .int (iI x2))]) hx hb (dk_at dkX12_gone_0 3 rfl) rfl hl (by decide) rfl (fun ls hl => ?_)
  refine lv_aload_n hx hb (dk_at dkX12_gone_0 4 rfl) rfl (lv_at hl 1 rfl) ?_
  refine va_get (D := (dC, dI)) (ci := 12) (v := .ref (q 8)) (C := RX12) (T := TX12) (N := 85) hx hb hts hiX12 hown hK hP 0 wm0 rfl 19 (by decide) (hts _ (List.mem_cons_of_mem _ wlq_2_41)) (fun _ h9 => h9) rfl (dk_at dkX12_gone_0 5 rfl) ?_
  refine lv_aload_n hx hb (dk_at dkX12_gone_0 6 rfl) rfl (lv_at hl 1 rfl) ?_
  refine lv_iload_n hx hb (dk_at dkX12_gone_0 7 rfl) rfl (lv_at hl 3 rfl) ?_
  have r_A_0_12 : (0 : Int) ≤ (A 0 12) ∧ (A 0 12) ≤ 1 := hI 0 12
  refine x_calli (As := [.int (iI x2)]) (rest := [.ref (q 8)]) ⟨hx, hb, hml, hown, hts⟩ (mc_X12_door10 l dC dI cB cI cJ cZ cQ q _ x2 hI hx2) (cwV 1 hts (goodV wlq_4_49 wlq_4_50 wlq_4_51 wlq_0_8 wlq_4_42) rfl rfl rfl (by decide +kernel) ⟨Nat.le_of_ble_eq_true rfl, Nat.le_of_ble_eq_true rfl⟩) hK hDD hA0 hP hS 0 12 wm0 rfl rfl hl.1 (Nat.le_of_ble_eq_true rfl) (dk_at dkX12_gone_0 8 rfl) (fun z4 A5 H locs hw6 hP hS => ?_)
  obtain ⟨rfl, hw6⟩ := hw6
  have ghw6 : q_X12_door10 x2 A z4 := hw6
  have hw6 := hw6.2
  refine tp_i (y := iI (10 * (A 0 12) + x2)) (congrArg iI (show z4 = 10 * (A 0 12) + x2 by omega)) ?_
  clear hw6
  refine x_zald hx hb hK hP 8 3 wm8 rfl (by omega) (by decide) (dk_at dkX12_gone_0 9 rfl) (fun z7 hz7 => ?_)
  have rz7 : (0 : Int) ≤ z7 ∧ z7 ≤ 1 := by rw [hz7]; exact hI 8 _
  have gz7 := Hd.mk hz7
  have hz7 : z7 = A 8 (10 * (A 0 12) + x2).toNat := hz7
  refine lv_if_ne (tgt := 58) hx hb (dk_at dkX12_gone_0 10 rfl) (by decide) (fun c8 => ?_) (fun c8 => ?_)
  · have c8 : ¬ z7 = 0 := mt (i_eq0 (rb rz7 (by decide) (by decide))).mpr c8
    refine lv_iconst (v := iI (-1)) hx hb (dk_at dkX12_gone_2 0 rfl) (by decide +kernel) ?_
    exact RET (-1) _ _ _ _ _ ⟨(u_r_X12_gone ⟨z1, ghw3, ⟨z4, ghw6, ⟨z7, gz7.out, (Or.inl ⟨c8, ⟨rfl, rfl⟩⟩)⟩⟩⟩), hI, fr.rf, hcCI, by omega⟩ hP hS (dk_at dkX12_gone_2 1 rfl)
  · have c8 : z7 = 0 := (i_eq0 (rb rz7 (by decide) (by decide))).mp c8
    refine lv_aload_n hx hb (dk_at dkX12_gone_0 11 rfl) rfl (lv_at hl 1 rfl) ?_
    refine lv_iload_n hx hb (dk_at dkX12_gone_0 12 rfl) rfl (lv_at hl 0 rfl) ?_
    refine lv_iload_n hx hb (dk_at dkX12_gone_0 13 rfl) rfl (lv_at hl 3 rfl) ?_
    refine x_calli (As := [.int (iI z1), .int (iI x2)]) (rest := []) ⟨hx, hb, hml, hown, hts⟩ (mc_X12_isAt l dC dI cB cI cJ cZ cQ q _ z1 x2 hI (rb hw3 (by decide) (by decide)) hx2) (cwV 2 hts (goodV wlq_5_38 wlq_5_39 wlq_5_40 wlq_0_8 wlq_5_28) rfl rfl rfl (by decide +kernel) ⟨Nat.le_of_ble_eq_true rfl, Nat.le_of_ble_eq_true rfl⟩) hK hDD hA0 hP hS 0 12 wm0 rfl rfl hl.1 (Nat.le_of_ble_eq_true rfl) (dk_at dkX12_gone_0 14 rfl) (fun z9 A10 H locs hw11 hP hS => ?_)
    obtain ⟨rfl, hw11⟩ := hw11
    have ghw11 : q_X12_isAt z1 x2 A z9 := hw11
    have hw11 := hw11.2
    refine lv_if_eq (tgt := 58) hx hb (dk_at dkX12_gone_0 15 rfl) (by decide) (fun c12 => ?_) (fun c12 => ?_)
    · have c12 : z9 = 0 := (i_eq0 (rb hw11 (by decide) (by decide))).mp c12
      refine lv_iconst (v := iI (-1)) hx hb (dk_at dkX12_gone_2 0 rfl) (by decide +kernel) ?_
      exact RET (-1) _ _ _ _ _ ⟨(u_r_X12_gone ⟨z1, ghw3, ⟨z4, ghw6, ⟨z7, gz7.out, (Or.inr ⟨c8, ⟨z9, ghw11, (Or.inl ⟨c12, ⟨rfl, rfl⟩⟩)⟩⟩)⟩⟩⟩), hI, fr.rf, hcCI, by omega⟩ hP hS (dk_at dkX12_gone_2 1 rfl)
    · have c12 : ¬ z9 = 0 := mt (i_eq0 (rb hw11 (by decide) (by decide))).mpr c12
      refine lv_aload_n hx hb (dk_at dkX12_gone_1 0 rfl) rfl (lv_at hl 1 rfl) ?_
      refine lv_iload_n hx hb (dk_at dkX12_gone_1 1 rfl) rfl (lv_at hl 3 rfl) ?_
      refine x_calli (As := [.int (iI x2)]) (rest := []) ⟨hx, hb, hml, hown, hts⟩ (mc_X12_isShut l dC dI cB cI cJ cZ cQ q _ x2 hI hx2) (cwV 1 hts (goodV wlq_4_57 wlq_4_58 wlq_4_59 wlq_0_8 wlq_4_48) rfl rfl rfl (by decide +kernel) ⟨Nat.le_of_ble_eq_true rfl, Nat.le_of_ble_eq_true rfl⟩) hK hDD hA0 hP hS 0 12 wm0 rfl rfl hl.1 (Nat.le_of_ble_eq_true rfl) (dk_at dkX12_gone_1 2 rfl) (fun z13 A14 H locs hw15 hP hS => ?_)
      obtain ⟨rfl, hw15⟩ := hw15
      have ghw15 : q_X12_isShut x2 A z13 := hw15
      have hw15 := hw15.2
      refine lv_if_ne (tgt := 58) hx hb (dk_at dkX12_gone_1 3 rfl) (by decide) (fun c16 => ?_) (fun c16 => ?_)
      · have c16 : ¬ z13 = 0 := mt (i_eq0 (rb hw15 (by decide) (by decide))).mpr c16
        refine lv_iconst (v := iI (-1)) hx hb (dk_at dkX12_gone_2 0 rfl) (by decide +kernel) ?_
        exact RET (-1) _ _ _ _ _ ⟨(u_r_X12_gone ⟨z1, ghw3, ⟨z4, ghw6, ⟨z7, gz7.out, (Or.inr ⟨c8, ⟨z9, ghw11, (Or.inr ⟨c12, ⟨z13, ghw15, (Or.inl ⟨c16, ⟨rfl, rfl⟩⟩)⟩⟩)⟩⟩)⟩⟩⟩), hI, fr.rf, hcCI, by omega⟩ hP hS (dk_at dkX12_gone_2 1 rfl)
      · have c16 : z13 = 0 := (i_eq0 (rb hw15 (by decide) (by decide))).mp c16
        refine lv_aload_n hx hb (dk_at dkX12_gone_1 4 rfl) rfl (lv_at hl 1 rfl) ?_
        refine lv_iload_n hx hb (dk_at dkX12_gone_1 5 rfl) rfl (lv_at hl 3 rfl) ?_
        refine lv_iload_n hx hb (dk_at dkX12_gone_1 6 rfl) rfl (lv_at hl 2 rfl) ?_
        refine lv_iload_n hx hb (dk_at dkX12_gone_1 7 rfl) rfl (lv_at hl 0 rfl) ?_
        refine lv_aload_n hx hb (dk_at dkX12_gone_1 8 rfl) rfl (lv_at hl 1 rfl) ?_
        refine lv_iload_n hx hb (dk_at dkX12_gone_1 9 rfl) rfl (lv_at hl 2 rfl) ?_
        refine x_calli (As := [.int (iI x1)]) (rest := [.int (iI z1), .int (iI x1), .int (iI x2), .ref (q 0)]) ⟨hx, hb, hml, hown, hts⟩ (mc_X12_keysOf l dC dI cB cI cJ cZ cQ q _ x1 hI (rb hx1 (by decide) (by decide))) (cwV 1 hts (goodV wlq_5_41 wlq_5_42 wlq_5_43 wlq_0_8 wlq_5_26) rfl rfl rfl (by decide +kernel) ⟨Nat.le_of_ble_eq_true rfl, Nat.le_of_ble_eq_true rfl⟩) hK hDD hA0 hP hS 0 12 wm0 rfl rfl hl.1 (Nat.le_of_ble_eq_true rfl) (dk_at dkX12_gone_1 10 rfl) (fun z17 A18 H locs hw19 hP hS => ?_)
        obtain ⟨rfl, hw19⟩ := hw19
        have ghw19 : q_X12_keysOf x1 A z17 := hw19
        have hw19 := hw19.2
        refine x_callSi (As := [.int (iI z17)]) (rest := [.int (iI z1), .int (iI x1), .int (iI x2), .ref (q 0)]) ⟨hx, hb, hml, hown, hts⟩ (mc_X12_bitsOf l dC dI cB cI cJ cZ cQ q _ z17 hI hw19) (va_cwS 1 hts (goodS wlq_5_44 wlq_5_45 wlq_0_8 wlq_5_27) rfl rfl rfl (by decide +kernel) ⟨Nat.le_of_ble_eq_true rfl, Nat.le_of_ble_eq_true rfl⟩) hK hDD hA0 hP hS rfl hl.1 (Nat.le_of_ble_eq_true rfl) (dk_at dkX12_gone_1 11 rfl) (fun z20 A21 H locs hw22 hP hS => ?_)
        obtain ⟨rfl, hw22⟩ := hw22
        have ghw22 : q_X12_bitsOf z17 A z20 := hw22
        have hw22 := hw22.2
        refine lv_aload_n hx hb (dk_at dkX12_gone_1 12 rfl) rfl (lv_at hl 1 rfl) ?_
        refine x_calli (As := []) (rest := [.int (iI z20), .int (iI z1), .int (iI x1), .int (iI x2), .ref (q 0)]) ⟨hx, hb, hml, hown, hts⟩ (mc_X12_closedAll l dC dI cB cI cJ cZ cQ q _ hI) (cwV 0 hts (goodV wlq_5_1 wlq_5_2 wlq_5_3 wlq_0_8 wlq_4_56) rfl rfl rfl (by decide +kernel) ⟨Nat.le_of_ble_eq_true rfl, Nat.le_of_ble_eq_true rfl⟩) hK hDD hA0 hP hS 0 12 wm0 rfl rfl hl.1 (Nat.le_of_ble_eq_true rfl) (dk_at dkX12_gone_1 13 rfl) (fun z23 A24 H locs hw25 hP hS => ?_)
        obtain ⟨rfl, hw25⟩ := hw25
        have ghw25 : q_X12_closedAll A z23 := hw25
        have hw25 := hw25.2
        refine x_calli (As := [.int (iI x2), .int (iI x1), .int (iI z1), .int (iI z20), .int (iI z23)]) (rest := []) ⟨hx, hb, hml, hown, hts⟩ (mb_X12_isBarred l dC dI cB cI cJ cZ cQ q _ x2 x1 z1 z20 z23 hI (rb hx2 (by decide) (by decide)) (rb hx1 (by decide) (by decide)) (rb hw3 (by decide) (by decide)) hw22 hw25 hcCI) (cwV 5 hts (goodV wlq_5_46 wlq_5_47 wlq_5_48 wlq_0_8 wlq_5_29) rfl rfl rfl (by decide +kernel) ⟨Nat.le_of_ble_eq_true rfl, Nat.le_of_ble_eq_true rfl⟩) hK hDD hA0 hP hS 0 12 wm0 rfl rfl hl.1 (Nat.le_of_ble_eq_true rfl) (dk_at dkX12_gone_1 14 rfl) (fun z26 A27 H locs hw28 hP hS => ?_)
        have ghw28 : q_X12_isBarred x2 x1 z1 z20 z23 A z26 A27 := hw28
        obtain ⟨_, hI, hf29, hw28⟩ := hw28
        obtain ⟨hc30, hw28⟩ := hw28
        refine lv_if_eq (tgt := 60) hx hb (dk_at dkX12_gone_1 15 rfl) (by decide) (fun c31 => ?_) (fun c31 => ?_)
        · have c31 : z26 = 0 := (i_eq0 (rb hw28 (by decide) (by decide))).mp c31
          refine lv_aload_n hx hb (dk_at dkX12_gone_2 2 rfl) rfl (lv_at hl 1 rfl) ?_
          refine va_get (D := (dC, dI)) (ci := 12) (v := .ref (q 18)) (C := RX12) (T := TX12) (N := 85) hx hb hts hiX12 hown hK hP 0 wm0 rfl 29 (by decide) (hts _ (List.mem_cons_of_mem _ wlq_3_4)) (fun _ h9 => h9) rfl (dk_at dkX12_gone_2 3 rfl) ?_
          refine lv_iconst (v := iI 3) hx hb (dk_at dkX12_gone_2 4 rfl) (by decide +kernel) ?_
          refine lv_aload_n hx hb (dk_at dkX12_gone_2 5 rfl) rfl (lv_at hl 1 rfl) ?_
          have e_A27_12 : A27 0 12 = (A 0 12) := (hf29.2 12 rfl)
          refine va_get (D := (dC, dI)) (ci := 12) (v := .int (iI (A27 0 12))) (C := RX12) (T := TX12) (N := 85) hx hb hts hiX12 hown hK hP 0 wm0 rfl 12 (by decide) (hts _ (List.mem_cons_of_mem _ wlq_4_14)) (fun _ h9 => h9) rfl (dk_at dkX12_gone_2 6 rfl) ?_
          refine tp_i (y := iI (A 0 12)) (congrArg iI e_A27_12) ?_
          refine x_mulv (v := 3 * (A 0 12)) hx hb (dk_at dkX12_gone_2 7 rfl) (by omega) ?_
          refine lv_iload_n hx hb (dk_at dkX12_gone_2 8 rfl) rfl (lv_at hl 2 rfl) ?_
          refine x_addv (v := 3 * (A 0 12) + x1) hx hb (dk_at dkX12_gone_2 9 rfl) (by omega) ?_
          refine lv_aload_n hx hb (dk_at dkX12_gone_2 10 rfl) rfl (lv_at hl 1 rfl) ?_
          refine lv_iload_n hx hb (dk_at dkX12_gone_2 11 rfl) rfl (lv_at hl 3 rfl) ?_
          refine lv_iload_n hx hb (dk_at dkX12_gone_2 12 rfl) rfl (lv_at hl 0 rfl) ?_
          refine x_calli (As := [.int (iI x2), .int (iI z1)]) (rest := [.int (iI (3 * (A 0 12) + x1)), .ref (q 18)]) ⟨hx, hb, hml, hown, hts⟩ (mc_X12_otherSide l dC dI cB cI cJ cZ cQ q _ x2 z1 hI hx2 (rb hw3 (by decide) (by decide))) (cwV 2 hts (goodV wlq_5_49 wlq_5_50 wlq_5_51 wlq_0_8 wlq_5_33) rfl rfl rfl (by decide +kernel) ⟨Nat.le_of_ble_eq_true rfl, Nat.le_of_ble_eq_true rfl⟩) hK hDD hA0 hP hS 0 12 wm0 rfl rfl hl.1 (Nat.le_of_ble_eq_true rfl) (dk_at dkX12_gone_2 13 rfl) (fun z32 A33 H locs hw34 hP hS => ?_)
          obtain ⟨rfl, hw34⟩ := hw34
          have ghw34 : q_X12_otherSide x2 z1 A27 z32 := hw34
          have hw34 := hw34.2
          refine x_iast hx hb hK hP hDD hS 18 1 wm18 rfl (by omega) (by decide) (dk_at dkX12_gone_2 14 rfl) ws18 (fun H locs hP hS => ?_)
          have hI := hI.st (j := 18) (i := (3 * (A 0 12) + x1).toNat) (v := z32) (show (0 : Int) ≤ z32 ∧ z32 ≤ 7 from (by omega))
          refine lv_aload_n hx hb (dk_at dkX12_gone_2 15 rfl) rfl (lv_at hl 1 rfl) ?_
          refine lv_iload_n hx hb (dk_at dkX12_gone_3 0 rfl) rfl (lv_at hl 2 rfl) ?_
          obtain ⟨A35, hA35⟩ : ∃ A35 : St, A35 = (stA A27 18 (3 * (A 0 12) + x1).toNat z32) := ⟨_, rfl⟩
          rw [← hA35] at hP hI
          refine x_calli (As := [.int (iI x1)]) (rest := []) ⟨hx, hb, hml, hown, hts⟩ (mc_X12_placeOf l dC dI cB cI cJ cZ cQ q _ x1 hI hx1) (cwV 1 hts (goodV wlq_5_35 wlq_5_36 wlq_5_37 wlq_0_8 wlq_5_25) rfl rfl rfl (by decide +kernel) ⟨Nat.le_of_ble_eq_true rfl, Nat.le_of_ble_eq_true rfl⟩) hK hDD hA0 hP hS 0 12 wm0 rfl rfl hl.1 (Nat.le_of_ble_eq_true rfl) (dk_at dkX12_gone_3 1 rfl) (fun z36 A37 H locs hw38 hP hS => ?_)
          obtain ⟨rfl, hw38⟩ := hw38
          have ghw38 : q_X12_placeOf x1 A35 z36 := hw38
          have hw38 := hw38.2
          exact RET z36 _ _ _ _ _ ⟨(u_r_X12_gone ⟨z1, ghw3, ⟨z4, ghw6, ⟨z7, gz7.out, (Or.inr ⟨c8, ⟨z9, ghw11, (Or.inr ⟨c12, ⟨z13, ghw15, (Or.inr ⟨c16, ⟨z17, ghw19, ⟨z20, ghw22, ⟨z23, ghw25, ⟨z26, A27, ghw28, (Or.inl ⟨c31, ⟨z32, ghw34, ⟨A35, hA35, ⟨z36, ghw38, ⟨rfl, rfl⟩⟩⟩⟩⟩)⟩⟩⟩⟩⟩)⟩⟩)⟩⟩)⟩⟩⟩), hI, fr_def hA35 (fr.st (fr.trans (fr.rf) hf29 rfl rfl) (by decide) rfl), (CI.fr hc30 (fr_def hA35 (fr.st (fr.rf (M := [18]) (N := [])) (by decide) rfl)) rfl rfl), by omega⟩ hP hS (dk_at dkX12_gone_3 2 rfl)
        · have c31 : ¬ z26 = 0 := mt (i_eq0 (rb hw28 (by decide) (by decide))).mpr c31
          refine lv_iconst (v := iI (-1)) hx hb (dk_at dkX12_gone_2 0 rfl) (by decide +kernel) ?_
          exact RET (-1) _ _ _ _ _ ⟨(u_r_X12_gone ⟨z1, ghw3, ⟨z4, ghw6, ⟨z7, gz7.out, (Or.inr ⟨c8, ⟨z9, ghw11, (Or.inr ⟨c12, ⟨z13, ghw15, (Or.inr ⟨c16, ⟨z17, ghw19, ⟨z20, ghw22, ⟨z23, ghw25, ⟨z26, A27, ghw28, (Or.inr ⟨c31, ⟨rfl, rfl⟩⟩)⟩⟩⟩⟩⟩)⟩⟩)⟩⟩)⟩⟩⟩), hI, fr.trans (fr.rf) hf29 rfl rfl, hc30, by omega⟩ hP hS (dk_at dkX12_gone_2 1 rfl)

abbrev tr_d_X12_go_2 (z : Int) (u : St) (z17 : Int) (A19 : St) : Prop := ((IM A19) ∧ ((-2147483648 ≤ z17 ∧ z17 ≤ 2147483647) ∧ (((¬ z17 = (-1)) ∧ (z = z17 ∧ u = A19)) ∨ ((z17 = (-1)) ∧ (∃ z23 : Int, ∃ A24 : St, q_X12_refuses 2 A19 z23 A24 ∧ (z = z23 ∧ u = A24))))))
def d_X12_go_2 (z : Int) (u : St) (z17 : Int) (A19 : St) : Prop := tr_d_X12_go_2 z u z17 A19
theorem u_d_X12_go_2 {z : Int} {u : St} {z17 : Int} {A19 : St} (h : tr_d_X12_go_2 z u z17 A19) : d_X12_go_2 z u z17 A19 := h
abbrev tr_d_X12_go_1 (A : St) (z : Int) (u : St) : Prop := (d_X12_go_2 z u (-1) A)
def d_X12_go_1 (A : St) (z : Int) (u : St) : Prop := tr_d_X12_go_1 A z u
theorem u_d_X12_go_1 {A : St} {z : Int} {u : St} (h : tr_d_X12_go_1 A z u) : d_X12_go_1 A z u := h
abbrev tr_r_X12_go (x1 : Int) (x2 : Int) (A : St) (z : Int) (u : St) : Prop := (∃ z1 : Int, q_X12_isPerson x1 A z1 ∧ (((z1 = 0) ∧ (d_X12_go_1 A z u)) ∨ ((¬ z1 = 0) ∧ (∃ z7 : Int, q_X12_isDoor x2 A z7 ∧ (((z7 = 0) ∧ (d_X12_go_1 A z u)) ∨ ((¬ z7 = 0) ∧ (∃ z11 : Int, ∃ A12 : St, q_X12_gone x1 x2 A z11 A12 ∧ (d_X12_go_2 z u z11 A12))))))))
def r_X12_go (x1 : Int) (x2 : Int) (A : St) (z : Int) (u : St) : Prop := tr_r_X12_go x1 x2 A z u
theorem u_r_X12_go {x1 : Int} {x2 : Int} {A : St} {z : Int} {u : St} (h : tr_r_X12_go x1 x2 A z u) : r_X12_go x1 x2 A z u := h
def ws_mb_X12_go : List Cond := .code yX12_go cX12_go 4 (some .int) :: WX
set_option maxHeartbeats 4000000 in
set_option maxRecDepth 100000 in
theorem mb_X12_go (l : Launch) (dC : Nat → ClassId) (dI : Nat → Nat → Nat) (cB cI cJ cZ cQ : ClassId) (q : Nat → Nat) (A : St) (x1 x2 : Int) (hI : IM A) (hx1 : (-2147483648 : Int) ≤ x1 ∧ x1 ≤ 2147483647) (hx2 : (-2147483648 : Int) ≤ x2 ∧ x2 ≤ 2147483647) (hcCI : CI A) : XMi l yX12_go ws_mb_X12_go ({ frames := 5, cells := 0, slots := 0, locals := 123 } : Room) (dC, dI) (tyA cB cI cJ cZ cQ) (WM cI cJ cZ q) A [.ref (q 0), .int (iI x1), .int (iI x2)] (fun z u => r_X12_go x1 x2 A z u ∧ IM u ∧ fr [18, 41, 42, 43] [] A u ∧ CI u ∧ (-2147483648 ≤ z ∧ z ≤ 2147483647)) := by
  refine x_meti (cc := cX12_go) (maxL := 4) WM_adr (by decide +kernel) rfl (Nat.le_of_ble_eq_true rfl) (fun p e s m below meth c Q AS ls hx hb hml hown hts hK hDD hA0 hP hS hl RET => ?_)
  have hown : s.vm.findClass RX12 = some m.cls := hown
  have hl : lv_has ls 4 [(0, .ref (q 0)), (1, .int (iI x1)), (2, .int (iI x2))] := hl
  obtain ⟨H, hHe⟩ : ∃ H : Heap, H = s.heap := ⟨_, rfl⟩
  rw [← hHe] at hP
  have hS : va_S AS s.heap H [] := by rw [hHe]; exact hS
  suffices hgo : ∀ locs : List Loc, va_S AS s.heap H locs → W p l e (headSpec ws_mb_X12_go ({ frames := 5, cells := 0, slots := 0, locals := 123 } : Room)).room s m [.ref (q 0), .int (iI x1), .int (iI x2)].toArray below meth c H locs 0 0 Q (F0 m 0 ls []) by
    have := hgo [] hS
    rw [hHe] at this
    exact this
  clear hS hHe
  intro locs hS
  refine lv_aload_n hx hb (dk_at dkX12_go_0 0 rfl) rfl (lv_at hl 0 rfl) ?_
  refine lv_iload_n hx hb (dk_at dkX12_go_0 1 rfl) rfl (lv_at hl 1 rfl) ?_
  have r_A_0_12 : (0 : Int) ≤ (A 0 12) ∧ (A 0 12) ≤ 1 := hI 0 12
  refine x_calli (As := [.int (iI x1)]) (rest := []) ⟨hx, hb, hml, hown, hts⟩ (mc_X12_isPersonB l dC dI cB cI cJ cZ cQ q _ x1 hI hx1) (cwV 1 hts (goodV wlq_5_55 wlq_5_56 wlq_5_57 wlq_0_8 wlq_4_40) rfl rfl rfl (by decide +kernel) ⟨Nat.le_of_ble_eq_true rfl, Nat.le_of_ble_eq_true rfl⟩) hK hDD hA0 hP hS 0 12 wm0 rfl rfl hl.1 (Nat.le_of_ble_eq_true rfl) (dk_at dkX12_go_0 2 rfl) (fun z1 A2 H locs hw3 hP hS => ?_)
  obtain ⟨rfl, hw3⟩ := hw3
  have ghw3 : q_X12_isPerson x1 A z1 := hw3
  have hw3 := hw3.2
  have rz1 : 0 ≤ z1 ∧ z1 ≤ 1 := hw3.1
  have J26_6 : ∀ (z17 : Int) (A19 : St) (H : Heap) (locs : List Loc) (ls : Array Slot), (-2147483648 ≤ z17 ∧ z17 ≤ 2147483647) → (∀ (z : Int) (u : St), (d_X12_go_2 z u z17 A19) → r_X12_go x1 x2 A z u) → IM A19 → fr [18, 42, 43] [] A A19 → va_P (dC, dI) vwCl (WM cI cJ cZ q A19) H → va_S AS s.heap H locs → lv_has ls 4 [(0, .ref (q 0)), (1, .int (iI x1)), (2, .int (iI x2))] → W p l e (headSpec ws_mb_X12_go ({ frames := 5, cells := 0, slots := 0, locals := 123 } : Room)).room s m [.ref (q 0), .int (iI x1), .int (iI x2)].toArray below meth c H locs 0 0 Q (F0 m 26 ls [.int (iI z17)]) := by
    intro z17 A19 H locs ls f20 hk2 hI hj18 hP hS hl
    have gI21 : Hd (IM A19) := Hd.mk hI
    clear hw3
    refine lv_istore_n (lv' := [(3, .int (iI z17)), (0, .ref (q 0)), (1, .int (iI x1)), (2, .int (iI x2))]) hx hb (dk_at dkX12_go_0 14 rfl) rfl hl (by decide) rfl (fun ls hl => ?_)
    refine lv_iload_n hx hb (dk_at dkX12_go_0 15 rfl) rfl (lv_at hl 0 rfl) ?_
    refine lv_iconst (v := iI (-1)) hx hb (dk_at dkX12_go_1 0 rfl) (by decide +kernel) ?_
    refine lv_icmp_ne (tgt := 40) hx hb (dk_at dkX12_go_1 1 rfl) (by decide) (fun c22 => ?_) (fun c22 => ?_)
    · have c22 : ¬ z17 = (-1) := mt (i_eq f20 ⟨by decide, by decide⟩).mpr c22
      refine lv_iload_n hx hb (dk_at dkX12_go_1 6 rfl) rfl (lv_at hl 0 rfl) ?_
      exact RET z17 _ _ _ _ _ ⟨hk2 _ _ (u_d_X12_go_2 ⟨gI21.out, ⟨f20, (Or.inl ⟨c22, ⟨rfl, rfl⟩⟩)⟩⟩), hI, fr.trans (fr.rf) hj18 rfl rfl, (CI.fr hcCI hj18 rfl rfl), by omega⟩ hP hS (dk_at dkX12_go_1 7 rfl)
    · have c22 : z17 = (-1) := (i_eq f20 ⟨by decide, by decide⟩).mp c22
      refine lv_aload_n hx hb (dk_at dkX12_go_1 2 rfl) rfl (lv_at hl 1 rfl) ?_
      refine lv_iconst (v := iI 2) hx hb (dk_at dkX12_go_1 3 rfl) (by decide +kernel) ?_
      refine x_calli (As := [.int (iI 2)]) (rest := []) ⟨hx, hb, hml, hown, hts⟩ (mc_X12_refuses l dC dI cB cI cJ cZ cQ q _ 2 hI ⟨by decide, by decide⟩) (cwV 1 hts (goodV wlq_0_5 wlq_0_6 wlq_0_7 wlq_0_8 wlq_0_9) rfl rfl rfl (by decide +kernel) ⟨Nat.le_of_ble_eq_true rfl, Nat.le_of_ble_eq_true rfl⟩) hK hDD hA0 hP hS 0 12 wm0 rfl rfl hl.1 (Nat.le_of_ble_eq_true rfl) (dk_at dkX12_go_1 4 rfl) (fun z23 A24 H locs hw25 hP hS => ?_)
      have ghw25 : q_X12_refuses 2 A19 z23 A24 := hw25
      obtain ⟨_, hI, hf26, hw25⟩ := hw25
      refine lv_goto (tgt := 41) hx hb (dk_at dkX12_go_1 5 rfl) (by decide) ?_
      exact RET z23 _ _ _ _ _ ⟨hk2 _ _ (u_d_X12_go_2 ⟨gI21.out, ⟨f20, (Or.inr ⟨c22, ⟨z23, A24, ghw25, ⟨rfl, rfl⟩⟩⟩)⟩⟩), hI, fr.trans (fr.trans (fr.rf) hj18 rfl rfl) hf26 rfl rfl, (CI.fr (CI.fr hcCI hj18 rfl rfl) hf26 rfl rfl), by omega⟩ hP hS (dk_at dkX12_go_1 7 rfl)
  have J25_5 : ∀ (H : Heap) (locs : List Loc) (ls : Array Slot), (∀ (z : Int) (u : St), (d_X12_go_1 A z u) → r_X12_go x1 x2 A z u) → va_P (dC, dI) vwCl (WM cI cJ cZ q A) H → va_S AS s.heap H locs → lv_has ls 4 [(0, .ref (q 0)), (1, .int (iI x1)), (2, .int (iI x2))] → W p l e (headSpec ws_mb_X12_go ({ frames := 5, cells := 0, slots := 0, locals := 123 } : Room)).room s m [.ref (q 0), .int (iI x1), .int (iI x2)].toArray below meth c H locs 0 0 Q (F0 m 25 ls []) := by
    intro H locs ls hk1 hP hS hl
    clear hw3
    refine lv_iconst (v := iI (-1)) hx hb (dk_at dkX12_go_0 13 rfl) (by decide +kernel) ?_
    exact J26_6 (-1) _ _ _ _ (by omega) (fun zq uq hq => hk1 _ _ (u_d_X12_go_1 hq)) hI (fr.rf) hP hS (lv_sub hl [0, 1, 2] rfl)
  refine lv_if_eq (tgt := 25) hx hb (dk_at dkX12_go_0 3 rfl) (by decide) (fun c4 => ?_) (fun c4 => ?_)
  · have c4 : z1 = 0 := (i_eq0 (rb rz1 (by decide) (by decide))).mp c4
    clear hw3
    exact J25_5 _ _ _ (fun zq uq hq => (u_r_X12_go ⟨z1, ghw3, (Or.inl ⟨c4, hq⟩)⟩)) hP hS (lv_sub hl [0, 1, 2] rfl)
  · have c4 : ¬ z1 = 0 := mt (i_eq0 (rb rz1 (by decide) (by decide))).mpr c4
    have hw3b := hw3.2.mp (by omega)
    clear hw3
    refine lv_aload_n hx hb (dk_at dkX12_go_0 4 rfl) rfl (lv_at hl 0 rfl) ?_
    refine lv_iload_n hx hb (dk_at dkX12_go_0 5 rfl) rfl (lv_at hl 2 rfl) ?_
    refine x_calli (As := [.int (iI x2)]) (rest := []) ⟨hx, hb, hml, hown, hts⟩ (mc_X12_isDoorB l dC dI cB cI cJ cZ cQ q _ x2 hI hx2) (cwV 1 hts (goodV wlq_5_14 wlq_5_15 wlq_5_16 wlq_0_8 wlq_4_38) rfl rfl rfl (by decide +kernel) ⟨Nat.le_of_ble_eq_true rfl, Nat.le_of_ble_eq_true rfl⟩) hK hDD hA0 hP hS 0 12 wm0 rfl rfl hl.1 (Nat.le_of_ble_eq_true rfl) (dk_at dkX12_go_0 6 rfl) (fun z7 A8 H locs hw9 hP hS => ?_)
    obtain ⟨rfl, hw9⟩ := hw9
    have ghw9 : q_X12_isDoor x2 A z7 := hw9
    have hw9 := hw9.2
    have rz7 : 0 ≤ z7 ∧ z7 ≤ 1 := hw9.1
    refine lv_if_eq (tgt := 25) hx hb (dk_at dkX12_go_0 7 rfl) (by decide) (fun c10 => ?_) (fun c10 => ?_)
    · have c10 : z7 = 0 := (i_eq0 (rb rz7 (by decide) (by decide))).mp c10
      clear hw9
      exact J25_5 _ _ _ (fun zq uq hq => (u_r_X12_go ⟨z1, ghw3, (Or.inr ⟨c4, ⟨z7, ghw9, (Or.inl ⟨c10, hq⟩)⟩⟩)⟩)) hP hS (lv_sub hl [0, 1, 2] rfl)
    · have c10 : ¬ z7 = 0 := mt (i_eq0 (rb rz7 (by decide) (by decide))).mpr c10
      have hw9b := hw9.2.mp (by omega)
      clear hw9
      refine lv_aload_n hx hb (dk_at dkX12_go_0 8 rfl) rfl (lv_at hl 0 rfl) ?_
      refine lv_iload_n hx hb (dk_at dkX12_go_0 9 rfl) rfl (lv_at hl 1 rfl) ?_
      refine lv_iload_n hx hb (dk_at dkX12_go_0 10 rfl) rfl (lv_at hl 2 rfl) ?_
      refine x_calli (As := [.int (iI x1), .int (iI x2)]) (rest := []) ⟨hx, hb, hml, hown, hts⟩ (mb_X12_gone l dC dI cB cI cJ cZ cQ q _ x1 x2 hI (by omega) (by omega) hcCI) (cwV 2 hts (goodV wlq_5_58 wlq_5_59 wlq_6_0 wlq_0_8 wlq_5_34) rfl rfl rfl (by decide +kernel) ⟨Nat.le_of_ble_eq_true rfl, Nat.le_of_ble_eq_true rfl⟩) hK hDD hA0 hP hS 0 12 wm0 rfl rfl hl.1 (Nat.le_of_ble_eq_true rfl) (dk_at dkX12_go_0 11 rfl) (fun z11 A12 H locs hw13 hP hS => ?_)
      have ghw13 : q_X12_gone x1 x2 A z11 A12 := hw13
      obtain ⟨_, hI, hf14, hw13⟩ := hw13
      obtain ⟨hc15, hw13⟩ := hw13
      refine lv_goto (tgt := 26) hx hb (dk_at dkX12_go_0 12 rfl) (by decide) ?_
      exact J26_6 z11 _ _ _ _ (by omega) (fun zq uq hq => (u_r_X12_go ⟨z1, ghw3, (Or.inr ⟨c4, ⟨z7, ghw9, (Or.inr ⟨c10, ⟨z11, A12, ghw13, hq⟩⟩)⟩⟩)⟩)) hI (fr.trans (fr.rf) hf14 rfl rfl) hP hS (lv_sub hl [0, 1, 2] rfl)

abbrev tr_r_X12_told (x1 : Int) (x2 : Int) (x3 : Int) (A : St) (z : Int) (u : St) : Prop := (∃ z1 : Int, q_X12_isPerson x1 A z1 ∧ (((¬ z1 = 0) ∧ (((¬ x2 = 0) ∧ (((¬ x2 = 1) ∧ (((¬ x2 = 2) ∧ (z = (-1) ∧ u = A)) ∨ ((x2 = 2) ∧ (∃ z9 : Int, q_X12_isDoor x3 A z9 ∧ (((z9 = 0) ∧ (z = (-1) ∧ u = A)) ∨ ((¬ z9 = 0) ∧ (∃ z14 : Int, q_X12_firstKey x1 x3 A z14 ∧ (((¬ z14 = (-1)) ∧ (∃ z18 : Int, ∃ A19 : St, q_X12_closed x1 z14 x3 A z18 A19 ∧ (z = z18 ∧ u = A19))) ∨ ((z14 = (-1)) ∧ (z = (-1) ∧ u = A)))))))))) ∨ ((x2 = 1) ∧ (∃ z22 : Int, q_X12_isKey x3 A z22 ∧ (((z22 = 0) ∧ (z = (-1) ∧ u = A)) ∨ ((¬ z22 = 0) ∧ (∃ z26 : Int, ∃ A27 : St, q_X12_opened x1 x3 A z26 A27 ∧ (z = z26 ∧ u = A27)))))))) ∨ ((x2 = 0) ∧ (∃ z30 : Int, q_X12_isDoor x3 A z30 ∧ (((z30 = 0) ∧ (z = (-1) ∧ u = A)) ∨ ((¬ z30 = 0) ∧ (∃ z34 : Int, ∃ A35 : St, q_X12_gone x1 x3 A z34 A35 ∧ (z = z34 ∧ u = A35)))))))) ∨ ((z1 = 0) ∧ (z = (-1) ∧ u = A))))
def r_X12_told (x1 : Int) (x2 : Int) (x3 : Int) (A : St) (z : Int) (u : St) : Prop := tr_r_X12_told x1 x2 x3 A z u
theorem u_r_X12_told {x1 : Int} {x2 : Int} {x3 : Int} {A : St} {z : Int} {u : St} (h : tr_r_X12_told x1 x2 x3 A z u) : r_X12_told x1 x2 x3 A z u := h
def q_X12_told (x1 : Int) (x2 : Int) (x3 : Int) (A : St) (z : Int) (u : St) : Prop := r_X12_told x1 x2 x3 A z u ∧ IM u ∧ fr [14, 15, 18, 42, 43] [] A u ∧ CI u ∧ (-2147483648 ≤ z ∧ z ≤ 2147483647)
def ws_mb_X12_told : List Cond := .code yX12_told cX12_told 5 (some .int) :: WX
set_option maxHeartbeats 4000000 in
set_option maxRecDepth 100000 in
theorem mb_X12_told (l : Launch) (dC : Nat → ClassId) (dI : Nat → Nat → Nat) (cB cI cJ cZ cQ : ClassId) (q : Nat → Nat) (A : St) (x1 x2 x3 : Int) (hI : IM A) (hx1 : (-2147483648 : Int) ≤ x1 ∧ x1 ≤ 2147483647) (hx2 : (-2147483648 : Int) ≤ x2 ∧ x2 ≤ 2147483647) (hx3 : (-2147483648 : Int) ≤ x3 ∧ x3 ≤ 2147483647) (hcCI : CI A) : XMi l yX12_told ws_mb_X12_told ({ frames := 5, cells := 0, slots := 0, locals := 123 } : Room) (dC, dI) (tyA cB cI cJ cZ cQ) (WM cI cJ cZ q) A [.ref (q 0), .int (iI x1), .int (iI x2), .int (iI x3)] (fun z u => r_X12_told x1 x2 x3 A z u ∧ IM u ∧ fr [14, 15, 18, 42, 43] [] A u ∧ CI u ∧ (-2147483648 ≤ z ∧ z ≤ 2147483647)) := by
  refine x_meti (cc := cX12_told) (maxL := 5) WM_adr (by decide +kernel) rfl (Nat.le_of_ble_eq_true rfl) (fun p e s m below meth c Q AS ls hx hb hml hown hts hK hDD hA0 hP hS hl RET => ?_)
  have hown : s.vm.findClass RX12 = some m.cls := hown
  have hl : lv_has ls 5 [(0, .ref (q 0)), (1, .int (iI x1)), (2, .int (iI x2)), (3, .int (iI x3))] := hl
  obtain ⟨H, hHe⟩ : ∃ H : Heap, H = s.heap := ⟨_, rfl⟩
  rw [← hHe] at hP
  have hS : va_S AS s.heap H [] := by rw [hHe]; exact hS
  suffices hgo : ∀ locs : List Loc, va_S AS s.heap H locs → W p l e (headSpec ws_mb_X12_told ({ frames := 5, cells := 0, slots := 0, locals := 123 } : Room)).room s m [.ref (q 0), .int (iI x1), .int (iI x2), .int (iI x3)].toArray below meth c H locs 0 0 Q (F0 m 0 ls []) by
    have := hgo [] hS
    rw [hHe] at this
    exact this
  clear hS hHe
  intro locs hS
  refine lv_aload_n hx hb (dk_at dkX12_told_0 0 rfl) rfl (lv_at hl 0 rfl) ?_
  refine lv_iload_n hx hb (dk_at dkX12_told_0 1 rfl) rfl (lv_at hl 1 rfl) ?_
  have r_A_0_12 : (0 : Int) ≤ (A 0 12) ∧ (A 0 12) ≤ 1 := hI 0 12
  refine x_calli (As := [.int (iI x1)]) (rest := []) ⟨hx, hb, hml, hown, hts⟩ (mc_X12_isPersonB l dC dI cB cI cJ cZ cQ q _ x1 hI hx1) (cwV 1 hts (goodV wlq_5_55 wlq_5_56 wlq_5_57 wlq_0_8 wlq_4_40) rfl rfl rfl (by decide +kernel) ⟨Nat.le_of_ble_eq_true rfl, Nat.le_of_ble_eq_true rfl⟩) hK hDD hA0 hP hS 0 12 wm0 rfl rfl hl.1 (Nat.le_of_ble_eq_true rfl) (dk_at dkX12_told_0 2 rfl) (fun z1 A2 H locs hw3 hP hS => ?_)
  obtain ⟨rfl, hw3⟩ := hw3
  have ghw3 : q_X12_isPerson x1 A z1 := hw3
  have hw3 := hw3.2
  have rz1 : 0 ≤ z1 ∧ z1 ≤ 1 := hw3.1
  refine lv_if_ne (tgt := 10) hx hb (dk_at dkX12_told_0 3 rfl) (by decide) (fun c4 => ?_) (fun c4 => ?_)
  · have c4 : ¬ z1 = 0 := mt (i_eq0 (rb rz1 (by decide) (by decide))).mpr c4
    have hw3b := hw3.2.mp (by omega)
    clear hw3
    refine lv_iload_n hx hb (dk_at dkX12_told_0 6 rfl) rfl (lv_at hl 2 rfl) ?_
    refine lv_if_ne (tgt := 33) hx hb (dk_at dkX12_told_0 7 rfl) (by decide) (fun c5 => ?_) (fun c5 => ?_)
    · have c5 : ¬ x2 = 0 := mt (i_eq0 hx2).mpr c5
      refine lv_iload_n hx hb (dk_at dkX12_told_1 3 rfl) rfl (lv_at hl 2 rfl) ?_
      refine lv_iconst (v := iI 1) hx hb (dk_at dkX12_told_1 4 rfl) (by decide +kernel) ?_
      refine lv_icmp_ne (tgt := 57) hx hb (dk_at dkX12_told_1 5 rfl) (by decide) (fun c6 => ?_) (fun c6 => ?_)
      · have c6 : ¬ x2 = 1 := mt (i_eq hx2 ⟨by decide, by decide⟩).mpr c6
        refine lv_iload_n hx hb (dk_at dkX12_told_2 1 rfl) rfl (lv_at hl 2 rfl) ?_
        refine lv_iconst (v := iI 2) hx hb (dk_at dkX12_told_2 2 rfl) (by decide +kernel) ?_
        refine lv_icmp_ne (tgt := 79) hx hb (dk_at dkX12_told_2 3 rfl) (by decide) (fun c7 => ?_) (fun c7 => ?_)
        · have c7 : ¬ x2 = 2 := mt (i_eq hx2 ⟨by decide, by decide⟩).mpr c7
          refine lv_iconst (v := iI (-1)) hx hb (dk_at dkX12_told_2 13 rfl) (by decide +kernel) ?_
          refine lv_istore (lv' := [(4, .int (iI (-1))), (0, .ref (q 0)), (1, .int (iI x1)), (2, .int (iI x2)), (3, .int (iI x3))]) hx hb (dk_at dkX12_told_2 14 rfl) hl (by decide) rfl (fun ls hl => ?_)
          refine lv_iload hx hb (dk_at dkX12_told_2 15 rfl) (lv_at hl 0 rfl) ?_
          refine lv_iconst (v := iI (-1)) hx hb (dk_at dkX12_told_3 0 rfl) (by decide +kernel) ?_
          refine lv_icmp_ne (tgt := 92) hx hb (dk_at dkX12_told_3 1 rfl) (by decide) (fun c8 => absurd c8 (by decide +kernel)) (fun _ => ?_)
          refine lv_iconst (v := iI (-1)) hx hb (dk_at dkX12_told_3 2 rfl) (by decide +kernel) ?_
          refine lv_goto (tgt := 100) hx hb (dk_at dkX12_told_3 3 rfl) (by decide) ?_
          exact RET (-1) _ _ _ _ _ ⟨(u_r_X12_told ⟨z1, ghw3, (Or.inl ⟨c4, (Or.inl ⟨c5, (Or.inl ⟨c6, (Or.inl ⟨c7, ⟨rfl, rfl⟩⟩)⟩)⟩)⟩)⟩), hI, fr.rf, hcCI, by omega⟩ hP hS (dk_at dkX12_told_3 9 rfl)
        · have c7 : x2 = 2 := (i_eq hx2 ⟨by decide, by decide⟩).mp c7
          refine lv_aload_n hx hb (dk_at dkX12_told_2 4 rfl) rfl (lv_at hl 0 rfl) ?_
          refine lv_iload_n hx hb (dk_at dkX12_told_2 5 rfl) rfl (lv_at hl 3 rfl) ?_
          refine x_calli (As := [.int (iI x3)]) (rest := []) ⟨hx, hb, hml, hown, hts⟩ (mc_X12_isDoorB l dC dI cB cI cJ cZ cQ q _ x3 hI hx3) (cwV 1 hts (goodV wlq_5_14 wlq_5_15 wlq_5_16 wlq_0_8 wlq_4_38) rfl rfl rfl (by decide +kernel) ⟨Nat.le_of_ble_eq_true rfl, Nat.le_of_ble_eq_true rfl⟩) hK hDD hA0 hP hS 0 12 wm0 rfl rfl hl.1 (Nat.le_of_ble_eq_true rfl) (dk_at dkX12_told_2 6 rfl) (fun z9 A10 H locs hw11 hP hS => ?_)
          obtain ⟨rfl, hw11⟩ := hw11
          have ghw11 : q_X12_isDoor x3 A z9 := hw11
          have hw11 := hw11.2
          have rz9 : 0 ≤ z9 ∧ z9 ≤ 1 := hw11.1
          refine lv_if_eq (tgt := 79) hx hb (dk_at dkX12_told_2 7 rfl) (by decide) (fun c12 => ?_) (fun c12 => ?_)
          · have c12 : z9 = 0 := (i_eq0 (rb rz9 (by decide) (by decide))).mp c12
            clear hw11
            refine lv_iconst (v := iI (-1)) hx hb (dk_at dkX12_told_2 13 rfl) (by decide +kernel) ?_
            refine lv_istore (lv' := [(4, .int (iI (-1))), (0, .ref (q 0)), (1, .int (iI x1)), (2, .int (iI x2)), (3, .int (iI x3))]) hx hb (dk_at dkX12_told_2 14 rfl) hl (by decide) rfl (fun ls hl => ?_)
            refine lv_iload hx hb (dk_at dkX12_told_2 15 rfl) (lv_at hl 0 rfl) ?_
            refine lv_iconst (v := iI (-1)) hx hb (dk_at dkX12_told_3 0 rfl) (by decide +kernel) ?_
            refine lv_icmp_ne (tgt := 92) hx hb (dk_at dkX12_told_3 1 rfl) (by decide) (fun c13 => absurd c13 (by decide +kernel)) (fun _ => ?_)
            refine lv_iconst (v := iI (-1)) hx hb (dk_at dkX12_told_3 2 rfl) (by decide +kernel) ?_
            refine lv_goto (tgt := 100) hx hb (dk_at dkX12_told_3 3 rfl) (by decide) ?_
            exact RET (-1) _ _ _ _ _ ⟨(u_r_X12_told ⟨z1, ghw3, (Or.inl ⟨c4, (Or.inl ⟨c5, (Or.inl ⟨c6, (Or.inr ⟨c7, ⟨z9, ghw11, (Or.inl ⟨c12, ⟨rfl, rfl⟩⟩)⟩⟩)⟩)⟩)⟩)⟩), hI, fr.rf, hcCI, by omega⟩ hP hS (dk_at dkX12_told_3 9 rfl)
          · have c12 : ¬ z9 = 0 := mt (i_eq0 (rb rz9 (by decide) (by decide))).mpr c12
            have hw11b := hw11.2.mp (by omega)
            clear hw11
            refine lv_aload_n hx hb (dk_at dkX12_told_2 8 rfl) rfl (lv_at hl 0 rfl) ?_
            refine lv_iload_n hx hb (dk_at dkX12_told_2 9 rfl) rfl (lv_at hl 1 rfl) ?_
            refine lv_iload_n hx hb (dk_at dkX12_told_2 10 rfl) rfl (lv_at hl 3 rfl) ?_
            refine x_calli (As := [.int (iI x1), .int (iI x3)]) (rest := []) ⟨hx, hb, hml, hown, hts⟩ (mc_X12_firstKey l dC dI cB cI cJ cZ cQ q _ x1 x3 hI (by omega) (by omega)) (cwV 2 hts (goodV wlq_6_24 wlq_6_25 wlq_6_26 wlq_0_8 wlq_6_22) rfl rfl rfl (by decide +kernel) ⟨Nat.le_of_ble_eq_true rfl, Nat.le_of_ble_eq_true rfl⟩) hK hDD hA0 hP hS 0 12 wm0 rfl rfl hl.1 (Nat.le_of_ble_eq_true rfl) (dk_at dkX12_told_2 11 rfl) (fun z14 A15 H locs hw16 hP hS => ?_)
            obtain ⟨rfl, hw16⟩ := hw16
            have ghw16 : q_X12_firstKey x1 x3 A z14 := hw16
            have hw16 := hw16.2
            refine lv_goto (tgt := 80) hx hb (dk_at dkX12_told_2 12 rfl) (by decide) ?_
            refine lv_istore (lv' := [(4, .int (iI z14)), (0, .ref (q 0)), (1, .int (iI x1)), (2, .int (iI x2)), (3, .int (iI x3))]) hx hb (dk_at dkX12_told_2 14 rfl) hl (by decide) rfl (fun ls hl => ?_)
            refine lv_iload hx hb (dk_at dkX12_told_2 15 rfl) (lv_at hl 0 rfl) ?_
            refine lv_iconst (v := iI (-1)) hx hb (dk_at dkX12_told_3 0 rfl) (by decide +kernel) ?_
            refine lv_icmp_ne (tgt := 92) hx hb (dk_at dkX12_told_3 1 rfl) (by decide) (fun c17 => ?_) (fun c17 => ?_)
            · have c17 : ¬ z14 = (-1) := mt (i_eq (rb hw16 (by decide) (by decide)) ⟨by decide, by decide⟩).mpr c17
              refine lv_aload_n hx hb (dk_at dkX12_told_3 4 rfl) rfl (lv_at hl 1 rfl) ?_
              refine lv_iload_n hx hb (dk_at dkX12_told_3 5 rfl) rfl (lv_at hl 2 rfl) ?_
              refine lv_iload hx hb (dk_at dkX12_told_3 6 rfl) (lv_at hl 0 rfl) ?_
              refine lv_iload_n hx hb (dk_at dkX12_told_3 7 rfl) rfl (lv_at hl 4 rfl) ?_
              refine x_calli (As := [.int (iI x1), .int (iI z14), .int (iI x3)]) (rest := []) ⟨hx, hb, hml, hown, hts⟩ (mc_X12_closed l dC dI cB cI cJ cZ cQ q _ x1 z14 x3 hI (by omega) (by omega) (by omega)) (cwV 3 hts (goodV wlq_6_6 wlq_6_7 wlq_6_8 wlq_0_8 wlq_5_53) rfl rfl rfl (by decide +kernel) ⟨Nat.le_of_ble_eq_true rfl, Nat.le_of_ble_eq_true rfl⟩) hK hDD hA0 hP hS 0 12 wm0 rfl rfl hl.1 (Nat.le_of_ble_eq_true rfl) (dk_at dkX12_told_3 8 rfl) (fun z18 A19 H locs hw20 hP hS => ?_)
              have ghw20 : q_X12_closed x1 z14 x3 A z18 A19 := hw20
              obtain ⟨_, hI, hf21, hw20⟩ := hw20
              exact RET z18 _ _ _ _ _ ⟨(u_r_X12_told ⟨z1, ghw3, (Or.inl ⟨c4, (Or.inl ⟨c5, (Or.inl ⟨c6, (Or.inr ⟨c7, ⟨z9, ghw11, (Or.inr ⟨c12, ⟨z14, ghw16, (Or.inl ⟨c17, ⟨z18, A19, ghw20, ⟨rfl, rfl⟩⟩⟩)⟩⟩)⟩⟩)⟩)⟩)⟩)⟩), hI, fr.trans (fr.rf) hf21 rfl rfl, (CI.fr hcCI hf21 rfl rfl), by omega⟩ hP hS (dk_at dkX12_told_3 9 rfl)
            · have c17 : z14 = (-1) := (i_eq (rb hw16 (by decide) (by decide)) ⟨by decide, by decide⟩).mp c17
              refine lv_iconst (v := iI (-1)) hx hb (dk_at dkX12_told_3 2 rfl) (by decide +kernel) ?_
              refine lv_goto (tgt := 100) hx hb (dk_at dkX12_told_3 3 rfl) (by decide) ?_
              exact RET (-1) _ _ _ _ _ ⟨(u_r_X12_told ⟨z1, ghw3, (Or.inl ⟨c4, (Or.inl ⟨c5, (Or.inl ⟨c6, (Or.inr ⟨c7, ⟨z9, ghw11, (Or.inr ⟨c12, ⟨z14, ghw16, (Or.inr ⟨c17, ⟨rfl, rfl⟩⟩)⟩⟩)⟩⟩)⟩)⟩)⟩)⟩), hI, fr.rf, hcCI, by omega⟩ hP hS (dk_at dkX12_told_3 9 rfl)
      · have c6 : x2 = 1 := (i_eq hx2 ⟨by decide, by decide⟩).mp c6
        refine lv_aload_n hx hb (dk_at dkX12_told_1 6 rfl) rfl (lv_at hl 0 rfl) ?_
        refine lv_iload_n hx hb (dk_at dkX12_told_1 7 rfl) rfl (lv_at hl 3 rfl) ?_
        refine x_calli (As := [.int (iI x3)]) (rest := []) ⟨hx, hb, hml, hown, hts⟩ (mc_X12_isKeyB l dC dI cB cI cJ cZ cQ q _ x3 hI hx3) (cwV 1 hts (goodV wlq_5_18 wlq_5_19 wlq_5_20 wlq_0_8 wlq_4_39) rfl rfl rfl (by decide +kernel) ⟨Nat.le_of_ble_eq_true rfl, Nat.le_of_ble_eq_true rfl⟩) hK hDD hA0 hP hS 0 12 wm0 rfl rfl hl.1 (Nat.le_of_ble_eq_true rfl) (dk_at dkX12_told_1 8 rfl) (fun z22 A23 H locs hw24 hP hS => ?_)
        obtain ⟨rfl, hw24⟩ := hw24
        have ghw24 : q_X12_isKey x3 A z22 := hw24
        have hw24 := hw24.2
        have rz22 : 0 ≤ z22 ∧ z22 ≤ 1 := hw24.1
        refine lv_if_eq (tgt := 55) hx hb (dk_at dkX12_told_1 9 rfl) (by decide) (fun c25 => ?_) (fun c25 => ?_)
        · have c25 : z22 = 0 := (i_eq0 (rb rz22 (by decide) (by decide))).mp c25
          clear hw24
          refine lv_iconst (v := iI (-1)) hx hb (dk_at dkX12_told_1 15 rfl) (by decide +kernel) ?_
          exact RET (-1) _ _ _ _ _ ⟨(u_r_X12_told ⟨z1, ghw3, (Or.inl ⟨c4, (Or.inl ⟨c5, (Or.inr ⟨c6, ⟨z22, ghw24, (Or.inl ⟨c25, ⟨rfl, rfl⟩⟩)⟩⟩)⟩)⟩)⟩), hI, fr.rf, hcCI, by omega⟩ hP hS (dk_at dkX12_told_2 0 rfl)
        · have c25 : ¬ z22 = 0 := mt (i_eq0 (rb rz22 (by decide) (by decide))).mpr c25
          have hw24b := hw24.2.mp (by omega)
          clear hw24
          refine lv_aload_n hx hb (dk_at dkX12_told_1 10 rfl) rfl (lv_at hl 0 rfl) ?_
          refine lv_iload_n hx hb (dk_at dkX12_told_1 11 rfl) rfl (lv_at hl 1 rfl) ?_
          refine lv_iload_n hx hb (dk_at dkX12_told_1 12 rfl) rfl (lv_at hl 3 rfl) ?_
          refine x_calli (As := [.int (iI x1), .int (iI x3)]) (rest := []) ⟨hx, hb, hml, hown, hts⟩ (mc_X12_opened l dC dI cB cI cJ cZ cQ q _ x1 x3 hI (by omega) (by omega)) (cwV 2 hts (goodV wlq_6_2 wlq_6_3 wlq_6_4 wlq_0_8 wlq_5_52) rfl rfl rfl (by decide +kernel) ⟨Nat.le_of_ble_eq_true rfl, Nat.le_of_ble_eq_true rfl⟩) hK hDD hA0 hP hS 0 12 wm0 rfl rfl hl.1 (Nat.le_of_ble_eq_true rfl) (dk_at dkX12_told_1 13 rfl) (fun z26 A27 H locs hw28 hP hS => ?_)
          have ghw28 : q_X12_opened x1 x3 A z26 A27 := hw28
          obtain ⟨_, hI, hf29, hw28⟩ := hw28
          refine lv_goto (tgt := 56) hx hb (dk_at dkX12_told_1 14 rfl) (by decide) ?_
          exact RET z26 _ _ _ _ _ ⟨(u_r_X12_told ⟨z1, ghw3, (Or.inl ⟨c4, (Or.inl ⟨c5, (Or.inr ⟨c6, ⟨z22, ghw24, (Or.inr ⟨c25, ⟨z26, A27, ghw28, ⟨rfl, rfl⟩⟩⟩)⟩⟩)⟩)⟩)⟩), hI, fr.trans (fr.rf) hf29 rfl rfl, (CI.fr hcCI hf29 rfl rfl), by omega⟩ hP hS (dk_at dkX12_told_2 0 rfl)
    · have c5 : x2 = 0 := (i_eq0 hx2).mp c5
      refine lv_aload_n hx hb (dk_at dkX12_told_0 8 rfl) rfl (lv_at hl 0 rfl) ?_
      refine lv_iload_n hx hb (dk_at dkX12_told_0 9 rfl) rfl (lv_at hl 3 rfl) ?_
      refine x_calli (As := [.int (iI x3)]) (rest := []) ⟨hx, hb, hml, hown, hts⟩ (mc_X12_isDoorB l dC dI cB cI cJ cZ cQ q _ x3 hI hx3) (cwV 1 hts (goodV wlq_5_14 wlq_5_15 wlq_5_16 wlq_0_8 wlq_4_38) rfl rfl rfl (by decide +kernel) ⟨Nat.le_of_ble_eq_true rfl, Nat.le_of_ble_eq_true rfl⟩) hK hDD hA0 hP hS 0 12 wm0 rfl rfl hl.1 (Nat.le_of_ble_eq_true rfl) (dk_at dkX12_told_0 10 rfl) (fun z30 A31 H locs hw32 hP hS => ?_)
      obtain ⟨rfl, hw32⟩ := hw32
      have ghw32 : q_X12_isDoor x3 A z30 := hw32
      have hw32 := hw32.2
      have rz30 : 0 ≤ z30 ∧ z30 ≤ 1 := hw32.1
      refine lv_if_eq (tgt := 31) hx hb (dk_at dkX12_told_0 11 rfl) (by decide) (fun c33 => ?_) (fun c33 => ?_)
      · have c33 : z30 = 0 := (i_eq0 (rb rz30 (by decide) (by decide))).mp c33
        clear hw32
        refine lv_iconst (v := iI (-1)) hx hb (dk_at dkX12_told_1 1 rfl) (by decide +kernel) ?_
        exact RET (-1) _ _ _ _ _ ⟨(u_r_X12_told ⟨z1, ghw3, (Or.inl ⟨c4, (Or.inr ⟨c5, ⟨z30, ghw32, (Or.inl ⟨c33, ⟨rfl, rfl⟩⟩)⟩⟩)⟩)⟩), hI, fr.rf, hcCI, by omega⟩ hP hS (dk_at dkX12_told_1 2 rfl)
      · have c33 : ¬ z30 = 0 := mt (i_eq0 (rb rz30 (by decide) (by decide))).mpr c33
        have hw32b := hw32.2.mp (by omega)
        clear hw32
        refine lv_aload_n hx hb (dk_at dkX12_told_0 12 rfl) rfl (lv_at hl 0 rfl) ?_
        refine lv_iload_n hx hb (dk_at dkX12_told_0 13 rfl) rfl (lv_at hl 1 rfl) ?_
        refine lv_iload_n hx hb (dk_at dkX12_told_0 14 rfl) rfl (lv_at hl 3 rfl) ?_
        refine x_calli (As := [.int (iI x1), .int (iI x3)]) (rest := []) ⟨hx, hb, hml, hown, hts⟩ (mb_X12_gone l dC dI cB cI cJ cZ cQ q _ x1 x3 hI (by omega) (by omega) hcCI) (cwV 2 hts (goodV wlq_5_58 wlq_5_59 wlq_6_0 wlq_0_8 wlq_5_34) rfl rfl rfl (by decide +kernel) ⟨Nat.le_of_ble_eq_true rfl, Nat.le_of_ble_eq_true rfl⟩) hK hDD hA0 hP hS 0 12 wm0 rfl rfl hl.1 (Nat.le_of_ble_eq_true rfl) (dk_at dkX12_told_0 15 rfl) (fun z34 A35 H locs hw36 hP hS => ?_)
        have ghw36 : q_X12_gone x1 x3 A z34 A35 := hw36
        obtain ⟨_, hI, hf37, hw36⟩ := hw36
        obtain ⟨hc38, hw36⟩ := hw36
        refine lv_goto (tgt := 32) hx hb (dk_at dkX12_told_1 0 rfl) (by decide) ?_
        exact RET z34 _ _ _ _ _ ⟨(u_r_X12_told ⟨z1, ghw3, (Or.inl ⟨c4, (Or.inr ⟨c5, ⟨z30, ghw32, (Or.inr ⟨c33, ⟨z34, A35, ghw36, ⟨rfl, rfl⟩⟩⟩)⟩⟩)⟩)⟩), hI, fr.trans (fr.rf) hf37 rfl rfl, hc38, by omega⟩ hP hS (dk_at dkX12_told_1 2 rfl)
  · have c4 : z1 = 0 := (i_eq0 (rb rz1 (by decide) (by decide))).mp c4
    clear hw3
    refine lv_iconst (v := iI (-1)) hx hb (dk_at dkX12_told_0 4 rfl) (by decide +kernel) ?_
    exact RET (-1) _ _ _ _ _ ⟨(u_r_X12_told ⟨z1, ghw3, (Or.inr ⟨c4, ⟨rfl, rfl⟩⟩)⟩), hI, fr.rf, hcCI, by omega⟩ hP hS (dk_at dkX12_told_0 5 rfl)

abbrev tr_d_X12_row_3 (K1 : Int → Int → St → Prop) (z5 : Int) (A36 : St) (z : Int) (u : St) (z42 : Int) : Prop := ((-1 ≤ z42 ∧ z42 ≤ 533) ∧ (K1 (z5 + 3) z42 A36))
def d_X12_row_3 (K1 : Int → Int → St → Prop) (z5 : Int) (A36 : St) (z : Int) (u : St) (z42 : Int) : Prop := tr_d_X12_row_3 K1 z5 A36 z u z42
theorem u_d_X12_row_3 {K1 : Int → Int → St → Prop} {z5 : Int} {A36 : St} {z : Int} {u : St} {z42 : Int} (h : tr_d_X12_row_3 K1 z5 A36 z u z42) : d_X12_row_3 K1 z5 A36 z u z42 := h
abbrev tr_d_X12_row_2 (K1 : Int → Int → St → Prop) (z5 : Int) (z : Int) (u : St) (z34 : Int) (A36 : St) : Prop := ((IM A36) ∧ ((-2147483648 ≤ z34 ∧ z34 ≤ 2147483647) ∧ (((¬ z34 = (-1)) ∧ (d_X12_row_3 K1 z5 A36 z u (-1))) ∨ ((z34 = (-1)) ∧ (∃ z41 : Int, z41 = z5 / 3 ∧ (d_X12_row_3 K1 z5 A36 z u z41))))))
def d_X12_row_2 (K1 : Int → Int → St → Prop) (z5 : Int) (z : Int) (u : St) (z34 : Int) (A36 : St) : Prop := tr_d_X12_row_2 K1 z5 z u z34 A36
theorem u_d_X12_row_2 {K1 : Int → Int → St → Prop} {z5 : Int} {z : Int} {u : St} {z34 : Int} {A36 : St} (h : tr_d_X12_row_2 K1 z5 z u z34 A36) : d_X12_row_2 K1 z5 z u z34 A36 := h
abbrev tr_d_X12_row_1 (A : St) (z : Int) (u : St) (K1 : Int → Int → St → Prop) (z5 : Int) (z6 : Int) (A8 : St) : Prop := ((IM A8) ∧ ((0 ≤ z5 ∧ z5 ≤ 2147483647) ∧ ((-2147483648 ≤ z6 ∧ z6 ≤ 2147483647) ∧ ((((A 0 1) ≤ z5) ∧ (∃ A17 : St, q_X12_back A8 A17 ∧ (z = z6 ∧ u = A17))) ∨ ((¬ (A 0 1) ≤ z5) ∧ (((¬ z6 = (-1)) ∧ (∃ A21 : St, q_X12_back A8 A21 ∧ (z = z6 ∧ u = A21))) ∨ ((z6 = (-1)) ∧ ((((A 0 1) < z5 + 3) ∧ (d_X12_row_2 K1 z5 z u (-1) A8)) ∨ ((¬ (A 0 1) < z5 + 3) ∧ (∃ z26 : Int, z26 = A8 1 (z5).toNat ∧ (∃ z27 : Int, z27 = A8 1 (z5 + 1).toNat ∧ (∃ z28 : Int, z28 = A8 1 (z5 + 2).toNat ∧ (∃ z29 : Int, ∃ A30 : St, q_X12_told z26 z27 z28 A8 z29 A30 ∧ (d_X12_row_2 K1 z5 z u z29 A30))))))))))))))
def d_X12_row_1 (A : St) (z : Int) (u : St) : Nat → Int → Int → St → Prop
  | 0, _, _, _ => False
  | nn9 + 1, z5, z6, A8 => tr_d_X12_row_1 A z u (fun z5 z6 A8 => d_X12_row_1 A z u nn9 z5 z6 A8) z5 z6 A8
theorem u_d_X12_row_1 {A : St} {z : Int} {u : St} {nn9 : Nat} {z5 : Int} {z6 : Int} {A8 : St} (h : tr_d_X12_row_1 A z u (fun z5 z6 A8 => d_X12_row_1 A z u nn9 z5 z6 A8) z5 z6 A8) : d_X12_row_1 A z u (nn9 + 1) z5 z6 A8 := h
abbrev tr_r_X12_row (A : St) (z : Int) (u : St) : Prop := (∃ A1 : St, A1 = (stA A 0 1 0) ∧ (∃ A2 : St, q_X12_notes A1 A2 ∧ (∃ nn9 : Nat, d_X12_row_1 A z u nn9 0 (-1) A2)))
def r_X12_row (A : St) (z : Int) (u : St) : Prop := tr_r_X12_row A z u
theorem u_r_X12_row {A : St} {z : Int} {u : St} (h : tr_r_X12_row A z u) : r_X12_row A z u := h
def ws_mb_X12_row : List Cond := .code yX12_row cX12_row 5 (some .int) :: WX
set_option maxHeartbeats 4000000 in
set_option maxRecDepth 100000 in
theorem mb_X12_row (l : Launch) (dC : Nat → ClassId) (dI : Nat → Nat → Nat) (cB cI cJ cZ cQ : ClassId) (q : Nat → Nat) (A : St) (hI : IM A) (hcCI : CI A) : XMi l yX12_row ws_mb_X12_row ({ frames := 6, cells := 0, slots := 0, locals := 147 } : Room) (dC, dI) (tyA cB cI cJ cZ cQ) (WM cI cJ cZ q) A [.ref (q 0)] (fun z u => r_X12_row A z u ∧ IM u ∧ fr [14, 15, 18, 42, 43, 44, 45, 46] [1] A u ∧ CI u ∧ ((-2147483648 ≤ z ∧ z ≤ 2147483647) ∧ u 0 1 = 0)) := by
  refine x_meti (cc := cX12_row) (maxL := 5) WM_adr (by decide +kernel) rfl (Nat.le_of_ble_eq_true rfl) (fun p e s m below meth c Q AS ls hx hb hml hown hts hK hDD hA0 hP hS hl RET => ?_)
  have hown : s.vm.findClass RX12 = some m.cls := hown
  have hl : lv_has ls 5 [(0, .ref (q 0))] := hl
  have hiX12 : ∀ w ∈ u_ws RX12 TX12 85, w ∈ ws_mb_X12_row := fun w h => List.mem_cons_of_mem _ (wx_lay w h)
  obtain ⟨H, hHe⟩ : ∃ H : Heap, H = s.heap := ⟨_, rfl⟩
  rw [← hHe] at hP
  have hS : va_S AS s.heap H [] := by rw [hHe]; exact hS
  suffices hgo : ∀ locs : List Loc, va_S AS s.heap H locs → W p l e (headSpec ws_mb_X12_row ({ frames := 6, cells := 0, slots := 0, locals := 147 } : Room)).room s m [.ref (q 0)].toArray below meth c H locs 0 0 Q (F0 m 0 ls []) by
    have := hgo [] hS
    rw [hHe] at this
    exact this
  clear hS hHe
  intro locs hS
  refine lv_aload_n hx hb (dk_at dkX12_row_0 0 rfl) rfl (lv_at hl 0 rfl) ?_
  refine va_get (D := (dC, dI)) (ci := 12) (v := .int (iI (A 0 1))) (C := RX12) (T := TX12) (N := 85) hx hb hts hiX12 hown hK hP 0 wm0 rfl 1 (by decide) (hts _ (List.mem_cons_of_mem _ wlq_0_3)) (fun _ h9 => h9) rfl (dk_at dkX12_row_0 1 rfl) ?_
  have r_A_0_1 : (0 : Int) ≤ (A 0 1) ∧ (A 0 1) ≤ 1600 := hI 0 1
  refine lv_istore_n (lv' := [(1, .int (iI (A 0 1))), (0, .ref (q 0))]) hx hb (dk_at dkX12_row_0 2 rfl) rfl hl (by decide) rfl (fun ls hl => ?_)
  refine lv_aload_n hx hb (dk_at dkX12_row_0 3 rfl) rfl (lv_at hl 1 rfl) ?_
  refine lv_iconst (v := iI 0) hx hb (dk_at dkX12_row_0 4 rfl) (by decide +kernel) ?_
  refine x_put (D := (dC, dI)) (ci := 12) (v := .int (iI 0)) (ty := .int) (C := RX12) (T := TX12) (N := 85) hx hb hts hiX12 tyX12 tyX12_ok nmX12 hown hK hP hDD hS 0 wm0 rfl 1 (by decide) (hts _ (List.mem_cons_of_mem _ wlq_0_3)) (fun _ h9 => h9) rfl (by decide +kernel) rfl rfl (Nat.le_of_ble_eq_true rfl) (dk_at dkX12_row_0 5 rfl) (wf1 (v := 0)) (fun H locs hP hS => ?_)
  have hI := hI.st (j := 0) (i := 1) (v := 0) (show (0 : Int) ≤ 0 ∧ 0 ≤ 1600 from (by omega))
  refine lv_aload_n hx hb (dk_at dkX12_row_0 6 rfl) rfl (lv_at hl 1 rfl) ?_
  obtain ⟨A1, hA1⟩ : ∃ A1 : St, A1 = (stA A 0 1 0) := ⟨_, rfl⟩
  rw [← hA1] at hP hI
  refine x_callv (As := []) (rest := []) ⟨hx, hb, hml, hown, hts⟩ (mc_X12_notes l dC dI cB cI cJ cZ cQ q _ hI) (cwV 0 hts (goodV wlq_6_28 wlq_6_29 wlq_6_30 wlq_0_8 wlq_6_17) rfl rfl rfl (by decide +kernel) ⟨Nat.le_of_ble_eq_true rfl, Nat.le_of_ble_eq_true rfl⟩) hK hDD hA0 hP hS 0 12 wm0 rfl rfl hl.1 (Nat.le_of_ble_eq_true rfl) (dk_at dkX12_row_0 7 rfl) (fun A2 H locs hw3 hP hS => ?_)
  have ghw3 : q_X12_notes A1 A2 := hw3
  obtain ⟨_, hI, hf4, hw3⟩ := hw3
  clear hw3
  refine lv_iconst (v := iI (-1)) hx hb (dk_at dkX12_row_0 8 rfl) (by decide +kernel) ?_
  refine lv_istore_n (lv' := [(2, .int (iI (-1))), (1, .int (iI (A 0 1))), (0, .ref (q 0))]) hx hb (dk_at dkX12_row_0 9 rfl) rfl hl (by decide) rfl (fun ls hl => ?_)
  refine lv_iconst (v := iI 0) hx hb (dk_at dkX12_row_0 10 rfl) (by decide +kernel) ?_
  refine lv_istore_n (lv' := [(3, .int (iI 0)), (2, .int (iI (-1))), (1, .int (iI (A 0 1))), (0, .ref (q 0))]) hx hb (dk_at dkX12_row_0 11 rfl) rfl hl (by decide) rfl (fun ls hl => ?_)
  have L18_9 : ∀ (n11 : Nat) (z5 z6 : Int) (A8 : St) (H : Heap) (locs : List Loc) (ls : Array Slot), (0 ≤ z5) → (0 ≤ z5 ∧ z5 ≤ 2147483647) → (-2147483648 ≤ z6 ∧ z6 ≤ 2147483647) → (∀ (z : Int) (u : St), (∃ mm1 : Nat, (d_X12_row_1 A z u mm1 z5 z6 A8)) → r_X12_row A z u) → (((A 0 1) - z5 + 1).toNat = n11) → IM A8 → fr [14, 15, 18, 42, 43] [] A2 A8 → va_P (dC, dI) vwCl (WM cI cJ cZ q A8) H → va_S AS s.heap H locs → lv_has ls 5 [(3, .int (iI z5)), (2, .int (iI z6)), (1, .int (iI (A 0 1))), (0, .ref (q 0))] → W p l e (headSpec ws_mb_X12_row ({ frames := 6, cells := 0, slots := 0, locals := 147 } : Room)).room s m [.ref (q 0)].toArray below meth c H locs 0 0 Q (F0 m 18 ls []) := by
    intro n11
    induction n11 using Nat.strongRecOn with
    | ind n11 ih10 =>
      intro z5 z6 A8 H locs ls f12 f13 f14 hk1 hn11 hI hj7 hP hS hl
      have gI15 : Hd (IM A8) := Hd.mk hI
      refine lv_iload_n hx hb (dk_at dkX12_row_0 12 rfl) rfl (lv_at hl 0 rfl) ?_
      refine lv_iload_n hx hb (dk_at dkX12_row_0 13 rfl) rfl (lv_at hl 2 rfl) ?_
      refine lv_icmp_ge (tgt := 87) hx hb (dk_at dkX12_row_0 14 rfl) (by decide) (fun c16 => ?_) (fun c16 => ?_)
      · have c16 : (A 0 1) ≤ z5 := (i_le (rb r_A_0_1 (by decide) (by decide)) (rb f13 (by decide) (by decide))).mp c16
        refine lv_aload_n hx hb (dk_at dkX12_row_3 7 rfl) rfl (lv_at hl 3 rfl) ?_
        refine x_callv (As := []) (rest := []) ⟨hx, hb, hml, hown, hts⟩ (mc_X12_back l dC dI cB cI cJ cZ cQ q _ hI) (cwV 0 hts (goodV wlq_6_34 wlq_6_35 wlq_6_36 wlq_0_8 wlq_6_21) rfl rfl rfl (by decide +kernel) ⟨Nat.le_of_ble_eq_true rfl, Nat.le_of_ble_eq_true rfl⟩) hK hDD hA0 hP hS 0 12 wm0 rfl rfl hl.1 (Nat.le_of_ble_eq_true rfl) (dk_at dkX12_row_3 8 rfl) (fun A17 H locs hw18 hP hS => ?_)
        have ghw18 : q_X12_back A8 A17 := hw18
        obtain ⟨_, hI, hf19, hw18⟩ := hw18
        clear hw18
        refine lv_iload_n hx hb (dk_at dkX12_row_3 9 rfl) rfl (lv_at hl 1 rfl) ?_
        have e_A1_1 : A1 0 1 = 0 := by rw [hA1]; rfl
        have e_A2_1 : A2 0 1 = 0 := (hf4.2 1 rfl).trans e_A1_1
        have e_A8_1 : A8 0 1 = 0 := (hj7.2 1 rfl).trans e_A2_1
        have e_A17_1 : A17 0 1 = 0 := (hf19.2 1 rfl).trans e_A8_1
        exact RET z6 _ _ _ _ _ ⟨hk1 _ _ ⟨0 + 1, (u_d_X12_row_1 ⟨gI15.out, ⟨f13, ⟨f14, (Or.inl ⟨c16, ⟨A17, ghw18, ⟨rfl, rfl⟩⟩⟩)⟩⟩⟩)⟩, hI, fr.trans (fr.trans (fr.trans (fr_def hA1 (fr.sf (fr.rf) rfl)) hf4 rfl rfl) hj7 rfl rfl) hf19 rfl rfl, (CI.fr (CI.fr (CI.fr (CI.fr hcCI (fr_def hA1 (fr.sf (fr.rf (M := []) (N := [1])) rfl)) rfl rfl) hf4 rfl rfl) hj7 rfl rfl) hf19 rfl rfl), by omega⟩ hP hS (dk_at dkX12_row_3 10 rfl)
      · have c16 : ¬ (A 0 1) ≤ z5 := mt (i_le (rb r_A_0_1 (by decide) (by decide)) (rb f13 (by decide) (by decide))).mpr c16
        refine lv_iload_n hx hb (dk_at dkX12_row_0 15 rfl) rfl (lv_at hl 1 rfl) ?_
        refine lv_iconst (v := iI (-1)) hx hb (dk_at dkX12_row_1 0 rfl) (by decide +kernel) ?_
        refine lv_icmp_ne (tgt := 87) hx hb (dk_at dkX12_row_1 1 rfl) (by decide) (fun c20 => ?_) (fun c20 => ?_)
        · have c20 : ¬ z6 = (-1) := mt (i_eq f14 ⟨by decide, by decide⟩).mpr c20
          refine lv_aload_n hx hb (dk_at dkX12_row_3 7 rfl) rfl (lv_at hl 3 rfl) ?_
          refine x_callv (As := []) (rest := []) ⟨hx, hb, hml, hown, hts⟩ (mc_X12_back l dC dI cB cI cJ cZ cQ q _ hI) (cwV 0 hts (goodV wlq_6_34 wlq_6_35 wlq_6_36 wlq_0_8 wlq_6_21) rfl rfl rfl (by decide +kernel) ⟨Nat.le_of_ble_eq_true rfl, Nat.le_of_ble_eq_true rfl⟩) hK hDD hA0 hP hS 0 12 wm0 rfl rfl hl.1 (Nat.le_of_ble_eq_true rfl) (dk_at dkX12_row_3 8 rfl) (fun A21 H locs hw22 hP hS => ?_)
          have ghw22 : q_X12_back A8 A21 := hw22
          obtain ⟨_, hI, hf23, hw22⟩ := hw22
          clear hw22
          refine lv_iload_n hx hb (dk_at dkX12_row_3 9 rfl) rfl (lv_at hl 1 rfl) ?_
          have e_A1_1 : A1 0 1 = 0 := by rw [hA1]; rfl
          have e_A2_1 : A2 0 1 = 0 := (hf4.2 1 rfl).trans e_A1_1
          have e_A8_1 : A8 0 1 = 0 := (hj7.2 1 rfl).trans e_A2_1
          have e_A21_1 : A21 0 1 = 0 := (hf23.2 1 rfl).trans e_A8_1
          exact RET z6 _ _ _ _ _ ⟨hk1 _ _ ⟨0 + 1, (u_d_X12_row_1 ⟨gI15.out, ⟨f13, ⟨f14, (Or.inr ⟨c16, (Or.inl ⟨c20, ⟨A21, ghw22, ⟨rfl, rfl⟩⟩⟩)⟩)⟩⟩⟩)⟩, hI, fr.trans (fr.trans (fr.trans (fr_def hA1 (fr.sf (fr.rf) rfl)) hf4 rfl rfl) hj7 rfl rfl) hf23 rfl rfl, (CI.fr (CI.fr (CI.fr (CI.fr hcCI (fr_def hA1 (fr.sf (fr.rf (M := []) (N := [1])) rfl)) rfl rfl) hf4 rfl rfl) hj7 rfl rfl) hf23 rfl rfl), by omega⟩ hP hS (dk_at dkX12_row_3 10 rfl)
        · have c20 : z6 = (-1) := (i_eq f14 ⟨by decide, by decide⟩).mp c20
          refine lv_iload_n hx hb (dk_at dkX12_row_1 2 rfl) rfl (lv_at hl 0 rfl) ?_
          refine lv_iconst (v := iI 3) hx hb (dk_at dkX12_row_1 3 rfl) (by decide +kernel) ?_
          refine x_addv (v := z5 + 3) hx hb (dk_at dkX12_row_1 4 rfl) (by omega) ?_
          refine lv_iload_n hx hb (dk_at dkX12_row_1 5 rfl) rfl (lv_at hl 2 rfl) ?_
          have J65_25 : ∀ (z34 : Int) (A36 : St) (H : Heap) (locs : List Loc) (ls : Array Slot), (-2147483648 ≤ z34 ∧ z34 ≤ 2147483647) → (∀ (z : Int) (u : St), (∃ mm1 : Nat, (d_X12_row_2 (fun z5' z6' A8' => d_X12_row_1 A z u mm1 z5' z6' A8') z5 z u z34 A36)) → r_X12_row A z u) → IM A36 → fr [14, 15, 18, 42, 43] [] A8 A36 → va_P (dC, dI) vwCl (WM cI cJ cZ q A36) H → va_S AS s.heap H locs → lv_has ls 5 [(3, .int (iI z5)), (2, .int (iI z6)), (1, .int (iI (A 0 1))), (0, .ref (q 0))] → W p l e (headSpec ws_mb_X12_row ({ frames := 6, cells := 0, slots := 0, locals := 147 } : Room)).room s m [.ref (q 0)].toArray below meth c H locs 0 0 Q (F0 m 65 ls [.int (iI z34)]) := by
            intro z34 A36 H locs ls f37 hk2 hI hj35 hP hS hl
            have gI38 : Hd (IM A36) := Hd.mk hI
            refine lv_istore (lv' := [(4, .int (iI z34)), (3, .int (iI z5)), (2, .int (iI z6)), (1, .int (iI (A 0 1))), (0, .ref (q 0))]) hx hb (dk_at dkX12_row_2 11 rfl) hl (by decide) rfl (fun ls hl => ?_)
            refine lv_iload hx hb (dk_at dkX12_row_2 12 rfl) (lv_at hl 0 rfl) ?_
            refine lv_iconst (v := iI (-1)) hx hb (dk_at dkX12_row_2 13 rfl) (by decide +kernel) ?_
            have J80_40 : ∀ (z42 : Int) (H : Heap) (locs : List Loc) (ls : Array Slot), (-1 ≤ z42 ∧ z42 ≤ 533) → (∀ (z : Int) (u : St), (∃ mm1 : Nat, (d_X12_row_3 (fun z5' z6' A8' => d_X12_row_1 A z u mm1 z5' z6' A8') z5 A36 z u z42)) → r_X12_row A z u) → va_P (dC, dI) vwCl (WM cI cJ cZ q A36) H → va_S AS s.heap H locs → lv_has ls 5 [(4, .int (iI z34)), (3, .int (iI z5)), (2, .int (iI z6)), (1, .int (iI (A 0 1))), (0, .ref (q 0))] → W p l e (headSpec ws_mb_X12_row ({ frames := 6, cells := 0, slots := 0, locals := 147 } : Room)).room s m [.ref (q 0)].toArray below meth c H locs 0 0 Q (F0 m 80 ls [.int (iI z42)]) := by
              intro z42 H locs ls f44 hk3 hP hS hl
              refine lv_istore_n (lv' := [(2, .int (iI z42)), (4, .int (iI z34)), (3, .int (iI z5)), (1, .int (iI (A 0 1))), (0, .ref (q 0))]) hx hb (dk_at dkX12_row_3 4 rfl) rfl hl (by decide) rfl (fun ls hl => ?_)
              refine lv_iinc (v := iI (z5 + 3)) (lv' := [(3, .int (iI (z5 + 3))), (2, .int (iI z42)), (4, .int (iI z34)), (1, .int (iI (A 0 1))), (0, .ref (q 0))]) hx hb (dk_at dkX12_row_3 5 rfl) hl (k := 2) rfl (i_inc (by omega)) (by decide) rfl (fun ls hl => ?_)
              refine lv_goto (tgt := 18) hx hb (dk_at dkX12_row_3 6 rfl) (by decide) ?_
              exact ih10 _ (by omega) (z5 + 3) z42 _ _ _ _ (by omega) (by omega) (by omega) (fun zq uq ⟨mm1, hq⟩ => hk3 _ _ ⟨mm1, (u_d_X12_row_3 ⟨f44, hq⟩)⟩) rfl hI (fr.trans (fr.trans (fr.rf) hj7 rfl rfl) hj35 rfl rfl) hP hS (lv_sub hl [0, 1, 3, 4] rfl)
            refine lv_icmp_ne (tgt := 79) hx hb (dk_at dkX12_row_2 14 rfl) (by decide) (fun c39 => ?_) (fun c39 => ?_)
            · have c39 : ¬ z34 = (-1) := mt (i_eq f37 ⟨by decide, by decide⟩).mpr c39
              refine lv_iconst (v := iI (-1)) hx hb (dk_at dkX12_row_3 3 rfl) (by decide +kernel) ?_
              exact J80_40 (-1) _ _ _ (by omega) (fun zq uq ⟨mm1, hq⟩ => hk2 _ _ ⟨mm1, (u_d_X12_row_2 ⟨gI38.out, ⟨f37, (Or.inl ⟨c39, hq⟩)⟩⟩)⟩) hP hS (lv_sub hl [0, 1, 2, 3, 4] rfl)
            · have c39 : z34 = (-1) := (i_eq f37 ⟨by decide, by decide⟩).mp c39
              refine lv_iload_n hx hb (dk_at dkX12_row_2 15 rfl) rfl (lv_at hl 1 rfl) ?_
              refine lv_iconst (v := iI 3) hx hb (dk_at dkX12_row_3 0 rfl) (by decide +kernel) ?_
              refine x_div hx hb (dk_at dkX12_row_3 1 rfl) (by omega) (by omega) (fun z41 hz41 hz41b => ?_)
              refine lv_goto (tgt := 80) hx hb (dk_at dkX12_row_3 2 rfl) (by decide) ?_
              exact J80_40 z41 _ _ _ (by omega) (fun zq uq ⟨mm1, hq⟩ => hk2 _ _ ⟨mm1, (u_d_X12_row_2 ⟨gI38.out, ⟨f37, (Or.inr ⟨c39, ⟨z41, hz41, hq⟩⟩)⟩⟩)⟩) hP hS (lv_sub hl [0, 1, 2, 3, 4] rfl)
          refine lv_icmp_gt (tgt := 64) hx hb (dk_at dkX12_row_1 6 rfl) (by decide) (fun c24 => ?_) (fun c24 => ?_)
          · have c24 : (A 0 1) < z5 + 3 := (i_lt (rb r_A_0_1 (by decide) (by decide)) (by omega)).mp c24
            refine lv_iconst (v := iI (-1)) hx hb (dk_at dkX12_row_2 10 rfl) (by decide +kernel) ?_
            exact J65_25 (-1) _ _ _ _ (by omega) (fun zq uq ⟨mm1, hq⟩ => hk1 _ _ ⟨mm1 + 1, (u_d_X12_row_1 ⟨gI15.out, ⟨f13, ⟨f14, (Or.inr ⟨c16, (Or.inr ⟨c20, (Or.inl ⟨c24, hq⟩)⟩)⟩)⟩⟩⟩)⟩) hI (fr.rf) hP hS (lv_sub hl [0, 1, 2, 3] rfl)
          · have c24 : ¬ (A 0 1) < z5 + 3 := mt (i_lt (rb r_A_0_1 (by decide) (by decide)) (by omega)).mpr c24
            refine lv_aload_n hx hb (dk_at dkX12_row_1 7 rfl) rfl (lv_at hl 3 rfl) ?_
            refine lv_aload_n hx hb (dk_at dkX12_row_1 8 rfl) rfl (lv_at hl 3 rfl) ?_
            refine va_get (D := (dC, dI)) (ci := 12) (v := .ref (q 1)) (C := RX12) (T := TX12) (N := 85) hx hb hts hiX12 hown hK hP 0 wm0 rfl 0 (by decide) (hts _ (List.mem_cons_of_mem _ wlq_0_2)) (fun _ h9 => h9) rfl (dk_at dkX12_row_1 9 rfl) ?_
            refine lv_iload_n hx hb (dk_at dkX12_row_1 10 rfl) rfl (lv_at hl 0 rfl) ?_
            have a_A1_1 : A1 1 = A 1 := by rw [hA1]; exact rfl
            have a_A2_1 : A2 1 = A 1 := (hf4.1 1 (by decide) rfl).trans a_A1_1
            have a_A8_1 : A8 1 = A 1 := (hj7.1 1 (by decide) rfl).trans a_A2_1
            refine x_iald hx hb hK hP 1 1 wm1 rfl (by omega) (by decide) (dk_at dkX12_row_1 11 rfl) (fun z26 hz26 => ?_)
            have rz26 : (0 : Int) ≤ z26 ∧ z26 ≤ 255 := by rw [hz26]; exact hI 1 _
            have gz26 := Hd.mk hz26
            have hz26 : z26 = A 1 (z5).toNat := hz26.trans (congrFun a_A8_1 _)
            refine lv_aload_n hx hb (dk_at dkX12_row_1 12 rfl) rfl (lv_at hl 3 rfl) ?_
            refine va_get (D := (dC, dI)) (ci := 12) (v := .ref (q 1)) (C := RX12) (T := TX12) (N := 85) hx hb hts hiX12 hown hK hP 0 wm0 rfl 0 (by decide) (hts _ (List.mem_cons_of_mem _ wlq_0_2)) (fun _ h9 => h9) rfl (dk_at dkX12_row_1 13 rfl) ?_
            refine lv_iload_n hx hb (dk_at dkX12_row_1 14 rfl) rfl (lv_at hl 0 rfl) ?_
            refine lv_iconst (v := iI 1) hx hb (dk_at dkX12_row_1 15 rfl) (by decide +kernel) ?_
            refine x_addv (v := z5 + 1) hx hb (dk_at dkX12_row_2 0 rfl) (by omega) ?_
            refine x_iald hx hb hK hP 1 1 wm1 rfl (by omega) (by decide) (dk_at dkX12_row_2 1 rfl) (fun z27 hz27 => ?_)
            have rz27 : (0 : Int) ≤ z27 ∧ z27 ≤ 255 := by rw [hz27]; exact hI 1 _
            have gz27 := Hd.mk hz27
            have hz27 : z27 = A 1 (z5 + 1).toNat := hz27.trans (congrFun a_A8_1 _)
            refine lv_aload_n hx hb (dk_at dkX12_row_2 2 rfl) rfl (lv_at hl 3 rfl) ?_
            refine va_get (D := (dC, dI)) (ci := 12) (v := .ref (q 1)) (C := RX12) (T := TX12) (N := 85) hx hb hts hiX12 hown hK hP 0 wm0 rfl 0 (by decide) (hts _ (List.mem_cons_of_mem _ wlq_0_2)) (fun _ h9 => h9) rfl (dk_at dkX12_row_2 3 rfl) ?_
            refine lv_iload_n hx hb (dk_at dkX12_row_2 4 rfl) rfl (lv_at hl 0 rfl) ?_
            refine lv_iconst (v := iI 2) hx hb (dk_at dkX12_row_2 5 rfl) (by decide +kernel) ?_
            refine x_addv (v := z5 + 2) hx hb (dk_at dkX12_row_2 6 rfl) (by omega) ?_
            refine x_iald hx hb hK hP 1 1 wm1 rfl (by omega) (by decide) (dk_at dkX12_row_2 7 rfl) (fun z28 hz28 => ?_)
            have rz28 : (0 : Int) ≤ z28 ∧ z28 ≤ 255 := by rw [hz28]; exact hI 1 _
            have gz28 := Hd.mk hz28
            have hz28 : z28 = A 1 (z5 + 2).toNat := hz28.trans (congrFun a_A8_1 _)
            refine x_calli (As := [.int (iI z26), .int (iI z27), .int (iI z28)]) (rest := []) ⟨hx, hb, hml, hown, hts⟩ (mb_X12_told l dC dI cB cI cJ cZ cQ q _ z26 z27 z28 hI (rb rz26 (by decide) (by decide)) (rb rz27 (by decide) (by decide)) (rb rz28 (by decide) (by decide)) (CI.fr (CI.fr (CI.fr hcCI (fr_def hA1 (fr.sf (fr.rf (M := []) (N := [1])) rfl)) rfl rfl) hf4 rfl rfl) hj7 rfl rfl)) (cwV 3 hts (goodV wlq_6_31 wlq_6_32 wlq_6_33 wlq_0_8 wlq_6_23) rfl rfl rfl (by decide +kernel) ⟨Nat.le_of_ble_eq_true rfl, Nat.le_of_ble_eq_true rfl⟩) hK hDD hA0 hP hS 0 12 wm0 rfl rfl hl.1 (Nat.le_of_ble_eq_true rfl) (dk_at dkX12_row_2 8 rfl) (fun z29 A30 H locs hw31 hP hS => ?_)
            have ghw31 : q_X12_told z26 z27 z28 A8 z29 A30 := hw31
            obtain ⟨_, hI, hf32, hw31⟩ := hw31
            obtain ⟨hc33, hw31⟩ := hw31
            refine lv_goto (tgt := 65) hx hb (dk_at dkX12_row_2 9 rfl) (by decide) ?_
            exact J65_25 z29 _ _ _ _ (by omega) (fun zq uq ⟨mm1, hq⟩ => hk1 _ _ ⟨mm1 + 1, (u_d_X12_row_1 ⟨gI15.out, ⟨f13, ⟨f14, (Or.inr ⟨c16, (Or.inr ⟨c20, (Or.inr ⟨c24, ⟨z26, gz26.out, ⟨z27, gz27.out, ⟨z28, gz28.out, ⟨z29, A30, ghw31, hq⟩⟩⟩⟩⟩)⟩)⟩)⟩⟩⟩)⟩) hI (fr.trans (fr.rf) hf32 rfl rfl) hP hS (lv_sub hl [0, 1, 2, 3] rfl)
  exact L18_9 _ 0 (-1) _ _ _ _ (by omega) (by omega) (by omega) (fun zq uq ⟨mm1, hq⟩ => (u_r_X12_row ⟨A1, hA1, ⟨A2, ghw3, ⟨mm1, hq⟩⟩⟩)) rfl hI (fr.rf) hP hS (lv_sub hl [0, 1, 2, 3] rfl)
theorem dkX12_searches_0 : dkq cX12_searches [(0, .iconst 0, 1), (1, .istore 4, 2), (3, .iload 4, 2), (5, .ldc 207, 2), (7, .if_icmp .ge 17, 3), (10, .aload_n 0, 1), (11, .getfield 208, 3), (14, .iload 4, 2), (16, .iconst (-1), 1), (17, .iastore, 1), (18, .iinc 4 1, 3), (21, .goto (-18), 3), (24, .aload_n 0, 1), (25, .iconst 0, 1), (26, .putfield 214, 3), (29, .aload_n 0, 1)] = true := by decide +kernel
theorem dkX12_searches_1 : dkq cX12_searches [(30, .iload_n 1, 1), (31, .putfield 226, 3), (34, .aload_n 0, 1), (35, .iload_n 2, 1), (36, .putfield 229, 3), (39, .aload_n 0, 1), (40, .iconst 0, 1), (41, .putfield 235, 3), (44, .bipush 6, 2), (46, .aload_n 0, 1), (47, .getfield 48, 3), (50, .imul, 1), (51, .istore 4, 2), (53, .iload 4, 2), (55, .bipush 6, 2), (57, .aload_n 0, 1)] = true := by decide +kernel
theorem dkX12_searches_2 : dkq cX12_searches [(58, .getfield 48, 3), (61, .imul, 1), (62, .aload_n 0, 1), (63, .getfield 113, 3), (66, .aload_n 0, 1), (67, .getfield 48, 3), (70, .iaload, 1), (71, .iadd, 1), (72, .if_icmp .ge 53, 3), (75, .iload_n 3, 1), (76, .ifCond .eq 49, 3), (79, .aload_n 0, 1), (80, .getfield 116, 3), (83, .iload 4, 2), (85, .iaload, 1), (86, .iload_n 1, 1)] = true := by decide +kernel
theorem dkX12_searches_3 : dkq cX12_searches [(87, .if_icmp .eq 6, 3), (90, .goto 29, 3), (93, .aload_n 0, 1), (94, .getfield 232, 3), (97, .aload_n 0, 1), (98, .getfield 235, 3), (101, .aload_n 0, 1), (102, .getfield 119, 3), (105, .iload 4, 2), (107, .iaload, 1), (108, .iastore, 1), (109, .aload_n 0, 1), (110, .dup, 1), (111, .getfield 235, 3), (114, .iconst 1, 1), (115, .iadd, 1)] = true := by decide +kernel
theorem dkX12_searches_4 : dkq cX12_searches [(116, .putfield 235, 3), (119, .iinc 4 1, 3), (122, .goto (-69), 3), (125, .aload_n 0, 1), (126, .aload_n 0, 1), (127, .iload_n 1, 1), (128, .invokevirtual 520, 3), (131, .putfield 217, 3), (134, .iconst 0, 1), (135, .istore 4, 2), (137, .iload 4, 2), (139, .iconst 4, 1), (140, .if_icmp .ge 45, 3), (143, .aload_n 0, 1), (144, .getfield 220, 3), (147, .iload 4, 2)] = true := by decide +kernel
theorem dkX12_searches_5 : dkq cX12_searches [(149, .iload 4, 2), (151, .aload_n 0, 1), (152, .getfield 80, 3), (155, .aload_n 0, 1), (156, .getfield 48, 3), (159, .iaload, 1), (160, .if_icmp .ge 17, 3), (163, .aload_n 0, 1), (164, .getfield 89, 3), (167, .aload_n 0, 1), (168, .iload 4, 2), (170, .invokevirtual 484, 3), (173, .iaload, 1), (174, .goto 4, 3), (177, .iconst 0, 1), (178, .iastore, 1)] = true := by decide +kernel
theorem dkX12_searches_6 : dkq cX12_searches [(179, .iinc 4 1, 3), (182, .goto (-45), 3), (185, .aload_n 0, 1), (186, .iconst 0, 1), (187, .putfield 223, 3), (190, .aload_n 0, 1), (191, .iconst 0, 1), (192, .invokevirtual 576, 3), (195, .iconst 0, 1), (196, .istore 4, 2), (198, .iload 4, 2), (200, .aload_n 0, 1), (201, .getfield 214, 3), (204, .if_icmp .ge 20, 3), (207, .aload_n 0, 1), (208, .aload_n 0, 1)] = true := by decide +kernel
theorem dkX12_searches_7 : dkq cX12_searches [(209, .getfield 211, 3), (212, .iload 4, 2), (214, .iaload, 1), (215, .invokevirtual 579, 3), (218, .iinc 4 1, 3), (221, .goto (-23), 3), (224, .return_, 1)] = true := by decide +kernel
theorem dkX12_goesOn__0 : dkq cX12_goesOn_ [(0, .aload_n 0, 1), (1, .getfield 208, 3), (4, .iload_n 1, 1), (5, .iaload, 1), (6, .iconst 1, 1), (7, .iadd, 1), (8, .istore_n 2, 1), (9, .aload_n 0, 1), (10, .iload_n 1, 1), (11, .invokevirtual 581, 3), (14, .aload_n 0, 1), (15, .invokevirtual 584, 3), (18, .istore_n 3, 1), (19, .iconst 0, 1), (20, .istore 4, 2), (22, .iload 4, 2)] = true := by decide +kernel
theorem dkX12_goesOn__1 : dkq cX12_goesOn_ [(24, .aload_n 0, 1), (25, .getfield 58, 3), (28, .aload_n 0, 1), (29, .getfield 48, 3), (32, .iaload, 1), (33, .if_icmp .ge 97, 3), (36, .aload_n 0, 1), (37, .iload_n 1, 1), (38, .invokevirtual 581, 3), (41, .aload_n 0, 1), (42, .getfield 70, 3), (45, .aload_n 0, 1), (46, .iload 4, 2), (48, .invokevirtual 487, 3), (51, .baload, 1), (52, .ifCond .ne 72, 3)] = true := by decide +kernel
theorem dkX12_goesOn__2 : dkq cX12_goesOn_ [(55, .aload_n 0, 1), (56, .aload_n 0, 1), (57, .getfield 217, 3), (60, .iload 4, 2), (62, .invokevirtual 523, 3), (65, .ifCond .eq 59, 3), (68, .aload_n 0, 1), (69, .iload 4, 2), (71, .invokevirtual 567, 3), (74, .ifCond .ne 50, 3), (77, .aload_n 0, 1), (78, .iload 4, 2), (80, .aload_n 0, 1), (81, .getfield 226, 3), (84, .aload_n 0, 1), (85, .getfield 217, 3)] = true := by decide +kernel
theorem dkX12_goesOn__3 : dkq cX12_goesOn_ [(88, .aload_n 0, 1), (89, .getfield 229, 3), (92, .invokestatic 529, 3), (95, .iload_n 3, 1), (96, .invokevirtual 532, 3), (99, .ifCond .eq 6, 3), (102, .goto 22, 3), (105, .aload_n 0, 1), (106, .aload_n 0, 1), (107, .iload 4, 2), (109, .aload_n 0, 1), (110, .getfield 217, 3), (113, .invokevirtual 536, 3), (116, .putfield 217, 3), (119, .aload_n 0, 1), (120, .iload_n 2, 1)] = true := by decide +kernel
theorem dkX12_goesOn__4 : dkq cX12_goesOn_ [(121, .invokevirtual 576, 3), (124, .iinc 4 1, 3), (127, .goto (-105), 3), (130, .iconst 0, 1), (131, .istore 4, 2), (133, .iload 4, 2), (135, .aload_n 0, 1), (136, .getfield 80, 3), (139, .aload_n 0, 1), (140, .getfield 48, 3), (143, .iaload, 1), (144, .if_icmp .ge 90, 3), (147, .aload_n 0, 1), (148, .iload_n 1, 1), (149, .invokevirtual 581, 3), (152, .aload_n 0, 1)] = true := by decide +kernel
theorem dkX12_goesOn__5 : dkq cX12_goesOn_ [(153, .getfield 229, 3), (156, .iload 4, 2), (158, .ishr, 1), (159, .iconst 1, 1), (160, .iand, 1), (161, .ifCond .eq 67, 3), (164, .aload_n 0, 1), (165, .getfield 220, 3), (168, .iload 4, 2), (170, .iaload, 1), (171, .ifCond .eq 57, 3), (174, .aload_n 0, 1), (175, .aload_n 0, 1), (176, .getfield 217, 3), (179, .aload_n 0, 1), (180, .getfield 92, 3)] = true := by decide +kernel
theorem dkX12_goesOn__6 : dkq cX12_goesOn_ [(183, .bipush 10, 2), (185, .aload_n 0, 1), (186, .iload 4, 2), (188, .invokevirtual 484, 3), (191, .imul, 1), (192, .aload_n 0, 1), (193, .getfield 220, 3), (196, .iload 4, 2), (198, .iaload, 1), (199, .iadd, 1), (200, .iconst 1, 1), (201, .isub, 1), (202, .iaload, 1), (203, .invokevirtual 523, 3), (206, .ifCond .ne 6, 3), (209, .goto 19, 3)] = true := by decide +kernel
theorem dkX12_goesOn__7 : dkq cX12_goesOn_ [(212, .aload_n 0, 1), (213, .getfield 220, 3), (216, .iload 4, 2), (218, .dup2, 1), (219, .iaload, 1), (220, .iconst 1, 1), (221, .isub, 1), (222, .iastore, 1), (223, .aload_n 0, 1), (224, .iload_n 2, 1), (225, .invokevirtual 576, 3), (228, .iinc 4 1, 3), (231, .goto (-98), 3), (234, .return_, 1)] = true := by decide +kernel
