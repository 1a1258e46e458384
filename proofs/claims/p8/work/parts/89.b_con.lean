abbrev tr_r_X12_mayBeAt (x1 : Int) (A : St) (z : Int) : Prop := (((10 ≤ x1) ∧ (((20 ≤ x1) ∧ (((x1 = 40) ∧ (z = 1)) ∨ ((¬ x1 = 40) ∧ (((40 ≤ x1) ∧ (z = 0)) ∨ ((¬ 40 ≤ x1) ∧ (∃ z5 : Int, q_X12_isDoor (x1 - 20) A z5 ∧ (((z5 = 0) ∧ (z = 0)) ∨ ((¬ z5 = 0) ∧ (∃ z9 : Int, q_X12_door10 (x1 - 20) A z9 ∧ (∃ z12 : Int, z12 = A 8 (10 * (A 0 12) + x1 - 20).toNat ∧ (((z12 = 0) ∧ (z = 0)) ∨ ((¬ z12 = 0) ∧ (z = 1))))))))))))) ∨ ((¬ 20 ≤ x1) ∧ (∃ z14 : Int, q_X12_isPlace (x1 - 10) A z14 ∧ (z = z14))))) ∨ ((¬ 10 ≤ x1) ∧ (∃ z17 : Int, q_X12_isPerson x1 A z17 ∧ (z = z17))))
def r_X12_mayBeAt (x1 : Int) (A : St) (z : Int) : Prop := tr_r_X12_mayBeAt x1 A z
theorem u_r_X12_mayBeAt {x1 : Int} {A : St} {z : Int} (h : tr_r_X12_mayBeAt x1 A z) : r_X12_mayBeAt x1 A z := h
def q_X12_mayBeAt (x1 : Int) (A : St) (z : Int) : Prop := r_X12_mayBeAt x1 A z ∧ ((0 ≤ z ∧ z ≤ 1) ∧ (Hd (z = 1 → x1 ≤ 40)))
def ws_mb_X12_mayBeAt : List Cond := .code yX12_mayBeAt cX12_mayBeAt 2 (some .boolean) :: WX
set_option maxHeartbeats 4000000 in
set_option maxRecDepth 100000 in
theorem mb_X12_mayBeAt (l : Launch) (dC : Nat → ClassId) (dI : Nat → Nat → Nat) (cB cI cJ cZ cQ : ClassId) (q : Nat → Nat) (A : St) (x1 : Int) (hI : IM A) (hx1 : (0 : Int) ≤ x1 ∧ x1 ≤ 255) : XMi l yX12_mayBeAt ws_mb_X12_mayBeAt ({ frames := 2, cells := 0, slots := 0, locals := 43 } : Room) (dC, dI) (tyA cB cI cJ cZ cQ) (WM cI cJ cZ q) A [.ref (q 0), .int (iI x1)] (fun z u => A = u ∧ r_X12_mayBeAt x1 A z ∧ ((0 ≤ z ∧ z ≤ 1) ∧ (Hd (z = 1 → x1 ≤ 40)))) := by
  refine x_metz (cc := cX12_mayBeAt) (maxL := 2) WM_adr (by decide +kernel) rfl (Nat.le_of_ble_eq_true rfl) (fun z u h => h.2.2.1) (fun p e s m below meth c Q AS ls hx hb hml hown hts hK hDD hA0 hP hS hl RET => ?_)
  have hown : s.vm.findClass RX12 = some m.cls := hown
  have hl : lv_has ls 2 [(0, .ref (q 0)), (1, .int (iI x1))] := hl
  have hiX12 : ∀ w ∈ u_ws RX12 TX12 85, w ∈ ws_mb_X12_mayBeAt := fun w h => List.mem_cons_of_mem _ (wx_lay w h)
  obtain ⟨H, hHe⟩ : ∃ H : Heap, H = s.heap := ⟨_, rfl⟩
  rw [← hHe] at hP
  have hS : va_S AS s.heap H [] := by rw [hHe]; exact hS
  suffices hgo : ∀ locs : List Loc, va_S AS s.heap H locs → W p l e (headSpec ws_mb_X12_mayBeAt ({ frames := 2, cells := 0, slots := 0, locals := 43 } : Room)).room s m [.ref (q 0), .int (iI x1)].toArray below meth c H locs 0 0 Q (F0 m 0 ls []) by
    have := hgo [] hS
    rw [hHe] at this
    exact this
  clear hS hHe
  intro locs hS
  refine lv_iload_n hx hb dX12_mayBeAt_0 rfl (lv_at hl 1 rfl) ?_
  refine lv_bipush (v := iI 10) hx hb dX12_mayBeAt_1 (by decide +kernel) ?_
  refine lv_icmp_ge (tgt := 12) hx hb dX12_mayBeAt_3 (by decide) (fun c1 => ?_) (fun c1 => ?_)
  · have c1 : 10 ≤ x1 := (i_le ⟨by decide, by decide⟩ (rb hx1 (by decide) (by decide))).mp c1
    refine lv_iload_n hx hb dX12_mayBeAt_12 rfl (lv_at hl 1 rfl) ?_
    refine lv_bipush (v := iI 20) hx hb dX12_mayBeAt_13 (by decide +kernel) ?_
    refine lv_icmp_ge (tgt := 27) hx hb dX12_mayBeAt_15 (by decide) (fun c2 => ?_) (fun c2 => ?_)
    · have c2 : 20 ≤ x1 := (i_le ⟨by decide, by decide⟩ (rb hx1 (by decide) (by decide))).mp c2
      refine lv_iload_n hx hb dX12_mayBeAt_27 rfl (lv_at hl 1 rfl) ?_
      refine lv_bipush (v := iI 40) hx hb dX12_mayBeAt_28 (by decide +kernel) ?_
      refine lv_icmp_eq (tgt := 66) hx hb dX12_mayBeAt_30 (by decide) (fun c3 => ?_) (fun c3 => ?_)
      · have c3 : x1 = 40 := (i_eq (rb hx1 (by decide) (by decide)) ⟨by decide, by decide⟩).mp c3
        refine lv_iconst (v := iI 1) hx hb dX12_mayBeAt_66 (by decide +kernel) ?_
        refine lv_goto (tgt := 71) hx hb dX12_mayBeAt_67 (by decide) ?_
        exact RET 1 _ _ _ _ _ ⟨rfl, (u_r_X12_mayBeAt (Or.inl ⟨c1, (Or.inl ⟨c2, (Or.inl ⟨c3, rfl⟩)⟩)⟩)), ⟨by decide, Hd.mk (fun h => by omega)⟩⟩ hP hS dX12_mayBeAt_71
      · have c3 : ¬ x1 = 40 := mt (i_eq (rb hx1 (by decide) (by decide)) ⟨by decide, by decide⟩).mpr c3
        refine lv_iload_n hx hb dX12_mayBeAt_33 rfl (lv_at hl 1 rfl) ?_
        refine lv_bipush (v := iI 40) hx hb dX12_mayBeAt_34 (by decide +kernel) ?_
        refine lv_icmp_ge (tgt := 70) hx hb dX12_mayBeAt_36 (by decide) (fun c4 => ?_) (fun c4 => ?_)
        · have c4 : 40 ≤ x1 := (i_le ⟨by decide, by decide⟩ (rb hx1 (by decide) (by decide))).mp c4
          refine lv_iconst (v := iI 0) hx hb dX12_mayBeAt_70 (by decide +kernel) ?_
          exact RET 0 _ _ _ _ _ ⟨rfl, (u_r_X12_mayBeAt (Or.inl ⟨c1, (Or.inl ⟨c2, (Or.inr ⟨c3, (Or.inl ⟨c4, rfl⟩)⟩)⟩)⟩)), ⟨by decide, Hd.mk (fun h => by omega)⟩⟩ hP hS dX12_mayBeAt_71
        · have c4 : ¬ 40 ≤ x1 := mt (i_le ⟨by decide, by decide⟩ (rb hx1 (by decide) (by decide))).mpr c4
          refine lv_aload_n hx hb dX12_mayBeAt_39 rfl (lv_at hl 0 rfl) ?_
          refine lv_iload_n hx hb dX12_mayBeAt_40 rfl (lv_at hl 1 rfl) ?_
          refine lv_bipush (v := iI 20) hx hb dX12_mayBeAt_41 (by decide +kernel) ?_
          refine x_subv (v := x1 - 20) hx hb dX12_mayBeAt_43 (by omega) ?_
          have r_A_0_12 : (0 : Int) ≤ (A 0 12) ∧ (A 0 12) ≤ 1 := hI 0 12
          refine x_calli (As := [.int (iI (x1 - 20))]) (rest := []) ⟨hx, hb, hml, hown, hts⟩ (mc_X12_isDoorB l dC dI cB cI cJ cZ cQ q _ (x1 - 20) hI (by omega)) (cwV 1 hts (goodV (wl_in_5 _ (List.mem_of_getElem? (i := 14) rfl)) (wl_in_5 _ (List.mem_of_getElem? (i := 15) rfl)) (wl_in_5 _ (List.mem_of_getElem? (i := 16) rfl)) (wl_in_0 _ (List.mem_of_getElem? (i := 8) rfl)) (wl_in_4 _ (List.mem_of_getElem? (i := 38) rfl))) rfl rfl rfl (by decide +kernel) ⟨Nat.le_of_ble_eq_true rfl, Nat.le_of_ble_eq_true rfl⟩) hK hDD hA0 hP hS 0 12 wm0 rfl rfl hl.1 (Nat.le_of_ble_eq_true rfl) dX12_mayBeAt_44 (fun z5 A6 H locs hw7 hP hS => ?_)
          obtain ⟨rfl, hw7⟩ := hw7
          have ghw7 : q_X12_isDoor (x1 - 20) A z5 := hw7
          have hw7 := hw7.2
          have rz5 : 0 ≤ z5 ∧ z5 ≤ 1 := hw7.1
          refine lv_if_eq (tgt := 70) hx hb dX12_mayBeAt_47 (by decide) (fun c8 => ?_) (fun c8 => ?_)
          · have c8 : z5 = 0 := (i_eq0 (rb rz5 (by decide) (by decide))).mp c8
            clear hw7
            refine lv_iconst (v := iI 0) hx hb dX12_mayBeAt_70 (by decide +kernel) ?_
            exact RET 0 _ _ _ _ _ ⟨rfl, (u_r_X12_mayBeAt (Or.inl ⟨c1, (Or.inl ⟨c2, (Or.inr ⟨c3, (Or.inr ⟨c4, ⟨z5, ghw7, (Or.inl ⟨c8, rfl⟩)⟩⟩)⟩)⟩)⟩)), ⟨by decide, Hd.mk (fun h => by omega)⟩⟩ hP hS dX12_mayBeAt_71
          · have c8 : ¬ z5 = 0 := mt (i_eq0 (rb rz5 (by decide) (by decide))).mpr c8
            have hw7b := hw7.2.mp (by omega)
            clear hw7
            refine lv_aload_n hx hb dX12_mayBeAt_50 rfl (lv_at hl 0 rfl) ?_
            refine va_get (D := (dC, dI)) (ci := 12) (v := .ref (q 8)) (C := RX12) (T := TX12) (N := 85) hx hb hts hiX12 hown hK hP 0 wm0 rfl 19 (by decide) (hts _ (List.mem_cons_of_mem _ (wl_in_2 _ (List.mem_of_getElem? (i := 41) rfl)))) (fun _ h9 => h9) rfl dX12_mayBeAt_51 ?_
            refine lv_aload_n hx hb dX12_mayBeAt_54 rfl (lv_at hl 0 rfl) ?_
            refine lv_iload_n hx hb dX12_mayBeAt_55 rfl (lv_at hl 1 rfl) ?_
            refine lv_bipush (v := iI 20) hx hb dX12_mayBeAt_56 (by decide +kernel) ?_
            refine x_subv (v := x1 - 20) hx hb dX12_mayBeAt_58 (by omega) ?_
            refine x_calli (As := [.int (iI (x1 - 20))]) (rest := [.ref (q 8)]) ⟨hx, hb, hml, hown, hts⟩ (mc_X12_door10 l dC dI cB cI cJ cZ cQ q _ (x1 - 20) hI (by omega)) (cwV 1 hts (goodV (wl_in_4 _ (List.mem_of_getElem? (i := 49) rfl)) (wl_in_4 _ (List.mem_of_getElem? (i := 50) rfl)) (wl_in_4 _ (List.mem_of_getElem? (i := 51) rfl)) (wl_in_0 _ (List.mem_of_getElem? (i := 8) rfl)) (wl_in_4 _ (List.mem_of_getElem? (i := 42) rfl))) rfl rfl rfl (by decide +kernel) ⟨Nat.le_of_ble_eq_true rfl, Nat.le_of_ble_eq_true rfl⟩) hK hDD hA0 hP hS 0 12 wm0 rfl rfl hl.1 (Nat.le_of_ble_eq_true rfl) dX12_mayBeAt_59 (fun z9 A10 H locs hw11 hP hS => ?_)
            obtain ⟨rfl, hw11⟩ := hw11
            have ghw11 : q_X12_door10 (x1 - 20) A z9 := hw11
            have hw11 := hw11.2
            refine tp_i (y := iI (10 * (A 0 12) + x1 - 20)) (congrArg iI (show z9 = 10 * (A 0 12) + x1 - 20 by omega)) ?_
            clear hw11
            refine x_zald hx hb hK hP 8 3 wm8 rfl (by omega) (by decide) dX12_mayBeAt_62 (fun z12 hz12 => ?_)
            have rz12 : (0 : Int) ≤ z12 ∧ z12 ≤ 1 := by rw [hz12]; exact hI 8 _
            have gz12 := Hd.mk hz12
            have hz12 : z12 = A 8 (10 * (A 0 12) + x1 - 20).toNat := hz12
            refine lv_if_eq (tgt := 70) hx hb dX12_mayBeAt_63 (by decide) (fun c13 => ?_) (fun c13 => ?_)
            · have c13 : z12 = 0 := (i_eq0 (rb rz12 (by decide) (by decide))).mp c13
              refine lv_iconst (v := iI 0) hx hb dX12_mayBeAt_70 (by decide +kernel) ?_
              exact RET 0 _ _ _ _ _ ⟨rfl, (u_r_X12_mayBeAt (Or.inl ⟨c1, (Or.inl ⟨c2, (Or.inr ⟨c3, (Or.inr ⟨c4, ⟨z5, ghw7, (Or.inr ⟨c8, ⟨z9, ghw11, ⟨z12, gz12.out, (Or.inl ⟨c13, rfl⟩)⟩⟩⟩)⟩⟩)⟩)⟩)⟩)), ⟨by decide, Hd.mk (fun h => by omega)⟩⟩ hP hS dX12_mayBeAt_71
            · have c13 : ¬ z12 = 0 := mt (i_eq0 (rb rz12 (by decide) (by decide))).mpr c13
              refine lv_iconst (v := iI 1) hx hb dX12_mayBeAt_66 (by decide +kernel) ?_
              refine lv_goto (tgt := 71) hx hb dX12_mayBeAt_67 (by decide) ?_
              exact RET 1 _ _ _ _ _ ⟨rfl, (u_r_X12_mayBeAt (Or.inl ⟨c1, (Or.inl ⟨c2, (Or.inr ⟨c3, (Or.inr ⟨c4, ⟨z5, ghw7, (Or.inr ⟨c8, ⟨z9, ghw11, ⟨z12, gz12.out, (Or.inr ⟨c13, rfl⟩)⟩⟩⟩)⟩⟩)⟩)⟩)⟩)), ⟨by decide, Hd.mk (fun h => by omega)⟩⟩ hP hS dX12_mayBeAt_71
    · have c2 : ¬ 20 ≤ x1 := mt (i_le ⟨by decide, by decide⟩ (rb hx1 (by decide) (by decide))).mpr c2
      refine lv_aload_n hx hb dX12_mayBeAt_18 rfl (lv_at hl 0 rfl) ?_
      refine lv_iload_n hx hb dX12_mayBeAt_19 rfl (lv_at hl 1 rfl) ?_
      refine lv_bipush (v := iI 10) hx hb dX12_mayBeAt_20 (by decide +kernel) ?_
      refine x_subv (v := x1 - 10) hx hb dX12_mayBeAt_22 (by omega) ?_
      have r_A_0_12 : (0 : Int) ≤ (A 0 12) ∧ (A 0 12) ≤ 1 := hI 0 12
      refine x_calli (As := [.int (iI (x1 - 10))]) (rest := []) ⟨hx, hb, hml, hown, hts⟩ (mc_X12_isPlaceB l dC dI cB cI cJ cZ cQ q _ (x1 - 10) hI (by omega)) (cwV 1 hts (goodV (wl_in_7 _ (List.mem_of_getElem? (i := 27) rfl)) (wl_in_7 _ (List.mem_of_getElem? (i := 28) rfl)) (wl_in_7 _ (List.mem_of_getElem? (i := 29) rfl)) (wl_in_0 _ (List.mem_of_getElem? (i := 8) rfl)) (wl_in_4 _ (List.mem_of_getElem? (i := 37) rfl))) rfl rfl rfl (by decide +kernel) ⟨Nat.le_of_ble_eq_true rfl, Nat.le_of_ble_eq_true rfl⟩) hK hDD hA0 hP hS 0 12 wm0 rfl rfl hl.1 (Nat.le_of_ble_eq_true rfl) dX12_mayBeAt_23 (fun z14 A15 H locs hw16 hP hS => ?_)
      obtain ⟨rfl, hw16⟩ := hw16
      have ghw16 : q_X12_isPlace (x1 - 10) A z14 := hw16
      have hw16 := hw16.2
      have rz14 : 0 ≤ z14 ∧ z14 ≤ 1 := hw16.1
      exact RET z14 _ _ _ _ _ ⟨rfl, (u_r_X12_mayBeAt (Or.inl ⟨c1, (Or.inr ⟨c2, ⟨z14, ghw16, rfl⟩⟩)⟩)), ⟨by omega, Hd.mk (fun h => by omega)⟩⟩ hP hS dX12_mayBeAt_26
  · have c1 : ¬ 10 ≤ x1 := mt (i_le ⟨by decide, by decide⟩ (rb hx1 (by decide) (by decide))).mpr c1
    refine lv_aload_n hx hb dX12_mayBeAt_6 rfl (lv_at hl 0 rfl) ?_
    refine lv_iload_n hx hb dX12_mayBeAt_7 rfl (lv_at hl 1 rfl) ?_
    have r_A_0_12 : (0 : Int) ≤ (A 0 12) ∧ (A 0 12) ≤ 1 := hI 0 12
    refine x_calli (As := [.int (iI x1)]) (rest := []) ⟨hx, hb, hml, hown, hts⟩ (mc_X12_isPersonB l dC dI cB cI cJ cZ cQ q _ x1 hI (rb hx1 (by decide) (by decide))) (cwV 1 hts (goodV (wl_in_5 _ (List.mem_of_getElem? (i := 55) rfl)) (wl_in_5 _ (List.mem_of_getElem? (i := 56) rfl)) (wl_in_5 _ (List.mem_of_getElem? (i := 57) rfl)) (wl_in_0 _ (List.mem_of_getElem? (i := 8) rfl)) (wl_in_4 _ (List.mem_of_getElem? (i := 40) rfl))) rfl rfl rfl (by decide +kernel) ⟨Nat.le_of_ble_eq_true rfl, Nat.le_of_ble_eq_true rfl⟩) hK hDD hA0 hP hS 0 12 wm0 rfl rfl hl.1 (Nat.le_of_ble_eq_true rfl) dX12_mayBeAt_8 (fun z17 A18 H locs hw19 hP hS => ?_)
    obtain ⟨rfl, hw19⟩ := hw19
    have ghw19 : q_X12_isPerson x1 A z17 := hw19
    have hw19 := hw19.2
    have rz17 : 0 ≤ z17 ∧ z17 ≤ 1 := hw19.1
    exact RET z17 _ _ _ _ _ ⟨rfl, (u_r_X12_mayBeAt (Or.inr ⟨c1, ⟨z17, ghw19, rfl⟩⟩)), ⟨by omega, Hd.mk (fun h => by omega)⟩⟩ hP hS dX12_mayBeAt_11

abbrev tr_d_X12_isRowAt_2 (K1 : Int → Prop) (x1 : Int) (z1 : Int) (A : St) (z : Int) (K2 : Int → Prop) (z15 : Int) : Prop := ((0 ≤ z15 ∧ z15 ≤ 2147483647) ∧ (((z1 ≤ z15) ∧ (K1 (z1 + 1))) ∨ ((¬ z1 ≤ z15) ∧ (∃ z23 : Int, z23 = A 1 (x1 + z15).toNat ∧ (∃ z24 : Int, z24 = A 1 (x1 + z1).toNat ∧ (((¬ z23 = z24) ∧ (K2 (z15 + 1))) ∨ ((z23 = z24) ∧ (z = 0))))))))
def d_X12_isRowAt_2 (K1 : Int → Prop) (x1 : Int) (z1 : Int) (A : St) (z : Int) : Nat → Int → Prop
  | 0, _ => False
  | nn9 + 1, z15 => tr_d_X12_isRowAt_2 K1 x1 z1 A z (fun z15 => d_X12_isRowAt_2 K1 x1 z1 A z nn9 z15) z15
theorem u_d_X12_isRowAt_2 {K1 : Int → Prop} {x1 : Int} {z1 : Int} {A : St} {z : Int} {nn9 : Nat} {z15 : Int} (h : tr_d_X12_isRowAt_2 K1 x1 z1 A z (fun z15 => d_X12_isRowAt_2 K1 x1 z1 A z nn9 z15) z15) : d_X12_isRowAt_2 K1 x1 z1 A z (nn9 + 1) z15 := h
abbrev tr_d_X12_isRowAt_1 (x1 : Int) (x2 : Int) (A : St) (z : Int) (K1 : Int → Prop) (z1 : Int) : Prop := ((0 ≤ z1 ∧ z1 ≤ 2147483647) ∧ (((x2 ≤ z1) ∧ (z = 1)) ∨ ((¬ x2 ≤ z1) ∧ (∃ z10 : Int, z10 = A 1 (x1 + z1).toNat ∧ (∃ z11 : Int, q_X12_isDoor z10 A z11 ∧ (((¬ z11 = 0) ∧ (∃ nn9 : Nat, d_X12_isRowAt_2 K1 x1 z1 A z nn9 0)) ∨ ((z11 = 0) ∧ (z = 0))))))))
def d_X12_isRowAt_1 (x1 : Int) (x2 : Int) (A : St) (z : Int) : Nat → Int → Prop
  | 0, _ => False
  | nn9 + 1, z1 => tr_d_X12_isRowAt_1 x1 x2 A z (fun z1 => d_X12_isRowAt_1 x1 x2 A z nn9 z1) z1
theorem u_d_X12_isRowAt_1 {x1 : Int} {x2 : Int} {A : St} {z : Int} {nn9 : Nat} {z1 : Int} (h : tr_d_X12_isRowAt_1 x1 x2 A z (fun z1 => d_X12_isRowAt_1 x1 x2 A z nn9 z1) z1) : d_X12_isRowAt_1 x1 x2 A z (nn9 + 1) z1 := h
abbrev tr_r_X12_isRowAt (x1 : Int) (x2 : Int) (A : St) (z : Int) : Prop := (∃ nn9 : Nat, d_X12_isRowAt_1 x1 x2 A z nn9 0)
def r_X12_isRowAt (x1 : Int) (x2 : Int) (A : St) (z : Int) : Prop := tr_r_X12_isRowAt x1 x2 A z
theorem u_r_X12_isRowAt {x1 : Int} {x2 : Int} {A : St} {z : Int} (h : tr_r_X12_isRowAt x1 x2 A z) : r_X12_isRowAt x1 x2 A z := h
def q_X12_isRowAt (x1 : Int) (x2 : Int) (A : St) (z : Int) : Prop := r_X12_isRowAt x1 x2 A z ∧ ((0 ≤ z ∧ z ≤ 1) ∧ (Hd (z = 1 → ∀ j : Nat, (j : Int) < x2 → 0 ≤ A 1 (x1 + j).toNat ∧ A 1 (x1 + j).toNat ≤ 9)))
def ws_mb_X12_isRowAt : List Cond := .code yX12_isRowAt cX12_isRowAt 5 (some .boolean) :: WX
set_option maxHeartbeats 4000000 in
set_option maxRecDepth 100000 in
theorem mb_X12_isRowAt (l : Launch) (dC : Nat → ClassId) (dI : Nat → Nat → Nat) (cB cI cJ cZ cQ : ClassId) (q : Nat → Nat) (A : St) (x1 x2 : Int) (hI : IM A) (hx1 : (0 : Int) ≤ x1 ∧ x1 ≤ 1600) (hx2 : (0 : Int) ≤ x2 ∧ x2 ≤ 6) : XMi l yX12_isRowAt ws_mb_X12_isRowAt ({ frames := 2, cells := 0, slots := 0, locals := 43 } : Room) (dC, dI) (tyA cB cI cJ cZ cQ) (WM cI cJ cZ q) A [.ref (q 0), .int (iI x1), .int (iI x2)] (fun z u => A = u ∧ r_X12_isRowAt x1 x2 A z ∧ ((0 ≤ z ∧ z ≤ 1) ∧ (Hd (z = 1 → ∀ j : Nat, (j : Int) < x2 → 0 ≤ A 1 (x1 + j).toNat ∧ A 1 (x1 + j).toNat ≤ 9)))) := by
  refine x_metz (cc := cX12_isRowAt) (maxL := 5) WM_adr (by decide +kernel) rfl (Nat.le_of_ble_eq_true rfl) (fun z u h => h.2.2.1) (fun p e s m below meth c Q AS ls hx hb hml hown hts hK hDD hA0 hP hS hl RET => ?_)
  have hown : s.vm.findClass RX12 = some m.cls := hown
  have hl : lv_has ls 5 [(0, .ref (q 0)), (1, .int (iI x1)), (2, .int (iI x2))] := hl
  have hiX12 : ∀ w ∈ u_ws RX12 TX12 85, w ∈ ws_mb_X12_isRowAt := fun w h => List.mem_cons_of_mem _ (wx_lay w h)
  obtain ⟨H, hHe⟩ : ∃ H : Heap, H = s.heap := ⟨_, rfl⟩
  rw [← hHe] at hP
  have hS : va_S AS s.heap H [] := by rw [hHe]; exact hS
  suffices hgo : ∀ locs : List Loc, va_S AS s.heap H locs → W p l e (headSpec ws_mb_X12_isRowAt ({ frames := 2, cells := 0, slots := 0, locals := 43 } : Room)).room s m [.ref (q 0), .int (iI x1), .int (iI x2)].toArray below meth c H locs 0 0 Q (F0 m 0 ls []) by
    have := hgo [] hS
    rw [hHe] at this
    exact this
  clear hS hHe
  intro locs hS
  refine lv_iconst (v := iI 0) hx hb dX12_isRowAt_0 (by decide +kernel) ?_
  refine lv_istore_n (lv' := [(3, .int (iI 0)), (0, .ref (q 0)), (1, .int (iI x1)), (2, .int (iI x2))]) hx hb dX12_isRowAt_1 rfl hl (by decide) rfl (fun ls hl => ?_)
  have L2_3 : ∀ (n5 : Nat) (z1 : Int) (H : Heap) (locs : List Loc) (ls : Array Slot), (0 ≤ z1) → (0 ≤ z1 ∧ z1 ≤ 2147483647) → (Hd (∀ j : Nat, (j : Int) < z1 → 0 ≤ A 1 (x1 + j).toNat ∧ A 1 (x1 + j).toNat ≤ 9)) → (∀ (z : Int), (∃ mm1 : Nat, (d_X12_isRowAt_1 x1 x2 A z mm1 z1)) → r_X12_isRowAt x1 x2 A z) → ((x2 - z1 + 1).toNat = n5) → va_P (dC, dI) vwCl (WM cI cJ cZ q A) H → va_S AS s.heap H locs → lv_has ls 5 [(3, .int (iI z1)), (0, .ref (q 0)), (1, .int (iI x1)), (2, .int (iI x2))] → W p l e (headSpec ws_mb_X12_isRowAt ({ frames := 2, cells := 0, slots := 0, locals := 43 } : Room)).room s m [.ref (q 0), .int (iI x1), .int (iI x2)].toArray below meth c H locs 0 0 Q (F0 m 2 ls []) := by
    intro n5
    induction n5 using Nat.strongRecOn with
    | ind n5 ih4 =>
      intro z1 H locs ls f6 f7 f8 hk1 hn5 hP hS hl
      refine lv_iload_n hx hb dX12_isRowAt_2 rfl (lv_at hl 0 rfl) ?_
      refine lv_iload_n hx hb dX12_isRowAt_3 rfl (lv_at hl 3 rfl) ?_
      refine lv_icmp_ge (tgt := 67) hx hb dX12_isRowAt_4 (by decide) (fun c9 => ?_) (fun c9 => ?_)
      · have c9 : x2 ≤ z1 := (i_le (rb hx2 (by decide) (by decide)) (rb f7 (by decide) (by decide))).mp c9
        refine lv_iconst (v := iI 1) hx hb dX12_isRowAt_67 (by decide +kernel) ?_
        exact RET 1 _ _ _ _ _ ⟨rfl, hk1 _ ⟨0 + 1, (u_d_X12_isRowAt_1 ⟨f7, (Or.inl ⟨c9, rfl⟩)⟩)⟩, ⟨by decide, Hd.mk (fun _ j hj => f8.out j (by omega))⟩⟩ hP hS dX12_isRowAt_68
      · have c9 : ¬ x2 ≤ z1 := mt (i_le (rb hx2 (by decide) (by decide)) (rb f7 (by decide) (by decide))).mpr c9
        refine lv_aload_n hx hb dX12_isRowAt_7 rfl (lv_at hl 1 rfl) ?_
        refine lv_aload_n hx hb dX12_isRowAt_8 rfl (lv_at hl 1 rfl) ?_
        refine va_get (D := (dC, dI)) (ci := 12) (v := .ref (q 1)) (C := RX12) (T := TX12) (N := 85) hx hb hts hiX12 hown hK hP 0 wm0 rfl 0 (by decide) (hts _ (List.mem_cons_of_mem _ (wl_in_0 _ (List.mem_of_getElem? (i := 2) rfl)))) (fun _ h9 => h9) rfl dX12_isRowAt_9 ?_
        refine lv_iload_n hx hb dX12_isRowAt_12 rfl (lv_at hl 2 rfl) ?_
        refine lv_iload_n hx hb dX12_isRowAt_13 rfl (lv_at hl 0 rfl) ?_
        refine x_addv (v := x1 + z1) hx hb dX12_isRowAt_14 (by omega) ?_
        refine x_iald hx hb hK hP 1 1 wm1 rfl (by omega) (by decide) dX12_isRowAt_15 (fun z10 hz10 => ?_)
        have rz10 : (0 : Int) ≤ z10 ∧ z10 ≤ 255 := by rw [hz10]; exact hI 1 _
        have gz10 := Hd.mk hz10
        have hz10 : z10 = A 1 (x1 + z1).toNat := hz10
        have r_A_0_12 : (0 : Int) ≤ (A 0 12) ∧ (A 0 12) ≤ 1 := hI 0 12
        refine x_calli (As := [.int (iI z10)]) (rest := []) ⟨hx, hb, hml, hown, hts⟩ (mc_X12_isDoorB l dC dI cB cI cJ cZ cQ q _ z10 hI (rb rz10 (by decide) (by decide))) (cwV 1 hts (goodV (wl_in_5 _ (List.mem_of_getElem? (i := 14) rfl)) (wl_in_5 _ (List.mem_of_getElem? (i := 15) rfl)) (wl_in_5 _ (List.mem_of_getElem? (i := 16) rfl)) (wl_in_0 _ (List.mem_of_getElem? (i := 8) rfl)) (wl_in_4 _ (List.mem_of_getElem? (i := 38) rfl))) rfl rfl rfl (by decide +kernel) ⟨Nat.le_of_ble_eq_true rfl, Nat.le_of_ble_eq_true rfl⟩) hK hDD hA0 hP hS 0 12 wm0 rfl rfl hl.1 (Nat.le_of_ble_eq_true rfl) dX12_isRowAt_16 (fun z11 A12 H locs hw13 hP hS => ?_)
        obtain ⟨rfl, hw13⟩ := hw13
        have ghw13 : q_X12_isDoor z10 A z11 := hw13
        have hw13 := hw13.2
        have rz11 : 0 ≤ z11 ∧ z11 ≤ 1 := hw13.1
        refine lv_if_ne (tgt := 24) hx hb dX12_isRowAt_19 (by decide) (fun c14 => ?_) (fun c14 => ?_)
        · have c14 : ¬ z11 = 0 := mt (i_eq0 (rb rz11 (by decide) (by decide))).mpr c14
          have hw13b := hw13.2.mp (by omega)
          clear hw13
          have gz : 0 ≤ A 1 (x1 + z1).toNat ∧ A 1 (x1 + z1).toNat ≤ 9 := by rw [← hz10]; omega
          refine lv_iconst (v := iI 0) hx hb dX12_isRowAt_24 (by decide +kernel) ?_
          refine lv_istore (lv' := [(4, .int (iI 0)), (3, .int (iI z1)), (0, .ref (q 0)), (1, .int (iI x1)), (2, .int (iI x2))]) hx hb dX12_isRowAt_25 hl (by decide) rfl (fun ls hl => ?_)
          have L27_17 : ∀ (n19 : Nat) (z15 : Int) (H : Heap) (locs : List Loc) (ls : Array Slot), (0 ≤ z15) → (0 ≤ z15 ∧ z15 ≤ 2147483647) → (∀ (z : Int), (∃ mm1 mm2 : Nat, (d_X12_isRowAt_2 (fun z1' => d_X12_isRowAt_1 x1 x2 A z mm1 z1') x1 z1 A z mm2 z15)) → r_X12_isRowAt x1 x2 A z) → ((z1 - z15 + 1).toNat = n19) → va_P (dC, dI) vwCl (WM cI cJ cZ q A) H → va_S AS s.heap H locs → lv_has ls 5 [(4, .int (iI z15)), (3, .int (iI z1)), (0, .ref (q 0)), (1, .int (iI x1)), (2, .int (iI x2))] → W p l e (headSpec ws_mb_X12_isRowAt ({ frames := 2, cells := 0, slots := 0, locals := 43 } : Room)).room s m [.ref (q 0), .int (iI x1), .int (iI x2)].toArray below meth c H locs 0 0 Q (F0 m 27 ls []) := by
            intro n19
            induction n19 using Nat.strongRecOn with
            | ind n19 ih18 =>
              intro z15 H locs ls f20 f21 hk2 hn19 hP hS hl
              refine lv_iload hx hb dX12_isRowAt_27 (lv_at hl 0 rfl) ?_
              refine lv_iload_n hx hb dX12_isRowAt_29 rfl (lv_at hl 1 rfl) ?_
              refine lv_icmp_ge (tgt := 61) hx hb dX12_isRowAt_30 (by decide) (fun c22 => ?_) (fun c22 => ?_)
              · have c22 : z1 ≤ z15 := (i_le (rb f7 (by decide) (by decide)) (rb f21 (by decide) (by decide))).mp c22
                refine lv_iinc (v := iI (z1 + 1)) (lv' := [(3, .int (iI (z1 + 1))), (4, .int (iI z15)), (0, .ref (q 0)), (1, .int (iI x1)), (2, .int (iI x2))]) hx hb dX12_isRowAt_61 hl (k := 1) rfl (i_inc (by omega)) (by decide) rfl (fun ls hl => ?_)
                refine lv_goto (tgt := 2) hx hb dX12_isRowAt_64 (by decide) ?_
                exact ih4 _ (by omega) (z1 + 1) _ _ _ (by omega) (by omega) (by exact Hd.mk (rowI (by omega) f8.out gz)) (fun zq ⟨mm1, hq⟩ => hk2 _ ⟨mm1, 0 + 1, (u_d_X12_isRowAt_2 ⟨f21, (Or.inl ⟨c22, hq⟩)⟩)⟩) rfl hP hS (lv_sub hl [0, 2, 3, 4] rfl)
              · have c22 : ¬ z1 ≤ z15 := mt (i_le (rb f7 (by decide) (by decide)) (rb f21 (by decide) (by decide))).mpr c22
                refine lv_aload_n hx hb dX12_isRowAt_33 rfl (lv_at hl 2 rfl) ?_
                refine va_get (D := (dC, dI)) (ci := 12) (v := .ref (q 1)) (C := RX12) (T := TX12) (N := 85) hx hb hts hiX12 hown hK hP 0 wm0 rfl 0 (by decide) (hts _ (List.mem_cons_of_mem _ (wl_in_0 _ (List.mem_of_getElem? (i := 2) rfl)))) (fun _ h9 => h9) rfl dX12_isRowAt_34 ?_
                refine lv_iload_n hx hb dX12_isRowAt_37 rfl (lv_at hl 3 rfl) ?_
                refine lv_iload hx hb dX12_isRowAt_38 (lv_at hl 0 rfl) ?_
                refine x_addv (v := x1 + z15) hx hb dX12_isRowAt_40 (by omega) ?_
                refine x_iald hx hb hK hP 1 1 wm1 rfl (by omega) (by decide) dX12_isRowAt_41 (fun z23 hz23 => ?_)
                have rz23 : (0 : Int) ≤ z23 ∧ z23 ≤ 255 := by rw [hz23]; exact hI 1 _
                have gz23 := Hd.mk hz23
                have hz23 : z23 = A 1 (x1 + z15).toNat := hz23
                refine lv_aload_n hx hb dX12_isRowAt_42 rfl (lv_at hl 2 rfl) ?_
                refine va_get (D := (dC, dI)) (ci := 12) (v := .ref (q 1)) (C := RX12) (T := TX12) (N := 85) hx hb hts hiX12 hown hK hP 0 wm0 rfl 0 (by decide) (hts _ (List.mem_cons_of_mem _ (wl_in_0 _ (List.mem_of_getElem? (i := 2) rfl)))) (fun _ h9 => h9) rfl dX12_isRowAt_43 ?_
                refine lv_iload_n hx hb dX12_isRowAt_46 rfl (lv_at hl 3 rfl) ?_
                refine lv_iload_n hx hb dX12_isRowAt_47 rfl (lv_at hl 1 rfl) ?_
                refine x_addv (v := x1 + z1) hx hb dX12_isRowAt_48 (by omega) ?_
                refine x_iald hx hb hK hP 1 1 wm1 rfl (by omega) (by decide) dX12_isRowAt_49 (fun z24 hz24 => ?_)
                have rz24 : (0 : Int) ≤ z24 ∧ z24 ≤ 255 := by rw [hz24]; exact hI 1 _
                have gz24 := Hd.mk hz24
                have hz24 : z24 = A 1 (x1 + z1).toNat := hz24
                have ez24 : z24 = z10 := hz24.trans hz10.symm
                refine lv_icmp_ne (tgt := 55) hx hb dX12_isRowAt_50 (by decide) (fun c25 => ?_) (fun c25 => ?_)
                · have c25 : ¬ z23 = z24 := mt (i_eq (rb rz23 (by decide) (by decide)) (rb rz24 (by decide) (by decide))).mpr c25
                  refine lv_iinc (v := iI (z15 + 1)) (lv' := [(4, .int (iI (z15 + 1))), (3, .int (iI z1)), (0, .ref (q 0)), (1, .int (iI x1)), (2, .int (iI x2))]) hx hb dX12_isRowAt_55 hl (k := 0) rfl (i_inc (by omega)) (by decide) rfl (fun ls hl => ?_)
                  refine lv_goto (tgt := 27) hx hb dX12_isRowAt_58 (by decide) ?_
                  exact ih18 _ (by omega) (z15 + 1) _ _ _ (by omega) (by omega) (fun zq ⟨mm1, mm2, hq⟩ => hk2 _ ⟨mm1, mm2 + 1, (u_d_X12_isRowAt_2 ⟨f21, (Or.inr ⟨c22, ⟨z23, gz23.out, ⟨z24, gz24.out, (Or.inl ⟨c25, hq⟩)⟩⟩⟩)⟩)⟩) rfl hP hS (lv_sub hl [0, 1, 2, 3, 4] rfl)
                · have c25 : z23 = z24 := (i_eq (rb rz23 (by decide) (by decide)) (rb rz24 (by decide) (by decide))).mp c25
                  refine lv_iconst (v := iI 0) hx hb dX12_isRowAt_53 (by decide +kernel) ?_
                  exact RET 0 _ _ _ _ _ ⟨rfl, hk2 _ ⟨0, 0 + 1, (u_d_X12_isRowAt_2 ⟨f21, (Or.inr ⟨c22, ⟨z23, gz23.out, ⟨z24, gz24.out, (Or.inr ⟨c25, rfl⟩)⟩⟩⟩)⟩)⟩, ⟨by decide, Hd.mk (fun h => absurd h (by decide))⟩⟩ hP hS dX12_isRowAt_54
          exact L27_17 _ 0 _ _ _ (by omega) (by omega) (fun zq ⟨mm1, mm2, hq⟩ => hk1 _ ⟨mm1 + 1, (u_d_X12_isRowAt_1 ⟨f7, (Or.inr ⟨c9, ⟨z10, gz10.out, ⟨z11, ghw13, (Or.inl ⟨c14, ⟨mm2, hq⟩⟩)⟩⟩⟩)⟩)⟩) rfl hP hS (lv_sub hl [0, 1, 2, 3, 4] rfl)
        · have c14 : z11 = 0 := (i_eq0 (rb rz11 (by decide) (by decide))).mp c14
          clear hw13
          refine lv_iconst (v := iI 0) hx hb dX12_isRowAt_22 (by decide +kernel) ?_
          exact RET 0 _ _ _ _ _ ⟨rfl, hk1 _ ⟨0 + 1, (u_d_X12_isRowAt_1 ⟨f7, (Or.inr ⟨c9, ⟨z10, gz10.out, ⟨z11, ghw13, (Or.inr ⟨c14, rfl⟩)⟩⟩⟩)⟩)⟩, ⟨by decide, Hd.mk (fun h => absurd h (by decide))⟩⟩ hP hS dX12_isRowAt_23
  exact L2_3 _ 0 _ _ _ (by omega) (by omega) (by exact Hd.mk (fun j hj => absurd (show (j : Int) < 0 from hj) (by omega))) (fun zq ⟨mm1, hq⟩ => (u_r_X12_isRowAt ⟨mm1, hq⟩)) rfl hP hS (lv_sub hl [0, 1, 2, 3] rfl)

abbrev tr_d_X12_isWhole_3 (x1 : Int) (A : St) (z : Int) (K3 : Int → Int → Prop) (z26 : Int) (z27 : Int) : Prop := ((0 ≤ z26 ∧ z26 ≤ 2147483647) ∧ ((0 ≤ z27 ∧ z27 ≤ 1600) ∧ (∃ z38 : Int, z38 = A 11 ((A 0 12)).toNat ∧ (((z38 ≤ z26) ∧ (((¬ z27 = x1 - 1) ∧ (z = 0)) ∨ ((z27 = x1 - 1) ∧ (z = 1)))) ∨ ((¬ z38 ≤ z26) ∧ (((x1 - 1 < z27 + 2) ∧ (z = 0)) ∨ ((¬ x1 - 1 < z27 + 2) ∧ (∃ z42 : Int, z42 = A 1 (z27).toNat ∧ (∃ z43 : Int, q_X12_mayBeAt z42 A z43 ∧ (((z43 = 0) ∧ (z = 0)) ∨ ((¬ z43 = 0) ∧ (∃ z47 : Int, z47 = A 1 (z27 + 1).toNat ∧ (((z47 ≤ 6) ∧ (∃ z49 : Int, z49 = A 1 (z27 + 1).toNat ∧ (((x1 - 1 < z27 + z49 + 2) ∧ (z = 0)) ∨ ((¬ x1 - 1 < z27 + z49 + 2) ∧ (∃ z51 : Int, q_X12_isRowAt (z27 + 2) z49 A z51 ∧ (((¬ z51 = 0) ∧ (K3 (z26 + 1) (z27 + z49 + 2))) ∨ ((z51 = 0) ∧ (z = 0)))))))) ∨ ((¬ z47 ≤ 6) ∧ (z = 0)))))))))))))))
def d_X12_isWhole_3 (x1 : Int) (A : St) (z : Int) : Nat → Int → Int → Prop
  | 0, _, _ => False
  | nn9 + 1, z26, z27 => tr_d_X12_isWhole_3 x1 A z (fun z26 z27 => d_X12_isWhole_3 x1 A z nn9 z26 z27) z26 z27
theorem u_d_X12_isWhole_3 {x1 : Int} {A : St} {z : Int} {nn9 : Nat} {z26 : Int} {z27 : Int} (h : tr_d_X12_isWhole_3 x1 A z (fun z26 z27 => d_X12_isWhole_3 x1 A z nn9 z26 z27) z26 z27) : d_X12_isWhole_3 x1 A z (nn9 + 1) z26 z27 := h
abbrev tr_d_X12_isWhole_2 (x1 : Int) (z14 : Int) (A : St) (z : Int) (K2 : Int → Prop) (z15 : Int) : Prop := ((0 ≤ z15 ∧ z15 ≤ 2147483647) ∧ (∃ z24 : Int, z24 = A 16 ((A 0 12)).toNat ∧ (((z24 ≤ z15) ∧ (∃ nn9 : Nat, d_X12_isWhole_3 x1 A z nn9 0 z14)) ∨ ((¬ z24 ≤ z15) ∧ (((x1 - 1 ≤ z15) ∧ (z = 0)) ∨ ((¬ x1 - 1 ≤ z15) ∧ (∃ z56 : Int, z56 = A 1 (z15).toNat ∧ (∃ z57 : Int, q_X12_isPlace z56 A z57 ∧ (((¬ z57 = 0) ∧ (K2 (z15 + 1))) ∨ ((z57 = 0) ∧ (z = 0)))))))))))
def d_X12_isWhole_2 (x1 : Int) (z14 : Int) (A : St) (z : Int) : Nat → Int → Prop
  | 0, _ => False
  | nn9 + 1, z15 => tr_d_X12_isWhole_2 x1 z14 A z (fun z15 => d_X12_isWhole_2 x1 z14 A z nn9 z15) z15
theorem u_d_X12_isWhole_2 {x1 : Int} {z14 : Int} {A : St} {z : Int} {nn9 : Nat} {z15 : Int} (h : tr_d_X12_isWhole_2 x1 z14 A z (fun z15 => d_X12_isWhole_2 x1 z14 A z nn9 z15) z15) : d_X12_isWhole_2 x1 z14 A z (nn9 + 1) z15 := h
abbrev tr_d_X12_isWhole_1 (x1 : Int) (A : St) (z : Int) (K1 : Int → Int → Prop) (z2 : Int) (z3 : Int) : Prop := ((0 ≤ z2 ∧ z2 ≤ 2147483647) ∧ ((0 ≤ z3 ∧ z3 ≤ 232) ∧ (((x1 - 1 ≤ z2) ∧ (∃ z12 : Int, z12 = A 1 (x1 - 1).toNat ∧ (((z12 = z3) ∧ (∃ z14 : Int, z14 = A 16 ((A 0 12)).toNat ∧ (∃ nn9 : Nat, d_X12_isWhole_2 x1 z14 A z nn9 0))) ∨ ((¬ z12 = z3) ∧ (z = 0))))) ∨ ((¬ x1 - 1 ≤ z2) ∧ (∃ z61 : Int, z61 = A 1 (z2).toNat ∧ (∃ z62 : Int, z62 = (3 * z3 + z61) % 233 ∧ (K1 (z2 + 1) z62)))))))
def d_X12_isWhole_1 (x1 : Int) (A : St) (z : Int) : Nat → Int → Int → Prop
  | 0, _, _ => False
  | nn9 + 1, z2, z3 => tr_d_X12_isWhole_1 x1 A z (fun z2 z3 => d_X12_isWhole_1 x1 A z nn9 z2 z3) z2 z3
theorem u_d_X12_isWhole_1 {x1 : Int} {A : St} {z : Int} {nn9 : Nat} {z2 : Int} {z3 : Int} (h : tr_d_X12_isWhole_1 x1 A z (fun z2 z3 => d_X12_isWhole_1 x1 A z nn9 z2 z3) z2 z3) : d_X12_isWhole_1 x1 A z (nn9 + 1) z2 z3 := h
abbrev tr_r_X12_isWhole (x1 : Int) (A : St) (z : Int) : Prop := (((1 ≤ x1) ∧ (∃ nn9 : Nat, d_X12_isWhole_1 x1 A z nn9 0 19)) ∨ ((¬ 1 ≤ x1) ∧ (z = 0)))
def r_X12_isWhole (x1 : Int) (A : St) (z : Int) : Prop := tr_r_X12_isWhole x1 A z
theorem u_r_X12_isWhole {x1 : Int} {A : St} {z : Int} (h : tr_r_X12_isWhole x1 A z) : r_X12_isWhole x1 A z := h
def q_X12_isWhole (x1 : Int) (A : St) (z : Int) : Prop := r_X12_isWhole x1 A z ∧ ((0 ≤ z ∧ z ≤ 1) ∧ (Hd (z = 1 → (∀ j : Nat, (j : Int) < A 16 (A 0 12).toNat → 0 ≤ A 1 j ∧ A 1 j ≤ 7) ∧ (∀ j : Nat, (j : Int) < A 11 (A 0 12).toNat → wgd (A 1) (A 16 (A 0 12).toNat) (x1 - 1) j))))
def ws_mb_X12_isWhole : List Cond := .code yX12_isWhole cX12_isWhole 6 (some .boolean) :: WX
set_option maxHeartbeats 4000000 in
set_option maxRecDepth 100000 in
theorem mb_X12_isWhole (l : Launch) (dC : Nat → ClassId) (dI : Nat → Nat → Nat) (cB cI cJ cZ cQ : ClassId) (q : Nat → Nat) (A : St) (x1 : Int) (hI : IM A) (hx1 : (0 : Int) ≤ x1 ∧ x1 ≤ 1600) : XMi l yX12_isWhole ws_mb_X12_isWhole ({ frames := 3, cells := 0, slots := 0, locals := 67 } : Room) (dC, dI) (tyA cB cI cJ cZ cQ) (WM cI cJ cZ q) A [.ref (q 0), .int (iI x1)] (fun z u => A = u ∧ r_X12_isWhole x1 A z ∧ ((0 ≤ z ∧ z ≤ 1) ∧ (Hd (z = 1 → (∀ j : Nat, (j : Int) < A 16 (A 0 12).toNat → 0 ≤ A 1 j ∧ A 1 j ≤ 7) ∧ (∀ j : Nat, (j : Int) < A 11 (A 0 12).toNat → wgd (A 1) (A 16 (A 0 12).toNat) (x1 - 1) j))))) := by
  refine x_metz (cc := cX12_isWhole) (maxL := 6) WM_adr (by decide +kernel) rfl (Nat.le_of_ble_eq_true rfl) (fun z u h => h.2.2.1) (fun p e s m below meth c Q AS ls hx hb hml hown hts hK hDD hA0 hP hS hl RET => ?_)
  have hown : s.vm.findClass RX12 = some m.cls := hown
  have hl : lv_has ls 6 [(0, .ref (q 0)), (1, .int (iI x1))] := hl
  have hiX12 : ∀ w ∈ u_ws RX12 TX12 85, w ∈ ws_mb_X12_isWhole := fun w h => List.mem_cons_of_mem _ (wx_lay w h)
  obtain ⟨H, hHe⟩ : ∃ H : Heap, H = s.heap := ⟨_, rfl⟩
  rw [← hHe] at hP
  have hS : va_S AS s.heap H [] := by rw [hHe]; exact hS
  suffices hgo : ∀ locs : List Loc, va_S AS s.heap H locs → W p l e (headSpec ws_mb_X12_isWhole ({ frames := 3, cells := 0, slots := 0, locals := 67 } : Room)).room s m [.ref (q 0), .int (iI x1)].toArray below meth c H locs 0 0 Q (F0 m 0 ls []) by
    have := hgo [] hS
    rw [hHe] at this
    exact this
  clear hS hHe
  intro locs hS
  refine lv_iload_n hx hb dX12_isWhole_0 rfl (lv_at hl 1 rfl) ?_
  refine lv_iconst (v := iI 1) hx hb dX12_isWhole_1 (by decide +kernel) ?_
  refine lv_icmp_ge (tgt := 7) hx hb dX12_isWhole_2 (by decide) (fun c1 => ?_) (fun c1 => ?_)
  · have c1 : 1 ≤ x1 := (i_le ⟨by decide, by decide⟩ (rb hx1 (by decide) (by decide))).mp c1
    refine lv_bipush (v := iI 19) hx hb dX12_isWhole_7 (by decide +kernel) ?_
    refine lv_istore_n (lv' := [(2, .int (iI 19)), (0, .ref (q 0)), (1, .int (iI x1))]) hx hb dX12_isWhole_9 rfl hl (by decide) rfl (fun ls hl => ?_)
    refine lv_iconst (v := iI 0) hx hb dX12_isWhole_10 (by decide +kernel) ?_
    refine lv_istore_n (lv' := [(3, .int (iI 0)), (2, .int (iI 19)), (0, .ref (q 0)), (1, .int (iI x1))]) hx hb dX12_isWhole_11 rfl hl (by decide) rfl (fun ls hl => ?_)
    have L12_5 : ∀ (n7 : Nat) (z2 z3 : Int) (H : Heap) (locs : List Loc) (ls : Array Slot), (0 ≤ z2) → (0 ≤ z2 ∧ z2 ≤ 2147483647) → (0 ≤ z3 ∧ z3 ≤ 232) → (∀ (z : Int), (∃ mm1 : Nat, (d_X12_isWhole_1 x1 A z mm1 z2 z3)) → r_X12_isWhole x1 A z) → ((x1 - 1 - z2 + 1).toNat = n7) → va_P (dC, dI) vwCl (WM cI cJ cZ q A) H → va_S AS s.heap H locs → lv_has ls 6 [(3, .int (iI z2)), (2, .int (iI z3)), (0, .ref (q 0)), (1, .int (iI x1))] → W p l e (headSpec ws_mb_X12_isWhole ({ frames := 3, cells := 0, slots := 0, locals := 67 } : Room)).room s m [.ref (q 0), .int (iI x1)].toArray below meth c H locs 0 0 Q (F0 m 12 ls []) := by
      intro n7
      induction n7 using Nat.strongRecOn with
      | ind n7 ih6 =>
        intro z2 z3 H locs ls f8 f9 f10 hk1 hn7 hP hS hl
        refine lv_iload_n hx hb dX12_isWhole_12 rfl (lv_at hl 0 rfl) ?_
        refine lv_iload_n hx hb dX12_isWhole_13 rfl (lv_at hl 3 rfl) ?_
        refine lv_iconst (v := iI 1) hx hb dX12_isWhole_14 (by decide +kernel) ?_
        refine x_subv (v := x1 - 1) hx hb dX12_isWhole_15 (by omega) ?_
        refine lv_icmp_ge (tgt := 40) hx hb dX12_isWhole_16 (by decide) (fun c11 => ?_) (fun c11 => ?_)
        · have c11 : x1 - 1 ≤ z2 := (i_le (by omega) (rb f9 (by decide) (by decide))).mp c11
          refine lv_aload_n hx hb dX12_isWhole_40 rfl (lv_at hl 2 rfl) ?_
          refine va_get (D := (dC, dI)) (ci := 12) (v := .ref (q 1)) (C := RX12) (T := TX12) (N := 85) hx hb hts hiX12 hown hK hP 0 wm0 rfl 0 (by decide) (hts _ (List.mem_cons_of_mem _ (wl_in_0 _ (List.mem_of_getElem? (i := 2) rfl)))) (fun _ h9 => h9) rfl dX12_isWhole_41 ?_
          refine lv_iload_n hx hb dX12_isWhole_44 rfl (lv_at hl 3 rfl) ?_
          refine lv_iconst (v := iI 1) hx hb dX12_isWhole_45 (by decide +kernel) ?_
          refine x_subv (v := x1 - 1) hx hb dX12_isWhole_46 (by omega) ?_
          refine x_iald hx hb hK hP 1 1 wm1 rfl (by omega) (by decide) dX12_isWhole_47 (fun z12 hz12 => ?_)
          have rz12 : (0 : Int) ≤ z12 ∧ z12 ≤ 255 := by rw [hz12]; exact hI 1 _
          have gz12 := Hd.mk hz12
          have hz12 : z12 = A 1 (x1 - 1).toNat := hz12
          refine lv_iload_n hx hb dX12_isWhole_48 rfl (lv_at hl 1 rfl) ?_
          refine lv_icmp_eq (tgt := 54) hx hb dX12_isWhole_49 (by decide) (fun c13 => ?_) (fun c13 => ?_)
          · have c13 : z12 = z3 := (i_eq (rb rz12 (by decide) (by decide)) (rb f10 (by decide) (by decide))).mp c13
            refine lv_aload_n hx hb dX12_isWhole_54 rfl (lv_at hl 2 rfl) ?_
            refine va_get (D := (dC, dI)) (ci := 12) (v := .ref (q 16)) (C := RX12) (T := TX12) (N := 85) hx hb hts hiX12 hown hK hP 0 wm0 rfl 27 (by decide) (hts _ (List.mem_cons_of_mem _ (wl_in_1 _ (List.mem_of_getElem? (i := 15) rfl)))) (fun _ h9 => h9) rfl dX12_isWhole_55 ?_
            refine lv_aload_n hx hb dX12_isWhole_58 rfl (lv_at hl 2 rfl) ?_
            refine va_get (D := (dC, dI)) (ci := 12) (v := .int (iI (A 0 12))) (C := RX12) (T := TX12) (N := 85) hx hb hts hiX12 hown hK hP 0 wm0 rfl 12 (by decide) (hts _ (List.mem_cons_of_mem _ (wl_in_4 _ (List.mem_of_getElem? (i := 14) rfl)))) (fun _ h9 => h9) rfl dX12_isWhole_59 ?_
            have r_A_0_12 : (0 : Int) ≤ (A 0 12) ∧ (A 0 12) ≤ 1 := hI 0 12
            refine x_iald hx hb hK hP 16 1 wm16 rfl (by omega) (by decide) dX12_isWhole_62 (fun z14 hz14 => ?_)
            have rz14 : (0 : Int) ≤ z14 ∧ z14 ≤ 3 := by rw [hz14]; exact hI 16 _
            have gz14 := Hd.mk hz14
            have hz14 : z14 = A 16 ((A 0 12)).toNat := hz14
            refine lv_istore_n (lv' := [(3, .int (iI z14)), (2, .int (iI z3)), (0, .ref (q 0)), (1, .int (iI x1))]) hx hb dX12_isWhole_63 rfl hl (by decide) rfl (fun ls hl => ?_)
            refine lv_iconst (v := iI 0) hx hb dX12_isWhole_64 (by decide +kernel) ?_
            refine lv_istore (lv' := [(4, .int (iI 0)), (3, .int (iI z14)), (2, .int (iI z3)), (0, .ref (q 0)), (1, .int (iI x1))]) hx hb dX12_isWhole_65 hl (by decide) rfl (fun ls hl => ?_)
            have L67_18 : ∀ (n20 : Nat) (z15 : Int) (H : Heap) (locs : List Loc) (ls : Array Slot), (0 ≤ z15) → (0 ≤ z15 ∧ z15 ≤ 2147483647) → (Hd (∀ j : Nat, (j : Int) < z15 → 0 ≤ A 1 j ∧ A 1 j ≤ 7)) → (∀ (z : Int), (∃ mm1 mm2 : Nat, (d_X12_isWhole_2 x1 z14 A z mm2 z15)) → r_X12_isWhole x1 A z) → ((A 16 ((A 0 12)).toNat - z15 + 1).toNat = n20) → va_P (dC, dI) vwCl (WM cI cJ cZ q A) H → va_S AS s.heap H locs → lv_has ls 6 [(4, .int (iI z15)), (3, .int (iI z14)), (2, .int (iI z3)), (0, .ref (q 0)), (1, .int (iI x1))] → W p l e (headSpec ws_mb_X12_isWhole ({ frames := 3, cells := 0, slots := 0, locals := 67 } : Room)).room s m [.ref (q 0), .int (iI x1)].toArray below meth c H locs 0 0 Q (F0 m 67 ls []) := by
              intro n20
              induction n20 using Nat.strongRecOn with
              | ind n20 ih19 =>
                intro z15 H locs ls f21 f22 f23 hk2 hn20 hP hS hl
                refine lv_iload hx hb dX12_isWhole_67 (lv_at hl 0 rfl) ?_
                refine lv_aload_n hx hb dX12_isWhole_69 rfl (lv_at hl 3 rfl) ?_
                refine va_get (D := (dC, dI)) (ci := 12) (v := .ref (q 16)) (C := RX12) (T := TX12) (N := 85) hx hb hts hiX12 hown hK hP 0 wm0 rfl 27 (by decide) (hts _ (List.mem_cons_of_mem _ (wl_in_1 _ (List.mem_of_getElem? (i := 15) rfl)))) (fun _ h9 => h9) rfl dX12_isWhole_70 ?_
                refine lv_aload_n hx hb dX12_isWhole_73 rfl (lv_at hl 3 rfl) ?_
                refine va_get (D := (dC, dI)) (ci := 12) (v := .int (iI (A 0 12))) (C := RX12) (T := TX12) (N := 85) hx hb hts hiX12 hown hK hP 0 wm0 rfl 12 (by decide) (hts _ (List.mem_cons_of_mem _ (wl_in_4 _ (List.mem_of_getElem? (i := 14) rfl)))) (fun _ h9 => h9) rfl dX12_isWhole_74 ?_
                refine x_iald hx hb hK hP 16 1 wm16 rfl (by omega) (by decide) dX12_isWhole_77 (fun z24 hz24 => ?_)
                have rz24 : (0 : Int) ≤ z24 ∧ z24 ≤ 3 := by rw [hz24]; exact hI 16 _
                have gz24 := Hd.mk hz24
                have hz24 : z24 = A 16 ((A 0 12)).toNat := hz24
                have ez24 : z24 = z14 := hz24.trans hz14.symm
                refine lv_icmp_ge (tgt := 111) hx hb dX12_isWhole_78 (by decide) (fun c25 => ?_) (fun c25 => ?_)
                · have c25 : z24 ≤ z15 := (i_le (rb rz24 (by decide) (by decide)) (rb f22 (by decide) (by decide))).mp c25
                  have gpp : ∀ j : Nat, (j : Int) < A 16 (A 0 12).toNat → 0 ≤ A 1 j ∧ A 1 j ≤ 7 := fun j hj => f23.out j (by omega)
                  refine lv_iconst (v := iI 0) hx hb dX12_isWhole_111 (by decide +kernel) ?_
                  refine lv_istore (lv' := [(4, .int (iI 0)), (3, .int (iI z14)), (2, .int (iI z3)), (0, .ref (q 0)), (1, .int (iI x1))]) hx hb dX12_isWhole_112 hl (by decide) rfl (fun ls hl => ?_)
                  have L114_30 : ∀ (n32 : Nat) (z26 z27 : Int) (H : Heap) (locs : List Loc) (ls : Array Slot), (0 ≤ z26) → (0 ≤ z26 ∧ z26 ≤ 2147483647) → (0 ≤ z27 ∧ z27 ≤ 1600) → (Hd (∀ j : Nat, (j : Int) < z26 → wgd (A 1) (A 16 (A 0 12).toNat) (x1 - 1) j)) → (Hd (z27 = wlk (A 1) (A 16 (A 0 12).toNat) z26.toNat)) → (∀ (z : Int), (∃ mm1 mm2 mm3 : Nat, (d_X12_isWhole_3 x1 A z mm3 z26 z27)) → r_X12_isWhole x1 A z) → ((A 11 ((A 0 12)).toNat - z26 + 1).toNat = n32) → va_P (dC, dI) vwCl (WM cI cJ cZ q A) H → va_S AS s.heap H locs → lv_has ls 6 [(4, .int (iI z26)), (3, .int (iI z27)), (2, .int (iI z3)), (0, .ref (q 0)), (1, .int (iI x1))] → W p l e (headSpec ws_mb_X12_isWhole ({ frames := 3, cells := 0, slots := 0, locals := 67 } : Room)).room s m [.ref (q 0), .int (iI x1)].toArray below meth c H locs 0 0 Q (F0 m 114 ls []) := by
                    intro n32
                    induction n32 using Nat.strongRecOn with
                    | ind n32 ih31 =>
                      intro z26 z27 H locs ls f33 f34 f35 f36 f37 hk3 hn32 hP hS hl
                      refine lv_iload hx hb dX12_isWhole_114 (lv_at hl 0 rfl) ?_
                      refine lv_aload_n hx hb dX12_isWhole_116 rfl (lv_at hl 3 rfl) ?_
                      refine va_get (D := (dC, dI)) (ci := 12) (v := .ref (q 11)) (C := RX12) (T := TX12) (N := 85) hx hb hts hiX12 hown hK hP 0 wm0 rfl 22 (by decide) (hts _ (List.mem_cons_of_mem _ (wl_in_1 _ (List.mem_of_getElem? (i := 14) rfl)))) (fun _ h9 => h9) rfl dX12_isWhole_117 ?_
                      refine lv_aload_n hx hb dX12_isWhole_120 rfl (lv_at hl 3 rfl) ?_
                      refine va_get (D := (dC, dI)) (ci := 12) (v := .int (iI (A 0 12))) (C := RX12) (T := TX12) (N := 85) hx hb hts hiX12 hown hK hP 0 wm0 rfl 12 (by decide) (hts _ (List.mem_cons_of_mem _ (wl_in_4 _ (List.mem_of_getElem? (i := 14) rfl)))) (fun _ h9 => h9) rfl dX12_isWhole_121 ?_
                      refine x_iald hx hb hK hP 11 1 wm11 rfl (by omega) (by decide) dX12_isWhole_124 (fun z38 hz38 => ?_)
                      have rz38 : (0 : Int) ≤ z38 ∧ z38 ≤ 4 := by rw [hz38]; exact hI 11 _
                      have gz38 := Hd.mk hz38
                      have hz38 : z38 = A 11 ((A 0 12)).toNat := hz38
                      refine lv_icmp_ge (tgt := 214) hx hb dX12_isWhole_125 (by decide) (fun c39 => ?_) (fun c39 => ?_)
                      · have c39 : z38 ≤ z26 := (i_le (rb rz38 (by decide) (by decide)) (rb f34 (by decide) (by decide))).mp c39
                        refine lv_iload_n hx hb dX12_isWhole_214 rfl (lv_at hl 1 rfl) ?_
                        refine lv_iload_n hx hb dX12_isWhole_215 rfl (lv_at hl 4 rfl) ?_
                        refine lv_iconst (v := iI 1) hx hb dX12_isWhole_216 (by decide +kernel) ?_
                        refine x_subv (v := x1 - 1) hx hb dX12_isWhole_217 (by omega) ?_
                        refine lv_icmp_ne (tgt := 225) hx hb dX12_isWhole_218 (by decide) (fun c40 => ?_) (fun c40 => ?_)
                        · have c40 : ¬ z27 = x1 - 1 := mt (i_eq (rb f35 (by decide) (by decide)) (by omega)).mpr c40
                          refine lv_iconst (v := iI 0) hx hb dX12_isWhole_225 (by decide +kernel) ?_
                          exact RET 0 _ _ _ _ _ ⟨rfl, hk3 _ ⟨0, 0, 0 + 1, (u_d_X12_isWhole_3 ⟨f34, ⟨f35, ⟨z38, gz38.out, (Or.inl ⟨c39, (Or.inl ⟨c40, rfl⟩)⟩)⟩⟩⟩)⟩, ⟨by decide, Hd.mk (fun h => absurd h (by decide))⟩⟩ hP hS dX12_isWhole_226
                        · have c40 : z27 = x1 - 1 := (i_eq (rb f35 (by decide) (by decide)) (by omega)).mp c40
                          refine lv_iconst (v := iI 1) hx hb dX12_isWhole_221 (by decide +kernel) ?_
                          refine lv_goto (tgt := 226) hx hb dX12_isWhole_222 (by decide) ?_
                          exact RET 1 _ _ _ _ _ ⟨rfl, hk3 _ ⟨0, 0, 0 + 1, (u_d_X12_isWhole_3 ⟨f34, ⟨f35, ⟨z38, gz38.out, (Or.inl ⟨c39, (Or.inr ⟨c40, rfl⟩)⟩)⟩⟩⟩)⟩, ⟨by decide, Hd.mk (fun _ => ⟨gpp, fun j hj => f36.out j (by omega)⟩)⟩⟩ hP hS dX12_isWhole_226
                      · have c39 : ¬ z38 ≤ z26 := mt (i_le (rb rz38 (by decide) (by decide)) (rb f34 (by decide) (by decide))).mpr c39
                        refine lv_iload_n hx hb dX12_isWhole_128 rfl (lv_at hl 1 rfl) ?_
                        refine lv_iconst (v := iI 2) hx hb dX12_isWhole_129 (by decide +kernel) ?_
                        refine x_addv (v := z27 + 2) hx hb dX12_isWhole_130 (by omega) ?_
                        refine lv_iload_n hx hb dX12_isWhole_131 rfl (lv_at hl 4 rfl) ?_
                        refine lv_iconst (v := iI 1) hx hb dX12_isWhole_132 (by decide +kernel) ?_
                        refine x_subv (v := x1 - 1) hx hb dX12_isWhole_133 (by omega) ?_
                        refine lv_icmp_gt (tgt := 163) hx hb dX12_isWhole_134 (by decide) (fun c41 => ?_) (fun c41 => ?_)
                        · have c41 : x1 - 1 < z27 + 2 := (i_lt (by omega) (by omega)).mp c41
                          refine lv_iconst (v := iI 0) hx hb dX12_isWhole_163 (by decide +kernel) ?_
                          exact RET 0 _ _ _ _ _ ⟨rfl, hk3 _ ⟨0, 0, 0 + 1, (u_d_X12_isWhole_3 ⟨f34, ⟨f35, ⟨z38, gz38.out, (Or.inr ⟨c39, (Or.inl ⟨c41, rfl⟩)⟩)⟩⟩⟩)⟩, ⟨by decide, Hd.mk (fun h => absurd h (by decide))⟩⟩ hP hS dX12_isWhole_164
                        · have c41 : ¬ x1 - 1 < z27 + 2 := mt (i_lt (by omega) (by omega)).mpr c41
                          refine lv_aload_n hx hb dX12_isWhole_137 rfl (lv_at hl 3 rfl) ?_
                          refine lv_aload_n hx hb dX12_isWhole_138 rfl (lv_at hl 3 rfl) ?_
                          refine va_get (D := (dC, dI)) (ci := 12) (v := .ref (q 1)) (C := RX12) (T := TX12) (N := 85) hx hb hts hiX12 hown hK hP 0 wm0 rfl 0 (by decide) (hts _ (List.mem_cons_of_mem _ (wl_in_0 _ (List.mem_of_getElem? (i := 2) rfl)))) (fun _ h9 => h9) rfl dX12_isWhole_139 ?_
                          refine lv_iload_n hx hb dX12_isWhole_142 rfl (lv_at hl 1 rfl) ?_
                          refine x_iald hx hb hK hP 1 1 wm1 rfl (by omega) (by decide) dX12_isWhole_143 (fun z42 hz42 => ?_)
                          have rz42 : (0 : Int) ≤ z42 ∧ z42 ≤ 255 := by rw [hz42]; exact hI 1 _
                          have gz42 := Hd.mk hz42
                          have hz42 : z42 = A 1 (z27).toNat := hz42
                          refine x_calli (As := [.int (iI z42)]) (rest := []) ⟨hx, hb, hml, hown, hts⟩ (mb_X12_mayBeAt l dC dI cB cI cJ cZ cQ q _ z42 hI rz42) (cwV 1 hts (goodV (wl_in_8 _ (List.mem_of_getElem? (i := 47) rfl)) (wl_in_8 _ (List.mem_of_getElem? (i := 48) rfl)) (wl_in_8 _ (List.mem_of_getElem? (i := 49) rfl)) (wl_in_0 _ (List.mem_of_getElem? (i := 8) rfl)) (wl_in_8 _ (List.mem_of_getElem? (i := 44) rfl))) rfl rfl rfl (by decide +kernel) ⟨Nat.le_of_ble_eq_true rfl, Nat.le_of_ble_eq_true rfl⟩) hK hDD hA0 hP hS 0 12 wm0 rfl rfl hl.1 (Nat.le_of_ble_eq_true rfl) dX12_isWhole_144 (fun z43 A44 H locs hw45 hP hS => ?_)
                          obtain ⟨rfl, hw45⟩ := hw45
                          have ghw45 : q_X12_mayBeAt z42 A z43 := hw45
                          have hw45 := hw45.2
                          have rz43 : 0 ≤ z43 ∧ z43 ≤ 1 := hw45.1
                          refine lv_if_eq (tgt := 163) hx hb dX12_isWhole_147 (by decide) (fun c46 => ?_) (fun c46 => ?_)
                          · have c46 : z43 = 0 := (i_eq0 (rb rz43 (by decide) (by decide))).mp c46
                            refine lv_iconst (v := iI 0) hx hb dX12_isWhole_163 (by decide +kernel) ?_
                            exact RET 0 _ _ _ _ _ ⟨rfl, hk3 _ ⟨0, 0, 0 + 1, (u_d_X12_isWhole_3 ⟨f34, ⟨f35, ⟨z38, gz38.out, (Or.inr ⟨c39, (Or.inr ⟨c41, ⟨z42, gz42.out, ⟨z43, ghw45, (Or.inl ⟨c46, rfl⟩)⟩⟩⟩)⟩)⟩⟩⟩)⟩, ⟨by decide, Hd.mk (fun h => absurd h (by decide))⟩⟩ hP hS dX12_isWhole_164
                          · have c46 : ¬ z43 = 0 := mt (i_eq0 (rb rz43 (by decide) (by decide))).mpr c46
                            refine lv_aload_n hx hb dX12_isWhole_150 rfl (lv_at hl 3 rfl) ?_
                            refine va_get (D := (dC, dI)) (ci := 12) (v := .ref (q 1)) (C := RX12) (T := TX12) (N := 85) hx hb hts hiX12 hown hK hP 0 wm0 rfl 0 (by decide) (hts _ (List.mem_cons_of_mem _ (wl_in_0 _ (List.mem_of_getElem? (i := 2) rfl)))) (fun _ h9 => h9) rfl dX12_isWhole_151 ?_
                            refine lv_iload_n hx hb dX12_isWhole_154 rfl (lv_at hl 1 rfl) ?_
                            refine lv_iconst (v := iI 1) hx hb dX12_isWhole_155 (by decide +kernel) ?_
                            refine x_addv (v := z27 + 1) hx hb dX12_isWhole_156 (by omega) ?_
                            refine x_iald hx hb hK hP 1 1 wm1 rfl (by omega) (by decide) dX12_isWhole_157 (fun z47 hz47 => ?_)
                            have rz47 : (0 : Int) ≤ z47 ∧ z47 ≤ 255 := by rw [hz47]; exact hI 1 _
                            have gz47 := Hd.mk hz47
                            have hz47 : z47 = A 1 (z27 + 1).toNat := hz47
                            refine lv_bipush (v := iI 6) hx hb dX12_isWhole_158 (by decide +kernel) ?_
                            refine lv_icmp_le (tgt := 165) hx hb dX12_isWhole_160 (by decide) (fun c48 => ?_) (fun c48 => ?_)
                            · have c48 : z47 ≤ 6 := (i_le (rb rz47 (by decide) (by decide)) ⟨by decide, by decide⟩).mp c48
                              refine lv_aload_n hx hb dX12_isWhole_165 rfl (lv_at hl 3 rfl) ?_
                              refine va_get (D := (dC, dI)) (ci := 12) (v := .ref (q 1)) (C := RX12) (T := TX12) (N := 85) hx hb hts hiX12 hown hK hP 0 wm0 rfl 0 (by decide) (hts _ (List.mem_cons_of_mem _ (wl_in_0 _ (List.mem_of_getElem? (i := 2) rfl)))) (fun _ h9 => h9) rfl dX12_isWhole_166 ?_
                              refine lv_iload_n hx hb dX12_isWhole_169 rfl (lv_at hl 1 rfl) ?_
                              refine lv_iconst (v := iI 1) hx hb dX12_isWhole_170 (by decide +kernel) ?_
                              refine x_addv (v := z27 + 1) hx hb dX12_isWhole_171 (by omega) ?_
                              refine x_iald hx hb hK hP 1 1 wm1 rfl (by omega) (by decide) dX12_isWhole_172 (fun z49 hz49 => ?_)
                              have rz49 : (0 : Int) ≤ z49 ∧ z49 ≤ 255 := by rw [hz49]; exact hI 1 _
                              have gz49 := Hd.mk hz49
                              have hz49 : z49 = A 1 (z27 + 1).toNat := hz49
                              have ez49 : z49 = z47 := hz49.trans hz47.symm
                              refine lv_istore (lv' := [(5, .int (iI z49)), (4, .int (iI z26)), (3, .int (iI z27)), (2, .int (iI z3)), (0, .ref (q 0)), (1, .int (iI x1))]) hx hb dX12_isWhole_173 hl (by decide) rfl (fun ls hl => ?_)
                              refine lv_iload_n hx hb dX12_isWhole_175 rfl (lv_at hl 2 rfl) ?_
                              refine lv_iconst (v := iI 2) hx hb dX12_isWhole_176 (by decide +kernel) ?_
                              refine x_addv (v := z27 + 2) hx hb dX12_isWhole_177 (by omega) ?_
                              refine lv_iload hx hb dX12_isWhole_178 (lv_at hl 0 rfl) ?_
                              refine x_addv (v := z27 + z49 + 2) hx hb dX12_isWhole_180 (by omega) ?_
                              refine lv_iload_n hx hb dX12_isWhole_181 rfl (lv_at hl 5 rfl) ?_
                              refine lv_iconst (v := iI 1) hx hb dX12_isWhole_182 (by decide +kernel) ?_
                              refine x_subv (v := x1 - 1) hx hb dX12_isWhole_183 (by omega) ?_
                              refine lv_icmp_gt (tgt := 199) hx hb dX12_isWhole_184 (by decide) (fun c50 => ?_) (fun c50 => ?_)
                              · have c50 : x1 - 1 < z27 + z49 + 2 := (i_lt (by omega) (by omega)).mp c50
                                refine lv_iconst (v := iI 0) hx hb dX12_isWhole_199 (by decide +kernel) ?_
                                exact RET 0 _ _ _ _ _ ⟨rfl, hk3 _ ⟨0, 0, 0 + 1, (u_d_X12_isWhole_3 ⟨f34, ⟨f35, ⟨z38, gz38.out, (Or.inr ⟨c39, (Or.inr ⟨c41, ⟨z42, gz42.out, ⟨z43, ghw45, (Or.inr ⟨c46, ⟨z47, gz47.out, (Or.inl ⟨c48, ⟨z49, gz49.out, (Or.inl ⟨c50, rfl⟩)⟩⟩)⟩⟩)⟩⟩⟩)⟩)⟩⟩⟩)⟩, ⟨by decide, Hd.mk (fun h => absurd h (by decide))⟩⟩ hP hS dX12_isWhole_200
                              · have c50 : ¬ x1 - 1 < z27 + z49 + 2 := mt (i_lt (by omega) (by omega)).mpr c50
                                refine lv_aload_n hx hb dX12_isWhole_187 rfl (lv_at hl 4 rfl) ?_
                                refine lv_iload_n hx hb dX12_isWhole_188 rfl (lv_at hl 2 rfl) ?_
                                refine lv_iconst (v := iI 2) hx hb dX12_isWhole_189 (by decide +kernel) ?_
                                refine x_addv (v := z27 + 2) hx hb dX12_isWhole_190 (by omega) ?_
                                refine lv_iload hx hb dX12_isWhole_191 (lv_at hl 0 rfl) ?_
                                refine x_calli (As := [.int (iI (z27 + 2)), .int (iI z49)]) (rest := []) ⟨hx, hb, hml, hown, hts⟩ (mb_X12_isRowAt l dC dI cB cI cJ cZ cQ q _ (z27 + 2) z49 hI (by omega) (by omega)) (cwV 2 hts (goodV (wl_in_8 _ (List.mem_of_getElem? (i := 50) rfl)) (wl_in_8 _ (List.mem_of_getElem? (i := 51) rfl)) (wl_in_8 _ (List.mem_of_getElem? (i := 52) rfl)) (wl_in_0 _ (List.mem_of_getElem? (i := 8) rfl)) (wl_in_8 _ (List.mem_of_getElem? (i := 45) rfl))) rfl rfl rfl (by decide +kernel) ⟨Nat.le_of_ble_eq_true rfl, Nat.le_of_ble_eq_true rfl⟩) hK hDD hA0 hP hS 0 12 wm0 rfl rfl hl.1 (Nat.le_of_ble_eq_true rfl) dX12_isWhole_193 (fun z51 A52 H locs hw53 hP hS => ?_)
                                obtain ⟨rfl, hw53⟩ := hw53
                                have ghw53 : q_X12_isRowAt (z27 + 2) z49 A z51 := hw53
                                have hw53 := hw53.2
                                have rz51 : 0 ≤ z51 ∧ z51 ≤ 1 := hw53.1
                                refine lv_if_ne (tgt := 201) hx hb dX12_isWhole_196 (by decide) (fun c54 => ?_) (fun c54 => ?_)
                                · have c54 : ¬ z51 = 0 := mt (i_eq0 (rb rz51 (by decide) (by decide))).mpr c54
                                  have gv := hw45.2.out (by omega)
                                  have gg := wgd_mk (t := A 1) (a := A 16 (A 0 12).toNat) (n := x1 - 1) (k := z26) f37.out hz42 hz49 (by omega) (by omega) (by omega) (hw53.2.out (by omega))
                                  have gs := wlk_s (t := A 1) (a := A 16 (A 0 12).toNat) (k := z26) (by omega) f37.out hz49
                                  refine lv_iload_n hx hb dX12_isWhole_201 rfl (lv_at hl 2 rfl) ?_
                                  refine lv_iconst (v := iI 2) hx hb dX12_isWhole_202 (by decide +kernel) ?_
                                  refine lv_iload hx hb dX12_isWhole_203 (lv_at hl 0 rfl) ?_
                                  refine x_addv (v := z49 + 2) hx hb dX12_isWhole_205 (by omega) ?_
                                  refine x_addv (v := z27 + z49 + 2) hx hb dX12_isWhole_206 (by omega) ?_
                                  refine lv_istore_n (lv' := [(3, .int (iI (z27 + z49 + 2))), (5, .int (iI z49)), (4, .int (iI z26)), (2, .int (iI z3)), (0, .ref (q 0)), (1, .int (iI x1))]) hx hb dX12_isWhole_207 rfl hl (by decide) rfl (fun ls hl => ?_)
                                  refine lv_iinc (v := iI (z26 + 1)) (lv' := [(4, .int (iI (z26 + 1))), (3, .int (iI (z27 + z49 + 2))), (5, .int (iI z49)), (2, .int (iI z3)), (0, .ref (q 0)), (1, .int (iI x1))]) hx hb dX12_isWhole_208 hl (k := 2) rfl (i_inc (by omega)) (by decide) rfl (fun ls hl => ?_)
                                  refine lv_goto (tgt := 114) hx hb dX12_isWhole_211 (by decide) ?_
                                  exact ih31 _ (by omega) (z26 + 1) (z27 + z49 + 2) _ _ _ (by omega) (by omega) (by omega) (by exact Hd.mk (wgI (by omega) f36.out gg)) (by exact Hd.mk (by omega)) (fun zq ⟨mm1, mm2, mm3, hq⟩ => hk3 _ ⟨mm1, mm2, mm3 + 1, (u_d_X12_isWhole_3 ⟨f34, ⟨f35, ⟨z38, gz38.out, (Or.inr ⟨c39, (Or.inr ⟨c41, ⟨z42, gz42.out, ⟨z43, ghw45, (Or.inr ⟨c46, ⟨z47, gz47.out, (Or.inl ⟨c48, ⟨z49, gz49.out, (Or.inr ⟨c50, ⟨z51, ghw53, (Or.inl ⟨c54, hq⟩)⟩⟩)⟩⟩)⟩⟩)⟩⟩⟩)⟩)⟩⟩⟩)⟩) rfl hP hS (lv_sub hl [0, 1, 3, 4, 5] rfl)
                                · have c54 : z51 = 0 := (i_eq0 (rb rz51 (by decide) (by decide))).mp c54
                                  refine lv_iconst (v := iI 0) hx hb dX12_isWhole_199 (by decide +kernel) ?_
                                  exact RET 0 _ _ _ _ _ ⟨rfl, hk3 _ ⟨0, 0, 0 + 1, (u_d_X12_isWhole_3 ⟨f34, ⟨f35, ⟨z38, gz38.out, (Or.inr ⟨c39, (Or.inr ⟨c41, ⟨z42, gz42.out, ⟨z43, ghw45, (Or.inr ⟨c46, ⟨z47, gz47.out, (Or.inl ⟨c48, ⟨z49, gz49.out, (Or.inr ⟨c50, ⟨z51, ghw53, (Or.inr ⟨c54, rfl⟩)⟩⟩)⟩⟩)⟩⟩)⟩⟩⟩)⟩)⟩⟩⟩)⟩, ⟨by decide, Hd.mk (fun h => absurd h (by decide))⟩⟩ hP hS dX12_isWhole_200
                            · have c48 : ¬ z47 ≤ 6 := mt (i_le (rb rz47 (by decide) (by decide)) ⟨by decide, by decide⟩).mpr c48
                              refine lv_iconst (v := iI 0) hx hb dX12_isWhole_163 (by decide +kernel) ?_
                              exact RET 0 _ _ _ _ _ ⟨rfl, hk3 _ ⟨0, 0, 0 + 1, (u_d_X12_isWhole_3 ⟨f34, ⟨f35, ⟨z38, gz38.out, (Or.inr ⟨c39, (Or.inr ⟨c41, ⟨z42, gz42.out, ⟨z43, ghw45, (Or.inr ⟨c46, ⟨z47, gz47.out, (Or.inr ⟨c48, rfl⟩)⟩⟩)⟩⟩⟩)⟩)⟩⟩⟩)⟩, ⟨by decide, Hd.mk (fun h => absurd h (by decide))⟩⟩ hP hS dX12_isWhole_164
                  exact L114_30 _ 0 z14 _ _ _ (by omega) (by omega) (by omega) (by exact Hd.mk (fun j hj => absurd (show (j : Int) < 0 from hj) (by omega))) (by exact Hd.mk (by show _ = A 16 (A 0 12).toNat; omega)) (fun zq ⟨mm1, mm2, mm3, hq⟩ => hk2 _ ⟨mm1, mm2 + 1, (u_d_X12_isWhole_2 ⟨f22, ⟨z24, gz24.out, (Or.inl ⟨c25, ⟨mm3, hq⟩⟩)⟩⟩)⟩) rfl hP hS (lv_sub hl [0, 1, 2, 3, 4] rfl)
                · have c25 : ¬ z24 ≤ z15 := mt (i_le (rb rz24 (by decide) (by decide)) (rb f22 (by decide) (by decide))).mpr c25
                  refine lv_iload hx hb dX12_isWhole_81 (lv_at hl 0 rfl) ?_
                  refine lv_iload_n hx hb dX12_isWhole_83 rfl (lv_at hl 4 rfl) ?_
                  refine lv_iconst (v := iI 1) hx hb dX12_isWhole_84 (by decide +kernel) ?_
                  refine x_subv (v := x1 - 1) hx hb dX12_isWhole_85 (by omega) ?_
                  refine lv_icmp_ge (tgt := 103) hx hb dX12_isWhole_86 (by decide) (fun c55 => ?_) (fun c55 => ?_)
                  · have c55 : x1 - 1 ≤ z15 := (i_le (by omega) (rb f22 (by decide) (by decide))).mp c55
                    refine lv_iconst (v := iI 0) hx hb dX12_isWhole_103 (by decide +kernel) ?_
                    exact RET 0 _ _ _ _ _ ⟨rfl, hk2 _ ⟨0, 0 + 1, (u_d_X12_isWhole_2 ⟨f22, ⟨z24, gz24.out, (Or.inr ⟨c25, (Or.inl ⟨c55, rfl⟩)⟩)⟩⟩)⟩, ⟨by decide, Hd.mk (fun h => absurd h (by decide))⟩⟩ hP hS dX12_isWhole_104
                  · have c55 : ¬ x1 - 1 ≤ z15 := mt (i_le (by omega) (rb f22 (by decide) (by decide))).mpr c55
                    refine lv_aload_n hx hb dX12_isWhole_89 rfl (lv_at hl 3 rfl) ?_
                    refine lv_aload_n hx hb dX12_isWhole_90 rfl (lv_at hl 3 rfl) ?_
                    refine va_get (D := (dC, dI)) (ci := 12) (v := .ref (q 1)) (C := RX12) (T := TX12) (N := 85) hx hb hts hiX12 hown hK hP 0 wm0 rfl 0 (by decide) (hts _ (List.mem_cons_of_mem _ (wl_in_0 _ (List.mem_of_getElem? (i := 2) rfl)))) (fun _ h9 => h9) rfl dX12_isWhole_91 ?_
                    refine lv_iload hx hb dX12_isWhole_94 (lv_at hl 0 rfl) ?_
                    refine x_iald hx hb hK hP 1 1 wm1 rfl (by omega) (by decide) dX12_isWhole_96 (fun z56 hz56 => ?_)
                    have rz56 : (0 : Int) ≤ z56 ∧ z56 ≤ 255 := by rw [hz56]; exact hI 1 _
                    have gz56 := Hd.mk hz56
                    have hz56 : z56 = A 1 (z15).toNat := hz56
                    refine x_calli (As := [.int (iI z56)]) (rest := []) ⟨hx, hb, hml, hown, hts⟩ (mc_X12_isPlaceB l dC dI cB cI cJ cZ cQ q _ z56 hI (rb rz56 (by decide) (by decide))) (cwV 1 hts (goodV (wl_in_7 _ (List.mem_of_getElem? (i := 27) rfl)) (wl_in_7 _ (List.mem_of_getElem? (i := 28) rfl)) (wl_in_7 _ (List.mem_of_getElem? (i := 29) rfl)) (wl_in_0 _ (List.mem_of_getElem? (i := 8) rfl)) (wl_in_4 _ (List.mem_of_getElem? (i := 37) rfl))) rfl rfl rfl (by decide +kernel) ⟨Nat.le_of_ble_eq_true rfl, Nat.le_of_ble_eq_true rfl⟩) hK hDD hA0 hP hS 0 12 wm0 rfl rfl hl.1 (Nat.le_of_ble_eq_true rfl) dX12_isWhole_97 (fun z57 A58 H locs hw59 hP hS => ?_)
                    obtain ⟨rfl, hw59⟩ := hw59
                    have ghw59 : q_X12_isPlace z56 A z57 := hw59
                    have hw59 := hw59.2
                    have rz57 : 0 ≤ z57 ∧ z57 ≤ 1 := hw59.1
                    refine lv_if_ne (tgt := 105) hx hb dX12_isWhole_100 (by decide) (fun c60 => ?_) (fun c60 => ?_)
                    · have c60 : ¬ z57 = 0 := mt (i_eq0 (rb rz57 (by decide) (by decide))).mpr c60
                      have hw59b := hw59.2.mp (by omega)
                      clear hw59
                      refine lv_iinc (v := iI (z15 + 1)) (lv' := [(4, .int (iI (z15 + 1))), (3, .int (iI z14)), (2, .int (iI z3)), (0, .ref (q 0)), (1, .int (iI x1))]) hx hb dX12_isWhole_105 hl (k := 0) rfl (i_inc (by omega)) (by decide) rfl (fun ls hl => ?_)
                      refine lv_goto (tgt := 67) hx hb dX12_isWhole_108 (by decide) ?_
                      exact ih19 _ (by omega) (z15 + 1) _ _ _ (by omega) (by omega) (by exact Hd.mk (ofI (f := A 1) (P := fun y => 0 ≤ y ∧ y ≤ 7) (by omega) f23.out (by show 0 ≤ A 1 _ ∧ A 1 _ ≤ 7; rw [← hz56]; omega))) (fun zq ⟨mm1, mm2, hq⟩ => hk2 _ ⟨mm1, mm2 + 1, (u_d_X12_isWhole_2 ⟨f22, ⟨z24, gz24.out, (Or.inr ⟨c25, (Or.inr ⟨c55, ⟨z56, gz56.out, ⟨z57, ghw59, (Or.inl ⟨c60, hq⟩)⟩⟩⟩)⟩)⟩⟩)⟩) rfl hP hS (lv_sub hl [0, 1, 2, 3, 4] rfl)
                    · have c60 : z57 = 0 := (i_eq0 (rb rz57 (by decide) (by decide))).mp c60
                      clear hw59
                      refine lv_iconst (v := iI 0) hx hb dX12_isWhole_103 (by decide +kernel) ?_
                      exact RET 0 _ _ _ _ _ ⟨rfl, hk2 _ ⟨0, 0 + 1, (u_d_X12_isWhole_2 ⟨f22, ⟨z24, gz24.out, (Or.inr ⟨c25, (Or.inr ⟨c55, ⟨z56, gz56.out, ⟨z57, ghw59, (Or.inr ⟨c60, rfl⟩)⟩⟩⟩)⟩)⟩⟩)⟩, ⟨by decide, Hd.mk (fun h => absurd h (by decide))⟩⟩ hP hS dX12_isWhole_104
            exact L67_18 _ 0 _ _ _ (by omega) (by omega) (by exact Hd.mk (fun j hj => absurd (show (j : Int) < 0 from hj) (by omega))) (fun zq ⟨mm1, mm2, hq⟩ => hk1 _ ⟨mm1 + 1, (u_d_X12_isWhole_1 ⟨f9, ⟨f10, (Or.inl ⟨c11, ⟨z12, gz12.out, (Or.inl ⟨c13, ⟨z14, gz14.out, ⟨mm2, hq⟩⟩⟩)⟩⟩)⟩⟩)⟩) rfl hP hS (lv_sub hl [0, 1, 2, 3, 4] rfl)
          · have c13 : ¬ z12 = z3 := mt (i_eq (rb rz12 (by decide) (by decide)) (rb f10 (by decide) (by decide))).mpr c13
            refine lv_iconst (v := iI 0) hx hb dX12_isWhole_52 (by decide +kernel) ?_
            exact RET 0 _ _ _ _ _ ⟨rfl, hk1 _ ⟨0 + 1, (u_d_X12_isWhole_1 ⟨f9, ⟨f10, (Or.inl ⟨c11, ⟨z12, gz12.out, (Or.inr ⟨c13, rfl⟩)⟩⟩)⟩⟩)⟩, ⟨by decide, Hd.mk (fun h => absurd h (by decide))⟩⟩ hP hS dX12_isWhole_53
        · have c11 : ¬ x1 - 1 ≤ z2 := mt (i_le (by omega) (rb f9 (by decide) (by decide))).mpr c11
          refine lv_iconst (v := iI 3) hx hb dX12_isWhole_19 (by decide +kernel) ?_
          refine lv_iload_n hx hb dX12_isWhole_20 rfl (lv_at hl 1 rfl) ?_
          refine x_mulv (v := 3 * z3) hx hb dX12_isWhole_21 (by omega) ?_
          refine lv_aload_n hx hb dX12_isWhole_22 rfl (lv_at hl 2 rfl) ?_
          refine va_get (D := (dC, dI)) (ci := 12) (v := .ref (q 1)) (C := RX12) (T := TX12) (N := 85) hx hb hts hiX12 hown hK hP 0 wm0 rfl 0 (by decide) (hts _ (List.mem_cons_of_mem _ (wl_in_0 _ (List.mem_of_getElem? (i := 2) rfl)))) (fun _ h9 => h9) rfl dX12_isWhole_23 ?_
          refine lv_iload_n hx hb dX12_isWhole_26 rfl (lv_at hl 0 rfl) ?_
          refine x_iald hx hb hK hP 1 1 wm1 rfl (by omega) (by decide) dX12_isWhole_27 (fun z61 hz61 => ?_)
          have rz61 : (0 : Int) ≤ z61 ∧ z61 ≤ 255 := by rw [hz61]; exact hI 1 _
          have gz61 := Hd.mk hz61
          have hz61 : z61 = A 1 (z2).toNat := hz61
          refine x_addv (v := 3 * z3 + z61) hx hb dX12_isWhole_28 (by omega) ?_
          refine lv_sipush (v := iI 233) hx hb dX12_isWhole_29 (by decide +kernel) ?_
          refine x_rem hx hb dX12_isWhole_32 (by omega) (by omega) (fun z62 hz62 hz62b => ?_)
          refine lv_istore_n (lv' := [(2, .int (iI z62)), (3, .int (iI z2)), (0, .ref (q 0)), (1, .int (iI x1))]) hx hb dX12_isWhole_33 rfl hl (by decide) rfl (fun ls hl => ?_)
          refine lv_iinc (v := iI (z2 + 1)) (lv' := [(3, .int (iI (z2 + 1))), (2, .int (iI z62)), (0, .ref (q 0)), (1, .int (iI x1))]) hx hb dX12_isWhole_34 hl (k := 1) rfl (i_inc (by omega)) (by decide) rfl (fun ls hl => ?_)
          refine lv_goto (tgt := 12) hx hb dX12_isWhole_37 (by decide) ?_
          exact ih6 _ (by omega) (z2 + 1) z62 _ _ _ (by omega) (by omega) (by omega) (fun zq ⟨mm1, hq⟩ => hk1 _ ⟨mm1 + 1, (u_d_X12_isWhole_1 ⟨f9, ⟨f10, (Or.inr ⟨c11, ⟨z61, gz61.out, ⟨z62, hz62, hq⟩⟩⟩)⟩⟩)⟩) rfl hP hS (lv_sub hl [0, 1, 2, 3] rfl)
    exact L12_5 _ 0 19 _ _ _ (by omega) (by omega) (by omega) (fun zq ⟨mm1, hq⟩ => (u_r_X12_isWhole (Or.inl ⟨c1, ⟨mm1, hq⟩⟩))) rfl hP hS (lv_sub hl [0, 1, 2, 3] rfl)
  · have c1 : ¬ 1 ≤ x1 := mt (i_le ⟨by decide, by decide⟩ (rb hx1 (by decide) (by decide))).mpr c1
    refine lv_iconst (v := iI 0) hx hb dX12_isWhole_5 (by decide +kernel) ?_
    exact RET 0 _ _ _ _ _ ⟨rfl, (u_r_X12_isWhole (Or.inr ⟨c1, rfl⟩)), ⟨by decide, Hd.mk (fun h => absurd h (by decide))⟩⟩ hP hS dX12_isWhole_6
