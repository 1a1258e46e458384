set_option maxHeartbeats 4000000 in
set_option maxRecDepth 100000 in
theorem mb_X12_goesOn (l : Launch) (dC : Nat → ClassId) (dI : Nat → Nat → Nat) (cB cI cJ cZ cQ : ClassId) (q : Nat → Nat) (A : St) (hI : IM A) (hp0 : RI 1 A) (hp1 : A 0 8 = 0) (hp2 : PR A) (hp3 : A 0 57 = 1) (hp4 : SP A) (hcCI : CI A) : XMi l yX12_goesOn ws_mb_X12_goesOn ({ frames := 2, cells := 0, slots := 0, locals := 47 } : Room) (dC, dI) (tyA cB cI cJ cZ cQ) (WM cI cJ cZ q) A [.ref (q 0)] (fun z u => r_X12_goesOn A z u ∧ IM u ∧ fr [33, 34, 35, 36, 37, 40] [3, 4, 5, 6, 7, 8, 9, 46, 53, 54, 56, 57] A u ∧ CI u ∧ ((0 ≤ z ∧ z ≤ 1) ∧ (Hd (u 0 8 = 0 → (z = 1 → RI (u 0 57) u ∧ (PR u ∧ SP u) ∧ A 0 4 + 1 ≤ u 0 4) ∧ (z = 0 → DP (u 33) (sA u) (1600 * u 0 47 + u 0 46) 1 ∧ CB u ∧ A 0 4 ≤ u 0 4))))) := by
  refine x_metz (cc := cX12_goesOn) (maxL := 5) WM_adr (by decide +kernel) rfl (Nat.le_of_ble_eq_true rfl) (fun z u h => h.2.2.2.2.1) (fun p e s m below meth c Q AS ls hx hb hml hown hts hK hDD hA0 hP hS hl RET => ?_)
  have hown : s.vm.findClass RX12 = some m.cls := hown
  have hl : lv_has ls 5 [(0, .ref (q 0))] := hl
  have hiX12 : ∀ w ∈ u_ws RX12 TX12 85, w ∈ ws_mb_X12_goesOn := fun w h => List.mem_cons_of_mem _ (wx_lay w h)
  obtain ⟨H, hHe⟩ : ∃ H : Heap, H = s.heap := ⟨_, rfl⟩
  rw [← hHe] at hP
  have hS : va_S AS s.heap H [] := by rw [hHe]; exact hS
  suffices hgo : ∀ locs : List Loc, va_S AS s.heap H locs → W p l e (headSpec ws_mb_X12_goesOn ({ frames := 2, cells := 0, slots := 0, locals := 47 } : Room)).room s m [.ref (q 0)].toArray below meth c H locs 0 0 Q (F0 m 0 ls []) by
    have := hgo [] hS
    rw [hHe] at this
    exact this
  clear hS hHe
  intro locs hS
  have hI0 := hI
  have hdp := RI.deep hp0 hI0
  have hrm := RI.room hp0 hI0
  have r_A_0_3 : (0 : Int) ≤ (A 0 3) ∧ (A 0 3) ≤ 3 := hI 0 3
  have r_A_0_4 : (0 : Int) ≤ (A 0 4) ∧ (A 0 4) ≤ 1600 := hI 0 4
  have r_A_0_5 : (0 : Int) ≤ (A 0 5) ∧ (A 0 5) ≤ 1600 := hI 0 5
  have r_A_0_7 : (-9223372036854775808 : Int) ≤ (A 0 7) ∧ (A 0 7) ≤ 9223372036854775807 := hI 0 7
  have r_A_0_8 : (0 : Int) ≤ (A 0 8) ∧ (A 0 8) ≤ 5 := hI 0 8
  have r_A_0_46 : (0 : Int) ≤ (A 0 46) ∧ (A 0 46) ≤ 1600 := hI 0 46
  have r_A_0_47 : (0 : Int) ≤ (A 0 47) ∧ (A 0 47) ≤ 1 := hI 0 47
  have r_A_0_53 : (0 : Int) ≤ (A 0 53) ∧ (A 0 53) ≤ 20 := hI 0 53
  have r_A_0_54 : (0 : Int) ≤ (A 0 54) ∧ (A 0 54) ≤ 8 := hI 0 54
  have r_A_0_56 : (0 : Int) ≤ (A 0 56) ∧ (A 0 56) ≤ 500 := hI 0 56
  have hop := hp0.1
  refine lv_aload_n hx hb dX12_goesOn_0 rfl (lv_at hl 0 rfl) ?_
  refine va_get (D := (dC, dI)) (ci := 12) (v := .int (iI (A 0 53))) (C := RX12) (T := TX12) (N := 85) hx hb hts hiX12 hown hK hP 0 wm0 rfl 53 (by decide) (hts _ (List.mem_cons_of_mem _ (wl_in_1 _ (List.mem_of_getElem? (i := 37) rfl)))) (fun _ h9 => h9) rfl dX12_goesOn_1 ?_
  refine lv_iconst (v := iI 1) hx hb dX12_goesOn_4 (by decide +kernel) ?_
  refine x_subv (v := (A 0 53) - 1) hx hb dX12_goesOn_5 (by omega) ?_
  refine lv_istore_n (lv' := [(1, .int (iI ((A 0 53) - 1))), (0, .ref (q 0))]) hx hb dX12_goesOn_6 rfl hl (by decide) rfl (fun ls hl => ?_)
  refine lv_aload_n hx hb dX12_goesOn_7 rfl (lv_at hl 1 rfl) ?_
  refine va_get (D := (dC, dI)) (ci := 12) (v := .ref (q 35)) (C := RX12) (T := TX12) (N := 85) hx hb hts hiX12 hown hK hP 0 wm0 rfl 48 (by decide) (hts _ (List.mem_cons_of_mem _ (wl_in_1 _ (List.mem_of_getElem? (i := 46) rfl)))) (fun _ h9 => h9) rfl dX12_goesOn_8 ?_
  refine lv_iload_n hx hb dX12_goesOn_11 rfl (lv_at hl 0 rfl) ?_
  refine x_iald hx hb hK hP 35 1 wm35 rfl (by omega) (by decide) dX12_goesOn_12 (fun z1 hz1 => ?_)
  have rz1 : (0 : Int) ≤ z1 ∧ z1 ≤ 5 := by rw [hz1]; exact hI 35 _
  have gz1 := Hd.mk hz1
  have hz1 : z1 = A 35 ((A 0 53) - 1).toNat := hz1
  refine lv_istore_n (lv' := [(2, .int (iI z1)), (1, .int (iI ((A 0 53) - 1))), (0, .ref (q 0))]) hx hb dX12_goesOn_13 rfl hl (by decide) rfl (fun ls hl => ?_)
  refine lv_iload_n hx hb dX12_goesOn_14 rfl (lv_at hl 0 rfl) ?_
  refine x_callSi (As := [.int (iI z1)]) (rest := []) ⟨hx, hb, hml, hown, hts⟩ (mc_X12_isTest l dC dI cB cI cJ cZ cQ q _ z1 hI (rb rz1 (by decide) (by decide))) (va_cwS 1 hts (goodS (wl_in_1 _ (List.mem_of_getElem? (i := 57) rfl)) (wl_in_1 _ (List.mem_of_getElem? (i := 58) rfl)) (wl_in_0 _ (List.mem_of_getElem? (i := 8) rfl)) (wl_in_1 _ (List.mem_of_getElem? (i := 54) rfl))) rfl rfl rfl (by decide +kernel) ⟨Nat.le_of_ble_eq_true rfl, Nat.le_of_ble_eq_true rfl⟩) hK hDD hA0 hP hS rfl hl.1 (Nat.le_of_ble_eq_true rfl) dX12_goesOn_15 (fun z2 A3 H locs hw4 hP hS => ?_)
  obtain ⟨rfl, hw4⟩ := hw4
  have ghw4 : q_X12_isTest z1 A z2 := hw4
  have hw4 := hw4.2
  refine lv_istore_n (lv' := [(3, .int (iI z2)), (2, .int (iI z1)), (1, .int (iI ((A 0 53) - 1))), (0, .ref (q 0))]) hx hb dX12_goesOn_18 rfl hl (by decide) rfl (fun ls hl => ?_)
  refine lv_aload_n hx hb dX12_goesOn_19 rfl (lv_at hl 3 rfl) ?_
  refine va_get (D := (dC, dI)) (ci := 12) (v := .ref (q 36)) (C := RX12) (T := TX12) (N := 85) hx hb hts hiX12 hown hK hP 0 wm0 rfl 49 (by decide) (hts _ (List.mem_cons_of_mem _ (wl_in_1 _ (List.mem_of_getElem? (i := 47) rfl)))) (fun _ h9 => h9) rfl dX12_goesOn_20 ?_
  refine lv_iload_n hx hb dX12_goesOn_23 rfl (lv_at hl 2 rfl) ?_
  refine x_iald hx hb hK hP 36 1 wm36 rfl (by omega) (by decide) dX12_goesOn_24 (fun z5 hz5 => ?_)
  have rz5 : (0 : Int) ≤ z5 ∧ z5 ≤ 2 := by rw [hz5]; exact hI 36 _
  have gz5 := Hd.mk hz5
  have hz5 : z5 = A 36 ((A 0 53) - 1).toNat := hz5
  refine lv_iconst (v := iI 2) hx hb dX12_goesOn_25 (by decide +kernel) ?_
  refine lv_icmp_ge (tgt := 175) hx hb dX12_goesOn_26 (by decide) (fun c6 => ?_) (fun c6 => ?_)
  · have c6 : 2 ≤ z5 := (i_le ⟨by decide, by decide⟩ (rb rz5 (by decide) (by decide))).mp c6
    exact mb_X12_goesOn_c175 l dC dI cB cI cJ cZ cQ q A hI0 hp0 hp1 hp2 hp3 hp4 hcCI p e s m below meth c Q AS hx hb hml hown hts hK hDD hA0 RET _ _ _ z1 z2 (by omega) (by omega) hz1 (fun zq uq hq => (u_r_X12_goesOn ⟨z1, gz1.out, ⟨z2, ghw4, ⟨z5, gz5.out, (Or.inl ⟨c6, hq⟩)⟩⟩⟩)) hP hS (lv_sub hl [3, 2, 1, 0] rfl)
  · have c6 : ¬ 2 ≤ z5 := mt (i_le ⟨by decide, by decide⟩ (rb rz5 (by decide) (by decide))).mpr c6
    refine lv_aload_n hx hb dX12_goesOn_29 rfl (lv_at hl 3 rfl) ?_
    refine lv_bipush (v := iI 43) hx hb dX12_goesOn_30 (by decide +kernel) ?_
    have r_A_0_6 : (-2147483648 : Int) ≤ (A 0 6) ∧ (A 0 6) ≤ 2147483647 := hI 0 6
    refine x_calli (As := [.int (iI 43)]) (rest := []) ⟨hx, hb, hml, hown, hts⟩ (mb_X12_isSign l dC dI cB cI cJ cZ cQ q _ 43 hI ⟨by decide, by decide⟩) (cwV 1 hts (goodV (wl_in_0 _ (List.mem_of_getElem? (i := 37) rfl)) (wl_in_0 _ (List.mem_of_getElem? (i := 38) rfl)) (wl_in_0 _ (List.mem_of_getElem? (i := 39) rfl)) (wl_in_0 _ (List.mem_of_getElem? (i := 8) rfl)) (wl_in_0 _ (List.mem_of_getElem? (i := 34) rfl))) rfl rfl rfl (by decide +kernel) ⟨Nat.le_of_ble_eq_true rfl, Nat.le_of_ble_eq_true rfl⟩) hK hDD hA0 hP hS 0 12 wm0 rfl rfl hl.1 (Nat.le_of_ble_eq_true rfl) dX12_goesOn_32 (fun z8 A9 H locs hw10 hP hS => ?_)
    obtain ⟨rfl, hw10⟩ := hw10
    have ghw10 : q_X12_isSign 43 A z8 := hw10
    have hw10 := hw10.2
    have rz8 : 0 ≤ z8 ∧ z8 ≤ 1 := hw10.1
    replace hw10 := Hd.mk hw10.2
    refine lv_if_ne (tgt := 74) hx hb dX12_goesOn_35 (by decide) (fun c11 => ?_) (fun c11 => ?_)
    · have c11 : ¬ z8 = 0 := mt (i_eq0 (rb rz8 (by decide) (by decide))).mpr c11
      have hw10b := hw10.out.mp (by omega)
      exact mb_X12_goesOn_c74 l dC dI cB cI cJ cZ cQ q A hI0 hp0 hp1 hp2 hp3 hp4 hcCI p e s m below meth c Q AS hx hb hml hown hts hK hDD hA0 RET _ _ _ z1 z2 (by omega) (by omega) hz1 (by omega) (fun zq uq hq => (u_r_X12_goesOn ⟨z1, gz1.out, ⟨z2, ghw4, ⟨z5, gz5.out, (Or.inr ⟨c6, ⟨z8, ghw10, (Or.inl ⟨c11, hq⟩)⟩⟩)⟩⟩⟩)) hP hS (lv_sub hl [3, 2, 1, 0] rfl)
    · have c11 : z8 = 0 := (i_eq0 (rb rz8 (by decide) (by decide))).mp c11
      refine lv_aload_n hx hb dX12_goesOn_38 rfl (lv_at hl 3 rfl) ?_
      refine lv_bipush (v := iI 45) hx hb dX12_goesOn_39 (by decide +kernel) ?_
      refine x_calli (As := [.int (iI 45)]) (rest := []) ⟨hx, hb, hml, hown, hts⟩ (mb_X12_isSign l dC dI cB cI cJ cZ cQ q _ 45 hI ⟨by decide, by decide⟩) (cwV 1 hts (goodV (wl_in_0 _ (List.mem_of_getElem? (i := 37) rfl)) (wl_in_0 _ (List.mem_of_getElem? (i := 38) rfl)) (wl_in_0 _ (List.mem_of_getElem? (i := 39) rfl)) (wl_in_0 _ (List.mem_of_getElem? (i := 8) rfl)) (wl_in_0 _ (List.mem_of_getElem? (i := 34) rfl))) rfl rfl rfl (by decide +kernel) ⟨Nat.le_of_ble_eq_true rfl, Nat.le_of_ble_eq_true rfl⟩) hK hDD hA0 hP hS 0 12 wm0 rfl rfl hl.1 (Nat.le_of_ble_eq_true rfl) dX12_goesOn_41 (fun z13 A14 H locs hw15 hP hS => ?_)
      obtain ⟨rfl, hw15⟩ := hw15
      have ghw15 : q_X12_isSign 45 A z13 := hw15
      have hw15 := hw15.2
      have rz13 : 0 ≤ z13 ∧ z13 ≤ 1 := hw15.1
      replace hw15 := Hd.mk hw15.2
      refine lv_if_ne (tgt := 74) hx hb dX12_goesOn_44 (by decide) (fun c16 => ?_) (fun c16 => ?_)
      · have c16 : ¬ z13 = 0 := mt (i_eq0 (rb rz13 (by decide) (by decide))).mpr c16
        have hw15b := hw15.out.mp (by omega)
        exact mb_X12_goesOn_c74 l dC dI cB cI cJ cZ cQ q A hI0 hp0 hp1 hp2 hp3 hp4 hcCI p e s m below meth c Q AS hx hb hml hown hts hK hDD hA0 RET _ _ _ z1 z2 (by omega) (by omega) hz1 (by omega) (fun zq uq hq => (u_r_X12_goesOn ⟨z1, gz1.out, ⟨z2, ghw4, ⟨z5, gz5.out, (Or.inr ⟨c6, ⟨z8, ghw10, (Or.inr ⟨c11, ⟨z13, ghw15, (Or.inl ⟨c16, hq⟩)⟩⟩)⟩⟩)⟩⟩⟩)) hP hS (lv_sub hl [3, 2, 1, 0] rfl)
      · have c16 : z13 = 0 := (i_eq0 (rb rz13 (by decide) (by decide))).mp c16
        refine lv_aload_n hx hb dX12_goesOn_47 rfl (lv_at hl 3 rfl) ?_
        refine lv_bipush (v := iI 42) hx hb dX12_goesOn_48 (by decide +kernel) ?_
        refine x_calli (As := [.int (iI 42)]) (rest := []) ⟨hx, hb, hml, hown, hts⟩ (mb_X12_isSign l dC dI cB cI cJ cZ cQ q _ 42 hI ⟨by decide, by decide⟩) (cwV 1 hts (goodV (wl_in_0 _ (List.mem_of_getElem? (i := 37) rfl)) (wl_in_0 _ (List.mem_of_getElem? (i := 38) rfl)) (wl_in_0 _ (List.mem_of_getElem? (i := 39) rfl)) (wl_in_0 _ (List.mem_of_getElem? (i := 8) rfl)) (wl_in_0 _ (List.mem_of_getElem? (i := 34) rfl))) rfl rfl rfl (by decide +kernel) ⟨Nat.le_of_ble_eq_true rfl, Nat.le_of_ble_eq_true rfl⟩) hK hDD hA0 hP hS 0 12 wm0 rfl rfl hl.1 (Nat.le_of_ble_eq_true rfl) dX12_goesOn_50 (fun z17 A18 H locs hw19 hP hS => ?_)
        obtain ⟨rfl, hw19⟩ := hw19
        have ghw19 : q_X12_isSign 42 A z17 := hw19
        have hw19 := hw19.2
        have rz17 : 0 ≤ z17 ∧ z17 ≤ 1 := hw19.1
        replace hw19 := Hd.mk hw19.2
        refine lv_if_ne (tgt := 74) hx hb dX12_goesOn_53 (by decide) (fun c20 => ?_) (fun c20 => ?_)
        · have c20 : ¬ z17 = 0 := mt (i_eq0 (rb rz17 (by decide) (by decide))).mpr c20
          have hw19b := hw19.out.mp (by omega)
          exact mb_X12_goesOn_c74 l dC dI cB cI cJ cZ cQ q A hI0 hp0 hp1 hp2 hp3 hp4 hcCI p e s m below meth c Q AS hx hb hml hown hts hK hDD hA0 RET _ _ _ z1 z2 (by omega) (by omega) hz1 (by omega) (fun zq uq hq => (u_r_X12_goesOn ⟨z1, gz1.out, ⟨z2, ghw4, ⟨z5, gz5.out, (Or.inr ⟨c6, ⟨z8, ghw10, (Or.inr ⟨c11, ⟨z13, ghw15, (Or.inr ⟨c16, ⟨z17, ghw19, (Or.inl ⟨c20, hq⟩)⟩⟩)⟩⟩)⟩⟩)⟩⟩⟩)) hP hS (lv_sub hl [3, 2, 1, 0] rfl)
        · have c20 : z17 = 0 := (i_eq0 (rb rz17 (by decide) (by decide))).mp c20
          refine lv_aload_n hx hb dX12_goesOn_56 rfl (lv_at hl 3 rfl) ?_
          refine lv_bipush (v := iI 47) hx hb dX12_goesOn_57 (by decide +kernel) ?_
          refine x_calli (As := [.int (iI 47)]) (rest := []) ⟨hx, hb, hml, hown, hts⟩ (mb_X12_isSign l dC dI cB cI cJ cZ cQ q _ 47 hI ⟨by decide, by decide⟩) (cwV 1 hts (goodV (wl_in_0 _ (List.mem_of_getElem? (i := 37) rfl)) (wl_in_0 _ (List.mem_of_getElem? (i := 38) rfl)) (wl_in_0 _ (List.mem_of_getElem? (i := 39) rfl)) (wl_in_0 _ (List.mem_of_getElem? (i := 8) rfl)) (wl_in_0 _ (List.mem_of_getElem? (i := 34) rfl))) rfl rfl rfl (by decide +kernel) ⟨Nat.le_of_ble_eq_true rfl, Nat.le_of_ble_eq_true rfl⟩) hK hDD hA0 hP hS 0 12 wm0 rfl rfl hl.1 (Nat.le_of_ble_eq_true rfl) dX12_goesOn_59 (fun z21 A22 H locs hw23 hP hS => ?_)
          obtain ⟨rfl, hw23⟩ := hw23
          have ghw23 : q_X12_isSign 47 A z21 := hw23
          have hw23 := hw23.2
          have rz21 : 0 ≤ z21 ∧ z21 ≤ 1 := hw23.1
          replace hw23 := Hd.mk hw23.2
          refine lv_if_ne (tgt := 74) hx hb dX12_goesOn_62 (by decide) (fun c24 => ?_) (fun c24 => ?_)
          · have c24 : ¬ z21 = 0 := mt (i_eq0 (rb rz21 (by decide) (by decide))).mpr c24
            have hw23b := hw23.out.mp (by omega)
            exact mb_X12_goesOn_c74 l dC dI cB cI cJ cZ cQ q A hI0 hp0 hp1 hp2 hp3 hp4 hcCI p e s m below meth c Q AS hx hb hml hown hts hK hDD hA0 RET _ _ _ z1 z2 (by omega) (by omega) hz1 (by omega) (fun zq uq hq => (u_r_X12_goesOn ⟨z1, gz1.out, ⟨z2, ghw4, ⟨z5, gz5.out, (Or.inr ⟨c6, ⟨z8, ghw10, (Or.inr ⟨c11, ⟨z13, ghw15, (Or.inr ⟨c16, ⟨z17, ghw19, (Or.inr ⟨c20, ⟨z21, ghw23, (Or.inl ⟨c24, hq⟩)⟩⟩)⟩⟩)⟩⟩)⟩⟩)⟩⟩⟩)) hP hS (lv_sub hl [3, 2, 1, 0] rfl)
          · have c24 : z21 = 0 := (i_eq0 (rb rz21 (by decide) (by decide))).mp c24
            refine lv_aload_n hx hb dX12_goesOn_65 rfl (lv_at hl 3 rfl) ?_
            refine lv_bipush (v := iI 37) hx hb dX12_goesOn_66 (by decide +kernel) ?_
            refine x_calli (As := [.int (iI 37)]) (rest := []) ⟨hx, hb, hml, hown, hts⟩ (mb_X12_isSign l dC dI cB cI cJ cZ cQ q _ 37 hI ⟨by decide, by decide⟩) (cwV 1 hts (goodV (wl_in_0 _ (List.mem_of_getElem? (i := 37) rfl)) (wl_in_0 _ (List.mem_of_getElem? (i := 38) rfl)) (wl_in_0 _ (List.mem_of_getElem? (i := 39) rfl)) (wl_in_0 _ (List.mem_of_getElem? (i := 8) rfl)) (wl_in_0 _ (List.mem_of_getElem? (i := 34) rfl))) rfl rfl rfl (by decide +kernel) ⟨Nat.le_of_ble_eq_true rfl, Nat.le_of_ble_eq_true rfl⟩) hK hDD hA0 hP hS 0 12 wm0 rfl rfl hl.1 (Nat.le_of_ble_eq_true rfl) dX12_goesOn_68 (fun z25 A26 H locs hw27 hP hS => ?_)
            obtain ⟨rfl, hw27⟩ := hw27
            have ghw27 : q_X12_isSign 37 A z25 := hw27
            have hw27 := hw27.2
            have rz25 : 0 ≤ z25 ∧ z25 ≤ 1 := hw27.1
            replace hw27 := Hd.mk hw27.2
            refine lv_if_eq (tgt := 175) hx hb dX12_goesOn_71 (by decide) (fun c28 => ?_) (fun c28 => ?_)
            · have c28 : z25 = 0 := (i_eq0 (rb rz25 (by decide) (by decide))).mp c28
              exact mb_X12_goesOn_c175 l dC dI cB cI cJ cZ cQ q A hI0 hp0 hp1 hp2 hp3 hp4 hcCI p e s m below meth c Q AS hx hb hml hown hts hK hDD hA0 RET _ _ _ z1 z2 (by omega) (by omega) hz1 (fun zq uq hq => (u_r_X12_goesOn ⟨z1, gz1.out, ⟨z2, ghw4, ⟨z5, gz5.out, (Or.inr ⟨c6, ⟨z8, ghw10, (Or.inr ⟨c11, ⟨z13, ghw15, (Or.inr ⟨c16, ⟨z17, ghw19, (Or.inr ⟨c20, ⟨z21, ghw23, (Or.inr ⟨c24, ⟨z25, ghw27, (Or.inl ⟨c28, hq⟩)⟩⟩)⟩⟩)⟩⟩)⟩⟩)⟩⟩)⟩⟩⟩)) hP hS (lv_sub hl [3, 2, 1, 0] rfl)
            · have c28 : ¬ z25 = 0 := mt (i_eq0 (rb rz25 (by decide) (by decide))).mpr c28
              have hw27b := hw27.out.mp (by omega)
              exact mb_X12_goesOn_c74 l dC dI cB cI cJ cZ cQ q A hI0 hp0 hp1 hp2 hp3 hp4 hcCI p e s m below meth c Q AS hx hb hml hown hts hK hDD hA0 RET _ _ _ z1 z2 (by omega) (by omega) hz1 (by omega) (fun zq uq hq => (u_r_X12_goesOn ⟨z1, gz1.out, ⟨z2, ghw4, ⟨z5, gz5.out, (Or.inr ⟨c6, ⟨z8, ghw10, (Or.inr ⟨c11, ⟨z13, ghw15, (Or.inr ⟨c16, ⟨z17, ghw19, (Or.inr ⟨c20, ⟨z21, ghw23, (Or.inr ⟨c24, ⟨z25, ghw27, (Or.inr ⟨c28, hq⟩)⟩⟩)⟩⟩)⟩⟩)⟩⟩)⟩⟩)⟩⟩⟩)) hP hS (lv_sub hl [3, 2, 1, 0] rfl)
