set_option maxHeartbeats 4000000 in
set_option maxRecDepth 100000 in
theorem mb_X12_goesOn (l : Launch) (dC : Nat → ClassId) (dI : Nat → Nat → Nat) (cB cI cJ cZ cQ : ClassId) (q : Nat → Nat) (A : St) (hI : IM A) (hp0 : RI 1 A) (hp1 : A 0 8 = 0) (hp2 : PR A) (hp3 : A 0 57 = 1) (hp4 : SP A) (hcCI : CI A) : XMi l yX12_goesOn ws_mb_X12_goesOn ({ frames := 2, cells := 0, slots := 0, locals := 47 } : Room) (dC, dI) (tyA cB cI cJ cZ cQ) (WM cI cJ cZ q) A [.ref (q 0)] (fun z u => r_X12_goesOn A z u ∧ IM u ∧ fr [33, 34, 35, 36, 37, 40] [3, 4, 5, 6, 7, 8, 9, 46, 53, 54, 56, 57] A u ∧ CI u ∧ ((0 ≤ z ∧ z ≤ 1) ∧ (Hd (u 0 8 = 0 → (z = 1 → RI (u 0 57) u ∧ (PR u ∧ SP u) ∧ A 0 4 + 1 ≤ u 0 4) ∧ (z = 0 → DP (u 33) (sA u) (1600 * u 0 47 + u 0 46) 1 ∧ CB u ∧ A 0 4 ≤ u 0 4))))) := by
  refine x_metz (cc := cX12_goesOn) (maxL := 5) WM_adr (by decide +kernel) rfl (Nat.le_of_ble_eq_true rfl) (fun z u h => h.2.2.2.2.1) (fun p e s m below meth c Q AS ls hx hb hml hown hts hK hDD hA0 hP hS hl RET => ?_)
  have hown : s.vm.findClass RX12 = some m.cls := hown
  have hl : lv_has ls 5 [(0, .ref (q 0))] := hl
  have hiX12 : ∀ w ∈ u_ws RX12 TX12 85, w ∈ ws_mb_X12_goesOn := fun w h => List.mem_cons_of_mem _ (wx_lay w h)
  obtain ⟨H, hHe⟩ : ∃ H : Heap, H = s.heap := ⟨_, rfl⟩
  rw [← hHe] at hP
  have hS : va_S AS s.heap H [] := by rw [hHe]; exact hS
  suffices hgo : ∀ locs : List Loc, va_S AS s.heap H locs → W p l e (headSpec ws_mb_X12_goesOn ({ frames := 2, cells := 0, slots := 0, locals := 47 } : Room)).room s m [.ref (q 0)].toArray below meth c H locs 0 0 Q (F0 m 0 ls []) by
    have := hgo [] hS
    rw [hHe] at this
    exact this
  clear hS hHe
  intro locs hS
  have hI0 := hI
  have hdp := RI.deep hp0 hI0
  have hrm := RI.room hp0 hI0
  have r_A_0_3 : (0 : Int) ≤ (A 0 3) ∧ (A 0 3) ≤ 3 := hI 0 3
  have r_A_0_4 : (0 : Int) ≤ (A 0 4) ∧ (A 0 4) ≤ 1600 := hI 0 4
  have r_A_0_5 : (0 : Int) ≤ (A 0 5) ∧ (A 0 5) ≤ 1600 := hI 0 5
  have r_A_0_7 : (-9223372036854775808 : Int) ≤ (A 0 7) ∧ (A 0 7) ≤ 9223372036854775807 := hI 0 7
  have r_A_0_8 : (0 : Int) ≤ (A 0 8) ∧ (A 0 8) ≤ 5 := hI 0 8
  have r_A_0_46 : (0 : Int) ≤ (A 0 46) ∧ (A 0 46) ≤ 1600 := hI 0 46
  have r_A_0_47 : (0 : Int) ≤ (A 0 47) ∧ (A 0 47) ≤ 1 := hI 0 47
  have r_A_0_53 : (0 : Int) ≤ (A 0 53) ∧ (A 0 53) ≤ 20 := hI 0 53
  have r_A_0_54 : (0 : Int) ≤ (A 0 54) ∧ (A 0 54) ≤ 8 := hI 0 54
  have r_A_0_56 : (0 : Int) ≤ (A 0 56) ∧ (A 0 56) ≤ 500 := hI 0 56
  have hop := hp0.1
  refine lv_aload_n hx hb (dk_at dkX12_goesOn_0 0 rfl) rfl (lv_at hl 0 rfl) ?_
  refine va_get (D := (dC, dI)) (ci := 12) (v := .int (iI (A 0 53))) (C := RX12) (T := TX12) (N := 85) hx hb hts hiX12 hown hK hP 0 wm0 rfl 53 (by decide) (hts _ (List.mem_cons_of_mem _ (wl_in_1 _ (List.mem_of_getElem? (i := 37) rfl)))) (fun _ h9 => h9) rfl (dk_at dkX12_goesOn_0 1 rfl) ?_
  refine lv_iconst (v := iI 1) hx hb (dk_at dkX12_goesOn_0 2 rfl) (by decide +kernel) ?_
  refine x_subv (v := (A 0 53) - 1) hx hb (dk_at dkX12_goesOn_0 3 rfl) (by omega) ?_
  refine lv_istore_n (lv' := [(1, .int (iI ((A 0 53) - 1))), (0, .ref (q 0))]) hx hb (dk_at dkX12_goesOn_0 4 rfl) rfl hl (by decide) rfl (fun ls hl => ?_)
  refine lv_aload_n hx hb (dk_at dkX12_goesOn_0 5 rfl) rfl (lv_at hl 1 rfl) ?_
  refine va_get (D := (dC, dI)) (ci := 12) (v := .ref (q 35)) (C := RX12) (T := TX12) (N := 85) hx hb hts hiX12 hown hK hP 0 wm0 rfl 48 (by decide) (hts _ (List.mem_cons_of_mem _ (wl_in_1 _ (List.mem_of_getElem? (i := 46) rfl)))) (fun _ h9 => h9) rfl (dk_at dkX12_goesOn_0 6 rfl) ?_
  refine lv_iload_n hx hb (dk_at dkX12_goesOn_0 7 rfl) rfl (lv_at hl 0 rfl) ?_
  refine x_iald hx hb hK hP 35 1 wm35 rfl (by omega) (by decide) (dk_at dkX12_goesOn_0 8 rfl) (fun z1 hz1 => ?_)
  have rz1 : (0 : Int) ≤ z1 ∧ z1 ≤ 5 := by rw [hz1]; exact hI 35 _
  have gz1 := Hd.mk hz1
  have hz1 : z1 = A 35 ((A 0 53) - 1).toNat := hz1
  refine lv_istore_n (lv' := [(2, .int (iI z1)), (1, .int (iI ((A 0 53) - 1))), (0, .ref (q 0))]) hx hb (dk_at dkX12_goesOn_0 9 rfl) rfl hl (by decide) rfl (fun ls hl => ?_)
  refine lv_iload_n hx hb (dk_at dkX12_goesOn_0 10 rfl) rfl (lv_at hl 0 rfl) ?_
  refine x_callSi (As := [.int (iI z1)]) (rest := []) ⟨hx, hb, hml, hown, hts⟩ (mc_X12_isTest l dC dI cB cI cJ cZ cQ q _ z1 hI (rb rz1 (by decide) (by decide))) (va_cwS 1 hts (goodS (wl_in_1 _ (List.mem_of_getElem? (i := 57) rfl)) (wl_in_1 _ (List.mem_of_getElem? (i := 58) rfl)) (wl_in_0 _ (List.mem_of_getElem? (i := 8) rfl)) (wl_in_1 _ (List.mem_of_getElem? (i := 54) rfl))) rfl rfl rfl (by decide +kernel) ⟨Nat.le_of_ble_eq_true rfl, Nat.le_of_ble_eq_true rfl⟩) hK hDD hA0 hP hS rfl hl.1 (Nat.le_of_ble_eq_true rfl) (dk_at dkX12_goesOn_0 11 rfl) (fun z2 A3 H locs hw4 hP hS => ?_)
  obtain ⟨rfl, hw4⟩ := hw4
  have ghw4 : q_X12_isTest z1 A z2 := hw4
  have hw4 := hw4.2
  refine lv_istore_n (lv' := [(3, .int (iI z2)), (2, .int (iI z1)), (1, .int (iI ((A 0 53) - 1))), (0, .ref (q 0))]) hx hb (dk_at dkX12_goesOn_0 12 rfl) rfl hl (by decide) rfl (fun ls hl => ?_)
  refine lv_aload_n hx hb (dk_at dkX12_goesOn_0 13 rfl) rfl (lv_at hl 3 rfl) ?_
  refine va_get (D := (dC, dI)) (ci := 12) (v := .ref (q 36)) (C := RX12) (T := TX12) (N := 85) hx hb hts hiX12 hown hK hP 0 wm0 rfl 49 (by decide) (hts _ (List.mem_cons_of_mem _ (wl_in_1 _ (List.mem_of_getElem? (i := 47) rfl)))) (fun _ h9 => h9) rfl (dk_at dkX12_goesOn_0 14 rfl) ?_
  refine lv_iload_n hx hb (dk_at dkX12_goesOn_0 15 rfl) rfl (lv_at hl 2 rfl) ?_
  refine x_iald hx hb hK hP 36 1 wm36 rfl (by omega) (by decide) (dk_at dkX12_goesOn_1 0 rfl) (fun z5 hz5 => ?_)
  have rz5 : (0 : Int) ≤ z5 ∧ z5 ≤ 2 := by rw [hz5]; exact hI 36 _
  have gz5 := Hd.mk hz5
  have hz5 : z5 = A 36 ((A 0 53) - 1).toNat := hz5
  refine lv_iconst (v := iI 2) hx hb (dk_at dkX12_goesOn_1 1 rfl) (by decide +kernel) ?_
  refine lv_icmp_ge (tgt := 175) hx hb (dk_at dkX12_goesOn_1 2 rfl) (by decide) (fun c6 => ?_) (fun c6 => ?_)
  · have c6 : 2 ≤ z5 := (i_le ⟨by decide, by decide⟩ (rb rz5 (by decide) (by decide))).mp c6
    exact mb_X12_goesOn_c175 l dC dI cB cI cJ cZ cQ q A hI0 hp0 hp1 hp2 hp3 hp4 hcCI p e s m below meth c Q AS hx hb hml hown hts hK hDD hA0 RET _ _ _ z1 z2 (by omega) (by omega) hz1 (fun zq uq hq => (u_r_X12_goesOn ⟨z1, gz1.out, ⟨z2, ghw4, ⟨z5, gz5.out, (Or.inl ⟨c6, hq⟩)⟩⟩⟩)) hP hS (lv_sub hl [3, 2, 1, 0] rfl)
  · have c6 : ¬ 2 ≤ z5 := mt (i_le ⟨by decide, by decide⟩ (rb rz5 (by decide) (by decide))).mpr c6
    refine lv_aload_n hx hb (dk_at dkX12_goesOn_1 3 rfl) rfl (lv_at hl 3 rfl) ?_
    refine lv_bipush (v := iI 43) hx hb (dk_at dkX12_goesOn_1 4 rfl) (by decide +kernel) ?_
    have r_A_0_6 : (-2147483648 : Int) ≤ (A 0 6) ∧ (A 0 6) ≤ 2147483647 := hI 0 6
    refine x_calli (As := [.int (iI 43)]) (rest := []) ⟨hx, hb, hml, hown, hts⟩ (mb_X12_isSign l dC dI cB cI cJ cZ cQ q _ 43 hI ⟨by decide, by decide⟩) (cwV 1 hts (goodV (wl_in_0 _ (List.mem_of_getElem? (i := 37) rfl)) (wl_in_0 _ (List.mem_of_getElem? (i := 38) rfl)) (wl_in_0 _ (List.mem_of_getElem? (i := 39) rfl)) (wl_in_0 _ (List.mem_of_getElem? (i := 8) rfl)) (wl_in_0 _ (List.mem_of_getElem? (i := 34) rfl))) rfl rfl rfl (by decide +kernel) ⟨Nat.le_of_ble_eq_true rfl, Nat.le_of_ble_eq_true rfl⟩) hK hDD hA0 hP hS 0 12 wm0 rfl rfl hl.1 (Nat.le_of_ble_eq_true rfl) (dk_at dkX12_goesOn_1 5 rfl) (fun z8 A9 H locs hw10 hP hS => ?_)
    obtain ⟨rfl, hw10⟩ := hw10
    have ghw10 : q_X12_isSign 43 A z8 := hw10
    have hw10 := hw10.2
    have rz8 : 0 ≤ z8 ∧ z8 ≤ 1 := hw10.1
    replace hw10 := Hd.mk hw10.2
    refine lv_if_ne (tgt := 74) hx hb (dk_at dkX12_goesOn_1 6 rfl) (by decide) (fun c11 => ?_) (fun c11 => ?_)
    · have c11 : ¬ z8 = 0 := mt (i_eq0 (rb rz8 (by decide) (by decide))).mpr c11
      have hw10b := hw10.out.mp (by omega)
      exact mb_X12_goesOn_c74 l dC dI cB cI cJ cZ cQ q A hI0 hp0 hp1 hp2 hp3 hp4 hcCI p e s m below meth c Q AS hx hb hml hown hts hK hDD hA0 RET _ _ _ z1 z2 (by omega) (by omega) hz1 (by omega) (fun zq uq hq => (u_r_X12_goesOn ⟨z1, gz1.out, ⟨z2, ghw4, ⟨z5, gz5.out, (Or.inr ⟨c6, ⟨z8, ghw10, (Or.inl ⟨c11, hq⟩)⟩⟩)⟩⟩⟩)) hP hS (lv_sub hl [3, 2, 1, 0] rfl)
    · have c11 : z8 = 0 := (i_eq0 (rb rz8 (by decide) (by decide))).mp c11
      refine lv_aload_n hx hb (dk_at dkX12_goesOn_1 7 rfl) rfl (lv_at hl 3 rfl) ?_
      refine lv_bipush (v := iI 45) hx hb (dk_at dkX12_goesOn_1 8 rfl) (by decide +kernel) ?_
      refine x_calli (As := [.int (iI 45)]) (rest := []) ⟨hx, hb, hml, hown, hts⟩ (mb_X12_isSign l dC dI cB cI cJ cZ cQ q _ 45 hI ⟨by decide, by decide⟩) (cwV 1 hts (goodV (wl_in_0 _ (List.mem_of_getElem? (i := 37) rfl)) (wl_in_0 _ (List.mem_of_getElem? (i := 38) rfl)) (wl_in_0 _ (List.mem_of_getElem? (i := 39) rfl)) (wl_in_0 _ (List.mem_of_getElem? (i := 8) rfl)) (wl_in_0 _ (List.mem_of_getElem? (i := 34) rfl))) rfl rfl rfl (by decide +kernel) ⟨Nat.le_of_ble_eq_true rfl, Nat.le_of_ble_eq_true rfl⟩) hK hDD hA0 hP hS 0 12 wm0 rfl rfl hl.1 (Nat.le_of_ble_eq_true rfl) (dk_at dkX12_goesOn_1 9 rfl) (fun z13 A14 H locs hw15 hP hS => ?_)
      obtain ⟨rfl, hw15⟩ := hw15
      have ghw15 : q_X12_isSign 45 A z13 := hw15
      have hw15 := hw15.2
      have rz13 : 0 ≤ z13 ∧ z13 ≤ 1 := hw15.1
      replace hw15 := Hd.mk hw15.2
      refine lv_if_ne (tgt := 74) hx hb (dk_at dkX12_goesOn_1 10 rfl) (by decide) (fun c16 => ?_) (fun c16 => ?_)
      · have c16 : ¬ z13 = 0 := mt (i_eq0 (rb rz13 (by decide) (by decide))).mpr c16
        have hw15b := hw15.out.mp (by omega)
        exact mb_X12_goesOn_c74 l dC dI cB cI cJ cZ cQ q A hI0 hp0 hp1 hp2 hp3 hp4 hcCI p e s m below meth c Q AS hx hb hml hown hts hK hDD hA0 RET _ _ _ z1 z2 (by omega) (by omega) hz1 (by omega) (fun zq uq hq => (u_r_X12_goesOn ⟨z1, gz1.out, ⟨z2, ghw4, ⟨z5, gz5.out, (Or.inr ⟨c6, ⟨z8, ghw10, (Or.inr ⟨c11, ⟨z13, ghw15, (Or.inl ⟨c16, hq⟩)⟩⟩)⟩⟩)⟩⟩⟩)) hP hS (lv_sub hl [3, 2, 1, 0] rfl)
      · have c16 : z13 = 0 := (i_eq0 (rb rz13 (by decide) (by decide))).mp c16
        refine lv_aload_n hx hb (dk_at dkX12_goesOn_1 11 rfl) rfl (lv_at hl 3 rfl) ?_
        refine lv_bipush (v := iI 42) hx hb (dk_at dkX12_goesOn_1 12 rfl) (by decide +kernel) ?_
        refine x_calli (As := [.int (iI 42)]) (rest := []) ⟨hx, hb, hml, hown, hts⟩ (mb_X12_isSign l dC dI cB cI cJ cZ cQ q _ 42 hI ⟨by decide, by decide⟩) (cwV 1 hts (goodV (wl_in_0 _ (List.mem_of_getElem? (i := 37) rfl)) (wl_in_0 _ (List.mem_of_getElem? (i := 38) rfl)) (wl_in_0 _ (List.mem_of_getElem? (i := 39) rfl)) (wl_in_0 _ (List.mem_of_getElem? (i := 8) rfl)) (wl_in_0 _ (List.mem_of_getElem? (i := 34) rfl))) rfl rfl rfl (by decide +kernel) ⟨Nat.le_of_ble_eq_true rfl, Nat.le_of_ble_eq_true rfl⟩) hK hDD hA0 hP hS 0 12 wm0 rfl rfl hl.1 (Nat.le_of_ble_eq_true rfl) (dk_at dkX12_goesOn_1 13 rfl) (fun z17 A18 H locs hw19 hP hS => ?_)
        obtain ⟨rfl, hw19⟩ := hw19
        have ghw19 : q_X12_isSign 42 A z17 := hw19
        have hw19 := hw19.2
        have rz17 : 0 ≤ z17 ∧ z17 ≤ 1 := hw19.1
        replace hw19 := Hd.mk hw19.2
        refine lv_if_ne (tgt := 74) hx hb (dk_at dkX12_goesOn_1 14 rfl) (by decide) (fun c20 => ?_) (fun c20 => ?_)
        · have c20 : ¬ z17 = 0 := mt (i_eq0 (rb rz17 (by decide) (by decide))).mpr c20
          have hw19b := hw19.out.mp (by omega)
          exact mb_X12_goesOn_c74 l dC dI cB cI cJ cZ cQ q A hI0 hp0 hp1 hp2 hp3 hp4 hcCI p e s m below meth c Q AS hx hb hml hown hts hK hDD hA0 RET _ _ _ z1 z2 (by omega) (by omega) hz1 (by omega) (fun zq uq hq => (u_r_X12_goesOn ⟨z1, gz1.out, ⟨z2, ghw4, ⟨z5, gz5.out, (Or.inr ⟨c6, ⟨z8, ghw10, (Or.inr ⟨c11, ⟨z13, ghw15, (Or.inr ⟨c16, ⟨z17, ghw19, (Or.inl ⟨c20, hq⟩)⟩⟩)⟩⟩)⟩⟩)⟩⟩⟩)) hP hS (lv_sub hl [3, 2, 1, 0] rfl)
        · have c20 : z17 = 0 := (i_eq0 (rb rz17 (by decide) (by decide))).mp c20
          refine lv_aload_n hx hb (dk_at dkX12_goesOn_1 15 rfl) rfl (lv_at hl 3 rfl) ?_
          refine lv_bipush (v := iI 47) hx hb (dk_at dkX12_goesOn_2 0 rfl) (by decide +kernel) ?_
          refine x_calli (As := [.int (iI 47)]) (rest := []) ⟨hx, hb, hml, hown, hts⟩ (mb_X12_isSign l dC dI cB cI cJ cZ cQ q _ 47 hI ⟨by decide, by decide⟩) (cwV 1 hts (goodV (wl_in_0 _ (List.mem_of_getElem? (i := 37) rfl)) (wl_in_0 _ (List.mem_of_getElem? (i := 38) rfl)) (wl_in_0 _ (List.mem_of_getElem? (i := 39) rfl)) (wl_in_0 _ (List.mem_of_getElem? (i := 8) rfl)) (wl_in_0 _ (List.mem_of_getElem? (i := 34) rfl))) rfl rfl rfl (by decide +kernel) ⟨Nat.le_of_ble_eq_true rfl, Nat.le_of_ble_eq_true rfl⟩) hK hDD hA0 hP hS 0 12 wm0 rfl rfl hl.1 (Nat.le_of_ble_eq_true rfl) (dk_at dkX12_goesOn_2 1 rfl) (fun z21 A22 H locs hw23 hP hS => ?_)
          obtain ⟨rfl, hw23⟩ := hw23
          have ghw23 : q_X12_isSign 47 A z21 := hw23
          have hw23 := hw23.2
          have rz21 : 0 ≤ z21 ∧ z21 ≤ 1 := hw23.1
          replace hw23 := Hd.mk hw23.2
          refine lv_if_ne (tgt := 74) hx hb (dk_at dkX12_goesOn_2 2 rfl) (by decide) (fun c24 => ?_) (fun c24 => ?_)
          · have c24 : ¬ z21 = 0 := mt (i_eq0 (rb rz21 (by decide) (by decide))).mpr c24
            have hw23b := hw23.out.mp (by omega)
            exact mb_X12_goesOn_c74 l dC dI cB cI cJ cZ cQ q A hI0 hp0 hp1 hp2 hp3 hp4 hcCI p e s m below meth c Q AS hx hb hml hown hts hK hDD hA0 RET _ _ _ z1 z2 (by omega) (by omega) hz1 (by omega) (fun zq uq hq => (u_r_X12_goesOn ⟨z1, gz1.out, ⟨z2, ghw4, ⟨z5, gz5.out, (Or.inr ⟨c6, ⟨z8, ghw10, (Or.inr ⟨c11, ⟨z13, ghw15, (Or.inr ⟨c16, ⟨z17, ghw19, (Or.inr ⟨c20, ⟨z21, ghw23, (Or.inl ⟨c24, hq⟩)⟩⟩)⟩⟩)⟩⟩)⟩⟩)⟩⟩⟩)) hP hS (lv_sub hl [3, 2, 1, 0] rfl)
          · have c24 : z21 = 0 := (i_eq0 (rb rz21 (by decide) (by decide))).mp c24
            refine lv_aload_n hx hb (dk_at dkX12_goesOn_2 3 rfl) rfl (lv_at hl 3 rfl) ?_
            refine lv_bipush (v := iI 37) hx hb (dk_at dkX12_goesOn_2 4 rfl) (by decide +kernel) ?_
            refine x_calli (As := [.int (iI 37)]) (rest := []) ⟨hx, hb, hml, hown, hts⟩ (mb_X12_isSign l dC dI cB cI cJ cZ cQ q _ 37 hI ⟨by decide, by decide⟩) (cwV 1 hts (goodV (wl_in_0 _ (List.mem_of_getElem? (i := 37) rfl)) (wl_in_0 _ (List.mem_of_getElem? (i := 38) rfl)) (wl_in_0 _ (List.mem_of_getElem? (i := 39) rfl)) (wl_in_0 _ (List.mem_of_getElem? (i := 8) rfl)) (wl_in_0 _ (List.mem_of_getElem? (i := 34) rfl))) rfl rfl rfl (by decide +kernel) ⟨Nat.le_of_ble_eq_true rfl, Nat.le_of_ble_eq_true rfl⟩) hK hDD hA0 hP hS 0 12 wm0 rfl rfl hl.1 (Nat.le_of_ble_eq_true rfl) (dk_at dkX12_goesOn_2 5 rfl) (fun z25 A26 H locs hw27 hP hS => ?_)
            obtain ⟨rfl, hw27⟩ := hw27
            have ghw27 : q_X12_isSign 37 A z25 := hw27
            have hw27 := hw27.2
            have rz25 : 0 ≤ z25 ∧ z25 ≤ 1 := hw27.1
            replace hw27 := Hd.mk hw27.2
            refine lv_if_eq (tgt := 175) hx hb (dk_at dkX12_goesOn_2 6 rfl) (by decide) (fun c28 => ?_) (fun c28 => ?_)
            · have c28 : z25 = 0 := (i_eq0 (rb rz25 (by decide) (by decide))).mp c28
              exact mb_X12_goesOn_c175 l dC dI cB cI cJ cZ cQ q A hI0 hp0 hp1 hp2 hp3 hp4 hcCI p e s m below meth c Q AS hx hb hml hown hts hK hDD hA0 RET _ _ _ z1 z2 (by omega) (by omega) hz1 (fun zq uq hq => (u_r_X12_goesOn ⟨z1, gz1.out, ⟨z2, ghw4, ⟨z5, gz5.out, (Or.inr ⟨c6, ⟨z8, ghw10, (Or.inr ⟨c11, ⟨z13, ghw15, (Or.inr ⟨c16, ⟨z17, ghw19, (Or.inr ⟨c20, ⟨z21, ghw23, (Or.inr ⟨c24, ⟨z25, ghw27, (Or.inl ⟨c28, hq⟩)⟩⟩)⟩⟩)⟩⟩)⟩⟩)⟩⟩)⟩⟩⟩)) hP hS (lv_sub hl [3, 2, 1, 0] rfl)
            · have c28 : ¬ z25 = 0 := mt (i_eq0 (rb rz25 (by decide) (by decide))).mpr c28
              have hw27b := hw27.out.mp (by omega)
              exact mb_X12_goesOn_c74 l dC dI cB cI cJ cZ cQ q A hI0 hp0 hp1 hp2 hp3 hp4 hcCI p e s m below meth c Q AS hx hb hml hown hts hK hDD hA0 RET _ _ _ z1 z2 (by omega) (by omega) hz1 (by omega) (fun zq uq hq => (u_r_X12_goesOn ⟨z1, gz1.out, ⟨z2, ghw4, ⟨z5, gz5.out, (Or.inr ⟨c6, ⟨z8, ghw10, (Or.inr ⟨c11, ⟨z13, ghw15, (Or.inr ⟨c16, ⟨z17, ghw19, (Or.inr ⟨c20, ⟨z21, ghw23, (Or.inr ⟨c24, ⟨z25, ghw27, (Or.inr ⟨c28, hq⟩)⟩⟩)⟩⟩)⟩⟩)⟩⟩)⟩⟩)⟩⟩⟩)) hP hS (lv_sub hl [3, 2, 1, 0] rfl)
theorem PR.one {V : St} (h53 : V 0 53 = 1) (h : V 35 0 ≤ 1) : PR V := by
  intro i hi hk
  have : i = 0 := by omega
  subst this
  omega
theorem SP.one {V : St} (h53 : V 0 53 = 1) (h56 : V 0 56 = 0) : SP V := by
  unfold SP
  rw [h53, h56]
  exact ⟨fun i hi => by omega, fun j a b => absurd b (by simp), fun p j a b => absurd b (by simp)⟩
theorem DP.wfc {c : Nat → Int} {s e : Int} (h : DP c s e 1) : wfc c s.toNat (e - s).toNat := ⟨by rw [h.2.1]; exact Int.le_refl 1, h.2.2⟩
/-- a place behind the bars that are told -/
theorem bar_ne {A : St} (hI : IM A) {b i : Nat} (hb : b < 2) (hi : (i : Int) < A 29 b) (h5 : A 29 (A 0 47).toNat ≤ 5) : 6 * b + i ≠ (6 * A 0 47 + A 29 (A 0 47).toNat).toNat := by
  have r1 : (0 : Int) ≤ A 0 47 := (hI 0 47).1
  have r2 : A 0 47 ≤ 1 := (hI 0 47).2
  have r3 : (0 : Int) ≤ A 29 (A 0 47).toNat := (hI 29 _).1
  have r4 : A 29 b ≤ 6 := (hI 29 _).2
  by_cases e : (b : Int) = A 0 47
  · have e2 : (A 0 47).toNat = b := by omega
    rw [e2] at r3 h5 ⊢
    omega
  · omega
theorem CI.s31 {A B : St} {v : Int} (h : CI A) (hI : IM A) (h5 : A 29 (A 0 47).toNat ≤ 5) (e29 : B 29 = A 29) (e31 : B 31 = up (A 31) (6 * A 0 47 + A 29 (A 0 47).toNat).toNat v) (e32 : B 32 = A 32) (e33 : B 33 = A 33) (e46 : B 0 46 = A 0 46) (e47 : B 0 47 = A 0 47) : CI B := by
  unfold CI
  rw [e29, e31, e32, e33, e46, e47]
  intro b i hb hi
  rw [up_ne _ _ (bar_ne hI hb hi h5)]
  exact h b i hb hi
theorem CI.s32 {A B : St} {v : Int} (h : CI A) (hI : IM A) (h5 : A 29 (A 0 47).toNat ≤ 5) (e29 : B 29 = A 29) (e31 : B 31 = A 31) (e32 : B 32 = up (A 32) (6 * A 0 47 + A 29 (A 0 47).toNat).toNat v) (e33 : B 33 = A 33) (e46 : B 0 46 = A 0 46) (e47 : B 0 47 = A 0 47) : CI B := by
  unfold CI
  rw [e29, e31, e32, e33, e46, e47]
  intro b i hb hi
  rw [up_ne _ _ (bar_ne hI hb hi h5)]
  exact h b i hb hi
theorem CI.inc {A B : St} (h : CI A) (hI : IM A) (e29 : B 29 = up (A 29) (A 0 47).toNat (A 29 (A 0 47).toNat + 1)) (e31 : B 31 = A 31) (e32 : B 32 = A 32) (e33 : B 33 = A 33) (e46 : B 0 46 = A 0 46) (e47 : B 0 47 = A 0 47) (ht : A 32 (6 * A 0 47 + A 29 (A 0 47).toNat).toNat = A 0 46) (hd : DP (A 33) (sA A) (1600 * A 0 47 + A 0 46) 1) : CI B := by
  unfold CI
  rw [e29, e31, e32, e33, e46, e47]
  intro b i hb hi
  have r1 : (0 : Int) ≤ A 0 47 := (hI 0 47).1
  have r3 : (0 : Int) ≤ A 29 (A 0 47).toNat := (hI 29 _).1
  by_cases e : b = (A 0 47).toNat
  · subst e
    rw [up_same] at hi
    by_cases e2 : (i : Int) < A 29 (A 0 47).toNat
    · exact h _ i hb e2
    · have ei : 6 * (A 0 47).toNat + i = (6 * A 0 47 + A 29 (A 0 47).toNat).toNat := by omega
      rw [ei, ht]
      have hle := hd.1
      have hw := DP.wfc hd
      have r4 : (0 : Int) ≤ A 31 (6 * A 0 47 + A 29 (A 0 47).toNat).toNat := (hI 31 _).1
      unfold sA at hle hw
      have e5 : (1600 * A 0 47 + A 31 (6 * A 0 47 + A 29 (A 0 47).toNat).toNat).toNat = 1600 * (A 0 47).toNat + (A 31 (6 * A 0 47 + A 29 (A 0 47).toNat).toNat).toNat := by omega
      have e6 : (1600 * A 0 47 + A 0 46 - (1600 * A 0 47 + A 31 (6 * A 0 47 + A 29 (A 0 47).toNat).toNat)).toNat = (A 0 46 - A 31 (6 * A 0 47 + A 29 (A 0 47).toNat).toNat).toNat := by omega
      rw [e5, e6] at hw
      exact ⟨by omega, fun _ => Int.le_refl _, hw⟩
  · rw [up_ne _ _ e] at hi
    exact h b i hb hi
theorem CI.zero {A B : St} {n : Int} (h : CI A) (hn : 0 ≤ n ∧ n ≤ 1) (e29 : B 29 = up (A 29) n.toNat 0) (e31 : B 31 = A 31) (e32 : B 32 = A 32) (e33 : B 33 = A 33) (e47 : B 0 47 = n) : CI B := by
  unfold CI
  rw [e29, e31, e32, e33, e47]
  intro b i hb hi
  by_cases e : b = n.toNat
  · subst e
    rw [up_same] at hi
    omega
  · rw [up_ne _ _ e] at hi
    have := h b i hb hi
    exact ⟨this.1, fun e2 => absurd e2 (by omega), this.2.2⟩
theorem WI.zero {A B : St} {n : Int} (h : WI A) (hn : 0 ≤ n ∧ n ≤ 1) (e22 : B 22 = up (A 22) n.toNat 0) (e23 : B 23 = A 23) : WI B := by
  intro p
  rw [e22, e23]
  rcases (show n = 0 ∨ n = 1 by omega) with rfl | rfl
  · refine ⟨?_, ?_⟩
    · show ct (A 23) 0 p (up (A 22) 0 0 0).toNat ≤ 2
      rw [up_same]
      show (0 : Int) ≤ 2
      decide
    · show ct (A 23) 6 p (up (A 22) 0 0 1).toNat ≤ 2
      rw [up_ne _ _ (by decide)]
      exact (h p).2
  · refine ⟨?_, ?_⟩
    · show ct (A 23) 0 p (up (A 22) 1 0 0).toNat ≤ 2
      rw [up_ne _ _ (by decide)]
      exact (h p).1
    · show ct (A 23) 6 p (up (A 22) 1 0 1).toNat ≤ 2
      rw [up_same]
      show (0 : Int) ≤ 2
      decide
theorem DPt {A B : St} (e29 : B 29 = A 29) (e31 : B 31 = A 31) (e33 : B 33 = A 33) (e46 : B 0 46 = A 0 46) (e47 : B 0 47 = A 0 47) (h : DP (A 33) (sA A) (1600 * A 0 47 + A 0 46) 1) : DP (B 33) (sA B) (1600 * B 0 47 + B 0 46) 1 := by
  unfold sA
  rw [e29, e31, e33, e46, e47]
  exact h
theorem dkX12_reads_0 : dkq cX12_reads [(0, .aload_n 0, 1), (1, .getfield 36, 3), (4, .ifCond .le 4, 3), (7, .return_, 1), (8, .aload_n 0, 1), (9, .iconst 0, 1), (10, .putfield 173, 3), (13, .aload_n 0, 1), (14, .iconst 0, 1), (15, .putfield 176, 3), (18, .aload_n 0, 1), (19, .iconst 0, 1), (20, .putfield 182, 3), (23, .aload_n 0, 1), (24, .iconst 0, 1), (25, .putfield 185, 3)] = true := by decide +kernel
theorem dkX12_reads_1 : dkq cX12_reads [(28, .aload_n 0, 1), (29, .iload_n 1, 1), (30, .ifCond .eq 7, 3), (33, .iconst 1, 1), (34, .goto 4, 3), (37, .iconst 0, 1), (38, .invokevirtual 362, 3), (41, .iconst 1, 1), (42, .istore_n 2, 1), (43, .iload_n 2, 1), (44, .ifCond .eq 46, 3), (47, .aload_n 0, 1), (48, .getfield 185, 3), (51, .ifCond .ne 14, 3), (54, .aload_n 0, 1), (55, .aload_n 0, 1)] = true := by decide +kernel
theorem dkX12_reads_2 : dkq cX12_reads [(56, .invokevirtual 381, 3), (59, .putfield 185, 3), (62, .goto 8, 3), (65, .aload_n 0, 1), (66, .invokevirtual 384, 3), (69, .istore_n 2, 1), (70, .iload_n 2, 1), (71, .ifCond .eq 14, 3), (74, .aload_n 0, 1), (75, .getfield 36, 3), (78, .ifCond .ne 7, 3), (81, .iconst 1, 1), (82, .goto 4, 3), (85, .iconst 0, 1), (86, .istore_n 2, 1), (87, .goto (-44), 3)] = true := by decide +kernel
theorem dkX12_reads_3 : dkq cX12_reads [(90, .return_, 1)] = true := by decide +kernel
abbrev tr_d_X12_reads_2 (u : St) (K2 : Int → St → Prop) (z12 : Int) (A14 : St) : Prop := ((IM A14) ∧ ((0 ≤ z12 ∧ z12 ≤ 1) ∧ (((z12 = 0) ∧ (u = A14)) ∨ ((¬ z12 = 0) ∧ (((¬ (A14 0 57) = 0) ∧ (∃ z24 : Int, ∃ A25 : St, q_X12_goesOn A14 z24 A25 ∧ (((z24 = 0) ∧ (K2 0 A25)) ∨ ((¬ z24 = 0) ∧ (((¬ (A25 0 8) = 0) ∧ (K2 0 A25)) ∨ (((A25 0 8) = 0) ∧ (K2 1 A25))))))) ∨ (((A14 0 57) = 0) ∧ (∃ z31 : Int, ∃ A32 : St, q_X12_operand A14 z31 A32 ∧ (∃ A36 : St, A36 = (stA A32 0 57 z31) ∧ (((¬ (A32 0 8) = 0) ∧ (K2 0 A36)) ∨ (((A32 0 8) = 0) ∧ (K2 1 A36)))))))))))
def d_X12_reads_2 (u : St) : Nat → Int → St → Prop
  | 0, _, _ => False
  | nn9 + 1, z12, A14 => tr_d_X12_reads_2 u (fun z12 A14 => d_X12_reads_2 u nn9 z12 A14) z12 A14
theorem u_d_X12_reads_2 {u : St} {nn9 : Nat} {z12 : Int} {A14 : St} (h : tr_d_X12_reads_2 u (fun z12 A14 => d_X12_reads_2 u nn9 z12 A14) z12 A14) : d_X12_reads_2 u (nn9 + 1) z12 A14 := h
abbrev tr_d_X12_reads_1 (A2 : St) (u : St) (z5 : Int) : Prop := ((0 ≤ z5 ∧ z5 ≤ 1) ∧ (∃ A9 : St, q_X12_pushes z5 A2 A9 ∧ (∃ nn9 : Nat, d_X12_reads_2 u nn9 1 A9)))
def d_X12_reads_1 (A2 : St) (u : St) (z5 : Int) : Prop := tr_d_X12_reads_1 A2 u z5
theorem u_d_X12_reads_1 {A2 : St} {u : St} {z5 : Int} (h : tr_d_X12_reads_1 A2 u z5) : d_X12_reads_1 A2 u z5 := h
abbrev tr_r_X12_reads (x1 : Int) (A : St) (u : St) : Prop := ((((A 0 8) ≤ 0) ∧ (∃ A2 : St, A2 = (stA (stA (stA (stA A 0 53 0) 0 54 0) 0 56 0) 0 57 0) ∧ (((x1 = 0) ∧ (d_X12_reads_1 A2 u 0)) ∨ ((¬ x1 = 0) ∧ (d_X12_reads_1 A2 u 1))))) ∨ ((¬ (A 0 8) ≤ 0) ∧ (u = A)))
def r_X12_reads (x1 : Int) (A : St) (u : St) : Prop := tr_r_X12_reads x1 A u
theorem u_r_X12_reads {x1 : Int} {A : St} {u : St} (h : tr_r_X12_reads x1 A u) : r_X12_reads x1 A u := h
def q_X12_reads (x1 : Int) (A : St) (u : St) : Prop := r_X12_reads x1 A u ∧ IM u ∧ fr [33, 34, 35, 36, 37, 38, 39, 40] [3, 4, 5, 6, 7, 8, 9, 46, 53, 54, 56, 57] A u ∧ CI u ∧ (Hd (u 0 8 = 0 → DP (u 33) (sA u) (1600 * u 0 47 + u 0 46) 1 ∧ CB u ∧ A 0 4 ≤ u 0 4))
def ws_mb_X12_reads : List Cond := .code yX12_reads cX12_reads 3 none :: WX
set_option maxHeartbeats 4000000 in
set_option maxRecDepth 100000 in
theorem mb_X12_reads (l : Launch) (dC : Nat → ClassId) (dI : Nat → Nat → Nat) (cB cI cJ cZ cQ : ClassId) (q : Nat → Nat) (A : St) (x1 : Int) (hI : IM A) (hx1 : (0 : Int) ≤ x1 ∧ x1 ≤ 1) (hp0 : CB A) (hp1 : A 31 (6 * A 0 47 + A 29 (A 0 47).toNat).toNat = A 0 46) (hcCI : CI A) : XMv l yX12_reads ws_mb_X12_reads ({ frames := 4, cells := 0, slots := 0, locals := 91 } : Room) (dC, dI) (tyA cB cI cJ cZ cQ) (WM cI cJ cZ q) A [.ref (q 0), .int (iI x1)] (fun u => r_X12_reads x1 A u ∧ IM u ∧ fr [33, 34, 35, 36, 37, 38, 39, 40] [3, 4, 5, 6, 7, 8, 9, 46, 53, 54, 56, 57] A u ∧ CI u ∧ (Hd (u 0 8 = 0 → DP (u 33) (sA u) (1600 * u 0 47 + u 0 46) 1 ∧ CB u ∧ A 0 4 ≤ u 0 4))) := by
  refine x_metv (cc := cX12_reads) (maxL := 3) WM_adr (by decide +kernel) rfl (Nat.le_of_ble_eq_true rfl) (fun p e s m below meth c Q AS ls hx hb hml hown hts hK hDD hA0 hP hS hl RET => ?_)
  have hown : s.vm.findClass RX12 = some m.cls := hown
  have hl : lv_has ls 3 [(0, .ref (q 0)), (1, .int (iI x1))] := hl
  have hiX12 : ∀ w ∈ u_ws RX12 TX12 85, w ∈ ws_mb_X12_reads := fun w h => List.mem_cons_of_mem _ (wx_lay w h)
  obtain ⟨H, hHe⟩ : ∃ H : Heap, H = s.heap := ⟨_, rfl⟩
  rw [← hHe] at hP
  have hS : va_S AS s.heap H [] := by rw [hHe]; exact hS
  suffices hgo : ∀ locs : List Loc, va_S AS s.heap H locs → W p l e (headSpec ws_mb_X12_reads ({ frames := 4, cells := 0, slots := 0, locals := 91 } : Room)).room s m [.ref (q 0), .int (iI x1)].toArray below meth c H locs 0 0 Q (F0 m 0 ls []) by
    have := hgo [] hS
    rw [hHe] at this
    exact this
  clear hS hHe
  intro locs hS
  refine lv_aload_n hx hb (dk_at dkX12_reads_0 0 rfl) rfl (lv_at hl 0 rfl) ?_
  refine va_get (D := (dC, dI)) (ci := 12) (v := .int (iI (A 0 8))) (C := RX12) (T := TX12) (N := 85) hx hb hts hiX12 hown hK hP 0 wm0 rfl 8 (by decide) (hts _ (List.mem_cons_of_mem _ (wl_in_0 _ (List.mem_of_getElem? (i := 16) rfl)))) (fun _ h9 => h9) rfl (dk_at dkX12_reads_0 1 rfl) ?_
  have r_A_0_8 : (0 : Int) ≤ (A 0 8) ∧ (A 0 8) ≤ 5 := hI 0 8
  refine lv_if_le (tgt := 8) hx hb (dk_at dkX12_reads_0 2 rfl) (by decide) (fun c1 => ?_) (fun c1 => ?_)
  · have c1 : (A 0 8) ≤ 0 := (i_le0 (rb r_A_0_8 (by decide) (by decide))).mp c1
    refine lv_aload_n hx hb (dk_at dkX12_reads_0 4 rfl) rfl (lv_at hl 0 rfl) ?_
    refine lv_iconst (v := iI 0) hx hb (dk_at dkX12_reads_0 5 rfl) (by decide +kernel) ?_
    refine x_put (D := (dC, dI)) (ci := 12) (v := .int (iI 0)) (ty := .int) (C := RX12) (T := TX12) (N := 85) hx hb hts hiX12 tyX12 tyX12_ok nmX12 hown hK hP hDD hS 0 wm0 rfl 53 (by decide) (hts _ (List.mem_cons_of_mem _ (wl_in_1 _ (List.mem_of_getElem? (i := 37) rfl)))) (fun _ h9 => h9) rfl (by decide +kernel) rfl rfl (Nat.le_of_ble_eq_true rfl) (dk_at dkX12_reads_0 6 rfl) (wf53 (v := 0)) (fun H locs hP hS => ?_)
    have hI := hI.st (j := 0) (i := 53) (v := 0) (show (0 : Int) ≤ 0 ∧ 0 ≤ 20 from (by omega))
    refine lv_aload_n hx hb (dk_at dkX12_reads_0 7 rfl) rfl (lv_at hl 0 rfl) ?_
    refine lv_iconst (v := iI 0) hx hb (dk_at dkX12_reads_0 8 rfl) (by decide +kernel) ?_
    refine x_put (D := (dC, dI)) (ci := 12) (v := .int (iI 0)) (ty := .int) (C := RX12) (T := TX12) (N := 85) hx hb hts hiX12 tyX12 tyX12_ok nmX12 hown hK hP hDD hS 0 wm0 rfl 54 (by decide) (hts _ (List.mem_cons_of_mem _ (wl_in_1 _ (List.mem_of_getElem? (i := 50) rfl)))) (fun _ h9 => h9) rfl (by decide +kernel) rfl rfl (Nat.le_of_ble_eq_true rfl) (dk_at dkX12_reads_0 9 rfl) (wf54 (v := 0)) (fun H locs hP hS => ?_)
    have hI := hI.st (j := 0) (i := 54) (v := 0) (show (0 : Int) ≤ 0 ∧ 0 ≤ 8 from (by omega))
    refine lv_aload_n hx hb (dk_at dkX12_reads_0 10 rfl) rfl (lv_at hl 0 rfl) ?_
    refine lv_iconst (v := iI 0) hx hb (dk_at dkX12_reads_0 11 rfl) (by decide +kernel) ?_
    refine x_put (D := (dC, dI)) (ci := 12) (v := .int (iI 0)) (ty := .int) (C := RX12) (T := TX12) (N := 85) hx hb hts hiX12 tyX12 tyX12_ok nmX12 hown hK hP hDD hS 0 wm0 rfl 56 (by decide) (hts _ (List.mem_cons_of_mem _ (wl_in_1 _ (List.mem_of_getElem? (i := 35) rfl)))) (fun _ h9 => h9) rfl (by decide +kernel) rfl rfl (Nat.le_of_ble_eq_true rfl) (dk_at dkX12_reads_0 12 rfl) (wf56 (v := 0)) (fun H locs hP hS => ?_)
    have hI := hI.st (j := 0) (i := 56) (v := 0) (show (0 : Int) ≤ 0 ∧ 0 ≤ 500 from (by omega))
    refine lv_aload_n hx hb (dk_at dkX12_reads_0 13 rfl) rfl (lv_at hl 0 rfl) ?_
    refine lv_iconst (v := iI 0) hx hb (dk_at dkX12_reads_0 14 rfl) (by decide +kernel) ?_
    refine x_put (D := (dC, dI)) (ci := 12) (v := .int (iI 0)) (ty := .boolean) (C := RX12) (T := TX12) (N := 85) hx hb hts hiX12 tyX12 tyX12_ok nmX12 hown hK hP hDD hS 0 wm0 rfl 57 (by decide) (hts _ (List.mem_cons_of_mem _ (wl_in_2 _ (List.mem_of_getElem? (i := 9) rfl)))) (fun _ h9 => h9) rfl (by decide +kernel) (by decide +kernel) rfl (Nat.le_of_ble_eq_true rfl) (dk_at dkX12_reads_0 15 rfl) (wf57 (v := 0)) (fun H locs hP hS => ?_)
    have hI := hI.st (j := 0) (i := 57) (v := 0) (show (0 : Int) ≤ 0 ∧ 0 ≤ 1 from (by omega))
    refine lv_aload_n hx hb (dk_at dkX12_reads_1 0 rfl) rfl (lv_at hl 0 rfl) ?_
    refine lv_iload_n hx hb (dk_at dkX12_reads_1 1 rfl) rfl (lv_at hl 1 rfl) ?_
    obtain ⟨A2, hA2⟩ : ∃ A2 : St, A2 = (stA (stA (stA (stA A 0 53 0) 0 54 0) 0 56 0) 0 57 0) := ⟨_, rfl⟩
    rw [← hA2] at hP hI
    have J38_4 : ∀ (z5 : Int) (H : Heap) (locs : List Loc) (ls : Array Slot), (0 ≤ z5 ∧ z5 ≤ 1) → ((z5 = 0 ∧ x1 = 0) ∨ (z5 = 1 ∧ ¬ x1 = 0)) → (∀ (u : St), (d_X12_reads_1 A2 u z5) → r_X12_reads x1 A u) → va_P (dC, dI) vwCl (WM cI cJ cZ q A2) H → va_S AS s.heap H locs → lv_has ls 3 [(0, .ref (q 0)), (1, .int (iI x1))] → W p l e (headSpec ws_mb_X12_reads ({ frames := 4, cells := 0, slots := 0, locals := 91 } : Room)).room s m [.ref (q 0), .int (iI x1)].toArray below meth c H locs 0 0 Q (F0 m 38 ls [.int (iI z5), .ref (q 0)]) := by
      intro z5 H locs ls f7 f8 hk1 hP hS hl
      have e_A2_53 : A2 0 53 = 0 := by rw [hA2]; rfl
      have e_A2_56 : A2 0 56 = 0 := by rw [hA2]; rfl
      refine x_callv (As := [.int (iI z5)]) (rest := []) ⟨hx, hb, hml, hown, hts⟩ (mb_X12_pushes l dC dI cB cI cJ cZ cQ q _ z5 hI (rb f7 (by decide) (by decide)) (by omega)) (cwV 1 hts (goodV (wl_in_1 _ (List.mem_of_getElem? (i := 51) rfl)) (wl_in_1 _ (List.mem_of_getElem? (i := 52) rfl)) (wl_in_1 _ (List.mem_of_getElem? (i := 53) rfl)) (wl_in_0 _ (List.mem_of_getElem? (i := 8) rfl)) (wl_in_1 _ (List.mem_of_getElem? (i := 45) rfl))) rfl rfl rfl (by decide +kernel) ⟨Nat.le_of_ble_eq_true rfl, Nat.le_of_ble_eq_true rfl⟩) hK hDD hA0 hP hS 0 12 wm0 rfl rfl hl.1 (Nat.le_of_ble_eq_true rfl) (dk_at dkX12_reads_1 6 rfl) (fun A9 H locs hw10 hP hS => ?_)
      have ghw10 : q_X12_pushes z5 A2 A9 := hw10
      obtain ⟨_, hI, hf11, hw10⟩ := hw10
      have r_A9_0_53 : (0 : Int) ≤ (A9 0 53) ∧ (A9 0 53) ≤ 20 := hI 0 53
      refine lv_iconst (v := iI 1) hx hb (dk_at dkX12_reads_1 7 rfl) (by decide +kernel) ?_
      refine lv_istore_n (lv' := [(2, .int (iI 1)), (0, .ref (q 0)), (1, .int (iI x1))]) hx hb (dk_at dkX12_reads_1 8 rfl) rfl hl (by decide) rfl (fun ls hl => ?_)
      have e_A2_4 : A2 0 4 = (A 0 4) := by rw [hA2]; exact rfl
      have e_A9_4 : A9 0 4 = (A 0 4) := (hf11.2 4 rfl).trans e_A2_4
      have r_A_0_4 : (0 : Int) ≤ (A 0 4) ∧ (A 0 4) ≤ 1600 := by rw [← e_A9_4]; exact hI 0 4
      have e_A2_8 : A2 0 8 = (A 0 8) := by rw [hA2]; exact rfl
      have e_A9_8 : A9 0 8 = (A 0 8) := (hf11.2 8 rfl).trans e_A2_8
      have e_A2_57 : A2 0 57 = 0 := by rw [hA2]; rfl
      have e_A9_57 : A9 0 57 = 0 := (hf11.2 57 rfl).trans e_A2_57
      have L43_15 : ∀ (n17 : Nat) (z12 : Int) (A14 : St) (H : Heap) (locs : List Loc) (ls : Array Slot), (0 ≤ z12 ∧ z12 ≤ 1) → (Hd ((z12 = 1 → (A14 0 8) = 0 ∧ RI (A14 0 57) A14 ∧ (PR A14 ∧ SP A14) ∧ A 0 4 ≤ (A14 0 4)) ∧ (z12 = 0 → (A14 0 8) = 0 → DP (A14 33) (sA A14) (1600 * A14 0 47 + A14 0 46) 1 ∧ CB A14 ∧ A 0 4 ≤ (A14 0 4)))) → (CI A14) → (∀ (u : St), (∃ mm2 : Nat, (d_X12_reads_2 u mm2 z12 A14)) → r_X12_reads x1 A u) → ((1601 * z12 + 1601 - (A14 0 4)).toNat = n17) → IM A14 → fr [33, 34, 35, 36, 37, 38, 39, 40] [3, 4, 5, 6, 7, 8, 9, 46, 53, 54, 56, 57] A9 A14 → va_P (dC, dI) vwCl (WM cI cJ cZ q A14) H → va_S AS s.heap H locs → lv_has ls 3 [(2, .int (iI z12)), (0, .ref (q 0)), (1, .int (iI x1))] → W p l e (headSpec ws_mb_X12_reads ({ frames := 4, cells := 0, slots := 0, locals := 91 } : Room)).room s m [.ref (q 0), .int (iI x1)].toArray below meth c H locs 0 0 Q (F0 m 43 ls []) := by
        intro n17
        induction n17 using Nat.strongRecOn with
        | ind n17 ih16 =>
          intro z12 A14 H locs ls f18 f19 hc20 hk2 hn17 hI hj13 hP hS hl
          have gI21 : Hd (IM A14) := Hd.mk hI
          have r_A14_0_4 : (0 : Int) ≤ (A14 0 4) ∧ (A14 0 4) ≤ 1600 := hI 0 4
          have r_A14_0_8 : (0 : Int) ≤ (A14 0 8) ∧ (A14 0 8) ≤ 5 := hI 0 8
          have r_A14_0_57 : (0 : Int) ≤ (A14 0 57) ∧ (A14 0 57) ≤ 1 := hI 0 57
          have e_A2_47 : A2 0 47 = (A 0 47) := by rw [hA2]; exact rfl
          have e_A9_47 : A9 0 47 = (A 0 47) := (hf11.2 47 rfl).trans e_A2_47
          have e_A14_47 : A14 0 47 = (A 0 47) := (hj13.2 47 rfl).trans e_A9_47
          have r_A14_0_3 : (0 : Int) ≤ (A14 0 3) ∧ (A14 0 3) ≤ 3 := hI 0 3
          have r_A14_0_5 : (0 : Int) ≤ (A14 0 5) ∧ (A14 0 5) ≤ 1600 := hI 0 5
          have r_A14_0_7 : (-9223372036854775808 : Int) ≤ (A14 0 7) ∧ (A14 0 7) ≤ 9223372036854775807 := hI 0 7
          have r_A14_0_46 : (0 : Int) ≤ (A14 0 46) ∧ (A14 0 46) ≤ 1600 := hI 0 46
          have r_A_0_47 : (0 : Int) ≤ (A 0 47) ∧ (A 0 47) ≤ 1 := by rw [← e_A14_47]; exact hI 0 47
          have r_A14_0_53 : (0 : Int) ≤ (A14 0 53) ∧ (A14 0 53) ≤ 20 := hI 0 53
          have r_A14_0_54 : (0 : Int) ≤ (A14 0 54) ∧ (A14 0 54) ≤ 8 := hI 0 54
          have r_A14_0_56 : (0 : Int) ≤ (A14 0 56) ∧ (A14 0 56) ≤ 500 := hI 0 56
          refine lv_iload_n hx hb (dk_at dkX12_reads_1 9 rfl) rfl (lv_at hl 0 rfl) ?_
          refine lv_if_eq (tgt := 90) hx hb (dk_at dkX12_reads_1 10 rfl) (by decide) (fun c22 => ?_) (fun c22 => ?_)
          · have c22 : z12 = 0 := (i_eq0 (rb f18 (by decide) (by decide))).mp c22
            exact RET _ _ _ _ _ ⟨hk2 _ ⟨0 + 1, (u_d_X12_reads_2 ⟨gI21.out, ⟨f18, (Or.inl ⟨c22, rfl⟩)⟩⟩)⟩, hI, fr.trans (fr.trans (fr_def hA2 (fr.sf (fr.sf (fr.sf (fr.sf (fr.rf) rfl) rfl) rfl) rfl)) hf11 rfl rfl) hj13 rfl rfl, hc20, Hd.mk (fun h0 => f19.out.2 (by omega) (by omega))⟩ hP hS (dk_at dkX12_reads_3 0 rfl)
          · have c22 : ¬ z12 = 0 := mt (i_eq0 (rb f18 (by decide) (by decide))).mpr c22
            have g := f19.out.1 (by omega)
            refine lv_aload_n hx hb (dk_at dkX12_reads_1 11 rfl) rfl (lv_at hl 1 rfl) ?_
            refine va_get (D := (dC, dI)) (ci := 12) (v := .int (iI (A14 0 57))) (C := RX12) (T := TX12) (N := 85) hx hb hts hiX12 hown hK hP 0 wm0 rfl 57 (by decide) (hts _ (List.mem_cons_of_mem _ (wl_in_2 _ (List.mem_of_getElem? (i := 9) rfl)))) (fun _ h9 => h9) rfl (dk_at dkX12_reads_1 12 rfl) ?_
            refine lv_if_ne (tgt := 65) hx hb (dk_at dkX12_reads_1 13 rfl) (by decide) (fun c23 => ?_) (fun c23 => ?_)
            · have c23 : ¬ (A14 0 57) = 0 := mt (i_eq0 (rb r_A14_0_57 (by decide) (by decide))).mpr c23
              refine lv_aload_n hx hb (dk_at dkX12_reads_2 3 rfl) rfl (lv_at hl 1 rfl) ?_
              refine x_calli (As := []) (rest := []) ⟨hx, hb, hml, hown, hts⟩ (mb_X12_goesOn l dC dI cB cI cJ cZ cQ q _ hI (by have t := g.2.1; rw [show A14 0 57 = 1 by omega] at t; exact t) (by exact g.1) (by exact g.2.2.1.1) (by omega) (by exact g.2.2.1.2) hc20) (cwV 0 hts (goodV (wl_in_2 _ (List.mem_of_getElem? (i := 17) rfl)) (wl_in_2 _ (List.mem_of_getElem? (i := 18) rfl)) (wl_in_2 _ (List.mem_of_getElem? (i := 19) rfl)) (wl_in_0 _ (List.mem_of_getElem? (i := 8) rfl)) (wl_in_2 _ (List.mem_of_getElem? (i := 8) rfl))) rfl rfl rfl (by decide +kernel) ⟨Nat.le_of_ble_eq_true rfl, Nat.le_of_ble_eq_true rfl⟩) hK hDD hA0 hP hS 0 12 wm0 rfl rfl hl.1 (Nat.le_of_ble_eq_true rfl) (dk_at dkX12_reads_2 4 rfl) (fun z24 A25 H locs hw26 hP hS => ?_)
              have ghw26 : q_X12_goesOn A14 z24 A25 := hw26
              obtain ⟨_, hI, hf27, hw26⟩ := hw26
              obtain ⟨hc28, hw26⟩ := hw26
              have r_A25_0_4 : (0 : Int) ≤ (A25 0 4) ∧ (A25 0 4) ≤ 1600 := hI 0 4
              have r_A25_0_8 : (0 : Int) ≤ (A25 0 8) ∧ (A25 0 8) ≤ 5 := hI 0 8
              have r_A25_0_46 : (0 : Int) ≤ (A25 0 46) ∧ (A25 0 46) ≤ 1600 := hI 0 46
              have e_A25_47 : A25 0 47 = (A 0 47) := (hf27.2 47 rfl).trans e_A14_47
              have r_A25_0_57 : (0 : Int) ≤ (A25 0 57) ∧ (A25 0 57) ≤ 1 := hI 0 57
              have rz24 : 0 ≤ z24 ∧ z24 ≤ 1 := hw26.1
              refine lv_istore_n (lv' := [(2, .int (iI z24)), (0, .ref (q 0)), (1, .int (iI x1))]) hx hb (dk_at dkX12_reads_2 5 rfl) rfl hl (by decide) rfl (fun ls hl => ?_)
              refine lv_iload_n hx hb (dk_at dkX12_reads_2 6 rfl) rfl (lv_at hl 0 rfl) ?_
              refine lv_if_eq (tgt := 85) hx hb (dk_at dkX12_reads_2 7 rfl) (by decide) (fun c29 => ?_) (fun c29 => ?_)
              · have c29 : z24 = 0 := (i_eq0 (rb rz24 (by decide) (by decide))).mp c29
                refine lv_iconst (v := iI 0) hx hb (dk_at dkX12_reads_2 13 rfl) (by decide +kernel) ?_
                refine lv_istore_n (lv' := [(2, .int (iI 0)), (0, .ref (q 0)), (1, .int (iI x1))]) hx hb (dk_at dkX12_reads_2 14 rfl) rfl hl (by decide) rfl (fun ls hl => ?_)
                refine lv_goto (tgt := 43) hx hb (dk_at dkX12_reads_2 15 rfl) (by decide) ?_
                have r_A25_0_3 : (0 : Int) ≤ (A25 0 3) ∧ (A25 0 3) ≤ 3 := hI 0 3
                have r_A25_0_5 : (0 : Int) ≤ (A25 0 5) ∧ (A25 0 5) ≤ 1600 := hI 0 5
                have r_A25_0_7 : (-9223372036854775808 : Int) ≤ (A25 0 7) ∧ (A25 0 7) ≤ 9223372036854775807 := hI 0 7
                have r_A25_0_53 : (0 : Int) ≤ (A25 0 53) ∧ (A25 0 53) ≤ 20 := hI 0 53
                have r_A25_0_54 : (0 : Int) ≤ (A25 0 54) ∧ (A25 0 54) ≤ 8 := hI 0 54
                have r_A25_0_56 : (0 : Int) ≤ (A25 0 56) ∧ (A25 0 56) ≤ 500 := hI 0 56
                exact ih16 _ (by omega) 0 _ _ _ _ (by omega) (by exact Hd.mk ⟨fun h => absurd h (by decide), fun _ h8 => by have kk := (hw26.2.out (by omega)).2 (by omega); have kl := kk.2.2; exact ⟨kk.1, kk.2.1, by omega⟩⟩) hc28 (fun uq ⟨mm2, hq⟩ => hk2 _ ⟨mm2 + 1, (u_d_X12_reads_2 ⟨gI21.out, ⟨f18, (Or.inr ⟨c22, (Or.inl ⟨c23, ⟨z24, A25, ghw26, (Or.inl ⟨c29, hq⟩)⟩⟩)⟩)⟩⟩)⟩) rfl hI (fr.trans (fr.trans (fr.rf) hj13 rfl rfl) hf27 rfl rfl) hP hS (lv_sub hl [0, 1, 2] rfl)
              · have c29 : ¬ z24 = 0 := mt (i_eq0 (rb rz24 (by decide) (by decide))).mpr c29
                refine lv_aload_n hx hb (dk_at dkX12_reads_2 8 rfl) rfl (lv_at hl 1 rfl) ?_
                refine va_get (D := (dC, dI)) (ci := 12) (v := .int (iI (A25 0 8))) (C := RX12) (T := TX12) (N := 85) hx hb hts hiX12 hown hK hP 0 wm0 rfl 8 (by decide) (hts _ (List.mem_cons_of_mem _ (wl_in_0 _ (List.mem_of_getElem? (i := 16) rfl)))) (fun _ h9 => h9) rfl (dk_at dkX12_reads_2 9 rfl) ?_
                refine lv_if_ne (tgt := 85) hx hb (dk_at dkX12_reads_2 10 rfl) (by decide) (fun c30 => ?_) (fun c30 => ?_)
                · have c30 : ¬ (A25 0 8) = 0 := mt (i_eq0 (rb r_A25_0_8 (by decide) (by decide))).mpr c30
                  refine lv_iconst (v := iI 0) hx hb (dk_at dkX12_reads_2 13 rfl) (by decide +kernel) ?_
                  refine lv_istore_n (lv' := [(2, .int (iI 0)), (0, .ref (q 0)), (1, .int (iI x1))]) hx hb (dk_at dkX12_reads_2 14 rfl) rfl hl (by decide) rfl (fun ls hl => ?_)
                  refine lv_goto (tgt := 43) hx hb (dk_at dkX12_reads_2 15 rfl) (by decide) ?_
                  have r_A25_0_3 : (0 : Int) ≤ (A25 0 3) ∧ (A25 0 3) ≤ 3 := hI 0 3
                  have r_A25_0_5 : (0 : Int) ≤ (A25 0 5) ∧ (A25 0 5) ≤ 1600 := hI 0 5
                  have r_A25_0_7 : (-9223372036854775808 : Int) ≤ (A25 0 7) ∧ (A25 0 7) ≤ 9223372036854775807 := hI 0 7
                  have r_A25_0_53 : (0 : Int) ≤ (A25 0 53) ∧ (A25 0 53) ≤ 20 := hI 0 53
                  have r_A25_0_54 : (0 : Int) ≤ (A25 0 54) ∧ (A25 0 54) ≤ 8 := hI 0 54
                  have r_A25_0_56 : (0 : Int) ≤ (A25 0 56) ∧ (A25 0 56) ≤ 500 := hI 0 56
                  exact ih16 _ (by omega) 0 _ _ _ _ (by omega) (by exact Hd.mk ⟨fun h => absurd h (by decide), fun _ h8 => absurd h8 (by omega)⟩) hc28 (fun uq ⟨mm2, hq⟩ => hk2 _ ⟨mm2 + 1, (u_d_X12_reads_2 ⟨gI21.out, ⟨f18, (Or.inr ⟨c22, (Or.inl ⟨c23, ⟨z24, A25, ghw26, (Or.inr ⟨c29, (Or.inl ⟨c30, hq⟩)⟩)⟩⟩)⟩)⟩⟩)⟩) rfl hI (fr.trans (fr.trans (fr.rf) hj13 rfl rfl) hf27 rfl rfl) hP hS (lv_sub hl [0, 1, 2] rfl)
                · have c30 : (A25 0 8) = 0 := (i_eq0 (rb r_A25_0_8 (by decide) (by decide))).mp c30
                  refine lv_iconst (v := iI 1) hx hb (dk_at dkX12_reads_2 11 rfl) (by decide +kernel) ?_
                  refine lv_goto (tgt := 86) hx hb (dk_at dkX12_reads_2 12 rfl) (by decide) ?_
                  refine lv_istore_n (lv' := [(2, .int (iI 1)), (0, .ref (q 0)), (1, .int (iI x1))]) hx hb (dk_at dkX12_reads_2 14 rfl) rfl hl (by decide) rfl (fun ls hl => ?_)
                  refine lv_goto (tgt := 43) hx hb (dk_at dkX12_reads_2 15 rfl) (by decide) ?_
                  have r_A25_0_3 : (0 : Int) ≤ (A25 0 3) ∧ (A25 0 3) ≤ 3 := hI 0 3
                  have r_A25_0_5 : (0 : Int) ≤ (A25 0 5) ∧ (A25 0 5) ≤ 1600 := hI 0 5
                  have r_A25_0_7 : (-9223372036854775808 : Int) ≤ (A25 0 7) ∧ (A25 0 7) ≤ 9223372036854775807 := hI 0 7
                  have r_A25_0_53 : (0 : Int) ≤ (A25 0 53) ∧ (A25 0 53) ≤ 20 := hI 0 53
                  have r_A25_0_54 : (0 : Int) ≤ (A25 0 54) ∧ (A25 0 54) ≤ 8 := hI 0 54
                  have r_A25_0_56 : (0 : Int) ≤ (A25 0 56) ∧ (A25 0 56) ≤ 500 := hI 0 56
                  have kk := (hw26.2.out (by omega)).1 (by omega)
                  have kl := kk.2.2
                  exact ih16 _ (by omega) 1 _ _ _ _ (by omega) (by exact Hd.mk ⟨fun _ => ⟨by omega, by skip; exact kk.1, ⟨kk.2.1.1, kk.2.1.2⟩, by omega⟩, fun h => absurd h (by decide)⟩) hc28 (fun uq ⟨mm2, hq⟩ => hk2 _ ⟨mm2 + 1, (u_d_X12_reads_2 ⟨gI21.out, ⟨f18, (Or.inr ⟨c22, (Or.inl ⟨c23, ⟨z24, A25, ghw26, (Or.inr ⟨c29, (Or.inr ⟨c30, hq⟩)⟩)⟩⟩)⟩)⟩⟩)⟩) rfl hI (fr.trans (fr.trans (fr.rf) hj13 rfl rfl) hf27 rfl rfl) hP hS (lv_sub hl [0, 1, 2] rfl)
            · have c23 : (A14 0 57) = 0 := (i_eq0 (rb r_A14_0_57 (by decide) (by decide))).mp c23
              refine lv_aload_n hx hb (dk_at dkX12_reads_1 14 rfl) rfl (lv_at hl 1 rfl) ?_
              refine lv_aload_n hx hb (dk_at dkX12_reads_1 15 rfl) rfl (lv_at hl 1 rfl) ?_
              refine x_calli (As := []) (rest := [.ref (q 0)]) ⟨hx, hb, hml, hown, hts⟩ (mb_X12_operand l dC dI cB cI cJ cZ cQ q _ hI (by have t := g.2.1; rw [show A14 0 57 = 0 by omega] at t; exact t) (by exact g.1) (by exact g.2.2.1.1) (by exact g.2.2.1.2) hc20) (cwV 0 hts (goodV (wl_in_2 _ (List.mem_of_getElem? (i := 14) rfl)) (wl_in_2 _ (List.mem_of_getElem? (i := 15) rfl)) (wl_in_2 _ (List.mem_of_getElem? (i := 16) rfl)) (wl_in_0 _ (List.mem_of_getElem? (i := 8) rfl)) (wl_in_1 _ (List.mem_of_getElem? (i := 55) rfl))) rfl rfl rfl (by decide +kernel) ⟨Nat.le_of_ble_eq_true rfl, Nat.le_of_ble_eq_true rfl⟩) hK hDD hA0 hP hS 0 12 wm0 rfl rfl hl.1 (Nat.le_of_ble_eq_true rfl) (dk_at dkX12_reads_2 0 rfl) (fun z31 A32 H locs hw33 hP hS => ?_)
              have ghw33 : q_X12_operand A14 z31 A32 := hw33
              obtain ⟨_, hI, hf34, hw33⟩ := hw33
              obtain ⟨hc35, hw33⟩ := hw33
              have r_A32_0_4 : (0 : Int) ≤ (A32 0 4) ∧ (A32 0 4) ≤ 1600 := hI 0 4
              have r_A32_0_8 : (0 : Int) ≤ (A32 0 8) ∧ (A32 0 8) ≤ 5 := hI 0 8
              have rz31 : 0 ≤ z31 ∧ z31 ≤ 1 := hw33.1
              refine x_put (D := (dC, dI)) (ci := 12) (v := .int (iI z31)) (ty := .boolean) (C := RX12) (T := TX12) (N := 85) hx hb hts hiX12 tyX12 tyX12_ok nmX12 hown hK hP hDD hS 0 wm0 rfl 57 (by decide) (hts _ (List.mem_cons_of_mem _ (wl_in_2 _ (List.mem_of_getElem? (i := 9) rfl)))) (fun _ h9 => h9) rfl (by decide +kernel) (by rcases (show z31 = 0 ∨ z31 = 1 by omega) with h | h <;> rw [h] <;> decide +kernel) (by rcases (show z31 = 0 ∨ z31 = 1 by omega) with h | h <;> rw [h] <;> decide +kernel) (Nat.le_of_ble_eq_true rfl) (dk_at dkX12_reads_2 1 rfl) (wf57 (v := z31)) (fun H locs hP hS => ?_)
              have hI := hI.st (j := 0) (i := 57) (v := z31) (show (0 : Int) ≤ z31 ∧ z31 ≤ 1 from (by omega))
              refine lv_goto (tgt := 70) hx hb (dk_at dkX12_reads_2 2 rfl) (by decide) ?_
              refine lv_iload_n hx hb (dk_at dkX12_reads_2 6 rfl) rfl (lv_at hl 0 rfl) ?_
              obtain ⟨A36, hA36⟩ : ∃ A36 : St, A36 = (stA A32 0 57 z31) := ⟨_, rfl⟩
              rw [← hA36] at hP hI
              refine lv_if_eq (tgt := 85) hx hb (dk_at dkX12_reads_2 7 rfl) (by decide) (fun c37 => False.elim (by have c37 : z12 = 0 := (i_eq0 (rb f18 (by decide) (by decide))).mp c37; omega)) (fun _ => ?_)
              refine lv_aload_n hx hb (dk_at dkX12_reads_2 8 rfl) rfl (lv_at hl 1 rfl) ?_
              have e_A36_8 : A36 0 8 = (A32 0 8) := by rw [hA36]; exact rfl
              refine va_get (D := (dC, dI)) (ci := 12) (v := .int (iI (A36 0 8))) (C := RX12) (T := TX12) (N := 85) hx hb hts hiX12 hown hK hP 0 wm0 rfl 8 (by decide) (hts _ (List.mem_cons_of_mem _ (wl_in_0 _ (List.mem_of_getElem? (i := 16) rfl)))) (fun _ h9 => h9) rfl (dk_at dkX12_reads_2 9 rfl) ?_
              refine tp_i (y := iI (A32 0 8)) (congrArg iI e_A36_8) ?_
              refine lv_if_ne (tgt := 85) hx hb (dk_at dkX12_reads_2 10 rfl) (by decide) (fun c38 => ?_) (fun c38 => ?_)
              · have c38 : ¬ (A32 0 8) = 0 := mt (i_eq0 (rb r_A32_0_8 (by decide) (by decide))).mpr c38
                refine lv_iconst (v := iI 0) hx hb (dk_at dkX12_reads_2 13 rfl) (by decide +kernel) ?_
                refine lv_istore_n (lv' := [(2, .int (iI 0)), (0, .ref (q 0)), (1, .int (iI x1))]) hx hb (dk_at dkX12_reads_2 14 rfl) rfl hl (by decide) rfl (fun ls hl => ?_)
                refine lv_goto (tgt := 43) hx hb (dk_at dkX12_reads_2 15 rfl) (by decide) ?_
                have e_A36_4 : A36 0 4 = (A32 0 4) := by rw [hA36]; exact rfl
                have e_A36_57 : A36 0 57 = z31 := by rw [hA36]; rfl
                have e_A36_3 : A36 0 3 = (A32 0 3) := by rw [hA36]; exact rfl
                have e_A36_5 : A36 0 5 = (A32 0 5) := by rw [hA36]; exact rfl
                have e_A36_7 : A36 0 7 = (A32 0 7) := by rw [hA36]; exact rfl
                have e_A36_46 : A36 0 46 = (A32 0 46) := by rw [hA36]; exact rfl
                have e_A32_47 : A32 0 47 = (A 0 47) := (hf34.2 47 rfl).trans e_A14_47
                have e_A36_47 : A36 0 47 = (A 0 47) := by rw [hA36]; exact e_A32_47
                have e_A36_53 : A36 0 53 = (A32 0 53) := by rw [hA36]; exact rfl
                have e_A36_54 : A36 0 54 = (A32 0 54) := by rw [hA36]; exact rfl
                have e_A36_56 : A36 0 56 = (A32 0 56) := by rw [hA36]; exact rfl
                have r_A32_0_3 : (0 : Int) ≤ (A32 0 3) ∧ (A32 0 3) ≤ 3 := by rw [← e_A36_3]; exact hI 0 3
                have r_A32_0_5 : (0 : Int) ≤ (A32 0 5) ∧ (A32 0 5) ≤ 1600 := by rw [← e_A36_5]; exact hI 0 5
                have r_A32_0_7 : (-9223372036854775808 : Int) ≤ (A32 0 7) ∧ (A32 0 7) ≤ 9223372036854775807 := by rw [← e_A36_7]; exact hI 0 7
                have r_A32_0_46 : (0 : Int) ≤ (A32 0 46) ∧ (A32 0 46) ≤ 1600 := by rw [← e_A36_46]; exact hI 0 46
                have r_A32_0_53 : (0 : Int) ≤ (A32 0 53) ∧ (A32 0 53) ≤ 20 := by rw [← e_A36_53]; exact hI 0 53
                have r_A32_0_54 : (0 : Int) ≤ (A32 0 54) ∧ (A32 0 54) ≤ 8 := by rw [← e_A36_54]; exact hI 0 54
                have r_A32_0_56 : (0 : Int) ≤ (A32 0 56) ∧ (A32 0 56) ≤ 500 := by rw [← e_A36_56]; exact hI 0 56
                exact ih16 _ (by omega) 0 _ _ _ _ (by omega) (by exact Hd.mk ⟨fun h => absurd h (by decide), fun _ h8 => absurd h8 (by omega)⟩) (CI.fr hc35 (fr_def hA36 (fr.sf (fr.rf (M := []) (N := [57])) rfl)) rfl rfl) (fun uq ⟨mm2, hq⟩ => hk2 _ ⟨mm2 + 1, (u_d_X12_reads_2 ⟨gI21.out, ⟨f18, (Or.inr ⟨c22, (Or.inr ⟨c23, ⟨z31, A32, ghw33, ⟨A36, hA36, (Or.inl ⟨c38, hq⟩)⟩⟩⟩)⟩)⟩⟩)⟩) rfl hI (fr_def hA36 (fr.sf (fr.trans (fr.trans (fr.rf) hj13 rfl rfl) hf34 rfl rfl) rfl)) hP hS (lv_sub hl [0, 1, 2] rfl)
              · have c38 : (A32 0 8) = 0 := (i_eq0 (rb r_A32_0_8 (by decide) (by decide))).mp c38
                refine lv_iconst (v := iI 1) hx hb (dk_at dkX12_reads_2 11 rfl) (by decide +kernel) ?_
                refine lv_goto (tgt := 86) hx hb (dk_at dkX12_reads_2 12 rfl) (by decide) ?_
                refine lv_istore_n (lv' := [(2, .int (iI 1)), (0, .ref (q 0)), (1, .int (iI x1))]) hx hb (dk_at dkX12_reads_2 14 rfl) rfl hl (by decide) rfl (fun ls hl => ?_)
                refine lv_goto (tgt := 43) hx hb (dk_at dkX12_reads_2 15 rfl) (by decide) ?_
                have e_A36_4 : A36 0 4 = (A32 0 4) := by rw [hA36]; exact rfl
                have e_A36_57 : A36 0 57 = z31 := by rw [hA36]; rfl
                have e_A36_3 : A36 0 3 = (A32 0 3) := by rw [hA36]; exact rfl
                have e_A36_5 : A36 0 5 = (A32 0 5) := by rw [hA36]; exact rfl
                have e_A36_7 : A36 0 7 = (A32 0 7) := by rw [hA36]; exact rfl
                have e_A36_46 : A36 0 46 = (A32 0 46) := by rw [hA36]; exact rfl
                have e_A32_47 : A32 0 47 = (A 0 47) := (hf34.2 47 rfl).trans e_A14_47
                have e_A36_47 : A36 0 47 = (A 0 47) := by rw [hA36]; exact e_A32_47
                have e_A36_53 : A36 0 53 = (A32 0 53) := by rw [hA36]; exact rfl
                have e_A36_54 : A36 0 54 = (A32 0 54) := by rw [hA36]; exact rfl
                have e_A36_56 : A36 0 56 = (A32 0 56) := by rw [hA36]; exact rfl
                have r_A32_0_3 : (0 : Int) ≤ (A32 0 3) ∧ (A32 0 3) ≤ 3 := by rw [← e_A36_3]; exact hI 0 3
                have r_A32_0_5 : (0 : Int) ≤ (A32 0 5) ∧ (A32 0 5) ≤ 1600 := by rw [← e_A36_5]; exact hI 0 5
                have r_A32_0_7 : (-9223372036854775808 : Int) ≤ (A32 0 7) ∧ (A32 0 7) ≤ 9223372036854775807 := by rw [← e_A36_7]; exact hI 0 7
                have r_A32_0_46 : (0 : Int) ≤ (A32 0 46) ∧ (A32 0 46) ≤ 1600 := by rw [← e_A36_46]; exact hI 0 46
                have r_A32_0_53 : (0 : Int) ≤ (A32 0 53) ∧ (A32 0 53) ≤ 20 := by rw [← e_A36_53]; exact hI 0 53
                have r_A32_0_54 : (0 : Int) ≤ (A32 0 54) ∧ (A32 0 54) ≤ 8 := by rw [← e_A36_54]; exact hI 0 54
                have r_A32_0_56 : (0 : Int) ≤ (A32 0 56) ∧ (A32 0 56) ≤ 500 := by rw [← e_A36_56]; exact hI 0 56
                have kk := hw33.2.out (by omega)
                have kl := kk.2.2
                exact ih16 _ (by omega) 1 _ _ _ _ (by omega) (by exact Hd.mk ⟨fun _ => ⟨by omega, by rw [show A36 0 57 = z31 by omega]; exact RI.fr kk.1 (fr_def hA36 (fr.sf (fr.rf (M := []) (N := [57])) rfl)) rfl rfl, ⟨PR.fr kk.2.1.1 (fr_def hA36 (fr.sf (fr.rf (M := []) (N := [57])) rfl)) rfl rfl, SP.fr kk.2.1.2 (fr_def hA36 (fr.sf (fr.rf (M := []) (N := [57])) rfl)) rfl rfl⟩, by omega⟩, fun h => absurd h (by decide)⟩) (CI.fr hc35 (fr_def hA36 (fr.sf (fr.rf (M := []) (N := [57])) rfl)) rfl rfl) (fun uq ⟨mm2, hq⟩ => hk2 _ ⟨mm2 + 1, (u_d_X12_reads_2 ⟨gI21.out, ⟨f18, (Or.inr ⟨c22, (Or.inr ⟨c23, ⟨z31, A32, ghw33, ⟨A36, hA36, (Or.inr ⟨c38, hq⟩)⟩⟩⟩)⟩)⟩⟩)⟩) rfl hI (fr_def hA36 (fr.sf (fr.trans (fr.trans (fr.rf) hj13 rfl rfl) hf34 rfl rfl) rfl)) hP hS (lv_sub hl [0, 1, 2] rfl)
      have e_A2_3 : A2 0 3 = (A 0 3) := by rw [hA2]; exact rfl
      have e_A2_5 : A2 0 5 = (A 0 5) := by rw [hA2]; exact rfl
      have e_A2_7 : A2 0 7 = (A 0 7) := by rw [hA2]; exact rfl
      have e_A2_46 : A2 0 46 = (A 0 46) := by rw [hA2]; exact rfl
      have e_A2_47 : A2 0 47 = (A 0 47) := by rw [hA2]; exact rfl
      have e_A2_54 : A2 0 54 = 0 := by rw [hA2]; rfl
      have e_A9_3 : A9 0 3 = (A 0 3) := (hf11.2 3 rfl).trans e_A2_3
      have e_A9_5 : A9 0 5 = (A 0 5) := (hf11.2 5 rfl).trans e_A2_5
      have e_A9_7 : A9 0 7 = (A 0 7) := (hf11.2 7 rfl).trans e_A2_7
      have e_A9_46 : A9 0 46 = (A 0 46) := (hf11.2 46 rfl).trans e_A2_46
      have e_A9_47 : A9 0 47 = (A 0 47) := (hf11.2 47 rfl).trans e_A2_47
      have e_A9_54 : A9 0 54 = 0 := (hf11.2 54 rfl).trans e_A2_54
      have e_A9_56 : A9 0 56 = 0 := (hf11.2 56 rfl).trans e_A2_56
      have r_A_0_3 : (0 : Int) ≤ (A 0 3) ∧ (A 0 3) ≤ 3 := by rw [← e_A9_3]; exact hI 0 3
      have r_A_0_5 : (0 : Int) ≤ (A 0 5) ∧ (A 0 5) ≤ 1600 := by rw [← e_A9_5]; exact hI 0 5
      have r_A_0_7 : (-9223372036854775808 : Int) ≤ (A 0 7) ∧ (A 0 7) ≤ 9223372036854775807 := by rw [← e_A9_7]; exact hI 0 7
      have r_A_0_46 : (0 : Int) ≤ (A 0 46) ∧ (A 0 46) ≤ 1600 := by rw [← e_A9_46]; exact hI 0 46
      have r_A_0_47 : (0 : Int) ≤ (A 0 47) ∧ (A 0 47) ≤ 1 := by rw [← e_A9_47]; exact hI 0 47
      have g35 : A9 35 0 = z5 := by rw [hw10.2.1, show A2 0 53 = 0 by omega]; exact up_same _ _ _
      have g39 : A9 39 0 = 0 := by rw [hw10.2.2.2.1, show A2 0 53 = 0 by omega, show A2 0 56 = 0 by omega]; exact up_same _ _ _
      have ca39 : A2 29 = A 29 := by rw [hA2]; exact rfl
      have ca40 : A9 29 = A 29 := (hf11.1 29 (by decide) rfl).trans ca39
      have ca41 : A2 31 = A 31 := by rw [hA2]; exact rfl
      have ca42 : A9 31 = A 31 := (hf11.1 31 (by decide) rfl).trans ca41
      have gs : 1600 * A9 0 47 + A9 0 46 = sA A9 := by unfold sA; rw [ca40, ca42, show A9 0 47 = A 0 47 by omega, hp1]; omega
      have gR : RI 0 A9 := RI.start (k := z5) hI (by omega) (by omega) (by omega) (by omega) g35 g39 gs (CB.fr (CB.fr hp0 (fr_def hA2 (fr.sf (fr.sf (fr.sf (fr.sf (fr.rf (M := []) (N := [53, 54, 56, 57])) rfl) rfl) rfl) rfl)) rfl rfl) hf11 rfl rfl)
      exact L43_15 _ 1 _ _ _ _ (by omega) (by exact Hd.mk ⟨fun _ => ⟨by omega, by rw [show A9 0 57 = 0 by omega]; exact gR, ⟨PR.one (by omega) (by rw [g35]; omega), SP.one (by omega) (by omega)⟩, by omega⟩, fun h => absurd h (by decide)⟩) (CI.fr (CI.fr hcCI (fr_def hA2 (fr.sf (fr.sf (fr.sf (fr.sf (fr.rf (M := []) (N := [53, 54, 56, 57])) rfl) rfl) rfl) rfl)) rfl rfl) hf11 rfl rfl) (fun uq ⟨mm2, hq⟩ => hk1 _ (u_d_X12_reads_1 ⟨f7, ⟨A9, ghw10, ⟨mm2, hq⟩⟩⟩)) rfl hI (fr.rf) hP hS (lv_sub hl [0, 1, 2] rfl)
    refine lv_if_eq (tgt := 37) hx hb (dk_at dkX12_reads_1 2 rfl) (by decide) (fun c3 => ?_) (fun c3 => ?_)
    · have c3 : x1 = 0 := (i_eq0 (rb hx1 (by decide) (by decide))).mp c3
      refine lv_iconst (v := iI 0) hx hb (dk_at dkX12_reads_1 5 rfl) (by decide +kernel) ?_
      exact J38_4 0 _ _ _ (by omega) (by omega) (fun uq hq => (u_r_X12_reads (Or.inl ⟨c1, ⟨A2, hA2, (Or.inl ⟨c3, hq⟩)⟩⟩))) hP hS (lv_sub hl [0, 1] rfl)
    · have c3 : ¬ x1 = 0 := mt (i_eq0 (rb hx1 (by decide) (by decide))).mpr c3
      refine lv_iconst (v := iI 1) hx hb (dk_at dkX12_reads_1 3 rfl) (by decide +kernel) ?_
      refine lv_goto (tgt := 38) hx hb (dk_at dkX12_reads_1 4 rfl) (by decide) ?_
      exact J38_4 1 _ _ _ (by omega) (by omega) (fun uq hq => (u_r_X12_reads (Or.inl ⟨c1, ⟨A2, hA2, (Or.inr ⟨c3, hq⟩)⟩⟩))) hP hS (lv_sub hl [0, 1] rfl)
  · have c1 : ¬ (A 0 8) ≤ 0 := mt (i_le0 (rb r_A_0_8 (by decide) (by decide))).mpr c1
    have r_A_0_4 : (0 : Int) ≤ (A 0 4) ∧ (A 0 4) ≤ 1600 := hI 0 4
    have r_A_0_46 : (0 : Int) ≤ (A 0 46) ∧ (A 0 46) ≤ 1600 := hI 0 46
    have r_A_0_47 : (0 : Int) ≤ (A 0 47) ∧ (A 0 47) ≤ 1 := hI 0 47
    exact RET _ _ _ _ _ ⟨(u_r_X12_reads (Or.inr ⟨c1, rfl⟩)), hI, fr.rf, hcCI, Hd.mk (fun h => absurd h (by omega))⟩ hP hS (dk_at dkX12_reads_0 3 rfl)
theorem dkX12_barring_0 : dkq cX12_barring [(0, .aload_n 0, 1), (1, .aload_n 0, 1), (2, .getfield 134, 3), (5, .aload_n 0, 1), (6, .getfield 155, 3), (9, .iaload, 1), (10, .bipush 6, 2), (12, .if_icmp .ne 7, 3), (15, .iconst 1, 1), (16, .goto 4, 3), (19, .iconst 0, 1), (20, .invokevirtual 394, 3), (23, .ifCond .ne 4, 3), (26, .return_, 1), (27, .bipush 6, 2), (29, .aload_n 0, 1)] = true := by decide +kernel
theorem dkX12_barring_1 : dkq cX12_barring [(30, .getfield 155, 3), (33, .imul, 1), (34, .aload_n 0, 1), (35, .getfield 134, 3), (38, .aload_n 0, 1), (39, .getfield 155, 3), (42, .iaload, 1), (43, .iadd, 1), (44, .istore_n 1, 1), (45, .aload_n 0, 1), (46, .getfield 36, 3), (49, .ifCond .ne 34, 3), (52, .aload_n 0, 1), (53, .getfield 20, 3), (56, .iconst 1, 1), (57, .if_icmp .ne 26, 3)] = true := by decide +kernel
theorem dkX12_barring_2 : dkq cX12_barring [(60, .aload_n 0, 1), (61, .aload_n 0, 1), (62, .getfield 32, 3), (65, .invokevirtual 387, 3), (68, .ifCond .ne 15, 3), (71, .aload_n 0, 1), (72, .iconst 1, 1), (73, .aload_n 0, 1), (74, .getfield 32, 3), (77, .invokevirtual 390, 3), (80, .goto 4, 3), (83, .iconst (-1), 1), (84, .istore_n 2, 1), (85, .iload_n 2, 1), (86, .iconst (-1), 1), (87, .if_icmp .eq 29, 3)] = true := by decide +kernel
theorem dkX12_barring_3 : dkq cX12_barring [(90, .aload_n 0, 1), (91, .getfield 70, 3), (94, .bipush 10, 2), (96, .aload_n 0, 1), (97, .getfield 155, 3), (100, .imul, 1), (101, .iload_n 2, 1), (102, .iadd, 1), (103, .baload, 1), (104, .ifCond .eq 12, 3), (107, .aload_n 0, 1), (108, .iconst 3, 1), (109, .aload_n 0, 1), (110, .getfield 23, 3), (113, .invokevirtual 286, 3), (116, .aload_n 0, 1)] = true := by decide +kernel
theorem dkX12_barring_4 : dkq cX12_barring [(117, .getfield 137, 3), (120, .iload_n 1, 1), (121, .aload_n 0, 1), (122, .iconst 1, 1), (123, .invokevirtual 406, 3), (126, .iastore, 1), (127, .aload_n 0, 1), (128, .ldc2_w 326, 3), (131, .invokevirtual 402, 3), (134, .aload_n 0, 1), (135, .getfield 140, 3), (138, .iload_n 1, 1), (139, .aload_n 0, 1), (140, .getfield 152, 3), (143, .iastore, 1), (144, .aload_n 0, 1)] = true := by decide +kernel
theorem dkX12_barring_5 : dkq cX12_barring [(145, .getfield 36, 3), (148, .ifCond .ne 8, 3), (151, .aload_n 0, 1), (152, .iconst 1, 1), (153, .invokevirtual 423, 3), (156, .aload_n 0, 1), (157, .getfield 143, 3), (160, .iload_n 1, 1), (161, .aload_n 0, 1), (162, .getfield 152, 3), (165, .iastore, 1), (166, .aload_n 0, 1), (167, .getfield 36, 3), (170, .ifCond .ne 16, 3), (173, .aload_n 0, 1), (174, .getfield 134, 3)] = true := by decide +kernel
theorem dkX12_barring_6 : dkq cX12_barring [(177, .aload_n 0, 1), (178, .getfield 155, 3), (181, .dup2, 1), (182, .iaload, 1), (183, .iconst 1, 1), (184, .iadd, 1), (185, .iastore, 1), (186, .return_, 1)] = true := by decide +kernel
abbrev tr_d_X12_barring_5 (z15 : Int) (A : St) (u : St) (A76 : St) : Prop := ((IM A76) ∧ (∃ A80 : St, A80 = (stA A76 32 (6 * (A 0 47) + z15).toNat (A76 0 46)) ∧ (((¬ (A76 0 8) = 0) ∧ (u = A80)) ∨ (((A76 0 8) = 0) ∧ (∃ z97 : Int, z97 = A80 29 ((A 0 47)).toNat ∧ (∃ A98 : St, A98 = (stA A80 29 ((A 0 47)).toNat (z97 + 1)) ∧ (u = A98)))))))
def d_X12_barring_5 (z15 : Int) (A : St) (u : St) (A76 : St) : Prop := tr_d_X12_barring_5 z15 A u A76
theorem u_d_X12_barring_5 {z15 : Int} {A : St} {u : St} {A76 : St} (h : tr_d_X12_barring_5 z15 A u A76) : d_X12_barring_5 z15 A u A76 := h
abbrev tr_d_X12_barring_4 (z15 : Int) (A : St) (u : St) (A39 : St) : Prop := ((IM A39) ∧ (∃ z41 : Int, ∃ A42 : St, q_X12_asked_1 1 A39 z41 A42 ∧ (∃ A46 : St, A46 = (stA A42 30 (6 * (A 0 47) + z15).toNat z41) ∧ (∃ A47 : St, q_X12_must_ 2003330414 A46 A47 ∧ (∃ A51 : St, A51 = (stA A47 31 (6 * (A 0 47) + z15).toNat (A 0 46)) ∧ (((¬ (A47 0 8) = 0) ∧ (d_X12_barring_5 z15 A u A51)) ∨ (((A47 0 8) = 0) ∧ (∃ A71 : St, q_X12_reads 1 A51 A71 ∧ (d_X12_barring_5 z15 A u A71)))))))))
def d_X12_barring_4 (z15 : Int) (A : St) (u : St) (A39 : St) : Prop := tr_d_X12_barring_4 z15 A u A39
theorem u_d_X12_barring_4 {z15 : Int} {A : St} {u : St} {A39 : St} (h : tr_d_X12_barring_4 z15 A u A39) : d_X12_barring_4 z15 A u A39 := h
abbrev tr_d_X12_barring_3 (z15 : Int) (A : St) (A10 : St) (u : St) (z28 : Int) : Prop := ((-1 ≤ z28 ∧ z28 ≤ 9) ∧ (((z28 = (-1)) ∧ (d_X12_barring_4 z15 A u A10)) ∨ ((¬ z28 = (-1)) ∧ (∃ z33 : Int, z33 = A10 8 (10 * (A 0 47) + z28).toNat ∧ (((z33 = 0) ∧ (d_X12_barring_4 z15 A u A10)) ∨ ((¬ z33 = 0) ∧ (∃ A35 : St, q_X12_blame 3 (A10 0 4) A10 A35 ∧ (d_X12_barring_4 z15 A u A35))))))))
def d_X12_barring_3 (z15 : Int) (A : St) (A10 : St) (u : St) (z28 : Int) : Prop := tr_d_X12_barring_3 z15 A A10 u z28
theorem u_d_X12_barring_3 {z15 : Int} {A : St} {A10 : St} {u : St} {z28 : Int} (h : tr_d_X12_barring_3 z15 A A10 u z28) : d_X12_barring_3 z15 A A10 u z28 := h
abbrev tr_d_X12_barring_2 (z15 : Int) (A : St) (A10 : St) (u : St) : Prop := (d_X12_barring_3 z15 A A10 u (-1))
def d_X12_barring_2 (z15 : Int) (A : St) (A10 : St) (u : St) : Prop := tr_d_X12_barring_2 z15 A A10 u
theorem u_d_X12_barring_2 {z15 : Int} {A : St} {A10 : St} {u : St} (h : tr_d_X12_barring_2 z15 A A10 u) : d_X12_barring_2 z15 A A10 u := h
abbrev tr_d_X12_barring_1 (A : St) (u : St) (z4 : Int) : Prop := ((0 ≤ z4 ∧ z4 ≤ 1) ∧ (∃ z9 : Int, ∃ A10 : St, q_X12_counts z4 A z9 A10 ∧ (((¬ z9 = 0) ∧ (∃ z15 : Int, z15 = A10 29 ((A 0 47)).toNat ∧ (((¬ (A10 0 8) = 0) ∧ (d_X12_barring_2 z15 A A10 u)) ∨ (((A10 0 8) = 0) ∧ (((¬ (A10 0 3) = 1) ∧ (d_X12_barring_2 z15 A A10 u)) ∨ (((A10 0 3) = 1) ∧ (∃ z20 : Int, q_X12_isOwn (A10 0 7) A10 z20 ∧ (((¬ z20 = 0) ∧ (d_X12_barring_2 z15 A A10 u)) ∨ ((z20 = 0) ∧ (∃ z24 : Int, q_X12_named_1 1 (A10 0 7) A10 z24 ∧ (d_X12_barring_3 z15 A A10 u z24))))))))))) ∨ ((z9 = 0) ∧ (u = A10)))))
def d_X12_barring_1 (A : St) (u : St) (z4 : Int) : Prop := tr_d_X12_barring_1 A u z4
theorem u_d_X12_barring_1 {A : St} {u : St} {z4 : Int} (h : tr_d_X12_barring_1 A u z4) : d_X12_barring_1 A u z4 := h
abbrev tr_r_X12_barring (A : St) (u : St) : Prop := (∃ z1 : Int, z1 = A 29 ((A 0 47)).toNat ∧ (((¬ z1 = 6) ∧ (d_X12_barring_1 A u 0)) ∨ ((z1 = 6) ∧ (d_X12_barring_1 A u 1))))
def r_X12_barring (A : St) (u : St) : Prop := tr_r_X12_barring A u
theorem u_r_X12_barring {A : St} {u : St} (h : tr_r_X12_barring A u) : r_X12_barring A u := h
def q_X12_barring (A : St) (u : St) : Prop := r_X12_barring A u ∧ IM u ∧ fr [29, 30, 31, 32, 33, 34, 35, 36, 37, 38, 39, 40] [3, 4, 5, 6, 7, 8, 9, 46, 53, 54, 56, 57] A u ∧ CI u ∧ (Hd (u 0 8 = 0 → CB u ∧ A 0 5 ≤ u 0 4))
def ws_mb_X12_barring : List Cond := .code yX12_barring cX12_barring 3 none :: WX
set_option maxHeartbeats 4000000 in
set_option maxRecDepth 100000 in
theorem mb_X12_barring (l : Launch) (dC : Nat → ClassId) (dI : Nat → Nat → Nat) (cB cI cJ cZ cQ : ClassId) (q : Nat → Nat) (A : St) (hI : IM A) (hp0 : CB A) (hcCI : CI A) : XMv l yX12_barring ws_mb_X12_barring ({ frames := 5, cells := 0, slots := 0, locals := 113 } : Room) (dC, dI) (tyA cB cI cJ cZ cQ) (WM cI cJ cZ q) A [.ref (q 0)] (fun u => r_X12_barring A u ∧ IM u ∧ fr [29, 30, 31, 32, 33, 34, 35, 36, 37, 38, 39, 40] [3, 4, 5, 6, 7, 8, 9, 46, 53, 54, 56, 57] A u ∧ CI u ∧ (Hd (u 0 8 = 0 → CB u ∧ A 0 5 ≤ u 0 4))) := by
  refine x_metv (cc := cX12_barring) (maxL := 3) WM_adr (by decide +kernel) rfl (Nat.le_of_ble_eq_true rfl) (fun p e s m below meth c Q AS ls hx hb hml hown hts hK hDD hA0 hP hS hl RET => ?_)
  have hown : s.vm.findClass RX12 = some m.cls := hown
  have hl : lv_has ls 3 [(0, .ref (q 0))] := hl
  have hiX12 : ∀ w ∈ u_ws RX12 TX12 85, w ∈ ws_mb_X12_barring := fun w h => List.mem_cons_of_mem _ (wx_lay w h)
  obtain ⟨H, hHe⟩ : ∃ H : Heap, H = s.heap := ⟨_, rfl⟩
  rw [← hHe] at hP
  have hS : va_S AS s.heap H [] := by rw [hHe]; exact hS
  suffices hgo : ∀ locs : List Loc, va_S AS s.heap H locs → W p l e (headSpec ws_mb_X12_barring ({ frames := 5, cells := 0, slots := 0, locals := 113 } : Room)).room s m [.ref (q 0)].toArray below meth c H locs 0 0 Q (F0 m 0 ls []) by
    have := hgo [] hS
    rw [hHe] at this
    exact this
  clear hS hHe
  intro locs hS
  have hle := CB.le hp0
  refine lv_aload_n hx hb (dk_at dkX12_barring_0 0 rfl) rfl (lv_at hl 0 rfl) ?_
  refine lv_aload_n hx hb (dk_at dkX12_barring_0 1 rfl) rfl (lv_at hl 0 rfl) ?_
  refine va_get (D := (dC, dI)) (ci := 12) (v := .ref (q 29)) (C := RX12) (T := TX12) (N := 85) hx hb hts hiX12 hown hK hP 0 wm0 rfl 40 (by decide) (hts _ (List.mem_cons_of_mem _ (wl_in_3 _ (List.mem_of_getElem? (i := 25) rfl)))) (fun _ h9 => h9) rfl (dk_at dkX12_barring_0 2 rfl) ?_
  refine lv_aload_n hx hb (dk_at dkX12_barring_0 3 rfl) rfl (lv_at hl 0 rfl) ?_
  refine va_get (D := (dC, dI)) (ci := 12) (v := .int (iI (A 0 47))) (C := RX12) (T := TX12) (N := 85) hx hb hts hiX12 hown hK hP 0 wm0 rfl 47 (by decide) (hts _ (List.mem_cons_of_mem _ (wl_in_1 _ (List.mem_of_getElem? (i := 12) rfl)))) (fun _ h9 => h9) rfl (dk_at dkX12_barring_0 4 rfl) ?_
  have r_A_0_47 : (0 : Int) ≤ (A 0 47) ∧ (A 0 47) ≤ 1 := hI 0 47
  refine x_iald hx hb hK hP 29 1 wm29 rfl (by omega) (by decide) (dk_at dkX12_barring_0 5 rfl) (fun z1 hz1 => ?_)
  have rz1 : (0 : Int) ≤ z1 ∧ z1 ≤ 6 := by rw [hz1]; exact hI 29 _
  have gz1 := Hd.mk hz1
  have hz1 : z1 = A 29 ((A 0 47)).toNat := hz1
  refine lv_bipush (v := iI 6) hx hb (dk_at dkX12_barring_0 6 rfl) (by decide +kernel) ?_
  have J20_3 : ∀ (z4 : Int) (H : Heap) (locs : List Loc) (ls : Array Slot), (0 ≤ z4 ∧ z4 ≤ 1) → ((z4 = 0 ∧ ¬ z1 = 6) ∨ (z4 = 1 ∧ z1 = 6)) → (Hd ((z4 = 1 ∧ A 29 (A 0 47).toNat = 6) ∨ (z4 = 0 ∧ ¬ A 29 (A 0 47).toNat = 6))) → (∀ (u : St), (d_X12_barring_1 A u z4) → r_X12_barring A u) → va_P (dC, dI) vwCl (WM cI cJ cZ q A) H → va_S AS s.heap H locs → lv_has ls 3 [(0, .ref (q 0))] → W p l e (headSpec ws_mb_X12_barring ({ frames := 5, cells := 0, slots := 0, locals := 113 } : Room)).room s m [.ref (q 0)].toArray below meth c H locs 0 0 Q (F0 m 20 ls [.int (iI z4), .ref (q 0)]) := by
    intro z4 H locs ls f6 f7 f8 hk1 hP hS hl
    have r_A_0_4 : (0 : Int) ≤ (A 0 4) ∧ (A 0 4) ≤ 1600 := hI 0 4
    have r_A_0_5 : (0 : Int) ≤ (A 0 5) ∧ (A 0 5) ≤ 1600 := hI 0 5
    refine x_calli (As := [.int (iI z4)]) (rest := []) ⟨hx, hb, hml, hown, hts⟩ (mb_X12_counts l dC dI cB cI cJ cZ cQ q _ z4 hI f6 hp0) (cwV 1 hts (goodV (wl_in_2 _ (List.mem_of_getElem? (i := 32) rfl)) (wl_in_2 _ (List.mem_of_getElem? (i := 33) rfl)) (wl_in_2 _ (List.mem_of_getElem? (i := 34) rfl)) (wl_in_0 _ (List.mem_of_getElem? (i := 8) rfl)) (wl_in_2 _ (List.mem_of_getElem? (i := 20) rfl))) rfl rfl rfl (by decide +kernel) ⟨Nat.le_of_ble_eq_true rfl, Nat.le_of_ble_eq_true rfl⟩) hK hDD hA0 hP hS 0 12 wm0 rfl rfl hl.1 (Nat.le_of_ble_eq_true rfl) (dk_at dkX12_barring_0 11 rfl) (fun z9 A10 H locs hw11 hP hS => ?_)
    have ghw11 : q_X12_counts z4 A z9 A10 := hw11
    obtain ⟨_, hI, hf12, hw11⟩ := hw11
    obtain ⟨hc13, hw11⟩ := hw11
    have r_A10_0_4 : (0 : Int) ≤ (A10 0 4) ∧ (A10 0 4) ≤ 1600 := hI 0 4
    have r_A10_0_8 : (0 : Int) ≤ (A10 0 8) ∧ (A10 0 8) ≤ 5 := hI 0 8
    have rz9 : 0 ≤ z9 ∧ z9 ≤ 1 := hw11.1
    refine lv_if_ne (tgt := 27) hx hb (dk_at dkX12_barring_0 12 rfl) (by decide) (fun c14 => ?_) (fun c14 => ?_)
    · have c14 : ¬ z9 = 0 := mt (i_eq0 (rb rz9 (by decide) (by decide))).mpr c14
      refine lv_bipush (v := iI 6) hx hb (dk_at dkX12_barring_0 14 rfl) (by decide +kernel) ?_
      refine lv_aload_n hx hb (dk_at dkX12_barring_0 15 rfl) rfl (lv_at hl 0 rfl) ?_
      have e_A10_47 : A10 0 47 = (A 0 47) := (hf12.2 47 rfl)
      refine va_get (D := (dC, dI)) (ci := 12) (v := .int (iI (A10 0 47))) (C := RX12) (T := TX12) (N := 85) hx hb hts hiX12 hown hK hP 0 wm0 rfl 47 (by decide) (hts _ (List.mem_cons_of_mem _ (wl_in_1 _ (List.mem_of_getElem? (i := 12) rfl)))) (fun _ h9 => h9) rfl (dk_at dkX12_barring_1 0 rfl) ?_
      refine tp_i (y := iI (A 0 47)) (congrArg iI e_A10_47) ?_
      refine x_mulv (v := 6 * (A 0 47)) hx hb (dk_at dkX12_barring_1 1 rfl) (by omega) ?_
      refine lv_aload_n hx hb (dk_at dkX12_barring_1 2 rfl) rfl (lv_at hl 0 rfl) ?_
      refine va_get (D := (dC, dI)) (ci := 12) (v := .ref (q 29)) (C := RX12) (T := TX12) (N := 85) hx hb hts hiX12 hown hK hP 0 wm0 rfl 40 (by decide) (hts _ (List.mem_cons_of_mem _ (wl_in_3 _ (List.mem_of_getElem? (i := 25) rfl)))) (fun _ h9 => h9) rfl (dk_at dkX12_barring_1 3 rfl) ?_
      refine lv_aload_n hx hb (dk_at dkX12_barring_1 4 rfl) rfl (lv_at hl 0 rfl) ?_
      refine va_get (D := (dC, dI)) (ci := 12) (v := .int (iI (A10 0 47))) (C := RX12) (T := TX12) (N := 85) hx hb hts hiX12 hown hK hP 0 wm0 rfl 47 (by decide) (hts _ (List.mem_cons_of_mem _ (wl_in_1 _ (List.mem_of_getElem? (i := 12) rfl)))) (fun _ h9 => h9) rfl (dk_at dkX12_barring_1 5 rfl) ?_
      refine tp_i (y := iI (A 0 47)) (congrArg iI e_A10_47) ?_
      have a_A10_29 : A10 29 = A 29 := (hf12.1 29 (by decide) rfl)
      refine x_iald hx hb hK hP 29 1 wm29 rfl (by omega) (by decide) (dk_at dkX12_barring_1 6 rfl) (fun z15 hz15 => ?_)
      have rz15 : (0 : Int) ≤ z15 ∧ z15 ≤ 6 := by rw [hz15]; exact hI 29 _
      have gz15 := Hd.mk hz15
      have hz15 : z15 = A 29 ((A 0 47)).toNat := hz15.trans (congrFun a_A10_29 _)
      have ez15 : z15 = z1 := hz15.trans hz1.symm
      refine x_addv (v := 6 * (A 0 47) + z15) hx hb (dk_at dkX12_barring_1 7 rfl) (by omega) ?_
      refine lv_istore_n (lv' := [(1, .int (iI (6 * (A 0 47) + z15))), (0, .ref (q 0))]) hx hb (dk_at dkX12_barring_1 8 rfl) rfl hl (by decide) rfl (fun ls hl => ?_)
      refine lv_aload_n hx hb (dk_at dkX12_barring_1 9 rfl) rfl (lv_at hl 1 rfl) ?_
      refine va_get (D := (dC, dI)) (ci := 12) (v := .int (iI (A10 0 8))) (C := RX12) (T := TX12) (N := 85) hx hb hts hiX12 hown hK hP 0 wm0 rfl 8 (by decide) (hts _ (List.mem_cons_of_mem _ (wl_in_0 _ (List.mem_of_getElem? (i := 16) rfl)))) (fun _ h9 => h9) rfl (dk_at dkX12_barring_1 10 rfl) ?_
      have J84_18 : ∀ (z28 : Int) (H : Heap) (locs : List Loc) (ls : Array Slot), (-1 ≤ z28 ∧ z28 ≤ 9) → (∀ (u : St), (d_X12_barring_3 z15 A A10 u z28) → r_X12_barring A u) → va_P (dC, dI) vwCl (WM cI cJ cZ q A10) H → va_S AS s.heap H locs → lv_has ls 3 [(1, .int (iI (6 * (A 0 47) + z15))), (0, .ref (q 0))] → W p l e (headSpec ws_mb_X12_barring ({ frames := 5, cells := 0, slots := 0, locals := 113 } : Room)).room s m [.ref (q 0)].toArray below meth c H locs 0 0 Q (F0 m 84 ls [.int (iI z28)]) := by
        intro z28 H locs ls f30 hk3 hP hS hl
        refine lv_istore_n (lv' := [(2, .int (iI z28)), (1, .int (iI (6 * (A 0 47) + z15))), (0, .ref (q 0))]) hx hb (dk_at dkX12_barring_2 12 rfl) rfl hl (by decide) rfl (fun ls hl => ?_)
        refine lv_iload_n hx hb (dk_at dkX12_barring_2 13 rfl) rfl (lv_at hl 0 rfl) ?_
        refine lv_iconst (v := iI (-1)) hx hb (dk_at dkX12_barring_2 14 rfl) (by decide +kernel) ?_
        have J116_32 : ∀ (A39 : St) (H : Heap) (locs : List Loc) (ls : Array Slot), (∀ (u : St), (d_X12_barring_4 z15 A u A39) → r_X12_barring A u) → IM A39 → fr [] [8, 9] A10 A39 → va_P (dC, dI) vwCl (WM cI cJ cZ q A39) H → va_S AS s.heap H locs → lv_has ls 3 [(2, .int (iI z28)), (1, .int (iI (6 * (A 0 47) + z15))), (0, .ref (q 0))] → W p l e (headSpec ws_mb_X12_barring ({ frames := 5, cells := 0, slots := 0, locals := 113 } : Room)).room s m [.ref (q 0)].toArray below meth c H locs 0 0 Q (F0 m 116 ls []) := by
          intro A39 H locs ls hk4 hI hj38 hP hS hl
          have gI40 : Hd (IM A39) := Hd.mk hI
          refine lv_aload_n hx hb (dk_at dkX12_barring_3 15 rfl) rfl (lv_at hl 2 rfl) ?_
          refine va_get (D := (dC, dI)) (ci := 12) (v := .ref (q 30)) (C := RX12) (T := TX12) (N := 85) hx hb hts hiX12 hown hK hP 0 wm0 rfl 41 (by decide) (hts _ (List.mem_cons_of_mem _ (wl_in_3 _ (List.mem_of_getElem? (i := 26) rfl)))) (fun _ h9 => h9) rfl (dk_at dkX12_barring_4 0 rfl) ?_
          refine lv_iload_n hx hb (dk_at dkX12_barring_4 1 rfl) rfl (lv_at hl 1 rfl) ?_
          refine lv_aload_n hx hb (dk_at dkX12_barring_4 2 rfl) rfl (lv_at hl 2 rfl) ?_
          refine lv_iconst (v := iI 1) hx hb (dk_at dkX12_barring_4 3 rfl) (by decide +kernel) ?_
          have e_A39_3 : A39 0 3 = (A10 0 3) := (hj38.2 3 rfl)
          have r_A10_0_3 : (0 : Int) ≤ (A10 0 3) ∧ (A10 0 3) ≤ 3 := by rw [← e_A39_3]; exact hI 0 3
          have e_A39_4 : A39 0 4 = (A10 0 4) := (hj38.2 4 rfl)
          have e_A39_7 : A39 0 7 = (A10 0 7) := (hj38.2 7 rfl)
          have r_A10_0_7 : (-9223372036854775808 : Int) ≤ (A10 0 7) ∧ (A10 0 7) ≤ 9223372036854775807 := by rw [← e_A39_7]; exact hI 0 7
          have r_A39_0_8 : (0 : Int) ≤ (A39 0 8) ∧ (A39 0 8) ≤ 5 := hI 0 8
          have e_A39_47 : A39 0 47 = (A 0 47) := (hj38.2 47 rfl).trans e_A10_47
          refine x_calli (As := [.int (iI 1)]) (rest := [.int (iI (6 * (A 0 47) + z15)), .ref (q 30)]) ⟨hx, hb, hml, hown, hts⟩ (mb_X12_asked_1 l dC dI cB cI cJ cZ cQ q _ 1 hI ⟨by decide, by decide⟩ (CB.fr hc13 hj38 rfl rfl)) (cwV 1 hts (goodV (wl_in_2 _ (List.mem_of_getElem? (i := 47) rfl)) (wl_in_2 _ (List.mem_of_getElem? (i := 48) rfl)) (wl_in_2 _ (List.mem_of_getElem? (i := 49) rfl)) (wl_in_0 _ (List.mem_of_getElem? (i := 8) rfl)) (wl_in_2 _ (List.mem_of_getElem? (i := 29) rfl))) rfl rfl rfl (by decide +kernel) ⟨Nat.le_of_ble_eq_true rfl, Nat.le_of_ble_eq_true rfl⟩) hK hDD hA0 hP hS 0 12 wm0 rfl rfl hl.1 (Nat.le_of_ble_eq_true rfl) (dk_at dkX12_barring_4 4 rfl) (fun z41 A42 H locs hw43 hP hS => ?_)
          have ghw43 : q_X12_asked_1 1 A39 z41 A42 := hw43
          obtain ⟨_, hI, hf44, hw43⟩ := hw43
          obtain ⟨hc45, hw43⟩ := hw43
          have r_A42_0_4 : (0 : Int) ≤ (A42 0 4) ∧ (A42 0 4) ≤ 1600 := hI 0 4
          have r_A42_0_8 : (0 : Int) ≤ (A42 0 8) ∧ (A42 0 8) ≤ 5 := hI 0 8
          refine x_iast hx hb hK hP hDD hS 30 1 wm30 rfl (by omega) (by decide) (dk_at dkX12_barring_4 5 rfl) ws30 (fun H locs hP hS => ?_)
          have hI := hI.st (j := 30) (i := (6 * (A 0 47) + z15).toNat) (v := z41) (show (0 : Int) ≤ z41 ∧ z41 ≤ 9 from (by omega))
          refine lv_aload_n hx hb (dk_at dkX12_barring_4 6 rfl) rfl (lv_at hl 2 rfl) ?_
          refine lv_ldc2 (v := 2003330414) hx hb hown (hts _ (List.mem_cons_of_mem _ (wl_in_0 _ (List.mem_of_getElem? (i := 59) rfl)))) (dk_at dkX12_barring_4 7 rfl) ?_
          refine tp_l (y := jI 2003330414) (by decide +kernel) ?_
          obtain ⟨A46, hA46⟩ : ∃ A46 : St, A46 = (stA A42 30 (6 * (A 0 47) + z15).toNat z41) := ⟨_, rfl⟩
          rw [← hA46] at hP hI
          have e_A46_4 : A46 0 4 = (A42 0 4) := by rw [hA46]; exact rfl
          refine x_callv (As := [.long (jI 2003330414)]) (rest := []) ⟨hx, hb, hml, hown, hts⟩ (mb_X12_must_ l dC dI cB cI cJ cZ cQ q _ 2003330414 hI ⟨by decide, by decide⟩ (CB.fr hc45 (fr_def hA46 (fr.st (fr.rf (M := [30]) (N := [])) (by decide) rfl)) rfl rfl)) (cwV 1 hts (goodV (wl_in_2 _ (List.mem_of_getElem? (i := 44) rfl)) (wl_in_2 _ (List.mem_of_getElem? (i := 45) rfl)) (wl_in_2 _ (List.mem_of_getElem? (i := 46) rfl)) (wl_in_0 _ (List.mem_of_getElem? (i := 8) rfl)) (wl_in_2 _ (List.mem_of_getElem? (i := 21) rfl))) rfl rfl rfl (by decide +kernel) ⟨Nat.le_of_ble_eq_true rfl, Nat.le_of_ble_eq_true rfl⟩) hK hDD hA0 hP hS 0 12 wm0 rfl rfl hl.1 (Nat.le_of_ble_eq_true rfl) (dk_at dkX12_barring_4 8 rfl) (fun A47 H locs hw48 hP hS => ?_)
          have ghw48 : q_X12_must_ 2003330414 A46 A47 := hw48
          obtain ⟨_, hI, hf49, hw48⟩ := hw48
          obtain ⟨hc50, hw48⟩ := hw48
          have r_A47_0_4 : (0 : Int) ≤ (A47 0 4) ∧ (A47 0 4) ≤ 1600 := hI 0 4
          have hIa := hI
          refine lv_aload_n hx hb (dk_at dkX12_barring_4 9 rfl) rfl (lv_at hl 2 rfl) ?_
          refine va_get (D := (dC, dI)) (ci := 12) (v := .ref (q 31)) (C := RX12) (T := TX12) (N := 85) hx hb hts hiX12 hown hK hP 0 wm0 rfl 42 (by decide) (hts _ (List.mem_cons_of_mem _ (wl_in_3 _ (List.mem_of_getElem? (i := 27) rfl)))) (fun _ h9 => h9) rfl (dk_at dkX12_barring_4 10 rfl) ?_
          refine lv_iload_n hx hb (dk_at dkX12_barring_4 11 rfl) rfl (lv_at hl 1 rfl) ?_
          refine lv_aload_n hx hb (dk_at dkX12_barring_4 12 rfl) rfl (lv_at hl 2 rfl) ?_
          have e_A10_46 : A10 0 46 = (A 0 46) := (hf12.2 46 rfl)
          have e_A39_46 : A39 0 46 = (A 0 46) := (hj38.2 46 rfl).trans e_A10_46
          have e_A42_46 : A42 0 46 = (A 0 46) := (hf44.2 46 rfl).trans e_A39_46
          have e_A46_46 : A46 0 46 = (A 0 46) := by rw [hA46]; exact e_A42_46
          have e_A47_46 : A47 0 46 = (A 0 46) := (hf49.2 46 rfl).trans e_A46_46
          refine va_get (D := (dC, dI)) (ci := 12) (v := .int (iI (A47 0 46))) (C := RX12) (T := TX12) (N := 85) hx hb hts hiX12 hown hK hP 0 wm0 rfl 46 (by decide) (hts _ (List.mem_cons_of_mem _ (wl_in_1 _ (List.mem_of_getElem? (i := 31) rfl)))) (fun _ h9 => h9) rfl (dk_at dkX12_barring_4 13 rfl) ?_
          refine tp_i (y := iI (A 0 46)) (congrArg iI e_A47_46) ?_
          have r_A_0_46 : (0 : Int) ≤ (A 0 46) ∧ (A 0 46) ≤ 1600 := by rw [← e_A47_46]; exact hI 0 46
          refine x_iast hx hb hK hP hDD hS 31 1 wm31 rfl (by omega) (by decide) (dk_at dkX12_barring_4 14 rfl) ws31 (fun H locs hP hS => ?_)
          have hI := hI.st (j := 31) (i := (6 * (A 0 47) + z15).toNat) (v := (A 0 46)) (show (0 : Int) ≤ (A 0 46) ∧ (A 0 46) ≤ 1600 from (by omega))
          obtain ⟨A51, hA51⟩ : ∃ A51 : St, A51 = (stA A47 31 (6 * (A 0 47) + z15).toNat (A 0 46)) := ⟨_, rfl⟩
          rw [← hA51] at hP hI
          have g31 : A51 31 = up (A47 31) (6 * (A 0 47) + z15).toNat (A 0 46) := by rw [hA51]; rfl
          have ca53 : A10 29 = A 29 := (hf12.1 29 (by decide) rfl)
          have ca54 : A39 29 = A 29 := (hj38.1 29 (by decide) rfl).trans ca53
          have ca55 : A42 29 = A 29 := (hf44.1 29 (by decide) rfl).trans ca54
          have ca56 : A46 29 = A 29 := by rw [hA46]; exact ca55
          have ca57 : A47 29 = A 29 := (hf49.1 29 (by decide) rfl).trans ca56
          have e_A42_47 : A42 0 47 = (A 0 47) := (hf44.2 47 rfl).trans e_A39_47
          have e_A46_47 : A46 0 47 = (A 0 47) := by rw [hA46]; exact e_A42_47
          have e_A47_47 : A47 0 47 = (A 0 47) := (hf49.2 47 rfl).trans e_A46_47
          have ca58 : A10 29 = A 29 := (hf12.1 29 (by decide) rfl)
          have ca59 : A39 29 = A 29 := (hj38.1 29 (by decide) rfl).trans ca58
          have ca60 : A42 29 = A 29 := (hf44.1 29 (by decide) rfl).trans ca59
          have ca61 : A46 29 = A 29 := by rw [hA46]; exact ca60
          have ca62 : A47 29 = A 29 := (hf49.1 29 (by decide) rfl).trans ca61
          have hc52 : CI A51 := CI.s31 (v := (A 0 46)) (CI.fr (CI.fr (CI.fr (CI.fr (CI.fr hcCI hf12 rfl rfl) hj38 rfl rfl) hf44 rfl rfl) (fr_def hA46 (fr.st (fr.rf (M := [30]) (N := [])) (by decide) rfl)) rfl rfl) hf49 rfl rfl) hIa (by rw [ca57, e_A47_47]; have g := f8.out; omega) (by rw [hA51]; rfl) (g31.trans (by rw [show 6 * A47 0 47 + A47 29 (A47 0 47).toNat = 6 * (A 0 47) + z15 by rw [ca62, e_A47_47]; omega])) (by rw [hA51]; rfl) (by rw [hA51]; rfl) (by rw [hA51]; rfl) (by rw [hA51]; rfl)
          refine lv_aload_n hx hb (dk_at dkX12_barring_4 15 rfl) rfl (lv_at hl 2 rfl) ?_
          have e_A51_8 : A51 0 8 = (A47 0 8) := by rw [hA51]; exact rfl
          refine va_get (D := (dC, dI)) (ci := 12) (v := .int (iI (A51 0 8))) (C := RX12) (T := TX12) (N := 85) hx hb hts hiX12 hown hK hP 0 wm0 rfl 8 (by decide) (hts _ (List.mem_cons_of_mem _ (wl_in_0 _ (List.mem_of_getElem? (i := 16) rfl)))) (fun _ h9 => h9) rfl (dk_at dkX12_barring_5 0 rfl) ?_
          refine tp_i (y := iI (A47 0 8)) (congrArg iI e_A51_8) ?_
          have r_A47_0_8 : (0 : Int) ≤ (A47 0 8) ∧ (A47 0 8) ≤ 5 := by rw [← e_A51_8]; exact hI 0 8
          have J156_64 : ∀ (A76 : St) (H : Heap) (locs : List Loc) (ls : Array Slot), (Hd ((A76 0 8) = 0 → DP (A76 33) (sA A76) (1600 * A76 0 47 + A76 0 46) 1 ∧ CB A76 ∧ A 0 5 ≤ (A76 0 4))) → (CI A76) → (∀ (u : St), (d_X12_barring_5 z15 A u A76) → r_X12_barring A u) → IM A76 → fr [33, 34, 35, 36, 37, 38, 39, 40] [3, 4, 5, 6, 7, 8, 9, 46, 53, 54, 56, 57] A51 A76 → va_P (dC, dI) vwCl (WM cI cJ cZ q A76) H → va_S AS s.heap H locs → lv_has ls 3 [(2, .int (iI z28)), (1, .int (iI (6 * (A 0 47) + z15))), (0, .ref (q 0))] → W p l e (headSpec ws_mb_X12_barring ({ frames := 5, cells := 0, slots := 0, locals := 113 } : Room)).room s m [.ref (q 0)].toArray below meth c H locs 0 0 Q (F0 m 156 ls []) := by
            intro A76 H locs ls f77 hc78 hk5 hI hj75 hP hS hl
            have gI79 : Hd (IM A76) := Hd.mk hI
            have hIb := hI
            refine lv_aload_n hx hb (dk_at dkX12_barring_5 5 rfl) rfl (lv_at hl 2 rfl) ?_
            refine va_get (D := (dC, dI)) (ci := 12) (v := .ref (q 32)) (C := RX12) (T := TX12) (N := 85) hx hb hts hiX12 hown hK hP 0 wm0 rfl 43 (by decide) (hts _ (List.mem_cons_of_mem _ (wl_in_3 _ (List.mem_of_getElem? (i := 28) rfl)))) (fun _ h9 => h9) rfl (dk_at dkX12_barring_5 6 rfl) ?_
            refine lv_iload_n hx hb (dk_at dkX12_barring_5 7 rfl) rfl (lv_at hl 1 rfl) ?_
            refine lv_aload_n hx hb (dk_at dkX12_barring_5 8 rfl) rfl (lv_at hl 2 rfl) ?_
            refine va_get (D := (dC, dI)) (ci := 12) (v := .int (iI (A76 0 46))) (C := RX12) (T := TX12) (N := 85) hx hb hts hiX12 hown hK hP 0 wm0 rfl 46 (by decide) (hts _ (List.mem_cons_of_mem _ (wl_in_1 _ (List.mem_of_getElem? (i := 31) rfl)))) (fun _ h9 => h9) rfl (dk_at dkX12_barring_5 9 rfl) ?_
            have r_A76_0_46 : (0 : Int) ≤ (A76 0 46) ∧ (A76 0 46) ≤ 1600 := hI 0 46
            refine x_iast hx hb hK hP hDD hS 32 1 wm32 rfl (by omega) (by decide) (dk_at dkX12_barring_5 10 rfl) ws32 (fun H locs hP hS => ?_)
            have hI := hI.st (j := 32) (i := (6 * (A 0 47) + z15).toNat) (v := (A76 0 46)) (show (0 : Int) ≤ (A76 0 46) ∧ (A76 0 46) ≤ 1600 from (by omega))
            obtain ⟨A80, hA80⟩ : ∃ A80 : St, A80 = (stA A76 32 (6 * (A 0 47) + z15).toNat (A76 0 46)) := ⟨_, rfl⟩
            rw [← hA80] at hP hI
            have g32 : A80 32 = up (A76 32) (6 * (A 0 47) + z15).toNat (A76 0 46) := by rw [hA80]; rfl
            have ca82 : A10 29 = A 29 := (hf12.1 29 (by decide) rfl)
            have ca83 : A39 29 = A 29 := (hj38.1 29 (by decide) rfl).trans ca82
            have ca84 : A42 29 = A 29 := (hf44.1 29 (by decide) rfl).trans ca83
            have ca85 : A46 29 = A 29 := by rw [hA46]; exact ca84
            have ca86 : A47 29 = A 29 := (hf49.1 29 (by decide) rfl).trans ca85
            have ca87 : A51 29 = A 29 := by rw [hA51]; exact ca86
            have ca88 : A76 29 = A 29 := (hj75.1 29 (by decide) rfl).trans ca87
            have e_A51_47 : A51 0 47 = (A 0 47) := by rw [hA51]; exact e_A47_47
            have e_A76_47 : A76 0 47 = (A 0 47) := (hj75.2 47 rfl).trans e_A51_47
            have ca89 : A10 29 = A 29 := (hf12.1 29 (by decide) rfl)
            have ca90 : A39 29 = A 29 := (hj38.1 29 (by decide) rfl).trans ca89
            have ca91 : A42 29 = A 29 := (hf44.1 29 (by decide) rfl).trans ca90
            have ca92 : A46 29 = A 29 := by rw [hA46]; exact ca91
            have ca93 : A47 29 = A 29 := (hf49.1 29 (by decide) rfl).trans ca92
            have ca94 : A51 29 = A 29 := by rw [hA51]; exact ca93
            have ca95 : A76 29 = A 29 := (hj75.1 29 (by decide) rfl).trans ca94
            have hc81 : CI A80 := CI.s32 (v := (A76 0 46)) hc78 hIb (by rw [ca88, e_A76_47]; have g := f8.out; omega) (by rw [hA80]; rfl) (by rw [hA80]; rfl) (g32.trans (by rw [show 6 * A76 0 47 + A76 29 (A76 0 47).toNat = 6 * (A 0 47) + z15 by rw [ca95, e_A76_47]; omega])) (by rw [hA80]; rfl) (by rw [hA80]; rfl) (by rw [hA80]; rfl)
            have hIc := hI
            refine lv_aload_n hx hb (dk_at dkX12_barring_5 11 rfl) rfl (lv_at hl 2 rfl) ?_
            have e_A80_8 : A80 0 8 = (A76 0 8) := by rw [hA80]; exact rfl
            refine va_get (D := (dC, dI)) (ci := 12) (v := .int (iI (A80 0 8))) (C := RX12) (T := TX12) (N := 85) hx hb hts hiX12 hown hK hP 0 wm0 rfl 8 (by decide) (hts _ (List.mem_cons_of_mem _ (wl_in_0 _ (List.mem_of_getElem? (i := 16) rfl)))) (fun _ h9 => h9) rfl (dk_at dkX12_barring_5 12 rfl) ?_
            refine tp_i (y := iI (A76 0 8)) (congrArg iI e_A80_8) ?_
            have r_A76_0_8 : (0 : Int) ≤ (A76 0 8) ∧ (A76 0 8) ≤ 5 := by rw [← e_A80_8]; exact hI 0 8
            refine lv_if_ne (tgt := 186) hx hb (dk_at dkX12_barring_5 13 rfl) (by decide) (fun c96 => ?_) (fun c96 => ?_)
            · have c96 : ¬ (A76 0 8) = 0 := mt (i_eq0 (rb r_A76_0_8 (by decide) (by decide))).mpr c96
              have e_A80_4 : A80 0 4 = (A76 0 4) := by rw [hA80]; exact rfl
              have r_A76_0_4 : (0 : Int) ≤ (A76 0 4) ∧ (A76 0 4) ≤ 1600 := by rw [← e_A80_4]; exact hI 0 4
              have e_A80_5 : A80 0 5 = (A76 0 5) := by rw [hA80]; exact rfl
              have r_A76_0_5 : (0 : Int) ≤ (A76 0 5) ∧ (A76 0 5) ≤ 1600 := by rw [← e_A80_5]; exact hI 0 5
              exact RET _ _ _ _ _ ⟨hk5 _ (u_d_X12_barring_5 ⟨gI79.out, ⟨A80, hA80, (Or.inl ⟨c96, rfl⟩)⟩⟩), hI, fr_def hA80 (fr.st (fr.trans (fr_def hA51 (fr.st (fr.trans (fr_def hA46 (fr.st (fr.trans (fr.trans (fr.trans (fr.rf) hf12 rfl rfl) hj38 rfl rfl) hf44 rfl rfl) (by decide) rfl)) hf49 rfl rfl) (by decide) rfl)) hj75 rfl rfl) (by decide) rfl), hc81, Hd.mk (fun h0 => ⟨(CB.fr (f77.out (by omega)).2.1 (fr_def hA80 (fr.st (fr.rf (M := [32]) (N := [])) (by decide) rfl)) rfl rfl), by have g := (f77.out (by omega)).2.2; omega⟩)⟩ hP hS (dk_at dkX12_barring_6 7 rfl)
            · have c96 : (A76 0 8) = 0 := (i_eq0 (rb r_A76_0_8 (by decide) (by decide))).mp c96
              refine lv_aload_n hx hb (dk_at dkX12_barring_5 14 rfl) rfl (lv_at hl 2 rfl) ?_
              refine va_get (D := (dC, dI)) (ci := 12) (v := .ref (q 29)) (C := RX12) (T := TX12) (N := 85) hx hb hts hiX12 hown hK hP 0 wm0 rfl 40 (by decide) (hts _ (List.mem_cons_of_mem _ (wl_in_3 _ (List.mem_of_getElem? (i := 25) rfl)))) (fun _ h9 => h9) rfl (dk_at dkX12_barring_5 15 rfl) ?_
              refine lv_aload_n hx hb (dk_at dkX12_barring_6 0 rfl) rfl (lv_at hl 2 rfl) ?_
              have e_A80_47 : A80 0 47 = (A 0 47) := by rw [hA80]; exact e_A76_47
              refine va_get (D := (dC, dI)) (ci := 12) (v := .int (iI (A80 0 47))) (C := RX12) (T := TX12) (N := 85) hx hb hts hiX12 hown hK hP 0 wm0 rfl 47 (by decide) (hts _ (List.mem_cons_of_mem _ (wl_in_1 _ (List.mem_of_getElem? (i := 12) rfl)))) (fun _ h9 => h9) rfl (dk_at dkX12_barring_6 1 rfl) ?_
              refine tp_i (y := iI (A 0 47)) (congrArg iI e_A80_47) ?_
              refine lv_dup2_11 hx hb (dk_at dkX12_barring_6 2 rfl) rfl rfl ?_
              have a_A39_29 : A39 29 = A 29 := (hj38.1 29 (by decide) rfl).trans a_A10_29
              have a_A42_29 : A42 29 = A 29 := (hf44.1 29 (by decide) rfl).trans a_A39_29
              have a_A46_29 : A46 29 = A 29 := by rw [hA46]; exact a_A42_29
              have a_A47_29 : A47 29 = A 29 := (hf49.1 29 (by decide) rfl).trans a_A46_29
              have a_A51_29 : A51 29 = A 29 := by rw [hA51]; exact a_A47_29
              have a_A76_29 : A76 29 = A 29 := (hj75.1 29 (by decide) rfl).trans a_A51_29
              have a_A80_29 : A80 29 = A 29 := by rw [hA80]; exact a_A76_29
              refine x_iald hx hb hK hP 29 1 wm29 rfl (by omega) (by decide) (dk_at dkX12_barring_6 3 rfl) (fun z97 hz97 => ?_)
              have rz97 : (0 : Int) ≤ z97 ∧ z97 ≤ 6 := by rw [hz97]; exact hI 29 _
              have gz97 := Hd.mk hz97
              have hz97 : z97 = A 29 ((A 0 47)).toNat := hz97.trans (congrFun a_A80_29 _)
              have ez97 : z97 = z1 := hz97.trans hz1.symm
              refine lv_iconst (v := iI 1) hx hb (dk_at dkX12_barring_6 4 rfl) (by decide +kernel) ?_
              refine x_addv (v := z97 + 1) hx hb (dk_at dkX12_barring_6 5 rfl) (by omega) ?_
              refine x_iast hx hb hK hP hDD hS 29 1 wm29 rfl (by omega) (by decide) (dk_at dkX12_barring_6 6 rfl) ws29 (fun H locs hP hS => ?_)
              have hI := hI.st (j := 29) (i := ((A 0 47)).toNat) (v := z97 + 1) (show (0 : Int) ≤ z97 + 1 ∧ z97 + 1 ≤ 6 from (by omega))
              have e_A80_3 : A80 0 3 = (A76 0 3) := by rw [hA80]; exact rfl
              have e_A80_4 : A80 0 4 = (A76 0 4) := by rw [hA80]; exact rfl
              have e_A80_5 : A80 0 5 = (A76 0 5) := by rw [hA80]; exact rfl
              have e_A80_7 : A80 0 7 = (A76 0 7) := by rw [hA80]; exact rfl
              have e_A80_46 : A80 0 46 = (A76 0 46) := by rw [hA80]; exact rfl
              have e_A80_53 : A80 0 53 = (A76 0 53) := by rw [hA80]; exact rfl
              have e_A80_54 : A80 0 54 = (A76 0 54) := by rw [hA80]; exact rfl
              have e_A80_56 : A80 0 56 = (A76 0 56) := by rw [hA80]; exact rfl
              have r_A76_0_3 : (0 : Int) ≤ (A76 0 3) ∧ (A76 0 3) ≤ 3 := by rw [← e_A80_3]; exact hI 0 3
              have r_A76_0_4 : (0 : Int) ≤ (A76 0 4) ∧ (A76 0 4) ≤ 1600 := by rw [← e_A80_4]; exact hI 0 4
              have r_A76_0_5 : (0 : Int) ≤ (A76 0 5) ∧ (A76 0 5) ≤ 1600 := by rw [← e_A80_5]; exact hI 0 5
              have r_A76_0_7 : (-9223372036854775808 : Int) ≤ (A76 0 7) ∧ (A76 0 7) ≤ 9223372036854775807 := by rw [← e_A80_7]; exact hI 0 7
              have r_A76_0_53 : (0 : Int) ≤ (A76 0 53) ∧ (A76 0 53) ≤ 20 := by rw [← e_A80_53]; exact hI 0 53
              have r_A76_0_54 : (0 : Int) ≤ (A76 0 54) ∧ (A76 0 54) ≤ 8 := by rw [← e_A80_54]; exact hI 0 54
              have r_A76_0_56 : (0 : Int) ≤ (A76 0 56) ∧ (A76 0 56) ≤ 500 := by rw [← e_A80_56]; exact hI 0 56
              obtain ⟨A98, hA98⟩ : ∃ A98 : St, A98 = (stA A80 29 ((A 0 47)).toNat (z97 + 1)) := ⟨_, rfl⟩
              rw [← hA98] at hP hI
              have gd := (f77.out (by omega)).1
              have ca99 : A80 29 = A76 29 := by rw [hA80]; exact rfl
              have ca100 : A80 31 = A76 31 := by rw [hA80]; exact rfl
              have ca101 : A80 33 = A76 33 := by rw [hA80]; exact rfl
              have gd2 := DPt (A := A76) (B := A80) ca99 ca100 ca101 e_A80_46 (e_A80_47.trans e_A76_47.symm) gd
              have g29 : A98 29 = up (A80 29) (A 0 47).toNat (z97 + 1) := by rw [hA98]; rfl
              have ca103 : A10 29 = A 29 := (hf12.1 29 (by decide) rfl)
              have ca104 : A39 29 = A 29 := (hj38.1 29 (by decide) rfl).trans ca103
              have ca105 : A42 29 = A 29 := (hf44.1 29 (by decide) rfl).trans ca104
              have ca106 : A46 29 = A 29 := by rw [hA46]; exact ca105
              have ca107 : A47 29 = A 29 := (hf49.1 29 (by decide) rfl).trans ca106
              have ca108 : A51 29 = A 29 := by rw [hA51]; exact ca107
              have ca109 : A76 29 = A 29 := (hj75.1 29 (by decide) rfl).trans ca108
              have ca110 : A80 29 = A 29 := by rw [hA80]; exact ca109
              have ca111 : A10 29 = A 29 := (hf12.1 29 (by decide) rfl)
              have ca112 : A39 29 = A 29 := (hj38.1 29 (by decide) rfl).trans ca111
              have ca113 : A42 29 = A 29 := (hf44.1 29 (by decide) rfl).trans ca112
              have ca114 : A46 29 = A 29 := by rw [hA46]; exact ca113
              have ca115 : A47 29 = A 29 := (hf49.1 29 (by decide) rfl).trans ca114
              have ca116 : A51 29 = A 29 := by rw [hA51]; exact ca115
              have ca117 : A76 29 = A 29 := (hj75.1 29 (by decide) rfl).trans ca116
              have ca118 : A80 29 = A 29 := by rw [hA80]; exact ca117
              have hc102 : CI A98 := CI.inc hc81 hIc (g29.trans (by rw [e_A80_47, show z97 + 1 = A80 29 (A 0 47).toNat + 1 by rw [ca110]; omega])) (by rw [hA98]; rfl) (by rw [hA98]; rfl) (by rw [hA98]; rfl) (by rw [hA98]; rfl) (by rw [hA98]; rfl) (by rw [show 6 * A80 0 47 + A80 29 (A80 0 47).toNat = 6 * (A 0 47) + z15 by rw [ca118, e_A80_47]; omega, g32, up_same]; omega) gd2
              have e_A98_4 : A98 0 4 = (A76 0 4) := by rw [hA98]; exact e_A80_4
              have e_A98_5 : A98 0 5 = (A76 0 5) := by rw [hA98]; exact e_A80_5
              have e_A98_8 : A98 0 8 = (A76 0 8) := by rw [hA98]; exact e_A80_8
              exact RET _ _ _ _ _ ⟨hk5 _ (u_d_X12_barring_5 ⟨gI79.out, ⟨A80, hA80, (Or.inr ⟨c96, ⟨z97, gz97.out, ⟨A98, hA98, rfl⟩⟩⟩)⟩⟩), hI, fr_def hA98 (fr.st (fr_def hA80 (fr.st (fr.trans (fr_def hA51 (fr.st (fr.trans (fr_def hA46 (fr.st (fr.trans (fr.trans (fr.trans (fr.rf) hf12 rfl rfl) hj38 rfl rfl) hf44 rfl rfl) (by decide) rfl)) hf49 rfl rfl) (by decide) rfl)) hj75 rfl rfl) (by decide) rfl)) (by decide) rfl), hc102, Hd.mk (fun h0 => ⟨(CB.fr (CB.fr (f77.out (by omega)).2.1 (fr_def hA80 (fr.st (fr.rf (M := [32]) (N := [])) (by decide) rfl)) rfl rfl) (fr_def hA98 (fr.st (fr.rf (M := [29]) (N := [])) (by decide) rfl)) rfl rfl), by have g := (f77.out (by omega)).2.2; omega⟩)⟩ hP hS (dk_at dkX12_barring_6 7 rfl)
          refine lv_if_ne (tgt := 156) hx hb (dk_at dkX12_barring_5 1 rfl) (by decide) (fun c63 => ?_) (fun c63 => ?_)
          · have c63 : ¬ (A47 0 8) = 0 := mt (i_eq0 (rb r_A47_0_8 (by decide) (by decide))).mpr c63
            have e_A51_4 : A51 0 4 = (A47 0 4) := by rw [hA51]; exact rfl
            exact J156_64 _ _ _ _ (by exact Hd.mk (fun h => absurd h (by omega))) hc52 (fun uq hq => hk4 _ (u_d_X12_barring_4 ⟨gI40.out, ⟨z41, A42, ghw43, ⟨A46, hA46, ⟨A47, ghw48, ⟨A51, hA51, (Or.inl ⟨c63, hq⟩)⟩⟩⟩⟩⟩)) hI (fr.rf) hP hS (lv_sub hl [0, 1, 2] rfl)
          · have c63 : (A47 0 8) = 0 := (i_eq0 (rb r_A47_0_8 (by decide) (by decide))).mp c63
            refine lv_aload_n hx hb (dk_at dkX12_barring_5 2 rfl) rfl (lv_at hl 2 rfl) ?_
            refine lv_iconst (v := iI 1) hx hb (dk_at dkX12_barring_5 3 rfl) (by decide +kernel) ?_
            have e_A51_46 : A51 0 46 = (A 0 46) := by rw [hA51]; exact e_A47_46
            have e_A51_47 : A51 0 47 = (A 0 47) := by rw [hA51]; exact e_A47_47
            have e_A51_4 : A51 0 4 = (A47 0 4) := by rw [hA51]; exact rfl
            have e_A51_3 : A51 0 3 = (A47 0 3) := by rw [hA51]; exact rfl
            have e_A51_5 : A51 0 5 = (A47 0 5) := by rw [hA51]; exact rfl
            have e_A51_7 : A51 0 7 = (A47 0 7) := by rw [hA51]; exact rfl
            have e_A10_53 : A10 0 53 = (A 0 53) := (hf12.2 53 rfl)
            have e_A39_53 : A39 0 53 = (A 0 53) := (hj38.2 53 rfl).trans e_A10_53
            have e_A42_53 : A42 0 53 = (A 0 53) := (hf44.2 53 rfl).trans e_A39_53
            have e_A46_53 : A46 0 53 = (A 0 53) := by rw [hA46]; exact e_A42_53
            have e_A47_53 : A47 0 53 = (A 0 53) := (hf49.2 53 rfl).trans e_A46_53
            have e_A51_53 : A51 0 53 = (A 0 53) := by rw [hA51]; exact e_A47_53
            have e_A10_54 : A10 0 54 = (A 0 54) := (hf12.2 54 rfl)
            have e_A39_54 : A39 0 54 = (A 0 54) := (hj38.2 54 rfl).trans e_A10_54
            have e_A42_54 : A42 0 54 = (A 0 54) := (hf44.2 54 rfl).trans e_A39_54
            have e_A46_54 : A46 0 54 = (A 0 54) := by rw [hA46]; exact e_A42_54
            have e_A47_54 : A47 0 54 = (A 0 54) := (hf49.2 54 rfl).trans e_A46_54
            have e_A51_54 : A51 0 54 = (A 0 54) := by rw [hA51]; exact e_A47_54
            have e_A10_56 : A10 0 56 = (A 0 56) := (hf12.2 56 rfl)
            have e_A39_56 : A39 0 56 = (A 0 56) := (hj38.2 56 rfl).trans e_A10_56
            have e_A42_56 : A42 0 56 = (A 0 56) := (hf44.2 56 rfl).trans e_A39_56
            have e_A46_56 : A46 0 56 = (A 0 56) := by rw [hA46]; exact e_A42_56
            have e_A47_56 : A47 0 56 = (A 0 56) := (hf49.2 56 rfl).trans e_A46_56
            have e_A51_56 : A51 0 56 = (A 0 56) := by rw [hA51]; exact e_A47_56
            have r_A47_0_3 : (0 : Int) ≤ (A47 0 3) ∧ (A47 0 3) ≤ 3 := by rw [← e_A51_3]; exact hI 0 3
            have r_A47_0_5 : (0 : Int) ≤ (A47 0 5) ∧ (A47 0 5) ≤ 1600 := by rw [← e_A51_5]; exact hI 0 5
            have r_A47_0_7 : (-9223372036854775808 : Int) ≤ (A47 0 7) ∧ (A47 0 7) ≤ 9223372036854775807 := by rw [← e_A51_7]; exact hI 0 7
            have r_A_0_53 : (0 : Int) ≤ (A 0 53) ∧ (A 0 53) ≤ 20 := by rw [← e_A51_53]; exact hI 0 53
            have r_A_0_54 : (0 : Int) ≤ (A 0 54) ∧ (A 0 54) ≤ 8 := by rw [← e_A51_54]; exact hI 0 54
            have r_A_0_56 : (0 : Int) ≤ (A 0 56) ∧ (A 0 56) ≤ 500 := by rw [← e_A51_56]; exact hI 0 56
            have ca65 : A10 29 = A 29 := (hf12.1 29 (by decide) rfl)
            have ca66 : A39 29 = A 29 := (hj38.1 29 (by decide) rfl).trans ca65
            have ca67 : A42 29 = A 29 := (hf44.1 29 (by decide) rfl).trans ca66
            have ca68 : A46 29 = A 29 := by rw [hA46]; exact ca67
            have ca69 : A47 29 = A 29 := (hf49.1 29 (by decide) rfl).trans ca68
            have ca70 : A51 29 = A 29 := by rw [hA51]; exact ca69
            refine x_callv (As := [.int (iI 1)]) (rest := []) ⟨hx, hb, hml, hown, hts⟩ (mb_X12_reads l dC dI cB cI cJ cZ cQ q _ 1 hI ⟨by decide, by decide⟩ (by exact (CB.fr hc50 (fr_def hA51 (fr.st (fr.rf (M := [31]) (N := [])) (by decide) rfl)) rfl rfl)) (by rw [show 6 * A51 0 47 + A51 29 (A51 0 47).toNat = 6 * (A 0 47) + z15 by rw [ca70, e_A51_47]; omega, g31, up_same]; omega) hc52) (cwV 1 hts (goodV (wl_in_3 _ (List.mem_of_getElem? (i := 29) rfl)) (wl_in_3 _ (List.mem_of_getElem? (i := 30) rfl)) (wl_in_3 _ (List.mem_of_getElem? (i := 31) rfl)) (wl_in_0 _ (List.mem_of_getElem? (i := 8) rfl)) (wl_in_2 _ (List.mem_of_getElem? (i := 13) rfl))) rfl rfl rfl (by decide +kernel) ⟨Nat.le_of_ble_eq_true rfl, Nat.le_of_ble_eq_true rfl⟩) hK hDD hA0 hP hS 0 12 wm0 rfl rfl hl.1 (Nat.le_of_ble_eq_true rfl) (dk_at dkX12_barring_5 4 rfl) (fun A71 H locs hw72 hP hS => ?_)
            have ghw72 : q_X12_reads 1 A51 A71 := hw72
            obtain ⟨_, hI, hf73, hw72⟩ := hw72
            obtain ⟨hc74, hw72⟩ := hw72
            have r_A71_0_4 : (0 : Int) ≤ (A71 0 4) ∧ (A71 0 4) ≤ 1600 := hI 0 4
            have r_A71_0_8 : (0 : Int) ≤ (A71 0 8) ∧ (A71 0 8) ≤ 5 := hI 0 8
            have r_A71_0_46 : (0 : Int) ≤ (A71 0 46) ∧ (A71 0 46) ≤ 1600 := hI 0 46
            have e_A71_47 : A71 0 47 = (A 0 47) := (hf73.2 47 rfl).trans e_A51_47
            exact J156_64 _ _ _ _ (by exact Hd.mk (fun h0 => by have g := hw72.out (by omega); exact ⟨g.1, g.2.1, by have := g.2.2; omega⟩)) hc74 (fun uq hq => hk4 _ (u_d_X12_barring_4 ⟨gI40.out, ⟨z41, A42, ghw43, ⟨A46, hA46, ⟨A47, ghw48, ⟨A51, hA51, (Or.inr ⟨c63, ⟨A71, ghw72, hq⟩⟩)⟩⟩⟩⟩⟩)) hI (fr.trans (fr.rf) hf73 rfl rfl) hP hS (lv_sub hl [0, 1, 2] rfl)
        refine lv_icmp_eq (tgt := 116) hx hb (dk_at dkX12_barring_2 15 rfl) (by decide) (fun c31 => ?_) (fun c31 => ?_)
        · have c31 : z28 = (-1) := (i_eq (rb f30 (by decide) (by decide)) ⟨by decide, by decide⟩).mp c31
          exact J116_32 _ _ _ _ (fun uq hq => hk3 _ (u_d_X12_barring_3 ⟨f30, (Or.inl ⟨c31, hq⟩)⟩)) hI (fr.rf) hP hS (lv_sub hl [0, 1, 2] rfl)
        · have c31 : ¬ z28 = (-1) := mt (i_eq (rb f30 (by decide) (by decide)) ⟨by decide, by decide⟩).mpr c31
          refine lv_aload_n hx hb (dk_at dkX12_barring_3 0 rfl) rfl (lv_at hl 2 rfl) ?_
          refine va_get (D := (dC, dI)) (ci := 12) (v := .ref (q 8)) (C := RX12) (T := TX12) (N := 85) hx hb hts hiX12 hown hK hP 0 wm0 rfl 19 (by decide) (hts _ (List.mem_cons_of_mem _ (wl_in_2 _ (List.mem_of_getElem? (i := 41) rfl)))) (fun _ h9 => h9) rfl (dk_at dkX12_barring_3 1 rfl) ?_
          refine lv_bipush (v := iI 10) hx hb (dk_at dkX12_barring_3 2 rfl) (by decide +kernel) ?_
          refine lv_aload_n hx hb (dk_at dkX12_barring_3 3 rfl) rfl (lv_at hl 2 rfl) ?_
          refine va_get (D := (dC, dI)) (ci := 12) (v := .int (iI (A10 0 47))) (C := RX12) (T := TX12) (N := 85) hx hb hts hiX12 hown hK hP 0 wm0 rfl 47 (by decide) (hts _ (List.mem_cons_of_mem _ (wl_in_1 _ (List.mem_of_getElem? (i := 12) rfl)))) (fun _ h9 => h9) rfl (dk_at dkX12_barring_3 4 rfl) ?_
          refine tp_i (y := iI (A 0 47)) (congrArg iI e_A10_47) ?_
          refine x_mulv (v := 10 * (A 0 47)) hx hb (dk_at dkX12_barring_3 5 rfl) (by omega) ?_
          refine lv_iload_n hx hb (dk_at dkX12_barring_3 6 rfl) rfl (lv_at hl 0 rfl) ?_
          refine x_addv (v := 10 * (A 0 47) + z28) hx hb (dk_at dkX12_barring_3 7 rfl) (by omega) ?_
          have a_A10_8 : A10 8 = A 8 := (hf12.1 8 (by decide) rfl)
          refine x_zald hx hb hK hP 8 3 wm8 rfl (by omega) (by decide) (dk_at dkX12_barring_3 8 rfl) (fun z33 hz33 => ?_)
          have rz33 : (0 : Int) ≤ z33 ∧ z33 ≤ 1 := by rw [hz33]; exact hI 8 _
          have gz33 := Hd.mk hz33
          have hz33 : z33 = A 8 (10 * (A 0 47) + z28).toNat := hz33.trans (congrFun a_A10_8 _)
          refine lv_if_eq (tgt := 116) hx hb (dk_at dkX12_barring_3 9 rfl) (by decide) (fun c34 => ?_) (fun c34 => ?_)
          · have c34 : z33 = 0 := (i_eq0 (rb rz33 (by decide) (by decide))).mp c34
            exact J116_32 _ _ _ _ (fun uq hq => hk3 _ (u_d_X12_barring_3 ⟨f30, (Or.inr ⟨c31, ⟨z33, gz33.out, (Or.inl ⟨c34, hq⟩)⟩⟩)⟩)) hI (fr.rf) hP hS (lv_sub hl [0, 1, 2] rfl)
          · have c34 : ¬ z33 = 0 := mt (i_eq0 (rb rz33 (by decide) (by decide))).mpr c34
            refine lv_aload_n hx hb (dk_at dkX12_barring_3 10 rfl) rfl (lv_at hl 2 rfl) ?_
            refine lv_iconst (v := iI 3) hx hb (dk_at dkX12_barring_3 11 rfl) (by decide +kernel) ?_
            refine lv_aload_n hx hb (dk_at dkX12_barring_3 12 rfl) rfl (lv_at hl 2 rfl) ?_
            refine va_get (D := (dC, dI)) (ci := 12) (v := .int (iI (A10 0 4))) (C := RX12) (T := TX12) (N := 85) hx hb hts hiX12 hown hK hP 0 wm0 rfl 4 (by decide) (hts _ (List.mem_cons_of_mem _ (wl_in_0 _ (List.mem_of_getElem? (i := 23) rfl)))) (fun _ h9 => h9) rfl (dk_at dkX12_barring_3 13 rfl) ?_
            refine x_callv (As := [.int (iI 3), .int (iI (A10 0 4))]) (rest := []) ⟨hx, hb, hml, hown, hts⟩ (mc_X12_blame l dC dI cB cI cJ cZ cQ q _ 3 (A10 0 4) hI ⟨by decide, by decide⟩ r_A10_0_4) (cwV 2 hts (goodV (wl_in_0 _ (List.mem_of_getElem? (i := 31) rfl)) (wl_in_0 _ (List.mem_of_getElem? (i := 32) rfl)) (wl_in_0 _ (List.mem_of_getElem? (i := 33) rfl)) (wl_in_0 _ (List.mem_of_getElem? (i := 8) rfl)) (wl_in_0 _ (List.mem_of_getElem? (i := 15) rfl))) rfl rfl rfl (by decide +kernel) ⟨Nat.le_of_ble_eq_true rfl, Nat.le_of_ble_eq_true rfl⟩) hK hDD hA0 hP hS 0 12 wm0 rfl rfl hl.1 (Nat.le_of_ble_eq_true rfl) (dk_at dkX12_barring_3 14 rfl) (fun A35 H locs hw36 hP hS => ?_)
            have ghw36 : q_X12_blame 3 (A10 0 4) A10 A35 := hw36
            obtain ⟨_, hI, hf37, hw36⟩ := hw36
            have r_A35_0_8 : (0 : Int) ≤ (A35 0 8) ∧ (A35 0 8) ≤ 5 := hI 0 8
            exact J116_32 _ _ _ _ (fun uq hq => hk3 _ (u_d_X12_barring_3 ⟨f30, (Or.inr ⟨c31, ⟨z33, gz33.out, (Or.inr ⟨c34, ⟨A35, ghw36, hq⟩⟩)⟩⟩)⟩)) hI (fr.trans (fr.rf) hf37 rfl rfl) hP hS (lv_sub hl [0, 1, 2] rfl)
      have J83_17 : ∀ (H : Heap) (locs : List Loc) (ls : Array Slot), (∀ (u : St), (d_X12_barring_2 z15 A A10 u) → r_X12_barring A u) → va_P (dC, dI) vwCl (WM cI cJ cZ q A10) H → va_S AS s.heap H locs → lv_has ls 3 [(1, .int (iI (6 * (A 0 47) + z15))), (0, .ref (q 0))] → W p l e (headSpec ws_mb_X12_barring ({ frames := 5, cells := 0, slots := 0, locals := 113 } : Room)).room s m [.ref (q 0)].toArray below meth c H locs 0 0 Q (F0 m 83 ls []) := by
        intro H locs ls hk2 hP hS hl
        refine lv_iconst (v := iI (-1)) hx hb (dk_at dkX12_barring_2 11 rfl) (by decide +kernel) ?_
        exact J84_18 (-1) _ _ _ (by omega) (fun uq hq => hk2 _ (u_d_X12_barring_2 hq)) hP hS (lv_sub hl [0, 1] rfl)
      refine lv_if_ne (tgt := 83) hx hb (dk_at dkX12_barring_1 11 rfl) (by decide) (fun c16 => ?_) (fun c16 => ?_)
      · have c16 : ¬ (A10 0 8) = 0 := mt (i_eq0 (rb r_A10_0_8 (by decide) (by decide))).mpr c16
        exact J83_17 _ _ _ (fun uq hq => hk1 _ (u_d_X12_barring_1 ⟨f6, ⟨z9, A10, ghw11, (Or.inl ⟨c14, ⟨z15, gz15.out, (Or.inl ⟨c16, hq⟩)⟩⟩)⟩⟩)) hP hS (lv_sub hl [0, 1] rfl)
      · have c16 : (A10 0 8) = 0 := (i_eq0 (rb r_A10_0_8 (by decide) (by decide))).mp c16
        refine lv_aload_n hx hb (dk_at dkX12_barring_1 12 rfl) rfl (lv_at hl 1 rfl) ?_
        refine va_get (D := (dC, dI)) (ci := 12) (v := .int (iI (A10 0 3))) (C := RX12) (T := TX12) (N := 85) hx hb hts hiX12 hown hK hP 0 wm0 rfl 3 (by decide) (hts _ (List.mem_cons_of_mem _ (wl_in_0 _ (List.mem_of_getElem? (i := 24) rfl)))) (fun _ h9 => h9) rfl (dk_at dkX12_barring_1 13 rfl) ?_
        have r_A10_0_3 : (0 : Int) ≤ (A10 0 3) ∧ (A10 0 3) ≤ 3 := hI 0 3
        refine lv_iconst (v := iI 1) hx hb (dk_at dkX12_barring_1 14 rfl) (by decide +kernel) ?_
        refine lv_icmp_ne (tgt := 83) hx hb (dk_at dkX12_barring_1 15 rfl) (by decide) (fun c19 => ?_) (fun c19 => ?_)
        · have c19 : ¬ (A10 0 3) = 1 := mt (i_eq (rb r_A10_0_3 (by decide) (by decide)) ⟨by decide, by decide⟩).mpr c19
          exact J83_17 _ _ _ (fun uq hq => hk1 _ (u_d_X12_barring_1 ⟨f6, ⟨z9, A10, ghw11, (Or.inl ⟨c14, ⟨z15, gz15.out, (Or.inr ⟨c16, (Or.inl ⟨c19, hq⟩)⟩)⟩⟩)⟩⟩)) hP hS (lv_sub hl [0, 1] rfl)
        · have c19 : (A10 0 3) = 1 := (i_eq (rb r_A10_0_3 (by decide) (by decide)) ⟨by decide, by decide⟩).mp c19
          refine lv_aload_n hx hb (dk_at dkX12_barring_2 0 rfl) rfl (lv_at hl 1 rfl) ?_
          refine lv_aload_n hx hb (dk_at dkX12_barring_2 1 rfl) rfl (lv_at hl 1 rfl) ?_
          refine va_get (D := (dC, dI)) (ci := 12) (v := .long (jI (A10 0 7))) (C := RX12) (T := TX12) (N := 85) hx hb hts hiX12 hown hK hP 0 wm0 rfl 7 (by decide) (hts _ (List.mem_cons_of_mem _ (wl_in_0 _ (List.mem_of_getElem? (i := 26) rfl)))) (fun _ h9 => h9) rfl (dk_at dkX12_barring_2 2 rfl) ?_
          have r_A10_0_7 : (-9223372036854775808 : Int) ≤ (A10 0 7) ∧ (A10 0 7) ≤ 9223372036854775807 := hI 0 7
          refine x_calli (As := [.long (jI (A10 0 7))]) (rest := []) ⟨hx, hb, hml, hown, hts⟩ (mb_X12_isOwn l dC dI cB cI cJ cZ cQ q _ (A10 0 7) hI r_A10_0_7) (cwV 1 hts (goodV (wl_in_2 _ (List.mem_of_getElem? (i := 23) rfl)) (wl_in_2 _ (List.mem_of_getElem? (i := 24) rfl)) (wl_in_2 _ (List.mem_of_getElem? (i := 25) rfl)) (wl_in_0 _ (List.mem_of_getElem? (i := 8) rfl)) (wl_in_0 _ (List.mem_of_getElem? (i := 43) rfl))) rfl rfl rfl (by decide +kernel) ⟨Nat.le_of_ble_eq_true rfl, Nat.le_of_ble_eq_true rfl⟩) hK hDD hA0 hP hS 0 12 wm0 rfl rfl hl.1 (Nat.le_of_ble_eq_true rfl) (dk_at dkX12_barring_2 3 rfl) (fun z20 A21 H locs hw22 hP hS => ?_)
          obtain ⟨rfl, hw22⟩ := hw22
          have ghw22 : q_X12_isOwn (A10 0 7) A10 z20 := hw22
          have hw22 := hw22.2
          have rz20 : 0 ≤ z20 ∧ z20 ≤ 1 := hw22.1
          refine lv_if_ne (tgt := 83) hx hb (dk_at dkX12_barring_2 4 rfl) (by decide) (fun c23 => ?_) (fun c23 => ?_)
          · have c23 : ¬ z20 = 0 := mt (i_eq0 (rb rz20 (by decide) (by decide))).mpr c23
            exact J83_17 _ _ _ (fun uq hq => hk1 _ (u_d_X12_barring_1 ⟨f6, ⟨z9, A10, ghw11, (Or.inl ⟨c14, ⟨z15, gz15.out, (Or.inr ⟨c16, (Or.inr ⟨c19, ⟨z20, ghw22, (Or.inl ⟨c23, hq⟩)⟩⟩)⟩)⟩⟩)⟩⟩)) hP hS (lv_sub hl [0, 1] rfl)
          · have c23 : z20 = 0 := (i_eq0 (rb rz20 (by decide) (by decide))).mp c23
            refine lv_aload_n hx hb (dk_at dkX12_barring_2 5 rfl) rfl (lv_at hl 1 rfl) ?_
            refine lv_iconst (v := iI 1) hx hb (dk_at dkX12_barring_2 6 rfl) (by decide +kernel) ?_
            refine lv_aload_n hx hb (dk_at dkX12_barring_2 7 rfl) rfl (lv_at hl 1 rfl) ?_
            refine va_get (D := (dC, dI)) (ci := 12) (v := .long (jI (A10 0 7))) (C := RX12) (T := TX12) (N := 85) hx hb hts hiX12 hown hK hP 0 wm0 rfl 7 (by decide) (hts _ (List.mem_cons_of_mem _ (wl_in_0 _ (List.mem_of_getElem? (i := 26) rfl)))) (fun _ h9 => h9) rfl (dk_at dkX12_barring_2 8 rfl) ?_
            refine x_calli (As := [.int (iI 1), .long (jI (A10 0 7))]) (rest := []) ⟨hx, hb, hml, hown, hts⟩ (mb_X12_named_1 l dC dI cB cI cJ cZ cQ q _ 1 (A10 0 7) hI ⟨by decide, by decide⟩ r_A10_0_7) (cwV 2 hts (goodV (wl_in_2 _ (List.mem_of_getElem? (i := 26) rfl)) (wl_in_2 _ (List.mem_of_getElem? (i := 27) rfl)) (wl_in_2 _ (List.mem_of_getElem? (i := 28) rfl)) (wl_in_0 _ (List.mem_of_getElem? (i := 8) rfl)) (wl_in_1 _ (List.mem_of_getElem? (i := 10) rfl))) rfl rfl rfl (by decide +kernel) ⟨Nat.le_of_ble_eq_true rfl, Nat.le_of_ble_eq_true rfl⟩) hK hDD hA0 hP hS 0 12 wm0 rfl rfl hl.1 (Nat.le_of_ble_eq_true rfl) (dk_at dkX12_barring_2 9 rfl) (fun z24 A25 H locs hw26 hP hS => ?_)
            obtain ⟨rfl, hw26⟩ := hw26
            have ghw26 : q_X12_named_1 1 (A10 0 7) A10 z24 := hw26
            have hw26 := hw26.2
            have a_A10_5 : A10 5 = A 5 := (hf12.1 5 (by decide) rfl)
            have a_A10_4 : A10 4 = A 4 := (hf12.1 4 (by decide) rfl)
            rw [a_A10_5, a_A10_4, e_A10_47] at hw26
            refine lv_goto (tgt := 84) hx hb (dk_at dkX12_barring_2 10 rfl) (by decide) ?_
            exact J84_18 z24 _ _ _ (by omega) (fun uq hq => hk1 _ (u_d_X12_barring_1 ⟨f6, ⟨z9, A10, ghw11, (Or.inl ⟨c14, ⟨z15, gz15.out, (Or.inr ⟨c16, (Or.inr ⟨c19, ⟨z20, ghw22, (Or.inr ⟨c23, ⟨z24, ghw26, hq⟩⟩)⟩⟩)⟩)⟩⟩)⟩⟩)) hP hS (lv_sub hl [0, 1] rfl)
    · have c14 : z9 = 0 := (i_eq0 (rb rz9 (by decide) (by decide))).mp c14
      have r_A10_0_5 : (0 : Int) ≤ (A10 0 5) ∧ (A10 0 5) ≤ 1600 := hI 0 5
      exact RET _ _ _ _ _ ⟨hk1 _ (u_d_X12_barring_1 ⟨f6, ⟨z9, A10, ghw11, (Or.inr ⟨c14, rfl⟩)⟩⟩), hI, fr.trans (fr.rf) hf12 rfl rfl, (CI.fr hcCI hf12 rfl rfl), Hd.mk (fun h => absurd h (by omega))⟩ hP hS (dk_at dkX12_barring_0 13 rfl)
  refine lv_icmp_ne (tgt := 19) hx hb (dk_at dkX12_barring_0 7 rfl) (by decide) (fun c2 => ?_) (fun c2 => ?_)
  · have c2 : ¬ z1 = 6 := mt (i_eq (rb rz1 (by decide) (by decide)) ⟨by decide, by decide⟩).mpr c2
    refine lv_iconst (v := iI 0) hx hb (dk_at dkX12_barring_0 10 rfl) (by decide +kernel) ?_
    exact J20_3 0 _ _ _ (by omega) (by omega) (by exact Hd.mk (by  omega)) (fun uq hq => (u_r_X12_barring ⟨z1, gz1.out, (Or.inl ⟨c2, hq⟩)⟩)) hP hS (lv_sub hl [0] rfl)
  · have c2 : z1 = 6 := (i_eq (rb rz1 (by decide) (by decide)) ⟨by decide, by decide⟩).mp c2
    refine lv_iconst (v := iI 1) hx hb (dk_at dkX12_barring_0 8 rfl) (by decide +kernel) ?_
    refine lv_goto (tgt := 20) hx hb (dk_at dkX12_barring_0 9 rfl) (by decide) ?_
    exact J20_3 1 _ _ _ (by omega) (by omega) (by exact Hd.mk (by  omega)) (fun uq hq => (u_r_X12_barring ⟨z1, gz1.out, (Or.inr ⟨c2, hq⟩)⟩)) hP hS (lv_sub hl [0] rfl)
theorem dkX12_statement_0 : dkq cX12_statement [(0, .aload_n 0, 1), (1, .ldc2_w 296, 3), (4, .invokevirtual 368, 3), (7, .ifCond .eq 10, 3), (10, .aload_n 0, 1), (11, .invokevirtual 427, 3), (14, .goto 94, 3), (17, .aload_n 0, 1), (18, .ldc2_w 298, 3), (21, .invokevirtual 368, 3), (24, .ifCond .eq 11, 3), (27, .aload_n 0, 1), (28, .iconst 0, 1), (29, .invokevirtual 430, 3), (32, .goto 76, 3), (35, .aload_n 0, 1)] = true := by decide +kernel
theorem dkX12_statement_1 : dkq cX12_statement [(36, .ldc2_w 300, 3), (39, .invokevirtual 368, 3), (42, .ifCond .eq 11, 3), (45, .aload_n 0, 1), (46, .iconst 1, 1), (47, .invokevirtual 430, 3), (50, .goto 58, 3), (53, .aload_n 0, 1), (54, .ldc2_w 304, 3), (57, .invokevirtual 368, 3), (60, .ifCond .eq 10, 3), (63, .aload_n 0, 1), (64, .invokevirtual 433, 3), (67, .goto 41, 3), (70, .aload_n 0, 1), (71, .ldc2_w 308, 3)] = true := by decide +kernel
theorem dkX12_statement_2 : dkq cX12_statement [(74, .invokevirtual 368, 3), (77, .ifCond .eq 10, 3), (80, .aload_n 0, 1), (81, .invokevirtual 436, 3), (84, .goto 24, 3), (87, .aload_n 0, 1), (88, .ldc2_w 310, 3), (91, .invokevirtual 368, 3), (94, .ifCond .eq 10, 3), (97, .aload_n 0, 1), (98, .invokevirtual 439, 3), (101, .goto 7, 3), (104, .aload_n 0, 1), (105, .invokevirtual 442, 3), (108, .aload_n 0, 1), (109, .getfield 36, 3)] = true := by decide +kernel
theorem dkX12_statement_3 : dkq cX12_statement [(112, .ifCond .ne 9, 3), (115, .aload_n 0, 1), (116, .bipush 59, 2), (118, .invokevirtual 445, 3), (121, .return_, 1)] = true := by decide +kernel
theorem dkX12_others_0 : dkq cX12_others [(0, .aload_n 0, 1), (1, .ldc2_w 312, 3), (4, .invokevirtual 368, 3), (7, .ifCond .eq 10, 3), (10, .aload_n 0, 1), (11, .invokevirtual 447, 3), (14, .goto 97, 3), (17, .aload_n 0, 1), (18, .ldc2_w 316, 3), (21, .invokevirtual 368, 3), (24, .ifCond .eq 10, 3), (27, .aload_n 0, 1), (28, .invokevirtual 450, 3), (31, .goto 80, 3), (34, .aload_n 0, 1), (35, .ldc2_w 318, 3)] = true := by decide +kernel
theorem dkX12_others_1 : dkq cX12_others [(38, .invokevirtual 368, 3), (41, .ifCond .eq 10, 3), (44, .aload_n 0, 1), (45, .invokevirtual 453, 3), (48, .goto 63, 3), (51, .aload_n 0, 1), (52, .ldc2_w 320, 3), (55, .invokevirtual 368, 3), (58, .ifCond .eq 10, 3), (61, .aload_n 0, 1), (62, .invokevirtual 456, 3), (65, .goto 46, 3), (68, .aload_n 0, 1), (69, .ldc2_w 322, 3), (72, .invokevirtual 368, 3), (75, .ifCond .eq 10, 3)] = true := by decide +kernel
theorem dkX12_others_2 : dkq cX12_others [(78, .aload_n 0, 1), (79, .invokevirtual 459, 3), (82, .goto 29, 3), (85, .aload_n 0, 1), (86, .ldc2_w 324, 3), (89, .invokevirtual 368, 3), (92, .ifCond .eq 10, 3), (95, .aload_n 0, 1), (96, .invokevirtual 462, 3), (99, .goto 12, 3), (102, .aload_n 0, 1), (103, .iconst 1, 1), (104, .aload_n 0, 1), (105, .getfield 23, 3), (108, .invokevirtual 286, 3), (111, .return_, 1)] = true := by decide +kernel
