abbrev tr_r_X12_others (A : St) (u : St) : Prop := (∃ z1 : Int, q_X12_isWord 1936225652 A z1 ∧ (((z1 = 0) ∧ (∃ z5 : Int, q_X12_isWord 1819243380 A z5 ∧ (((z5 = 0) ∧ (∃ z9 : Int, q_X12_isWord 499967946343 A z9 ∧ (((z9 = 0) ∧ (∃ z13 : Int, q_X12_isWord 512735736947 A z13 ∧ (((z13 = 0) ∧ (∃ z17 : Int, q_X12_isWord 1836413812 A z17 ∧ (((z17 = 0) ∧ (∃ z21 : Int, q_X12_isWord 6447474 A z21 ∧ (((z21 = 0) ∧ (∃ A25 : St, q_X12_blame 1 (A 0 4) A A25 ∧ (u = A25))) ∨ ((¬ z21 = 0) ∧ (∃ A28 : St, q_X12_barring A A28 ∧ (u = A28)))))) ∨ ((¬ z17 = 0) ∧ (∃ A32 : St, q_X12_mustBe A A32 ∧ (u = A32)))))) ∨ ((¬ z13 = 0) ∧ (∃ A36 : St, q_X12_wanting A A36 ∧ (u = A36)))))) ∨ ((¬ z9 = 0) ∧ (∃ A41 : St, q_X12_thing A A41 ∧ (u = A41)))))) ∨ ((¬ z5 = 0) ∧ (∃ A45 : St, q_X12_losing A A45 ∧ (u = A45)))))) ∨ ((¬ z1 = 0) ∧ (∃ A49 : St, q_X12_shutting A A49 ∧ (u = A49)))))
def r_X12_others (A : St) (u : St) : Prop := tr_r_X12_others A u
theorem u_r_X12_others {A : St} {u : St} (h : tr_r_X12_others A u) : r_X12_others A u := h
def q_X12_others (A : St) (u : St) : Prop := r_X12_others A u ∧ IM u ∧ fr [10, 14, 15, 19, 20, 21, 22, 23, 24, 25, 26, 27, 28, 29, 30, 31, 32, 33, 34, 35, 36, 37, 38, 39, 40] [3, 4, 5, 6, 7, 8, 9, 46, 53, 54, 56, 57] A u ∧ CI u ∧ WI u ∧ (Hd (u 0 8 = 0 → CB u ∧ A 0 5 ≤ u 0 4))
def ws_mb_X12_others : List Cond := .code yX12_others cX12_others 1 none :: WX
set_option maxHeartbeats 4000000 in
set_option maxRecDepth 100000 in
theorem mb_X12_others (l : Launch) (dC : Nat → ClassId) (dI : Nat → Nat → Nat) (cB cI cJ cZ cQ : ClassId) (q : Nat → Nat) (A : St) (hI : IM A) (hp0 : CB A) (hcCI : CI A) (hcWI : WI A) : XMv l yX12_others ws_mb_X12_others ({ frames := 6, cells := 0, slots := 0, locals := 135 } : Room) (dC, dI) (tyA cB cI cJ cZ cQ) (WM cI cJ cZ q) A [.ref (q 0)] (fun u => r_X12_others A u ∧ IM u ∧ fr [10, 14, 15, 19, 20, 21, 22, 23, 24, 25, 26, 27, 28, 29, 30, 31, 32, 33, 34, 35, 36, 37, 38, 39, 40] [3, 4, 5, 6, 7, 8, 9, 46, 53, 54, 56, 57] A u ∧ CI u ∧ WI u ∧ (Hd (u 0 8 = 0 → CB u ∧ A 0 5 ≤ u 0 4))) := by
  refine x_metv (cc := cX12_others) (maxL := 1) WM_adr (by decide +kernel) rfl (Nat.le_of_ble_eq_true rfl) (fun p e s m below meth c Q AS ls hx hb hml hown hts hK hDD hA0 hP hS hl RET => ?_)
  have hown : s.vm.findClass RX12 = some m.cls := hown
  have hl : lv_has ls 1 [(0, .ref (q 0))] := hl
  have hiX12 : ∀ w ∈ u_ws RX12 TX12 85, w ∈ ws_mb_X12_others := fun w h => List.mem_cons_of_mem _ (wx_lay w h)
  obtain ⟨H, hHe⟩ : ∃ H : Heap, H = s.heap := ⟨_, rfl⟩
  rw [← hHe] at hP
  have hS : va_S AS s.heap H [] := by rw [hHe]; exact hS
  suffices hgo : ∀ locs : List Loc, va_S AS s.heap H locs → W p l e (headSpec ws_mb_X12_others ({ frames := 6, cells := 0, slots := 0, locals := 135 } : Room)).room s m [.ref (q 0)].toArray below meth c H locs 0 0 Q (F0 m 0 ls []) by
    have := hgo [] hS
    rw [hHe] at this
    exact this
  clear hS hHe
  intro locs hS
  have hle := CB.le hp0
  refine lv_aload_n hx hb (dk_at dkX12_others_0 0 rfl) rfl (lv_at hl 0 rfl) ?_
  refine lv_ldc2 (v := 1936225652) hx hb hown (hts _ (List.mem_cons_of_mem _ (wl_in_0 _ (List.mem_of_getElem? (i := 52) rfl)))) (dk_at dkX12_others_0 1 rfl) ?_
  refine tp_l (y := jI 1936225652) (by decide +kernel) ?_
  have r_A_0_3 : (0 : Int) ≤ (A 0 3) ∧ (A 0 3) ≤ 3 := hI 0 3
  have r_A_0_7 : (-9223372036854775808 : Int) ≤ (A 0 7) ∧ (A 0 7) ≤ 9223372036854775807 := hI 0 7
  refine x_calli (As := [.long (jI 1936225652)]) (rest := []) ⟨hx, hb, hml, hown, hts⟩ (mb_X12_isWord l dC dI cB cI cJ cZ cQ q _ 1936225652 hI ⟨by decide, by decide⟩) (cwV 1 hts (goodV (wl_in_1 _ (List.mem_of_getElem? (i := 59) rfl)) (wl_in_2 _ (List.mem_of_getElem? (i := 0) rfl)) (wl_in_2 _ (List.mem_of_getElem? (i := 1) rfl)) (wl_in_0 _ (List.mem_of_getElem? (i := 8) rfl)) (wl_in_0 _ (List.mem_of_getElem? (i := 35) rfl))) rfl rfl rfl (by decide +kernel) ⟨Nat.le_of_ble_eq_true rfl, Nat.le_of_ble_eq_true rfl⟩) hK hDD hA0 hP hS 0 12 wm0 rfl rfl hl.1 (Nat.le_of_ble_eq_true rfl) (dk_at dkX12_others_0 2 rfl) (fun z1 A2 H locs hw3 hP hS => ?_)
  obtain ⟨rfl, hw3⟩ := hw3
  have ghw3 : q_X12_isWord 1936225652 A z1 := hw3
  have hw3 := hw3.2
  have rz1 : 0 ≤ z1 ∧ z1 ≤ 1 := hw3.1
  replace hw3 := Hd.mk hw3.2
  refine lv_if_eq (tgt := 17) hx hb (dk_at dkX12_others_0 3 rfl) (by decide) (fun c4 => ?_) (fun c4 => ?_)
  · have c4 : z1 = 0 := (i_eq0 (rb rz1 (by decide) (by decide))).mp c4
    refine lv_aload_n hx hb (dk_at dkX12_others_0 7 rfl) rfl (lv_at hl 0 rfl) ?_
    refine lv_ldc2 (v := 1819243380) hx hb hown (hts _ (List.mem_cons_of_mem _ (wl_in_0 _ (List.mem_of_getElem? (i := 54) rfl)))) (dk_at dkX12_others_0 8 rfl) ?_
    refine tp_l (y := jI 1819243380) (by decide +kernel) ?_
    refine x_calli (As := [.long (jI 1819243380)]) (rest := []) ⟨hx, hb, hml, hown, hts⟩ (mb_X12_isWord l dC dI cB cI cJ cZ cQ q _ 1819243380 hI ⟨by decide, by decide⟩) (cwV 1 hts (goodV (wl_in_1 _ (List.mem_of_getElem? (i := 59) rfl)) (wl_in_2 _ (List.mem_of_getElem? (i := 0) rfl)) (wl_in_2 _ (List.mem_of_getElem? (i := 1) rfl)) (wl_in_0 _ (List.mem_of_getElem? (i := 8) rfl)) (wl_in_0 _ (List.mem_of_getElem? (i := 35) rfl))) rfl rfl rfl (by decide +kernel) ⟨Nat.le_of_ble_eq_true rfl, Nat.le_of_ble_eq_true rfl⟩) hK hDD hA0 hP hS 0 12 wm0 rfl rfl hl.1 (Nat.le_of_ble_eq_true rfl) (dk_at dkX12_others_0 9 rfl) (fun z5 A6 H locs hw7 hP hS => ?_)
    obtain ⟨rfl, hw7⟩ := hw7
    have ghw7 : q_X12_isWord 1819243380 A z5 := hw7
    have hw7 := hw7.2
    have rz5 : 0 ≤ z5 ∧ z5 ≤ 1 := hw7.1
    replace hw7 := Hd.mk hw7.2
    refine lv_if_eq (tgt := 34) hx hb (dk_at dkX12_others_0 10 rfl) (by decide) (fun c8 => ?_) (fun c8 => ?_)
    · have c8 : z5 = 0 := (i_eq0 (rb rz5 (by decide) (by decide))).mp c8
      refine lv_aload_n hx hb (dk_at dkX12_others_0 14 rfl) rfl (lv_at hl 0 rfl) ?_
      refine lv_ldc2 (v := 499967946343) hx hb hown (hts _ (List.mem_cons_of_mem _ (wl_in_0 _ (List.mem_of_getElem? (i := 55) rfl)))) (dk_at dkX12_others_0 15 rfl) ?_
      refine tp_l (y := jI 499967946343) (by decide +kernel) ?_
      refine x_calli (As := [.long (jI 499967946343)]) (rest := []) ⟨hx, hb, hml, hown, hts⟩ (mb_X12_isWord l dC dI cB cI cJ cZ cQ q _ 499967946343 hI ⟨by decide, by decide⟩) (cwV 1 hts (goodV (wl_in_1 _ (List.mem_of_getElem? (i := 59) rfl)) (wl_in_2 _ (List.mem_of_getElem? (i := 0) rfl)) (wl_in_2 _ (List.mem_of_getElem? (i := 1) rfl)) (wl_in_0 _ (List.mem_of_getElem? (i := 8) rfl)) (wl_in_0 _ (List.mem_of_getElem? (i := 35) rfl))) rfl rfl rfl (by decide +kernel) ⟨Nat.le_of_ble_eq_true rfl, Nat.le_of_ble_eq_true rfl⟩) hK hDD hA0 hP hS 0 12 wm0 rfl rfl hl.1 (Nat.le_of_ble_eq_true rfl) (dk_at dkX12_others_1 0 rfl) (fun z9 A10 H locs hw11 hP hS => ?_)
      obtain ⟨rfl, hw11⟩ := hw11
      have ghw11 : q_X12_isWord 499967946343 A z9 := hw11
      have hw11 := hw11.2
      have rz9 : 0 ≤ z9 ∧ z9 ≤ 1 := hw11.1
      replace hw11 := Hd.mk hw11.2
      refine lv_if_eq (tgt := 51) hx hb (dk_at dkX12_others_1 1 rfl) (by decide) (fun c12 => ?_) (fun c12 => ?_)
      · have c12 : z9 = 0 := (i_eq0 (rb rz9 (by decide) (by decide))).mp c12
        refine lv_aload_n hx hb (dk_at dkX12_others_1 5 rfl) rfl (lv_at hl 0 rfl) ?_
        refine lv_ldc2 (v := 512735736947) hx hb hown (hts _ (List.mem_cons_of_mem _ (wl_in_0 _ (List.mem_of_getElem? (i := 56) rfl)))) (dk_at dkX12_others_1 6 rfl) ?_
        refine tp_l (y := jI 512735736947) (by decide +kernel) ?_
        refine x_calli (As := [.long (jI 512735736947)]) (rest := []) ⟨hx, hb, hml, hown, hts⟩ (mb_X12_isWord l dC dI cB cI cJ cZ cQ q _ 512735736947 hI ⟨by decide, by decide⟩) (cwV 1 hts (goodV (wl_in_1 _ (List.mem_of_getElem? (i := 59) rfl)) (wl_in_2 _ (List.mem_of_getElem? (i := 0) rfl)) (wl_in_2 _ (List.mem_of_getElem? (i := 1) rfl)) (wl_in_0 _ (List.mem_of_getElem? (i := 8) rfl)) (wl_in_0 _ (List.mem_of_getElem? (i := 35) rfl))) rfl rfl rfl (by decide +kernel) ⟨Nat.le_of_ble_eq_true rfl, Nat.le_of_ble_eq_true rfl⟩) hK hDD hA0 hP hS 0 12 wm0 rfl rfl hl.1 (Nat.le_of_ble_eq_true rfl) (dk_at dkX12_others_1 7 rfl) (fun z13 A14 H locs hw15 hP hS => ?_)
        obtain ⟨rfl, hw15⟩ := hw15
        have ghw15 : q_X12_isWord 512735736947 A z13 := hw15
        have hw15 := hw15.2
        have rz13 : 0 ≤ z13 ∧ z13 ≤ 1 := hw15.1
        replace hw15 := Hd.mk hw15.2
        refine lv_if_eq (tgt := 68) hx hb (dk_at dkX12_others_1 8 rfl) (by decide) (fun c16 => ?_) (fun c16 => ?_)
        · have c16 : z13 = 0 := (i_eq0 (rb rz13 (by decide) (by decide))).mp c16
          refine lv_aload_n hx hb (dk_at dkX12_others_1 12 rfl) rfl (lv_at hl 0 rfl) ?_
          refine lv_ldc2 (v := 1836413812) hx hb hown (hts _ (List.mem_cons_of_mem _ (wl_in_0 _ (List.mem_of_getElem? (i := 57) rfl)))) (dk_at dkX12_others_1 13 rfl) ?_
          refine tp_l (y := jI 1836413812) (by decide +kernel) ?_
          refine x_calli (As := [.long (jI 1836413812)]) (rest := []) ⟨hx, hb, hml, hown, hts⟩ (mb_X12_isWord l dC dI cB cI cJ cZ cQ q _ 1836413812 hI ⟨by decide, by decide⟩) (cwV 1 hts (goodV (wl_in_1 _ (List.mem_of_getElem? (i := 59) rfl)) (wl_in_2 _ (List.mem_of_getElem? (i := 0) rfl)) (wl_in_2 _ (List.mem_of_getElem? (i := 1) rfl)) (wl_in_0 _ (List.mem_of_getElem? (i := 8) rfl)) (wl_in_0 _ (List.mem_of_getElem? (i := 35) rfl))) rfl rfl rfl (by decide +kernel) ⟨Nat.le_of_ble_eq_true rfl, Nat.le_of_ble_eq_true rfl⟩) hK hDD hA0 hP hS 0 12 wm0 rfl rfl hl.1 (Nat.le_of_ble_eq_true rfl) (dk_at dkX12_others_1 14 rfl) (fun z17 A18 H locs hw19 hP hS => ?_)
          obtain ⟨rfl, hw19⟩ := hw19
          have ghw19 : q_X12_isWord 1836413812 A z17 := hw19
          have hw19 := hw19.2
          have rz17 : 0 ≤ z17 ∧ z17 ≤ 1 := hw19.1
          replace hw19 := Hd.mk hw19.2
          refine lv_if_eq (tgt := 85) hx hb (dk_at dkX12_others_1 15 rfl) (by decide) (fun c20 => ?_) (fun c20 => ?_)
          · have c20 : z17 = 0 := (i_eq0 (rb rz17 (by decide) (by decide))).mp c20
            refine lv_aload_n hx hb (dk_at dkX12_others_2 3 rfl) rfl (lv_at hl 0 rfl) ?_
            refine lv_ldc2 (v := 6447474) hx hb hown (hts _ (List.mem_cons_of_mem _ (wl_in_0 _ (List.mem_of_getElem? (i := 58) rfl)))) (dk_at dkX12_others_2 4 rfl) ?_
            refine tp_l (y := jI 6447474) (by decide +kernel) ?_
            refine x_calli (As := [.long (jI 6447474)]) (rest := []) ⟨hx, hb, hml, hown, hts⟩ (mb_X12_isWord l dC dI cB cI cJ cZ cQ q _ 6447474 hI ⟨by decide, by decide⟩) (cwV 1 hts (goodV (wl_in_1 _ (List.mem_of_getElem? (i := 59) rfl)) (wl_in_2 _ (List.mem_of_getElem? (i := 0) rfl)) (wl_in_2 _ (List.mem_of_getElem? (i := 1) rfl)) (wl_in_0 _ (List.mem_of_getElem? (i := 8) rfl)) (wl_in_0 _ (List.mem_of_getElem? (i := 35) rfl))) rfl rfl rfl (by decide +kernel) ⟨Nat.le_of_ble_eq_true rfl, Nat.le_of_ble_eq_true rfl⟩) hK hDD hA0 hP hS 0 12 wm0 rfl rfl hl.1 (Nat.le_of_ble_eq_true rfl) (dk_at dkX12_others_2 5 rfl) (fun z21 A22 H locs hw23 hP hS => ?_)
            obtain ⟨rfl, hw23⟩ := hw23
            have ghw23 : q_X12_isWord 6447474 A z21 := hw23
            have hw23 := hw23.2
            have rz21 : 0 ≤ z21 ∧ z21 ≤ 1 := hw23.1
            replace hw23 := Hd.mk hw23.2
            refine lv_if_eq (tgt := 102) hx hb (dk_at dkX12_others_2 6 rfl) (by decide) (fun c24 => ?_) (fun c24 => ?_)
            · have c24 : z21 = 0 := (i_eq0 (rb rz21 (by decide) (by decide))).mp c24
              refine lv_aload_n hx hb (dk_at dkX12_others_2 10 rfl) rfl (lv_at hl 0 rfl) ?_
              refine lv_iconst (v := iI 1) hx hb (dk_at dkX12_others_2 11 rfl) (by decide +kernel) ?_
              refine lv_aload_n hx hb (dk_at dkX12_others_2 12 rfl) rfl (lv_at hl 0 rfl) ?_
              refine va_get (D := (dC, dI)) (ci := 12) (v := .int (iI (A 0 4))) (C := RX12) (T := TX12) (N := 85) hx hb hts hiX12 hown hK hP 0 wm0 rfl 4 (by decide) (hts _ (List.mem_cons_of_mem _ (wl_in_0 _ (List.mem_of_getElem? (i := 23) rfl)))) (fun _ h9 => h9) rfl (dk_at dkX12_others_2 13 rfl) ?_
              have r_A_0_4 : (0 : Int) ≤ (A 0 4) ∧ (A 0 4) ≤ 1600 := hI 0 4
              refine x_callv (As := [.int (iI 1), .int (iI (A 0 4))]) (rest := []) ⟨hx, hb, hml, hown, hts⟩ (mc_X12_blame l dC dI cB cI cJ cZ cQ q _ 1 (A 0 4) hI ⟨by decide, by decide⟩ r_A_0_4) (cwV 2 hts (goodV (wl_in_0 _ (List.mem_of_getElem? (i := 31) rfl)) (wl_in_0 _ (List.mem_of_getElem? (i := 32) rfl)) (wl_in_0 _ (List.mem_of_getElem? (i := 33) rfl)) (wl_in_0 _ (List.mem_of_getElem? (i := 8) rfl)) (wl_in_0 _ (List.mem_of_getElem? (i := 15) rfl))) rfl rfl rfl (by decide +kernel) ⟨Nat.le_of_ble_eq_true rfl, Nat.le_of_ble_eq_true rfl⟩) hK hDD hA0 hP hS 0 12 wm0 rfl rfl hl.1 (Nat.le_of_ble_eq_true rfl) (dk_at dkX12_others_2 14 rfl) (fun A25 H locs hw26 hP hS => ?_)
              have ghw26 : q_X12_blame 1 (A 0 4) A A25 := hw26
              obtain ⟨_, hI, hf27, hw26⟩ := hw26
              have r_A25_0_8 : (0 : Int) ≤ (A25 0 8) ∧ (A25 0 8) ≤ 5 := hI 0 8
              have e_A25_4 : A25 0 4 = (A 0 4) := (hf27.2 4 rfl)
              have e_A25_5 : A25 0 5 = (A 0 5) := (hf27.2 5 rfl)
              have r_A_0_5 : (0 : Int) ≤ (A 0 5) ∧ (A 0 5) ≤ 1600 := by rw [← e_A25_5]; exact hI 0 5
              exact RET _ _ _ _ _ ⟨(u_r_X12_others ⟨z1, ghw3, (Or.inl ⟨c4, ⟨z5, ghw7, (Or.inl ⟨c8, ⟨z9, ghw11, (Or.inl ⟨c12, ⟨z13, ghw15, (Or.inl ⟨c16, ⟨z17, ghw19, (Or.inl ⟨c20, ⟨z21, ghw23, (Or.inl ⟨c24, ⟨A25, ghw26, rfl⟩⟩)⟩⟩)⟩⟩)⟩⟩)⟩⟩)⟩⟩)⟩), hI, fr.trans (fr.rf) hf27 rfl rfl, (CI.fr hcCI hf27 rfl rfl), (WI.fr hcWI hf27 rfl rfl), Hd.mk (fun h => absurd h (by omega))⟩ hP hS (dk_at dkX12_others_2 15 rfl)
            · have c24 : ¬ z21 = 0 := mt (i_eq0 (rb rz21 (by decide) (by decide))).mpr c24
              have hw23b := hw23.out.mp (by omega)
              refine lv_aload_n hx hb (dk_at dkX12_others_2 7 rfl) rfl (lv_at hl 0 rfl) ?_
              have r_A_0_5 : (0 : Int) ≤ (A 0 5) ∧ (A 0 5) ≤ 1600 := hI 0 5
              refine x_callv (As := []) (rest := []) ⟨hx, hb, hml, hown, hts⟩ (mb_X12_barring l dC dI cB cI cJ cZ cQ q _ hI (by exact hp0) hcCI) (cwV 0 hts (goodV (wl_in_4 _ (List.mem_of_getElem? (i := 7) rfl)) (wl_in_4 _ (List.mem_of_getElem? (i := 8) rfl)) (wl_in_4 _ (List.mem_of_getElem? (i := 9) rfl)) (wl_in_0 _ (List.mem_of_getElem? (i := 8) rfl)) (wl_in_3 _ (List.mem_of_getElem? (i := 24) rfl))) rfl rfl rfl (by decide +kernel) ⟨Nat.le_of_ble_eq_true rfl, Nat.le_of_ble_eq_true rfl⟩) hK hDD hA0 hP hS 0 12 wm0 rfl rfl hl.1 (Nat.le_of_ble_eq_true rfl) (dk_at dkX12_others_2 8 rfl) (fun A28 H locs hw29 hP hS => ?_)
              have ghw29 : q_X12_barring A A28 := hw29
              obtain ⟨_, hI, hf30, hw29⟩ := hw29
              obtain ⟨hc31, hw29⟩ := hw29
              have r_A28_0_4 : (0 : Int) ≤ (A28 0 4) ∧ (A28 0 4) ≤ 1600 := hI 0 4
              have r_A28_0_8 : (0 : Int) ≤ (A28 0 8) ∧ (A28 0 8) ≤ 5 := hI 0 8
              refine lv_goto (tgt := 111) hx hb (dk_at dkX12_others_2 9 rfl) (by decide) ?_
              have r_A28_0_5 : (0 : Int) ≤ (A28 0 5) ∧ (A28 0 5) ≤ 1600 := hI 0 5
              exact RET _ _ _ _ _ ⟨(u_r_X12_others ⟨z1, ghw3, (Or.inl ⟨c4, ⟨z5, ghw7, (Or.inl ⟨c8, ⟨z9, ghw11, (Or.inl ⟨c12, ⟨z13, ghw15, (Or.inl ⟨c16, ⟨z17, ghw19, (Or.inl ⟨c20, ⟨z21, ghw23, (Or.inr ⟨c24, ⟨A28, ghw29, rfl⟩⟩)⟩⟩)⟩⟩)⟩⟩)⟩⟩)⟩⟩)⟩), hI, fr.trans (fr.rf) hf30 rfl rfl, hc31, (WI.fr hcWI hf30 rfl rfl), Hd.mk (fun h0 => by have g := hw29.out (by omega); exact ⟨g.1, by have := g.2; omega⟩)⟩ hP hS (dk_at dkX12_others_2 15 rfl)
          · have c20 : ¬ z17 = 0 := mt (i_eq0 (rb rz17 (by decide) (by decide))).mpr c20
            have hw19b := hw19.out.mp (by omega)
            refine lv_aload_n hx hb (dk_at dkX12_others_2 0 rfl) rfl (lv_at hl 0 rfl) ?_
            have r_A_0_4 : (0 : Int) ≤ (A 0 4) ∧ (A 0 4) ≤ 1600 := hI 0 4
            have r_A_0_5 : (0 : Int) ≤ (A 0 5) ∧ (A 0 5) ≤ 1600 := hI 0 5
            refine x_callv (As := []) (rest := []) ⟨hx, hb, hml, hown, hts⟩ (mb_X12_mustBe l dC dI cB cI cJ cZ cQ q _ hI hp0) (cwV 0 hts (goodV (wl_in_4 _ (List.mem_of_getElem? (i := 4) rfl)) (wl_in_4 _ (List.mem_of_getElem? (i := 5) rfl)) (wl_in_4 _ (List.mem_of_getElem? (i := 6) rfl)) (wl_in_0 _ (List.mem_of_getElem? (i := 8) rfl)) (wl_in_3 _ (List.mem_of_getElem? (i := 19) rfl))) rfl rfl rfl (by decide +kernel) ⟨Nat.le_of_ble_eq_true rfl, Nat.le_of_ble_eq_true rfl⟩) hK hDD hA0 hP hS 0 12 wm0 rfl rfl hl.1 (Nat.le_of_ble_eq_true rfl) (dk_at dkX12_others_2 1 rfl) (fun A32 H locs hw33 hP hS => ?_)
            have ghw33 : q_X12_mustBe A A32 := hw33
            obtain ⟨_, hI, hf34, hw33⟩ := hw33
            obtain ⟨hc35, hw33⟩ := hw33
            have r_A32_0_4 : (0 : Int) ≤ (A32 0 4) ∧ (A32 0 4) ≤ 1600 := hI 0 4
            have r_A32_0_8 : (0 : Int) ≤ (A32 0 8) ∧ (A32 0 8) ≤ 5 := hI 0 8
            refine lv_goto (tgt := 111) hx hb (dk_at dkX12_others_2 2 rfl) (by decide) ?_
            have r_A32_0_5 : (0 : Int) ≤ (A32 0 5) ∧ (A32 0 5) ≤ 1600 := hI 0 5
            exact RET _ _ _ _ _ ⟨(u_r_X12_others ⟨z1, ghw3, (Or.inl ⟨c4, ⟨z5, ghw7, (Or.inl ⟨c8, ⟨z9, ghw11, (Or.inl ⟨c12, ⟨z13, ghw15, (Or.inl ⟨c16, ⟨z17, ghw19, (Or.inr ⟨c20, ⟨A32, ghw33, rfl⟩⟩)⟩⟩)⟩⟩)⟩⟩)⟩⟩)⟩), hI, fr.trans (fr.rf) hf34 rfl rfl, (CI.fr hcCI hf34 rfl rfl), (WI.fr hcWI hf34 rfl rfl), Hd.mk (fun h0 => ⟨hc35, by omega⟩)⟩ hP hS (dk_at dkX12_others_2 15 rfl)
        · have c16 : ¬ z13 = 0 := mt (i_eq0 (rb rz13 (by decide) (by decide))).mpr c16
          have hw15b := hw15.out.mp (by omega)
          refine lv_aload_n hx hb (dk_at dkX12_others_1 9 rfl) rfl (lv_at hl 0 rfl) ?_
          have r_A_0_4 : (0 : Int) ≤ (A 0 4) ∧ (A 0 4) ≤ 1600 := hI 0 4
          have r_A_0_5 : (0 : Int) ≤ (A 0 5) ∧ (A 0 5) ≤ 1600 := hI 0 5
          refine x_callv (As := []) (rest := []) ⟨hx, hb, hml, hown, hts⟩ (mb_X12_wanting l dC dI cB cI cJ cZ cQ q _ hI hp0 hcWI) (cwV 0 hts (goodV (wl_in_4 _ (List.mem_of_getElem? (i := 1) rfl)) (wl_in_4 _ (List.mem_of_getElem? (i := 2) rfl)) (wl_in_4 _ (List.mem_of_getElem? (i := 3) rfl)) (wl_in_0 _ (List.mem_of_getElem? (i := 8) rfl)) (wl_in_3 _ (List.mem_of_getElem? (i := 15) rfl))) rfl rfl rfl (by decide +kernel) ⟨Nat.le_of_ble_eq_true rfl, Nat.le_of_ble_eq_true rfl⟩) hK hDD hA0 hP hS 0 12 wm0 rfl rfl hl.1 (Nat.le_of_ble_eq_true rfl) (dk_at dkX12_others_1 10 rfl) (fun A36 H locs hw37 hP hS => ?_)
          have ghw37 : q_X12_wanting A A36 := hw37
          obtain ⟨_, hI, hf38, hw37⟩ := hw37
          obtain ⟨hc39, hw37⟩ := hw37
          obtain ⟨hc40, hw37⟩ := hw37
          have r_A36_0_4 : (0 : Int) ≤ (A36 0 4) ∧ (A36 0 4) ≤ 1600 := hI 0 4
          have r_A36_0_8 : (0 : Int) ≤ (A36 0 8) ∧ (A36 0 8) ≤ 5 := hI 0 8
          refine lv_goto (tgt := 111) hx hb (dk_at dkX12_others_1 11 rfl) (by decide) ?_
          have r_A36_0_5 : (0 : Int) ≤ (A36 0 5) ∧ (A36 0 5) ≤ 1600 := hI 0 5
          exact RET _ _ _ _ _ ⟨(u_r_X12_others ⟨z1, ghw3, (Or.inl ⟨c4, ⟨z5, ghw7, (Or.inl ⟨c8, ⟨z9, ghw11, (Or.inl ⟨c12, ⟨z13, ghw15, (Or.inr ⟨c16, ⟨A36, ghw37, rfl⟩⟩)⟩⟩)⟩⟩)⟩⟩)⟩), hI, fr.trans (fr.rf) hf38 rfl rfl, (CI.fr hcCI hf38 rfl rfl), hc40, Hd.mk (fun h0 => ⟨hc39, by omega⟩)⟩ hP hS (dk_at dkX12_others_2 15 rfl)
      · have c12 : ¬ z9 = 0 := mt (i_eq0 (rb rz9 (by decide) (by decide))).mpr c12
        have hw11b := hw11.out.mp (by omega)
        refine lv_aload_n hx hb (dk_at dkX12_others_1 2 rfl) rfl (lv_at hl 0 rfl) ?_
        have r_A_0_4 : (0 : Int) ≤ (A 0 4) ∧ (A 0 4) ≤ 1600 := hI 0 4
        have r_A_0_5 : (0 : Int) ≤ (A 0 5) ∧ (A 0 5) ≤ 1600 := hI 0 5
        refine x_callv (As := []) (rest := []) ⟨hx, hb, hml, hown, hts⟩ (mb_X12_thing l dC dI cB cI cJ cZ cQ q _ hI hp0) (cwV 0 hts (goodV (wl_in_3 _ (List.mem_of_getElem? (i := 58) rfl)) (wl_in_3 _ (List.mem_of_getElem? (i := 59) rfl)) (wl_in_4 _ (List.mem_of_getElem? (i := 0) rfl)) (wl_in_0 _ (List.mem_of_getElem? (i := 8) rfl)) (wl_in_3 _ (List.mem_of_getElem? (i := 13) rfl))) rfl rfl rfl (by decide +kernel) ⟨Nat.le_of_ble_eq_true rfl, Nat.le_of_ble_eq_true rfl⟩) hK hDD hA0 hP hS 0 12 wm0 rfl rfl hl.1 (Nat.le_of_ble_eq_true rfl) (dk_at dkX12_others_1 3 rfl) (fun A41 H locs hw42 hP hS => ?_)
        have ghw42 : q_X12_thing A A41 := hw42
        obtain ⟨_, hI, hf43, hw42⟩ := hw42
        obtain ⟨hc44, hw42⟩ := hw42
        have r_A41_0_4 : (0 : Int) ≤ (A41 0 4) ∧ (A41 0 4) ≤ 1600 := hI 0 4
        have r_A41_0_8 : (0 : Int) ≤ (A41 0 8) ∧ (A41 0 8) ≤ 5 := hI 0 8
        refine lv_goto (tgt := 111) hx hb (dk_at dkX12_others_1 4 rfl) (by decide) ?_
        have r_A41_0_5 : (0 : Int) ≤ (A41 0 5) ∧ (A41 0 5) ≤ 1600 := hI 0 5
        exact RET _ _ _ _ _ ⟨(u_r_X12_others ⟨z1, ghw3, (Or.inl ⟨c4, ⟨z5, ghw7, (Or.inl ⟨c8, ⟨z9, ghw11, (Or.inr ⟨c12, ⟨A41, ghw42, rfl⟩⟩)⟩⟩)⟩⟩)⟩), hI, fr.trans (fr.rf) hf43 rfl rfl, (CI.fr hcCI hf43 rfl rfl), (WI.fr hcWI hf43 rfl rfl), Hd.mk (fun h0 => ⟨hc44, by omega⟩)⟩ hP hS (dk_at dkX12_others_2 15 rfl)
    · have c8 : ¬ z5 = 0 := mt (i_eq0 (rb rz5 (by decide) (by decide))).mpr c8
      have hw7b := hw7.out.mp (by omega)
      refine lv_aload_n hx hb (dk_at dkX12_others_0 11 rfl) rfl (lv_at hl 0 rfl) ?_
      have r_A_0_4 : (0 : Int) ≤ (A 0 4) ∧ (A 0 4) ≤ 1600 := hI 0 4
      have r_A_0_5 : (0 : Int) ≤ (A 0 5) ∧ (A 0 5) ≤ 1600 := hI 0 5
      refine x_callv (As := []) (rest := []) ⟨hx, hb, hml, hown, hts⟩ (mb_X12_losing l dC dI cB cI cJ cZ cQ q _ hI hp0) (cwV 0 hts (goodV (wl_in_3 _ (List.mem_of_getElem? (i := 55) rfl)) (wl_in_3 _ (List.mem_of_getElem? (i := 56) rfl)) (wl_in_3 _ (List.mem_of_getElem? (i := 57) rfl)) (wl_in_0 _ (List.mem_of_getElem? (i := 8) rfl)) (wl_in_3 _ (List.mem_of_getElem? (i := 12) rfl))) rfl rfl rfl (by decide +kernel) ⟨Nat.le_of_ble_eq_true rfl, Nat.le_of_ble_eq_true rfl⟩) hK hDD hA0 hP hS 0 12 wm0 rfl rfl hl.1 (Nat.le_of_ble_eq_true rfl) (dk_at dkX12_others_0 12 rfl) (fun A45 H locs hw46 hP hS => ?_)
      have ghw46 : q_X12_losing A A45 := hw46
      obtain ⟨_, hI, hf47, hw46⟩ := hw46
      obtain ⟨hc48, hw46⟩ := hw46
      have r_A45_0_4 : (0 : Int) ≤ (A45 0 4) ∧ (A45 0 4) ≤ 1600 := hI 0 4
      have r_A45_0_8 : (0 : Int) ≤ (A45 0 8) ∧ (A45 0 8) ≤ 5 := hI 0 8
      refine lv_goto (tgt := 111) hx hb (dk_at dkX12_others_0 13 rfl) (by decide) ?_
      have r_A45_0_5 : (0 : Int) ≤ (A45 0 5) ∧ (A45 0 5) ≤ 1600 := hI 0 5
      exact RET _ _ _ _ _ ⟨(u_r_X12_others ⟨z1, ghw3, (Or.inl ⟨c4, ⟨z5, ghw7, (Or.inr ⟨c8, ⟨A45, ghw46, rfl⟩⟩)⟩⟩)⟩), hI, fr.trans (fr.rf) hf47 rfl rfl, (CI.fr hcCI hf47 rfl rfl), (WI.fr hcWI hf47 rfl rfl), Hd.mk (fun h0 => ⟨hc48, by omega⟩)⟩ hP hS (dk_at dkX12_others_2 15 rfl)
  · have c4 : ¬ z1 = 0 := mt (i_eq0 (rb rz1 (by decide) (by decide))).mpr c4
    have hw3b := hw3.out.mp (by omega)
    refine lv_aload_n hx hb (dk_at dkX12_others_0 4 rfl) rfl (lv_at hl 0 rfl) ?_
    have r_A_0_4 : (0 : Int) ≤ (A 0 4) ∧ (A 0 4) ≤ 1600 := hI 0 4
    have r_A_0_5 : (0 : Int) ≤ (A 0 5) ∧ (A 0 5) ≤ 1600 := hI 0 5
    refine x_callv (As := []) (rest := []) ⟨hx, hb, hml, hown, hts⟩ (mb_X12_shutting l dC dI cB cI cJ cZ cQ q _ hI hp0) (cwV 0 hts (goodV (wl_in_3 _ (List.mem_of_getElem? (i := 52) rfl)) (wl_in_3 _ (List.mem_of_getElem? (i := 53) rfl)) (wl_in_3 _ (List.mem_of_getElem? (i := 54) rfl)) (wl_in_0 _ (List.mem_of_getElem? (i := 8) rfl)) (wl_in_3 _ (List.mem_of_getElem? (i := 8) rfl))) rfl rfl rfl (by decide +kernel) ⟨Nat.le_of_ble_eq_true rfl, Nat.le_of_ble_eq_true rfl⟩) hK hDD hA0 hP hS 0 12 wm0 rfl rfl hl.1 (Nat.le_of_ble_eq_true rfl) (dk_at dkX12_others_0 5 rfl) (fun A49 H locs hw50 hP hS => ?_)
    have ghw50 : q_X12_shutting A A49 := hw50
    obtain ⟨_, hI, hf51, hw50⟩ := hw50
    obtain ⟨hc52, hw50⟩ := hw50
    have r_A49_0_4 : (0 : Int) ≤ (A49 0 4) ∧ (A49 0 4) ≤ 1600 := hI 0 4
    have r_A49_0_8 : (0 : Int) ≤ (A49 0 8) ∧ (A49 0 8) ≤ 5 := hI 0 8
    refine lv_goto (tgt := 111) hx hb (dk_at dkX12_others_0 6 rfl) (by decide) ?_
    have r_A49_0_5 : (0 : Int) ≤ (A49 0 5) ∧ (A49 0 5) ≤ 1600 := hI 0 5
    exact RET _ _ _ _ _ ⟨(u_r_X12_others ⟨z1, ghw3, (Or.inr ⟨c4, ⟨A49, ghw50, rfl⟩⟩)⟩), hI, fr.trans (fr.rf) hf51 rfl rfl, (CI.fr hcCI hf51 rfl rfl), (WI.fr hcWI hf51 rfl rfl), Hd.mk (fun h0 => ⟨hc52, by omega⟩)⟩ hP hS (dk_at dkX12_others_2 15 rfl)

abbrev tr_d_X12_statement_1 (u : St) (A56 : St) : Prop := ((IM A56) ∧ (((¬ (A56 0 8) = 0) ∧ (u = A56)) ∨ (((A56 0 8) = 0) ∧ (∃ A62 : St, q_X12_must 59 A56 A62 ∧ (u = A62)))))
def d_X12_statement_1 (u : St) (A56 : St) : Prop := tr_d_X12_statement_1 u A56
theorem u_d_X12_statement_1 {u : St} {A56 : St} (h : tr_d_X12_statement_1 u A56) : d_X12_statement_1 u A56 := h
abbrev tr_r_X12_statement (A : St) (u : St) : Prop := (∃ z1 : Int, q_X12_isWord 482854658917 A z1 ∧ (((z1 = 0) ∧ (∃ z6 : Int, q_X12_isWord 1685024626 A z6 ∧ (((z6 = 0) ∧ (∃ z10 : Int, q_X12_isWord 6451064 A z10 ∧ (((z10 = 0) ∧ (∃ z14 : Int, q_X12_isWord 7038329 A z14 ∧ (((z14 = 0) ∧ (∃ z18 : Int, q_X12_isWord 123581014175598 A z18 ∧ (((z18 = 0) ∧ (∃ z22 : Int, q_X12_isWord 6840691 A z22 ∧ (((z22 = 0) ∧ (∃ A26 : St, q_X12_others A A26 ∧ (d_X12_statement_1 u A26))) ∨ ((¬ z22 = 0) ∧ (∃ A31 : St, q_X12_having A A31 ∧ (d_X12_statement_1 u A31)))))) ∨ ((¬ z18 = 0) ∧ (∃ A35 : St, q_X12_person A A35 ∧ (d_X12_statement_1 u A35)))))) ∨ ((¬ z14 = 0) ∧ (∃ A39 : St, q_X12_key A A39 ∧ (d_X12_statement_1 u A39)))))) ∨ ((¬ z10 = 0) ∧ (∃ A43 : St, q_X12_door 1 A A43 ∧ (d_X12_statement_1 u A43)))))) ∨ ((¬ z6 = 0) ∧ (∃ A47 : St, q_X12_door 0 A A47 ∧ (d_X12_statement_1 u A47)))))) ∨ ((¬ z1 = 0) ∧ (∃ A51 : St, q_X12_place A A51 ∧ (d_X12_statement_1 u A51)))))
def r_X12_statement (A : St) (u : St) : Prop := tr_r_X12_statement A u
theorem u_r_X12_statement {A : St} {u : St} (h : tr_r_X12_statement A u) : r_X12_statement A u := h
def q_X12_statement (A : St) (u : St) : Prop := r_X12_statement A u ∧ IM u ∧ fr [2, 3, 4, 5, 6, 7, 8, 9, 10, 11, 12, 13, 14, 15, 16, 17, 18, 19, 20, 21, 22, 23, 24, 25, 26, 27, 28, 29, 30, 31, 32, 33, 34, 35, 36, 37, 38, 39, 40] [3, 4, 5, 6, 7, 8, 9, 46, 53, 54, 56, 57] A u ∧ CI u ∧ WI u ∧ (Hd (u 0 8 = 0 → CB u ∧ A 0 5 ≤ u 0 4))
def ws_mb_X12_statement : List Cond := .code yX12_statement cX12_statement 1 none :: WX
set_option maxHeartbeats 4000000 in
set_option maxRecDepth 100000 in
theorem mb_X12_statement (l : Launch) (dC : Nat → ClassId) (dI : Nat → Nat → Nat) (cB cI cJ cZ cQ : ClassId) (q : Nat → Nat) (A : St) (hI : IM A) (hp0 : CB A) (hcCI : CI A) (hcWI : WI A) : XMv l yX12_statement ws_mb_X12_statement ({ frames := 7, cells := 0, slots := 0, locals := 155 } : Room) (dC, dI) (tyA cB cI cJ cZ cQ) (WM cI cJ cZ q) A [.ref (q 0)] (fun u => r_X12_statement A u ∧ IM u ∧ fr [2, 3, 4, 5, 6, 7, 8, 9, 10, 11, 12, 13, 14, 15, 16, 17, 18, 19, 20, 21, 22, 23, 24, 25, 26, 27, 28, 29, 30, 31, 32, 33, 34, 35, 36, 37, 38, 39, 40] [3, 4, 5, 6, 7, 8, 9, 46, 53, 54, 56, 57] A u ∧ CI u ∧ WI u ∧ (Hd (u 0 8 = 0 → CB u ∧ A 0 5 ≤ u 0 4))) := by
  refine x_metv (cc := cX12_statement) (maxL := 1) WM_adr (by decide +kernel) rfl (Nat.le_of_ble_eq_true rfl) (fun p e s m below meth c Q AS ls hx hb hml hown hts hK hDD hA0 hP hS hl RET => ?_)
  have hown : s.vm.findClass RX12 = some m.cls := hown
  have hl : lv_has ls 1 [(0, .ref (q 0))] := hl
  have hiX12 : ∀ w ∈ u_ws RX12 TX12 85, w ∈ ws_mb_X12_statement := fun w h => List.mem_cons_of_mem _ (wx_lay w h)
  obtain ⟨H, hHe⟩ : ∃ H : Heap, H = s.heap := ⟨_, rfl⟩
  rw [← hHe] at hP
  have hS : va_S AS s.heap H [] := by rw [hHe]; exact hS
  suffices hgo : ∀ locs : List Loc, va_S AS s.heap H locs → W p l e (headSpec ws_mb_X12_statement ({ frames := 7, cells := 0, slots := 0, locals := 155 } : Room)).room s m [.ref (q 0)].toArray below meth c H locs 0 0 Q (F0 m 0 ls []) by
    have := hgo [] hS
    rw [hHe] at this
    exact this
  clear hS hHe
  intro locs hS
  have hle := CB.le hp0
  refine lv_aload_n hx hb (dk_at dkX12_statement_0 0 rfl) rfl (lv_at hl 0 rfl) ?_
  refine lv_ldc2 (v := 482854658917) hx hb hown (hts _ (List.mem_cons_of_mem _ (wl_in_0 _ (List.mem_of_getElem? (i := 44) rfl)))) (dk_at dkX12_statement_0 1 rfl) ?_
  refine tp_l (y := jI 482854658917) (by decide +kernel) ?_
  have r_A_0_3 : (0 : Int) ≤ (A 0 3) ∧ (A 0 3) ≤ 3 := hI 0 3
  have r_A_0_7 : (-9223372036854775808 : Int) ≤ (A 0 7) ∧ (A 0 7) ≤ 9223372036854775807 := hI 0 7
  refine x_calli (As := [.long (jI 482854658917)]) (rest := []) ⟨hx, hb, hml, hown, hts⟩ (mb_X12_isWord l dC dI cB cI cJ cZ cQ q _ 482854658917 hI ⟨by decide, by decide⟩) (cwV 1 hts (goodV (wl_in_1 _ (List.mem_of_getElem? (i := 59) rfl)) (wl_in_2 _ (List.mem_of_getElem? (i := 0) rfl)) (wl_in_2 _ (List.mem_of_getElem? (i := 1) rfl)) (wl_in_0 _ (List.mem_of_getElem? (i := 8) rfl)) (wl_in_0 _ (List.mem_of_getElem? (i := 35) rfl))) rfl rfl rfl (by decide +kernel) ⟨Nat.le_of_ble_eq_true rfl, Nat.le_of_ble_eq_true rfl⟩) hK hDD hA0 hP hS 0 12 wm0 rfl rfl hl.1 (Nat.le_of_ble_eq_true rfl) (dk_at dkX12_statement_0 2 rfl) (fun z1 A2 H locs hw3 hP hS => ?_)
  obtain ⟨rfl, hw3⟩ := hw3
  have ghw3 : q_X12_isWord 482854658917 A z1 := hw3
  have hw3 := hw3.2
  have rz1 : 0 ≤ z1 ∧ z1 ≤ 1 := hw3.1
  replace hw3 := Hd.mk hw3.2
  have J108_5 : ∀ (A56 : St) (H : Heap) (locs : List Loc) (ls : Array Slot), (Hd ((A56 0 8) = 0 → CB A56 ∧ A 0 5 ≤ (A56 0 4))) → (CI A56) → (WI A56) → (∀ (u : St), (d_X12_statement_1 u A56) → r_X12_statement A u) → IM A56 → fr [2, 3, 4, 5, 6, 7, 8, 9, 10, 11, 12, 13, 14, 15, 16, 17, 18, 19, 20, 21, 22, 23, 24, 25, 26, 27, 28, 29, 30, 31, 32, 33, 34, 35, 36, 37, 38, 39, 40] [3, 4, 5, 6, 7, 8, 9, 46, 53, 54, 56, 57] A A56 → va_P (dC, dI) vwCl (WM cI cJ cZ q A56) H → va_S AS s.heap H locs → lv_has ls 1 [(0, .ref (q 0))] → W p l e (headSpec ws_mb_X12_statement ({ frames := 7, cells := 0, slots := 0, locals := 155 } : Room)).room s m [.ref (q 0)].toArray below meth c H locs 0 0 Q (F0 m 108 ls []) := by
    intro A56 H locs ls f57 hc58 hc59 hk1 hI hj55 hP hS hl
    have gI60 : Hd (IM A56) := Hd.mk hI
    refine lv_aload_n hx hb (dk_at dkX12_statement_2 14 rfl) rfl (lv_at hl 0 rfl) ?_
    refine va_get (D := (dC, dI)) (ci := 12) (v := .int (iI (A56 0 8))) (C := RX12) (T := TX12) (N := 85) hx hb hts hiX12 hown hK hP 0 wm0 rfl 8 (by decide) (hts _ (List.mem_cons_of_mem _ (wl_in_0 _ (List.mem_of_getElem? (i := 16) rfl)))) (fun _ h9 => h9) rfl (dk_at dkX12_statement_2 15 rfl) ?_
    have r_A56_0_8 : (0 : Int) ≤ (A56 0 8) ∧ (A56 0 8) ≤ 5 := hI 0 8
    refine lv_if_ne (tgt := 121) hx hb (dk_at dkX12_statement_3 0 rfl) (by decide) (fun c61 => ?_) (fun c61 => ?_)
    · have c61 : ¬ (A56 0 8) = 0 := mt (i_eq0 (rb r_A56_0_8 (by decide) (by decide))).mpr c61
      have r_A56_0_4 : (0 : Int) ≤ (A56 0 4) ∧ (A56 0 4) ≤ 1600 := hI 0 4
      have r_A56_0_5 : (0 : Int) ≤ (A56 0 5) ∧ (A56 0 5) ≤ 1600 := hI 0 5
      exact RET _ _ _ _ _ ⟨hk1 _ (u_d_X12_statement_1 ⟨gI60.out, (Or.inl ⟨c61, rfl⟩)⟩), hI, fr.trans (fr.rf) hj55 rfl rfl, hc58, hc59, Hd.mk (fun h => absurd h (by omega))⟩ hP hS (dk_at dkX12_statement_3 4 rfl)
    · have c61 : (A56 0 8) = 0 := (i_eq0 (rb r_A56_0_8 (by decide) (by decide))).mp c61
      have gst := f57.out (by omega)
      refine lv_aload_n hx hb (dk_at dkX12_statement_3 1 rfl) rfl (lv_at hl 0 rfl) ?_
      refine lv_bipush (v := iI 59) hx hb (dk_at dkX12_statement_3 2 rfl) (by decide +kernel) ?_
      have r_A56_0_4 : (0 : Int) ≤ (A56 0 4) ∧ (A56 0 4) ≤ 1600 := hI 0 4
      refine x_callv (As := [.int (iI 59)]) (rest := []) ⟨hx, hb, hml, hown, hts⟩ (mb_X12_must l dC dI cB cI cJ cZ cQ q _ 59 hI ⟨by decide, by decide⟩ gst.1) (cwV 1 hts (goodV (wl_in_4 _ (List.mem_of_getElem? (i := 10) rfl)) (wl_in_4 _ (List.mem_of_getElem? (i := 11) rfl)) (wl_in_4 _ (List.mem_of_getElem? (i := 12) rfl)) (wl_in_0 _ (List.mem_of_getElem? (i := 8) rfl)) (wl_in_0 _ (List.mem_of_getElem? (i := 36) rfl))) rfl rfl rfl (by decide +kernel) ⟨Nat.le_of_ble_eq_true rfl, Nat.le_of_ble_eq_true rfl⟩) hK hDD hA0 hP hS 0 12 wm0 rfl rfl hl.1 (Nat.le_of_ble_eq_true rfl) (dk_at dkX12_statement_3 3 rfl) (fun A62 H locs hw63 hP hS => ?_)
      have ghw63 : q_X12_must 59 A56 A62 := hw63
      obtain ⟨_, hI, hf64, hw63⟩ := hw63
      obtain ⟨hc65, hw63⟩ := hw63
      have r_A62_0_4 : (0 : Int) ≤ (A62 0 4) ∧ (A62 0 4) ≤ 1600 := hI 0 4
      have r_A62_0_5 : (0 : Int) ≤ (A62 0 5) ∧ (A62 0 5) ≤ 1600 := hI 0 5
      have r_A62_0_8 : (0 : Int) ≤ (A62 0 8) ∧ (A62 0 8) ≤ 5 := hI 0 8
      exact RET _ _ _ _ _ ⟨hk1 _ (u_d_X12_statement_1 ⟨gI60.out, (Or.inr ⟨c61, ⟨A62, ghw63, rfl⟩⟩)⟩), hI, fr.trans (fr.trans (fr.rf) hj55 rfl rfl) hf64 rfl rfl, (CI.fr hc58 hf64 rfl rfl), (WI.fr hc59 hf64 rfl rfl), Hd.mk (fun h0 => ⟨hc65, by have := gst.2; omega⟩)⟩ hP hS (dk_at dkX12_statement_3 4 rfl)
  refine lv_if_eq (tgt := 17) hx hb (dk_at dkX12_statement_0 3 rfl) (by decide) (fun c4 => ?_) (fun c4 => ?_)
  · have c4 : z1 = 0 := (i_eq0 (rb rz1 (by decide) (by decide))).mp c4
    refine lv_aload_n hx hb (dk_at dkX12_statement_0 7 rfl) rfl (lv_at hl 0 rfl) ?_
    refine lv_ldc2 (v := 1685024626) hx hb hown (hts _ (List.mem_cons_of_mem _ (wl_in_0 _ (List.mem_of_getElem? (i := 45) rfl)))) (dk_at dkX12_statement_0 8 rfl) ?_
    refine tp_l (y := jI 1685024626) (by decide +kernel) ?_
    refine x_calli (As := [.long (jI 1685024626)]) (rest := []) ⟨hx, hb, hml, hown, hts⟩ (mb_X12_isWord l dC dI cB cI cJ cZ cQ q _ 1685024626 hI ⟨by decide, by decide⟩) (cwV 1 hts (goodV (wl_in_1 _ (List.mem_of_getElem? (i := 59) rfl)) (wl_in_2 _ (List.mem_of_getElem? (i := 0) rfl)) (wl_in_2 _ (List.mem_of_getElem? (i := 1) rfl)) (wl_in_0 _ (List.mem_of_getElem? (i := 8) rfl)) (wl_in_0 _ (List.mem_of_getElem? (i := 35) rfl))) rfl rfl rfl (by decide +kernel) ⟨Nat.le_of_ble_eq_true rfl, Nat.le_of_ble_eq_true rfl⟩) hK hDD hA0 hP hS 0 12 wm0 rfl rfl hl.1 (Nat.le_of_ble_eq_true rfl) (dk_at dkX12_statement_0 9 rfl) (fun z6 A7 H locs hw8 hP hS => ?_)
    obtain ⟨rfl, hw8⟩ := hw8
    have ghw8 : q_X12_isWord 1685024626 A z6 := hw8
    have hw8 := hw8.2
    have rz6 : 0 ≤ z6 ∧ z6 ≤ 1 := hw8.1
    replace hw8 := Hd.mk hw8.2
    refine lv_if_eq (tgt := 35) hx hb (dk_at dkX12_statement_0 10 rfl) (by decide) (fun c9 => ?_) (fun c9 => ?_)
    · have c9 : z6 = 0 := (i_eq0 (rb rz6 (by decide) (by decide))).mp c9
      refine lv_aload_n hx hb (dk_at dkX12_statement_0 15 rfl) rfl (lv_at hl 0 rfl) ?_
      refine lv_ldc2 (v := 6451064) hx hb hown (hts _ (List.mem_cons_of_mem _ (wl_in_0 _ (List.mem_of_getElem? (i := 46) rfl)))) (dk_at dkX12_statement_1 0 rfl) ?_
      refine tp_l (y := jI 6451064) (by decide +kernel) ?_
      refine x_calli (As := [.long (jI 6451064)]) (rest := []) ⟨hx, hb, hml, hown, hts⟩ (mb_X12_isWord l dC dI cB cI cJ cZ cQ q _ 6451064 hI ⟨by decide, by decide⟩) (cwV 1 hts (goodV (wl_in_1 _ (List.mem_of_getElem? (i := 59) rfl)) (wl_in_2 _ (List.mem_of_getElem? (i := 0) rfl)) (wl_in_2 _ (List.mem_of_getElem? (i := 1) rfl)) (wl_in_0 _ (List.mem_of_getElem? (i := 8) rfl)) (wl_in_0 _ (List.mem_of_getElem? (i := 35) rfl))) rfl rfl rfl (by decide +kernel) ⟨Nat.le_of_ble_eq_true rfl, Nat.le_of_ble_eq_true rfl⟩) hK hDD hA0 hP hS 0 12 wm0 rfl rfl hl.1 (Nat.le_of_ble_eq_true rfl) (dk_at dkX12_statement_1 1 rfl) (fun z10 A11 H locs hw12 hP hS => ?_)
      obtain ⟨rfl, hw12⟩ := hw12
      have ghw12 : q_X12_isWord 6451064 A z10 := hw12
      have hw12 := hw12.2
      have rz10 : 0 ≤ z10 ∧ z10 ≤ 1 := hw12.1
      replace hw12 := Hd.mk hw12.2
      refine lv_if_eq (tgt := 53) hx hb (dk_at dkX12_statement_1 2 rfl) (by decide) (fun c13 => ?_) (fun c13 => ?_)
      · have c13 : z10 = 0 := (i_eq0 (rb rz10 (by decide) (by decide))).mp c13
        refine lv_aload_n hx hb (dk_at dkX12_statement_1 7 rfl) rfl (lv_at hl 0 rfl) ?_
        refine lv_ldc2 (v := 7038329) hx hb hown (hts _ (List.mem_cons_of_mem _ (wl_in_0 _ (List.mem_of_getElem? (i := 48) rfl)))) (dk_at dkX12_statement_1 8 rfl) ?_
        refine tp_l (y := jI 7038329) (by decide +kernel) ?_
        refine x_calli (As := [.long (jI 7038329)]) (rest := []) ⟨hx, hb, hml, hown, hts⟩ (mb_X12_isWord l dC dI cB cI cJ cZ cQ q _ 7038329 hI ⟨by decide, by decide⟩) (cwV 1 hts (goodV (wl_in_1 _ (List.mem_of_getElem? (i := 59) rfl)) (wl_in_2 _ (List.mem_of_getElem? (i := 0) rfl)) (wl_in_2 _ (List.mem_of_getElem? (i := 1) rfl)) (wl_in_0 _ (List.mem_of_getElem? (i := 8) rfl)) (wl_in_0 _ (List.mem_of_getElem? (i := 35) rfl))) rfl rfl rfl (by decide +kernel) ⟨Nat.le_of_ble_eq_true rfl, Nat.le_of_ble_eq_true rfl⟩) hK hDD hA0 hP hS 0 12 wm0 rfl rfl hl.1 (Nat.le_of_ble_eq_true rfl) (dk_at dkX12_statement_1 9 rfl) (fun z14 A15 H locs hw16 hP hS => ?_)
        obtain ⟨rfl, hw16⟩ := hw16
        have ghw16 : q_X12_isWord 7038329 A z14 := hw16
        have hw16 := hw16.2
        have rz14 : 0 ≤ z14 ∧ z14 ≤ 1 := hw16.1
        replace hw16 := Hd.mk hw16.2
        refine lv_if_eq (tgt := 70) hx hb (dk_at dkX12_statement_1 10 rfl) (by decide) (fun c17 => ?_) (fun c17 => ?_)
        · have c17 : z14 = 0 := (i_eq0 (rb rz14 (by decide) (by decide))).mp c17
          refine lv_aload_n hx hb (dk_at dkX12_statement_1 14 rfl) rfl (lv_at hl 0 rfl) ?_
          refine lv_ldc2 (v := 123581014175598) hx hb hown (hts _ (List.mem_cons_of_mem _ (wl_in_0 _ (List.mem_of_getElem? (i := 50) rfl)))) (dk_at dkX12_statement_1 15 rfl) ?_
          refine tp_l (y := jI 123581014175598) (by decide +kernel) ?_
          refine x_calli (As := [.long (jI 123581014175598)]) (rest := []) ⟨hx, hb, hml, hown, hts⟩ (mb_X12_isWord l dC dI cB cI cJ cZ cQ q _ 123581014175598 hI ⟨by decide, by decide⟩) (cwV 1 hts (goodV (wl_in_1 _ (List.mem_of_getElem? (i := 59) rfl)) (wl_in_2 _ (List.mem_of_getElem? (i := 0) rfl)) (wl_in_2 _ (List.mem_of_getElem? (i := 1) rfl)) (wl_in_0 _ (List.mem_of_getElem? (i := 8) rfl)) (wl_in_0 _ (List.mem_of_getElem? (i := 35) rfl))) rfl rfl rfl (by decide +kernel) ⟨Nat.le_of_ble_eq_true rfl, Nat.le_of_ble_eq_true rfl⟩) hK hDD hA0 hP hS 0 12 wm0 rfl rfl hl.1 (Nat.le_of_ble_eq_true rfl) (dk_at dkX12_statement_2 0 rfl) (fun z18 A19 H locs hw20 hP hS => ?_)
          obtain ⟨rfl, hw20⟩ := hw20
          have ghw20 : q_X12_isWord 123581014175598 A z18 := hw20
          have hw20 := hw20.2
          have rz18 : 0 ≤ z18 ∧ z18 ≤ 1 := hw20.1
          replace hw20 := Hd.mk hw20.2
          refine lv_if_eq (tgt := 87) hx hb (dk_at dkX12_statement_2 1 rfl) (by decide) (fun c21 => ?_) (fun c21 => ?_)
          · have c21 : z18 = 0 := (i_eq0 (rb rz18 (by decide) (by decide))).mp c21
            refine lv_aload_n hx hb (dk_at dkX12_statement_2 5 rfl) rfl (lv_at hl 0 rfl) ?_
            refine lv_ldc2 (v := 6840691) hx hb hown (hts _ (List.mem_cons_of_mem _ (wl_in_0 _ (List.mem_of_getElem? (i := 51) rfl)))) (dk_at dkX12_statement_2 6 rfl) ?_
            refine tp_l (y := jI 6840691) (by decide +kernel) ?_
            refine x_calli (As := [.long (jI 6840691)]) (rest := []) ⟨hx, hb, hml, hown, hts⟩ (mb_X12_isWord l dC dI cB cI cJ cZ cQ q _ 6840691 hI ⟨by decide, by decide⟩) (cwV 1 hts (goodV (wl_in_1 _ (List.mem_of_getElem? (i := 59) rfl)) (wl_in_2 _ (List.mem_of_getElem? (i := 0) rfl)) (wl_in_2 _ (List.mem_of_getElem? (i := 1) rfl)) (wl_in_0 _ (List.mem_of_getElem? (i := 8) rfl)) (wl_in_0 _ (List.mem_of_getElem? (i := 35) rfl))) rfl rfl rfl (by decide +kernel) ⟨Nat.le_of_ble_eq_true rfl, Nat.le_of_ble_eq_true rfl⟩) hK hDD hA0 hP hS 0 12 wm0 rfl rfl hl.1 (Nat.le_of_ble_eq_true rfl) (dk_at dkX12_statement_2 7 rfl) (fun z22 A23 H locs hw24 hP hS => ?_)
            obtain ⟨rfl, hw24⟩ := hw24
            have ghw24 : q_X12_isWord 6840691 A z22 := hw24
            have hw24 := hw24.2
            have rz22 : 0 ≤ z22 ∧ z22 ≤ 1 := hw24.1
            replace hw24 := Hd.mk hw24.2
            refine lv_if_eq (tgt := 104) hx hb (dk_at dkX12_statement_2 8 rfl) (by decide) (fun c25 => ?_) (fun c25 => ?_)
            · have c25 : z22 = 0 := (i_eq0 (rb rz22 (by decide) (by decide))).mp c25
              refine lv_aload_n hx hb (dk_at dkX12_statement_2 12 rfl) rfl (lv_at hl 0 rfl) ?_
              have r_A_0_5 : (0 : Int) ≤ (A 0 5) ∧ (A 0 5) ≤ 1600 := hI 0 5
              refine x_callv (As := []) (rest := []) ⟨hx, hb, hml, hown, hts⟩ (mb_X12_others l dC dI cB cI cJ cZ cQ q _ hI (by exact hp0) hcCI hcWI) (cwV 0 hts (goodV (wl_in_3 _ (List.mem_of_getElem? (i := 48) rfl)) (wl_in_3 _ (List.mem_of_getElem? (i := 49) rfl)) (wl_in_3 _ (List.mem_of_getElem? (i := 50) rfl)) (wl_in_0 _ (List.mem_of_getElem? (i := 8) rfl)) (wl_in_3 _ (List.mem_of_getElem? (i := 51) rfl))) rfl rfl rfl (by decide +kernel) ⟨Nat.le_of_ble_eq_true rfl, Nat.le_of_ble_eq_true rfl⟩) hK hDD hA0 hP hS 0 12 wm0 rfl rfl hl.1 (Nat.le_of_ble_eq_true rfl) (dk_at dkX12_statement_2 13 rfl) (fun A26 H locs hw27 hP hS => ?_)
              have ghw27 : q_X12_others A A26 := hw27
              obtain ⟨_, hI, hf28, hw27⟩ := hw27
              obtain ⟨hc29, hw27⟩ := hw27
              obtain ⟨hc30, hw27⟩ := hw27
              have r_A26_0_4 : (0 : Int) ≤ (A26 0 4) ∧ (A26 0 4) ≤ 1600 := hI 0 4
              have r_A26_0_8 : (0 : Int) ≤ (A26 0 8) ∧ (A26 0 8) ≤ 5 := hI 0 8
              exact J108_5 _ _ _ _ (by exact Hd.mk (fun h0 => by have g := hw27.out (by omega); exact ⟨g.1, by have := g.2; omega⟩)) hc29 hc30 (fun uq hq => (u_r_X12_statement ⟨z1, ghw3, (Or.inl ⟨c4, ⟨z6, ghw8, (Or.inl ⟨c9, ⟨z10, ghw12, (Or.inl ⟨c13, ⟨z14, ghw16, (Or.inl ⟨c17, ⟨z18, ghw20, (Or.inl ⟨c21, ⟨z22, ghw24, (Or.inl ⟨c25, ⟨A26, ghw27, hq⟩⟩)⟩⟩)⟩⟩)⟩⟩)⟩⟩)⟩⟩)⟩)) hI (fr.trans (fr.rf) hf28 rfl rfl) hP hS (lv_sub hl [0] rfl)
            · have c25 : ¬ z22 = 0 := mt (i_eq0 (rb rz22 (by decide) (by decide))).mpr c25
              have hw24b := hw24.out.mp (by omega)
              refine lv_aload_n hx hb (dk_at dkX12_statement_2 9 rfl) rfl (lv_at hl 0 rfl) ?_
              have r_A_0_4 : (0 : Int) ≤ (A 0 4) ∧ (A 0 4) ≤ 1600 := hI 0 4
              have r_A_0_5 : (0 : Int) ≤ (A 0 5) ∧ (A 0 5) ≤ 1600 := hI 0 5
              refine x_callv (As := []) (rest := []) ⟨hx, hb, hml, hown, hts⟩ (mb_X12_having l dC dI cB cI cJ cZ cQ q _ hI hp0) (cwV 0 hts (goodV (wl_in_3 _ (List.mem_of_getElem? (i := 45) rfl)) (wl_in_3 _ (List.mem_of_getElem? (i := 46) rfl)) (wl_in_3 _ (List.mem_of_getElem? (i := 47) rfl)) (wl_in_0 _ (List.mem_of_getElem? (i := 8) rfl)) (wl_in_3 _ (List.mem_of_getElem? (i := 5) rfl))) rfl rfl rfl (by decide +kernel) ⟨Nat.le_of_ble_eq_true rfl, Nat.le_of_ble_eq_true rfl⟩) hK hDD hA0 hP hS 0 12 wm0 rfl rfl hl.1 (Nat.le_of_ble_eq_true rfl) (dk_at dkX12_statement_2 10 rfl) (fun A31 H locs hw32 hP hS => ?_)
              have ghw32 : q_X12_having A A31 := hw32
              obtain ⟨_, hI, hf33, hw32⟩ := hw32
              obtain ⟨hc34, hw32⟩ := hw32
              have r_A31_0_4 : (0 : Int) ≤ (A31 0 4) ∧ (A31 0 4) ≤ 1600 := hI 0 4
              have r_A31_0_8 : (0 : Int) ≤ (A31 0 8) ∧ (A31 0 8) ≤ 5 := hI 0 8
              refine lv_goto (tgt := 108) hx hb (dk_at dkX12_statement_2 11 rfl) (by decide) ?_
              exact J108_5 _ _ _ _ (by exact Hd.mk (fun h0 => ⟨hc34, by omega⟩)) (CI.fr hcCI hf33 rfl rfl) (WI.fr hcWI hf33 rfl rfl) (fun uq hq => (u_r_X12_statement ⟨z1, ghw3, (Or.inl ⟨c4, ⟨z6, ghw8, (Or.inl ⟨c9, ⟨z10, ghw12, (Or.inl ⟨c13, ⟨z14, ghw16, (Or.inl ⟨c17, ⟨z18, ghw20, (Or.inl ⟨c21, ⟨z22, ghw24, (Or.inr ⟨c25, ⟨A31, ghw32, hq⟩⟩)⟩⟩)⟩⟩)⟩⟩)⟩⟩)⟩⟩)⟩)) hI (fr.trans (fr.rf) hf33 rfl rfl) hP hS (lv_sub hl [0] rfl)
          · have c21 : ¬ z18 = 0 := mt (i_eq0 (rb rz18 (by decide) (by decide))).mpr c21
            have hw20b := hw20.out.mp (by omega)
            refine lv_aload_n hx hb (dk_at dkX12_statement_2 2 rfl) rfl (lv_at hl 0 rfl) ?_
            have r_A_0_4 : (0 : Int) ≤ (A 0 4) ∧ (A 0 4) ≤ 1600 := hI 0 4
            have r_A_0_5 : (0 : Int) ≤ (A 0 5) ∧ (A 0 5) ≤ 1600 := hI 0 5
            refine x_callv (As := []) (rest := []) ⟨hx, hb, hml, hown, hts⟩ (mb_X12_person l dC dI cB cI cJ cZ cQ q _ hI hp0) (cwV 0 hts (goodV (wl_in_3 _ (List.mem_of_getElem? (i := 42) rfl)) (wl_in_3 _ (List.mem_of_getElem? (i := 43) rfl)) (wl_in_3 _ (List.mem_of_getElem? (i := 44) rfl)) (wl_in_0 _ (List.mem_of_getElem? (i := 8) rfl)) (wl_in_3 _ (List.mem_of_getElem? (i := 3) rfl))) rfl rfl rfl (by decide +kernel) ⟨Nat.le_of_ble_eq_true rfl, Nat.le_of_ble_eq_true rfl⟩) hK hDD hA0 hP hS 0 12 wm0 rfl rfl hl.1 (Nat.le_of_ble_eq_true rfl) (dk_at dkX12_statement_2 3 rfl) (fun A35 H locs hw36 hP hS => ?_)
            have ghw36 : q_X12_person A A35 := hw36
            obtain ⟨_, hI, hf37, hw36⟩ := hw36
            obtain ⟨hc38, hw36⟩ := hw36
            have r_A35_0_4 : (0 : Int) ≤ (A35 0 4) ∧ (A35 0 4) ≤ 1600 := hI 0 4
            have r_A35_0_8 : (0 : Int) ≤ (A35 0 8) ∧ (A35 0 8) ≤ 5 := hI 0 8
            refine lv_goto (tgt := 108) hx hb (dk_at dkX12_statement_2 4 rfl) (by decide) ?_
            exact J108_5 _ _ _ _ (by exact Hd.mk (fun h0 => ⟨hc38, by omega⟩)) (CI.fr hcCI hf37 rfl rfl) (WI.fr hcWI hf37 rfl rfl) (fun uq hq => (u_r_X12_statement ⟨z1, ghw3, (Or.inl ⟨c4, ⟨z6, ghw8, (Or.inl ⟨c9, ⟨z10, ghw12, (Or.inl ⟨c13, ⟨z14, ghw16, (Or.inl ⟨c17, ⟨z18, ghw20, (Or.inr ⟨c21, ⟨A35, ghw36, hq⟩⟩)⟩⟩)⟩⟩)⟩⟩)⟩⟩)⟩)) hI (fr.trans (fr.rf) hf37 rfl rfl) hP hS (lv_sub hl [0] rfl)
        · have c17 : ¬ z14 = 0 := mt (i_eq0 (rb rz14 (by decide) (by decide))).mpr c17
          have hw16b := hw16.out.mp (by omega)
          refine lv_aload_n hx hb (dk_at dkX12_statement_1 11 rfl) rfl (lv_at hl 0 rfl) ?_
          have r_A_0_4 : (0 : Int) ≤ (A 0 4) ∧ (A 0 4) ≤ 1600 := hI 0 4
          have r_A_0_5 : (0 : Int) ≤ (A 0 5) ∧ (A 0 5) ≤ 1600 := hI 0 5
          refine x_callv (As := []) (rest := []) ⟨hx, hb, hml, hown, hts⟩ (mb_X12_key l dC dI cB cI cJ cZ cQ q _ hI hp0) (cwV 0 hts (goodV (wl_in_3 _ (List.mem_of_getElem? (i := 39) rfl)) (wl_in_3 _ (List.mem_of_getElem? (i := 40) rfl)) (wl_in_3 _ (List.mem_of_getElem? (i := 41) rfl)) (wl_in_0 _ (List.mem_of_getElem? (i := 8) rfl)) (wl_in_2 _ (List.mem_of_getElem? (i := 57) rfl))) rfl rfl rfl (by decide +kernel) ⟨Nat.le_of_ble_eq_true rfl, Nat.le_of_ble_eq_true rfl⟩) hK hDD hA0 hP hS 0 12 wm0 rfl rfl hl.1 (Nat.le_of_ble_eq_true rfl) (dk_at dkX12_statement_1 12 rfl) (fun A39 H locs hw40 hP hS => ?_)
          have ghw40 : q_X12_key A A39 := hw40
          obtain ⟨_, hI, hf41, hw40⟩ := hw40
          obtain ⟨hc42, hw40⟩ := hw40
          have r_A39_0_4 : (0 : Int) ≤ (A39 0 4) ∧ (A39 0 4) ≤ 1600 := hI 0 4
          have r_A39_0_8 : (0 : Int) ≤ (A39 0 8) ∧ (A39 0 8) ≤ 5 := hI 0 8
          refine lv_goto (tgt := 108) hx hb (dk_at dkX12_statement_1 13 rfl) (by decide) ?_
          exact J108_5 _ _ _ _ (by exact Hd.mk (fun h0 => ⟨hc42, by omega⟩)) (CI.fr hcCI hf41 rfl rfl) (WI.fr hcWI hf41 rfl rfl) (fun uq hq => (u_r_X12_statement ⟨z1, ghw3, (Or.inl ⟨c4, ⟨z6, ghw8, (Or.inl ⟨c9, ⟨z10, ghw12, (Or.inl ⟨c13, ⟨z14, ghw16, (Or.inr ⟨c17, ⟨A39, ghw40, hq⟩⟩)⟩⟩)⟩⟩)⟩⟩)⟩)) hI (fr.trans (fr.rf) hf41 rfl rfl) hP hS (lv_sub hl [0] rfl)
      · have c13 : ¬ z10 = 0 := mt (i_eq0 (rb rz10 (by decide) (by decide))).mpr c13
        have hw12b := hw12.out.mp (by omega)
        refine lv_aload_n hx hb (dk_at dkX12_statement_1 3 rfl) rfl (lv_at hl 0 rfl) ?_
        refine lv_iconst (v := iI 1) hx hb (dk_at dkX12_statement_1 4 rfl) (by decide +kernel) ?_
        have r_A_0_4 : (0 : Int) ≤ (A 0 4) ∧ (A 0 4) ≤ 1600 := hI 0 4
        have r_A_0_5 : (0 : Int) ≤ (A 0 5) ∧ (A 0 5) ≤ 1600 := hI 0 5
        refine x_callv (As := [.int (iI 1)]) (rest := []) ⟨hx, hb, hml, hown, hts⟩ (mb_X12_door l dC dI cB cI cJ cZ cQ q _ 1 hI ⟨by decide, by decide⟩ hp0) (cwV 1 hts (goodV (wl_in_3 _ (List.mem_of_getElem? (i := 36) rfl)) (wl_in_3 _ (List.mem_of_getElem? (i := 37) rfl)) (wl_in_3 _ (List.mem_of_getElem? (i := 38) rfl)) (wl_in_0 _ (List.mem_of_getElem? (i := 8) rfl)) (wl_in_2 _ (List.mem_of_getElem? (i := 38) rfl))) rfl rfl rfl (by decide +kernel) ⟨Nat.le_of_ble_eq_true rfl, Nat.le_of_ble_eq_true rfl⟩) hK hDD hA0 hP hS 0 12 wm0 rfl rfl hl.1 (Nat.le_of_ble_eq_true rfl) (dk_at dkX12_statement_1 5 rfl) (fun A43 H locs hw44 hP hS => ?_)
        have ghw44 : q_X12_door 1 A A43 := hw44
        obtain ⟨_, hI, hf45, hw44⟩ := hw44
        obtain ⟨hc46, hw44⟩ := hw44
        have r_A43_0_4 : (0 : Int) ≤ (A43 0 4) ∧ (A43 0 4) ≤ 1600 := hI 0 4
        have r_A43_0_8 : (0 : Int) ≤ (A43 0 8) ∧ (A43 0 8) ≤ 5 := hI 0 8
        refine lv_goto (tgt := 108) hx hb (dk_at dkX12_statement_1 6 rfl) (by decide) ?_
        exact J108_5 _ _ _ _ (by exact Hd.mk (fun h0 => ⟨hc46, by omega⟩)) (CI.fr hcCI hf45 rfl rfl) (WI.fr hcWI hf45 rfl rfl) (fun uq hq => (u_r_X12_statement ⟨z1, ghw3, (Or.inl ⟨c4, ⟨z6, ghw8, (Or.inl ⟨c9, ⟨z10, ghw12, (Or.inr ⟨c13, ⟨A43, ghw44, hq⟩⟩)⟩⟩)⟩⟩)⟩)) hI (fr.trans (fr.rf) hf45 rfl rfl) hP hS (lv_sub hl [0] rfl)
    · have c9 : ¬ z6 = 0 := mt (i_eq0 (rb rz6 (by decide) (by decide))).mpr c9
      have hw8b := hw8.out.mp (by omega)
      refine lv_aload_n hx hb (dk_at dkX12_statement_0 11 rfl) rfl (lv_at hl 0 rfl) ?_
      refine lv_iconst (v := iI 0) hx hb (dk_at dkX12_statement_0 12 rfl) (by decide +kernel) ?_
      have r_A_0_4 : (0 : Int) ≤ (A 0 4) ∧ (A 0 4) ≤ 1600 := hI 0 4
      have r_A_0_5 : (0 : Int) ≤ (A 0 5) ∧ (A 0 5) ≤ 1600 := hI 0 5
      refine x_callv (As := [.int (iI 0)]) (rest := []) ⟨hx, hb, hml, hown, hts⟩ (mb_X12_door l dC dI cB cI cJ cZ cQ q _ 0 hI ⟨by decide, by decide⟩ hp0) (cwV 1 hts (goodV (wl_in_3 _ (List.mem_of_getElem? (i := 36) rfl)) (wl_in_3 _ (List.mem_of_getElem? (i := 37) rfl)) (wl_in_3 _ (List.mem_of_getElem? (i := 38) rfl)) (wl_in_0 _ (List.mem_of_getElem? (i := 8) rfl)) (wl_in_2 _ (List.mem_of_getElem? (i := 38) rfl))) rfl rfl rfl (by decide +kernel) ⟨Nat.le_of_ble_eq_true rfl, Nat.le_of_ble_eq_true rfl⟩) hK hDD hA0 hP hS 0 12 wm0 rfl rfl hl.1 (Nat.le_of_ble_eq_true rfl) (dk_at dkX12_statement_0 13 rfl) (fun A47 H locs hw48 hP hS => ?_)
      have ghw48 : q_X12_door 0 A A47 := hw48
      obtain ⟨_, hI, hf49, hw48⟩ := hw48
      obtain ⟨hc50, hw48⟩ := hw48
      have r_A47_0_4 : (0 : Int) ≤ (A47 0 4) ∧ (A47 0 4) ≤ 1600 := hI 0 4
      have r_A47_0_8 : (0 : Int) ≤ (A47 0 8) ∧ (A47 0 8) ≤ 5 := hI 0 8
      refine lv_goto (tgt := 108) hx hb (dk_at dkX12_statement_0 14 rfl) (by decide) ?_
      exact J108_5 _ _ _ _ (by exact Hd.mk (fun h0 => ⟨hc50, by omega⟩)) (CI.fr hcCI hf49 rfl rfl) (WI.fr hcWI hf49 rfl rfl) (fun uq hq => (u_r_X12_statement ⟨z1, ghw3, (Or.inl ⟨c4, ⟨z6, ghw8, (Or.inr ⟨c9, ⟨A47, ghw48, hq⟩⟩)⟩⟩)⟩)) hI (fr.trans (fr.rf) hf49 rfl rfl) hP hS (lv_sub hl [0] rfl)
  · have c4 : ¬ z1 = 0 := mt (i_eq0 (rb rz1 (by decide) (by decide))).mpr c4
    have hw3b := hw3.out.mp (by omega)
    refine lv_aload_n hx hb (dk_at dkX12_statement_0 4 rfl) rfl (lv_at hl 0 rfl) ?_
    have r_A_0_4 : (0 : Int) ≤ (A 0 4) ∧ (A 0 4) ≤ 1600 := hI 0 4
    have r_A_0_5 : (0 : Int) ≤ (A 0 5) ∧ (A 0 5) ≤ 1600 := hI 0 5
    refine x_callv (As := []) (rest := []) ⟨hx, hb, hml, hown, hts⟩ (mb_X12_place l dC dI cB cI cJ cZ cQ q _ hI hp0) (cwV 0 hts (goodV (wl_in_3 _ (List.mem_of_getElem? (i := 33) rfl)) (wl_in_3 _ (List.mem_of_getElem? (i := 34) rfl)) (wl_in_3 _ (List.mem_of_getElem? (i := 35) rfl)) (wl_in_0 _ (List.mem_of_getElem? (i := 8) rfl)) (wl_in_2 _ (List.mem_of_getElem? (i := 31) rfl))) rfl rfl rfl (by decide +kernel) ⟨Nat.le_of_ble_eq_true rfl, Nat.le_of_ble_eq_true rfl⟩) hK hDD hA0 hP hS 0 12 wm0 rfl rfl hl.1 (Nat.le_of_ble_eq_true rfl) (dk_at dkX12_statement_0 5 rfl) (fun A51 H locs hw52 hP hS => ?_)
    have ghw52 : q_X12_place A A51 := hw52
    obtain ⟨_, hI, hf53, hw52⟩ := hw52
    obtain ⟨hc54, hw52⟩ := hw52
    have r_A51_0_4 : (0 : Int) ≤ (A51 0 4) ∧ (A51 0 4) ≤ 1600 := hI 0 4
    have r_A51_0_8 : (0 : Int) ≤ (A51 0 8) ∧ (A51 0 8) ≤ 5 := hI 0 8
    refine lv_goto (tgt := 108) hx hb (dk_at dkX12_statement_0 6 rfl) (by decide) ?_
    exact J108_5 _ _ _ _ (by exact Hd.mk (fun h0 => ⟨hc54, by omega⟩)) (CI.fr hcCI hf53 rfl rfl) (WI.fr hcWI hf53 rfl rfl) (fun uq hq => (u_r_X12_statement ⟨z1, ghw3, (Or.inr ⟨c4, ⟨A51, ghw52, hq⟩⟩)⟩)) hI (fr.trans (fr.rf) hf53 rfl rfl) hP hS (lv_sub hl [0] rfl)
theorem dkX12_town_0 : dkq cX12_town [(0, .aload_n 0, 1), (1, .aload_n 0, 1), (2, .getfield 13, 3), (5, .putfield 17, 3), (8, .aload_n 0, 1), (9, .iconst 0, 1), (10, .putfield 13, 3), (13, .aload_n 0, 1), (14, .iconst 0, 1), (15, .putfield 26, 3), (18, .aload_n 0, 1), (19, .iconst 0, 1), (20, .putfield 36, 3), (23, .aload_n 0, 1), (24, .iconst (-1), 1), (25, .putfield 39, 3)] = true := by decide +kernel
theorem dkX12_town_1 : dkq cX12_town [(28, .aload_n 0, 1), (29, .iconst 1, 1), (30, .aload_n 0, 1), (31, .getfield 48, 3), (34, .isub, 1), (35, .putfield 155, 3), (38, .aload_n 0, 1), (39, .getfield 51, 3), (42, .aload_n 0, 1), (43, .getfield 155, 3), (46, .iconst 0, 1), (47, .iastore, 1), (48, .aload_n 0, 1), (49, .getfield 58, 3), (52, .aload_n 0, 1), (53, .getfield 155, 3)] = true := by decide +kernel
theorem dkX12_town_2 : dkq cX12_town [(56, .iconst 0, 1), (57, .iastore, 1), (58, .aload_n 0, 1), (59, .getfield 80, 3), (62, .aload_n 0, 1), (63, .getfield 155, 3), (66, .iconst 0, 1), (67, .iastore, 1), (68, .aload_n 0, 1), (69, .getfield 95, 3), (72, .aload_n 0, 1), (73, .getfield 155, 3), (76, .iconst 0, 1), (77, .iastore, 1), (78, .aload_n 0, 1), (79, .getfield 104, 3)] = true := by decide +kernel
theorem dkX12_town_3 : dkq cX12_town [(82, .aload_n 0, 1), (83, .getfield 155, 3), (86, .iconst 0, 1), (87, .iastore, 1), (88, .aload_n 0, 1), (89, .getfield 113, 3), (92, .aload_n 0, 1), (93, .getfield 155, 3), (96, .iconst 0, 1), (97, .iastore, 1), (98, .aload_n 0, 1), (99, .getfield 122, 3), (102, .aload_n 0, 1), (103, .getfield 155, 3), (106, .iconst 0, 1), (107, .iastore, 1)] = true := by decide +kernel
theorem dkX12_town_4 : dkq cX12_town [(108, .aload_n 0, 1), (109, .getfield 134, 3), (112, .aload_n 0, 1), (113, .getfield 155, 3), (116, .iconst 0, 1), (117, .iastore, 1), (118, .aload_n 0, 1), (119, .iconst 0, 1), (120, .putfield 152, 3), (123, .iconst 0, 1), (124, .istore_n 1, 1), (125, .aload_n 0, 1), (126, .invokevirtual 293, 3), (129, .aload_n 0, 1), (130, .getfield 36, 3), (133, .ifCond .ne 20, 3)] = true := by decide +kernel
theorem dkX12_town_5 : dkq cX12_town [(136, .aload_n 0, 1), (137, .getfield 20, 3), (140, .ifCond .eq 13, 3), (143, .aload_n 0, 1), (144, .invokevirtual 465, 3), (147, .iinc 1 1, 3), (150, .goto (-21), 3), (153, .aload_n 0, 1), (154, .aload_n 0, 1), (155, .getfield 36, 3), (158, .putfield 42, 3), (161, .aload_n 0, 1), (162, .aload_n 0, 1), (163, .getfield 39, 3), (166, .putfield 45, 3), (169, .aload_n 0, 1)] = true := by decide +kernel
theorem dkX12_town_6 : dkq cX12_town [(170, .getfield 36, 3), (173, .ifCond .le 9, 3), (176, .aload_n 0, 1), (177, .iconst 1, 1), (178, .invokevirtual 271, 3), (181, .ireturn, 1), (182, .aload_n 0, 1), (183, .aload_n 0, 1), (184, .getfield 155, 3), (187, .putfield 48, 3), (190, .aload_n 0, 1), (191, .iconst 0, 1), (192, .putfield 241, 3), (195, .iload_n 1, 1), (196, .ireturn, 1)] = true := by decide +kernel
abbrev tr_d_X12_town_2 (z5 : Int) (A : St) (A7 : St) (z : Int) (u : St) : Prop := ((((A7 0 8) ≤ 0) ∧ (∃ A27 : St, A27 = (stA (stA (stA (stA A7 0 10 (A7 0 8)) 0 11 (A7 0 9)) 0 12 (-(A 0 12) + 1)) 0 75 0) ∧ (z = z5 ∧ u = A27))) ∨ ((¬ (A7 0 8) ≤ 0) ∧ (∃ A28 : St, A28 = (stA (stA A7 0 10 (A7 0 8)) 0 11 (A7 0 9)) ∧ (∃ z29 : Int, ∃ A30 : St, q_X12_refuses 1 A28 z29 A30 ∧ (z = z29 ∧ u = A30)))))
def d_X12_town_2 (z5 : Int) (A : St) (A7 : St) (z : Int) (u : St) : Prop := tr_d_X12_town_2 z5 A A7 z u
theorem u_d_X12_town_2 {z5 : Int} {A : St} {A7 : St} {z : Int} {u : St} (h : tr_d_X12_town_2 z5 A A7 z u) : d_X12_town_2 z5 A A7 z u := h
abbrev tr_d_X12_town_1 (A : St) (z : Int) (u : St) (K1 : Int → St → Prop) (z5 : Int) (A7 : St) : Prop := ((IM A7) ∧ ((-2147483648 ≤ z5 ∧ z5 ≤ 2147483647) ∧ (((¬ (A7 0 8) = 0) ∧ (d_X12_town_2 z5 A A7 z u)) ∨ (((A7 0 8) = 0) ∧ ((((A7 0 3) = 0) ∧ (d_X12_town_2 z5 A A7 z u)) ∨ ((¬ (A7 0 3) = 0) ∧ (∃ A19 : St, q_X12_statement A7 A19 ∧ (∃ z24 : Int, z24 = oWrap (z5 + 1) ∧ (K1 z24 A19)))))))))
def d_X12_town_1 (A : St) (z : Int) (u : St) : Nat → Int → St → Prop
  | 0, _, _ => False
  | nn9 + 1, z5, A7 => tr_d_X12_town_1 A z u (fun z5 A7 => d_X12_town_1 A z u nn9 z5 A7) z5 A7
theorem u_d_X12_town_1 {A : St} {z : Int} {u : St} {nn9 : Nat} {z5 : Int} {A7 : St} (h : tr_d_X12_town_1 A z u (fun z5 A7 => d_X12_town_1 A z u nn9 z5 A7) z5 A7) : d_X12_town_1 A z u (nn9 + 1) z5 A7 := h
abbrev tr_r_X12_town (A : St) (z : Int) (u : St) : Prop := (∃ A1 : St, A1 = (stA (stA (stA (stA (stA (stA (stA (stA (stA (stA (stA (stA (stA (stA (stA A 0 2 (A 0 1)) 0 1 0) 0 5 0) 0 8 0) 0 9 (-1)) 0 47 (-(A 0 12) + 1)) 2 (-(A 0 12) + 1).toNat 0) 4 (-(A 0 12) + 1).toNat 0) 11 (-(A 0 12) + 1).toNat 0) 16 (-(A 0 12) + 1).toNat 0) 19 (-(A 0 12) + 1).toNat 0) 22 (-(A 0 12) + 1).toNat 0) 25 (-(A 0 12) + 1).toNat 0) 29 (-(A 0 12) + 1).toNat 0) 0 46 0) ∧ (∃ A2 : St, q_X12_ahead A1 A2 ∧ (∃ nn9 : Nat, d_X12_town_1 A z u nn9 0 A2)))
def r_X12_town (A : St) (z : Int) (u : St) : Prop := tr_r_X12_town A z u
theorem u_r_X12_town {A : St} {z : Int} {u : St} (h : tr_r_X12_town A z u) : r_X12_town A z u := h
def q_X12_town (A : St) (z : Int) (u : St) : Prop := r_X12_town A z u ∧ IM u ∧ fr [2, 3, 4, 5, 6, 7, 8, 9, 10, 11, 12, 13, 14, 15, 16, 17, 18, 19, 20, 21, 22, 23, 24, 25, 26, 27, 28, 29, 30, 31, 32, 33, 34, 35, 36, 37, 38, 39, 40, 41] [1, 2, 3, 4, 5, 6, 7, 8, 9, 10, 11, 12, 46, 47, 53, 54, 56, 57, 75] A u ∧ CI u ∧ WI u ∧ ((-2147483648 ≤ z ∧ z ≤ 2147483647) ∧ u 0 1 = 0)
def ws_mb_X12_town : List Cond := .code yX12_town cX12_town 2 (some .int) :: WX
set_option maxHeartbeats 4000000 in
set_option maxRecDepth 100000 in
theorem mb_X12_town (l : Launch) (dC : Nat → ClassId) (dI : Nat → Nat → Nat) (cB cI cJ cZ cQ : ClassId) (q : Nat → Nat) (A : St) (hI : IM A) (hcCI : CI A) (hcWI : WI A) : XMi l yX12_town ws_mb_X12_town ({ frames := 8, cells := 0, slots := 0, locals := 175 } : Room) (dC, dI) (tyA cB cI cJ cZ cQ) (WM cI cJ cZ q) A [.ref (q 0)] (fun z u => r_X12_town A z u ∧ IM u ∧ fr [2, 3, 4, 5, 6, 7, 8, 9, 10, 11, 12, 13, 14, 15, 16, 17, 18, 19, 20, 21, 22, 23, 24, 25, 26, 27, 28, 29, 30, 31, 32, 33, 34, 35, 36, 37, 38, 39, 40, 41] [1, 2, 3, 4, 5, 6, 7, 8, 9, 10, 11, 12, 46, 47, 53, 54, 56, 57, 75] A u ∧ CI u ∧ WI u ∧ ((-2147483648 ≤ z ∧ z ≤ 2147483647) ∧ u 0 1 = 0)) := by
  refine x_meti (cc := cX12_town) (maxL := 2) WM_adr (by decide +kernel) rfl (Nat.le_of_ble_eq_true rfl) (fun p e s m below meth c Q AS ls hx hb hml hown hts hK hDD hA0 hP hS hl RET => ?_)
  have hown : s.vm.findClass RX12 = some m.cls := hown
  have hl : lv_has ls 2 [(0, .ref (q 0))] := hl
  have hiX12 : ∀ w ∈ u_ws RX12 TX12 85, w ∈ ws_mb_X12_town := fun w h => List.mem_cons_of_mem _ (wx_lay w h)
  obtain ⟨H, hHe⟩ : ∃ H : Heap, H = s.heap := ⟨_, rfl⟩
  rw [← hHe] at hP
  have hS : va_S AS s.heap H [] := by rw [hHe]; exact hS
  suffices hgo : ∀ locs : List Loc, va_S AS s.heap H locs → W p l e (headSpec ws_mb_X12_town ({ frames := 8, cells := 0, slots := 0, locals := 175 } : Room)).room s m [.ref (q 0)].toArray below meth c H locs 0 0 Q (F0 m 0 ls []) by
    have := hgo [] hS
    rw [hHe] at this
    exact this
  clear hS hHe
  intro locs hS
  refine lv_aload_n hx hb (dk_at dkX12_town_0 0 rfl) rfl (lv_at hl 0 rfl) ?_
  refine lv_aload_n hx hb (dk_at dkX12_town_0 1 rfl) rfl (lv_at hl 0 rfl) ?_
  refine va_get (D := (dC, dI)) (ci := 12) (v := .int (iI (A 0 1))) (C := RX12) (T := TX12) (N := 85) hx hb hts hiX12 hown hK hP 0 wm0 rfl 1 (by decide) (hts _ (List.mem_cons_of_mem _ (wl_in_0 _ (List.mem_of_getElem? (i := 3) rfl)))) (fun _ h9 => h9) rfl (dk_at dkX12_town_0 2 rfl) ?_
  have r_A_0_1 : (0 : Int) ≤ (A 0 1) ∧ (A 0 1) ≤ 1600 := hI 0 1
  refine x_put (D := (dC, dI)) (ci := 12) (v := .int (iI (A 0 1))) (ty := .int) (C := RX12) (T := TX12) (N := 85) hx hb hts hiX12 tyX12 tyX12_ok nmX12 hown hK hP hDD hS 0 wm0 rfl 2 (by decide) (hts _ (List.mem_cons_of_mem _ (wl_in_0 _ (List.mem_of_getElem? (i := 22) rfl)))) (fun _ h9 => h9) rfl (by decide +kernel) rfl rfl (Nat.le_of_ble_eq_true rfl) (dk_at dkX12_town_0 3 rfl) (wf2 (v := (A 0 1))) (fun H locs hP hS => ?_)
  have hI := hI.st (j := 0) (i := 2) (v := (A 0 1)) (show (0 : Int) ≤ (A 0 1) ∧ (A 0 1) ≤ 1600 from (by omega))
  refine lv_aload_n hx hb (dk_at dkX12_town_0 4 rfl) rfl (lv_at hl 0 rfl) ?_
  refine lv_iconst (v := iI 0) hx hb (dk_at dkX12_town_0 5 rfl) (by decide +kernel) ?_
  refine x_put (D := (dC, dI)) (ci := 12) (v := .int (iI 0)) (ty := .int) (C := RX12) (T := TX12) (N := 85) hx hb hts hiX12 tyX12 tyX12_ok nmX12 hown hK hP hDD hS 0 wm0 rfl 1 (by decide) (hts _ (List.mem_cons_of_mem _ (wl_in_0 _ (List.mem_of_getElem? (i := 3) rfl)))) (fun _ h9 => h9) rfl (by decide +kernel) rfl rfl (Nat.le_of_ble_eq_true rfl) (dk_at dkX12_town_0 6 rfl) (wf1 (v := 0)) (fun H locs hP hS => ?_)
  have hI := hI.st (j := 0) (i := 1) (v := 0) (show (0 : Int) ≤ 0 ∧ 0 ≤ 1600 from (by omega))
  refine lv_aload_n hx hb (dk_at dkX12_town_0 7 rfl) rfl (lv_at hl 0 rfl) ?_
  refine lv_iconst (v := iI 0) hx hb (dk_at dkX12_town_0 8 rfl) (by decide +kernel) ?_
  refine x_put (D := (dC, dI)) (ci := 12) (v := .int (iI 0)) (ty := .int) (C := RX12) (T := TX12) (N := 85) hx hb hts hiX12 tyX12 tyX12_ok nmX12 hown hK hP hDD hS 0 wm0 rfl 5 (by decide) (hts _ (List.mem_cons_of_mem _ (wl_in_0 _ (List.mem_of_getElem? (i := 21) rfl)))) (fun _ h9 => h9) rfl (by decide +kernel) rfl rfl (Nat.le_of_ble_eq_true rfl) (dk_at dkX12_town_0 9 rfl) (wf5 (v := 0)) (fun H locs hP hS => ?_)
  have hI := hI.st (j := 0) (i := 5) (v := 0) (show (0 : Int) ≤ 0 ∧ 0 ≤ 1600 from (by omega))
  refine lv_aload_n hx hb (dk_at dkX12_town_0 10 rfl) rfl (lv_at hl 0 rfl) ?_
  refine lv_iconst (v := iI 0) hx hb (dk_at dkX12_town_0 11 rfl) (by decide +kernel) ?_
  refine x_put (D := (dC, dI)) (ci := 12) (v := .int (iI 0)) (ty := .int) (C := RX12) (T := TX12) (N := 85) hx hb hts hiX12 tyX12 tyX12_ok nmX12 hown hK hP hDD hS 0 wm0 rfl 8 (by decide) (hts _ (List.mem_cons_of_mem _ (wl_in_0 _ (List.mem_of_getElem? (i := 16) rfl)))) (fun _ h9 => h9) rfl (by decide +kernel) rfl rfl (Nat.le_of_ble_eq_true rfl) (dk_at dkX12_town_0 12 rfl) (wf8 (v := 0)) (fun H locs hP hS => ?_)
  have hI := hI.st (j := 0) (i := 8) (v := 0) (show (0 : Int) ≤ 0 ∧ 0 ≤ 5 from (by omega))
  refine lv_aload_n hx hb (dk_at dkX12_town_0 13 rfl) rfl (lv_at hl 0 rfl) ?_
  refine lv_iconst (v := iI (-1)) hx hb (dk_at dkX12_town_0 14 rfl) (by decide +kernel) ?_
  refine x_put (D := (dC, dI)) (ci := 12) (v := .int (iI (-1))) (ty := .int) (C := RX12) (T := TX12) (N := 85) hx hb hts hiX12 tyX12 tyX12_ok nmX12 hown hK hP hDD hS 0 wm0 rfl 9 (by decide) (hts _ (List.mem_cons_of_mem _ (wl_in_0 _ (List.mem_of_getElem? (i := 17) rfl)))) (fun _ h9 => h9) rfl (by decide +kernel) rfl rfl (Nat.le_of_ble_eq_true rfl) (dk_at dkX12_town_0 15 rfl) (wf9 (v := (-1))) (fun H locs hP hS => ?_)
  have hI := hI.st (j := 0) (i := 9) (v := (-1)) (show (-1 : Int) ≤ (-1) ∧ (-1) ≤ 1600 from (by omega))
  refine lv_aload_n hx hb (dk_at dkX12_town_1 0 rfl) rfl (lv_at hl 0 rfl) ?_
  refine lv_iconst (v := iI 1) hx hb (dk_at dkX12_town_1 1 rfl) (by decide +kernel) ?_
  refine lv_aload_n hx hb (dk_at dkX12_town_1 2 rfl) rfl (lv_at hl 0 rfl) ?_
  refine va_get (D := (dC, dI)) (ci := 12) (v := .int (iI (A 0 12))) (C := RX12) (T := TX12) (N := 85) hx hb hts hiX12 hown hK hP 0 wm0 rfl 12 (by decide) (hts _ (List.mem_cons_of_mem _ (wl_in_4 _ (List.mem_of_getElem? (i := 14) rfl)))) (fun _ h9 => h9) rfl (dk_at dkX12_town_1 3 rfl) ?_
  have r_A_0_12 : (0 : Int) ≤ (A 0 12) ∧ (A 0 12) ≤ 1 := hI 0 12
  refine x_subv (v := -(A 0 12) + 1) hx hb (dk_at dkX12_town_1 4 rfl) (by omega) ?_
  refine x_put (D := (dC, dI)) (ci := 12) (v := .int (iI (-(A 0 12) + 1))) (ty := .int) (C := RX12) (T := TX12) (N := 85) hx hb hts hiX12 tyX12 tyX12_ok nmX12 hown hK hP hDD hS 0 wm0 rfl 47 (by decide) (hts _ (List.mem_cons_of_mem _ (wl_in_1 _ (List.mem_of_getElem? (i := 12) rfl)))) (fun _ h9 => h9) rfl (by decide +kernel) rfl rfl (Nat.le_of_ble_eq_true rfl) (dk_at dkX12_town_1 5 rfl) (wf47 (v := -(A 0 12) + 1)) (fun H locs hP hS => ?_)
  have hI := hI.st (j := 0) (i := 47) (v := -(A 0 12) + 1) (show (0 : Int) ≤ -(A 0 12) + 1 ∧ -(A 0 12) + 1 ≤ 1 from (by omega))
  refine lv_aload_n hx hb (dk_at dkX12_town_1 6 rfl) rfl (lv_at hl 0 rfl) ?_
  refine va_get (D := (dC, dI)) (ci := 12) (v := .ref (q 2)) (C := RX12) (T := TX12) (N := 85) hx hb hts hiX12 hown hK hP 0 wm0 rfl 13 (by decide) (hts _ (List.mem_cons_of_mem _ (wl_in_1 _ (List.mem_of_getElem? (i := 11) rfl)))) (fun _ h9 => h9) rfl (dk_at dkX12_town_1 7 rfl) ?_
  refine lv_aload_n hx hb (dk_at dkX12_town_1 8 rfl) rfl (lv_at hl 0 rfl) ?_
  refine va_get (D := (dC, dI)) (ci := 12) (v := .int (iI (-(A 0 12) + 1))) (C := RX12) (T := TX12) (N := 85) hx hb hts hiX12 hown hK hP 0 wm0 rfl 47 (by decide) (hts _ (List.mem_cons_of_mem _ (wl_in_1 _ (List.mem_of_getElem? (i := 12) rfl)))) (fun _ h9 => h9) rfl (dk_at dkX12_town_1 9 rfl) ?_
  refine lv_iconst (v := iI 0) hx hb (dk_at dkX12_town_1 10 rfl) (by decide +kernel) ?_
  refine x_iast hx hb hK hP hDD hS 2 1 wm2 rfl (by omega) (by decide) (dk_at dkX12_town_1 11 rfl) ws2 (fun H locs hP hS => ?_)
  have hI := hI.st (j := 2) (i := (-(A 0 12) + 1).toNat) (v := 0) (show (0 : Int) ≤ 0 ∧ 0 ≤ 8 from (by omega))
  refine lv_aload_n hx hb (dk_at dkX12_town_1 12 rfl) rfl (lv_at hl 0 rfl) ?_
  refine va_get (D := (dC, dI)) (ci := 12) (v := .ref (q 4)) (C := RX12) (T := TX12) (N := 85) hx hb hts hiX12 hown hK hP 0 wm0 rfl 15 (by decide) (hts _ (List.mem_cons_of_mem _ (wl_in_1 _ (List.mem_of_getElem? (i := 13) rfl)))) (fun _ h9 => h9) rfl (dk_at dkX12_town_1 13 rfl) ?_
  refine lv_aload_n hx hb (dk_at dkX12_town_1 14 rfl) rfl (lv_at hl 0 rfl) ?_
  refine va_get (D := (dC, dI)) (ci := 12) (v := .int (iI (-(A 0 12) + 1))) (C := RX12) (T := TX12) (N := 85) hx hb hts hiX12 hown hK hP 0 wm0 rfl 47 (by decide) (hts _ (List.mem_cons_of_mem _ (wl_in_1 _ (List.mem_of_getElem? (i := 12) rfl)))) (fun _ h9 => h9) rfl (dk_at dkX12_town_1 15 rfl) ?_
  refine lv_iconst (v := iI 0) hx hb (dk_at dkX12_town_2 0 rfl) (by decide +kernel) ?_
  refine x_iast hx hb hK hP hDD hS 4 1 wm4 rfl (by omega) (by decide) (dk_at dkX12_town_2 1 rfl) ws4 (fun H locs hP hS => ?_)
  have hI := hI.st (j := 4) (i := (-(A 0 12) + 1).toNat) (v := 0) (show (0 : Int) ≤ 0 ∧ 0 ≤ 10 from (by omega))
  refine lv_aload_n hx hb (dk_at dkX12_town_2 2 rfl) rfl (lv_at hl 0 rfl) ?_
  refine va_get (D := (dC, dI)) (ci := 12) (v := .ref (q 11)) (C := RX12) (T := TX12) (N := 85) hx hb hts hiX12 hown hK hP 0 wm0 rfl 22 (by decide) (hts _ (List.mem_cons_of_mem _ (wl_in_1 _ (List.mem_of_getElem? (i := 14) rfl)))) (fun _ h9 => h9) rfl (dk_at dkX12_town_2 3 rfl) ?_
  refine lv_aload_n hx hb (dk_at dkX12_town_2 4 rfl) rfl (lv_at hl 0 rfl) ?_
  refine va_get (D := (dC, dI)) (ci := 12) (v := .int (iI (-(A 0 12) + 1))) (C := RX12) (T := TX12) (N := 85) hx hb hts hiX12 hown hK hP 0 wm0 rfl 47 (by decide) (hts _ (List.mem_cons_of_mem _ (wl_in_1 _ (List.mem_of_getElem? (i := 12) rfl)))) (fun _ h9 => h9) rfl (dk_at dkX12_town_2 5 rfl) ?_
  refine lv_iconst (v := iI 0) hx hb (dk_at dkX12_town_2 6 rfl) (by decide +kernel) ?_
  refine x_iast hx hb hK hP hDD hS 11 1 wm11 rfl (by omega) (by decide) (dk_at dkX12_town_2 7 rfl) ws11 (fun H locs hP hS => ?_)
  have hI := hI.st (j := 11) (i := (-(A 0 12) + 1).toNat) (v := 0) (show (0 : Int) ≤ 0 ∧ 0 ≤ 4 from (by omega))
  refine lv_aload_n hx hb (dk_at dkX12_town_2 8 rfl) rfl (lv_at hl 0 rfl) ?_
  refine va_get (D := (dC, dI)) (ci := 12) (v := .ref (q 16)) (C := RX12) (T := TX12) (N := 85) hx hb hts hiX12 hown hK hP 0 wm0 rfl 27 (by decide) (hts _ (List.mem_cons_of_mem _ (wl_in_1 _ (List.mem_of_getElem? (i := 15) rfl)))) (fun _ h9 => h9) rfl (dk_at dkX12_town_2 9 rfl) ?_
  refine lv_aload_n hx hb (dk_at dkX12_town_2 10 rfl) rfl (lv_at hl 0 rfl) ?_
  refine va_get (D := (dC, dI)) (ci := 12) (v := .int (iI (-(A 0 12) + 1))) (C := RX12) (T := TX12) (N := 85) hx hb hts hiX12 hown hK hP 0 wm0 rfl 47 (by decide) (hts _ (List.mem_cons_of_mem _ (wl_in_1 _ (List.mem_of_getElem? (i := 12) rfl)))) (fun _ h9 => h9) rfl (dk_at dkX12_town_2 11 rfl) ?_
  refine lv_iconst (v := iI 0) hx hb (dk_at dkX12_town_2 12 rfl) (by decide +kernel) ?_
  refine x_iast hx hb hK hP hDD hS 16 1 wm16 rfl (by omega) (by decide) (dk_at dkX12_town_2 13 rfl) ws16 (fun H locs hP hS => ?_)
  have hI := hI.st (j := 16) (i := (-(A 0 12) + 1).toNat) (v := 0) (show (0 : Int) ≤ 0 ∧ 0 ≤ 3 from (by omega))
  refine lv_aload_n hx hb (dk_at dkX12_town_2 14 rfl) rfl (lv_at hl 0 rfl) ?_
  refine va_get (D := (dC, dI)) (ci := 12) (v := .ref (q 19)) (C := RX12) (T := TX12) (N := 85) hx hb hts hiX12 hown hK hP 0 wm0 rfl 30 (by decide) (hts _ (List.mem_cons_of_mem _ (wl_in_1 _ (List.mem_of_getElem? (i := 16) rfl)))) (fun _ h9 => h9) rfl (dk_at dkX12_town_2 15 rfl) ?_
  refine lv_aload_n hx hb (dk_at dkX12_town_3 0 rfl) rfl (lv_at hl 0 rfl) ?_
  refine va_get (D := (dC, dI)) (ci := 12) (v := .int (iI (-(A 0 12) + 1))) (C := RX12) (T := TX12) (N := 85) hx hb hts hiX12 hown hK hP 0 wm0 rfl 47 (by decide) (hts _ (List.mem_cons_of_mem _ (wl_in_1 _ (List.mem_of_getElem? (i := 12) rfl)))) (fun _ h9 => h9) rfl (dk_at dkX12_town_3 1 rfl) ?_
  refine lv_iconst (v := iI 0) hx hb (dk_at dkX12_town_3 2 rfl) (by decide +kernel) ?_
  refine x_iast hx hb hK hP hDD hS 19 1 wm19 rfl (by omega) (by decide) (dk_at dkX12_town_3 3 rfl) ws19 (fun H locs hP hS => ?_)
  have hI := hI.st (j := 19) (i := (-(A 0 12) + 1).toNat) (v := 0) (show (0 : Int) ≤ 0 ∧ 0 ≤ 4 from (by omega))
  refine lv_aload_n hx hb (dk_at dkX12_town_3 4 rfl) rfl (lv_at hl 0 rfl) ?_
  refine va_get (D := (dC, dI)) (ci := 12) (v := .ref (q 22)) (C := RX12) (T := TX12) (N := 85) hx hb hts hiX12 hown hK hP 0 wm0 rfl 33 (by decide) (hts _ (List.mem_cons_of_mem _ (wl_in_3 _ (List.mem_of_getElem? (i := 16) rfl)))) (fun _ h9 => h9) rfl (dk_at dkX12_town_3 5 rfl) ?_
  refine lv_aload_n hx hb (dk_at dkX12_town_3 6 rfl) rfl (lv_at hl 0 rfl) ?_
  refine va_get (D := (dC, dI)) (ci := 12) (v := .int (iI (-(A 0 12) + 1))) (C := RX12) (T := TX12) (N := 85) hx hb hts hiX12 hown hK hP 0 wm0 rfl 47 (by decide) (hts _ (List.mem_cons_of_mem _ (wl_in_1 _ (List.mem_of_getElem? (i := 12) rfl)))) (fun _ h9 => h9) rfl (dk_at dkX12_town_3 7 rfl) ?_
  refine lv_iconst (v := iI 0) hx hb (dk_at dkX12_town_3 8 rfl) (by decide +kernel) ?_
  refine x_iast hx hb hK hP hDD hS 22 1 wm22 rfl (by omega) (by decide) (dk_at dkX12_town_3 9 rfl) ws22 (fun H locs hP hS => ?_)
  have hI := hI.st (j := 22) (i := (-(A 0 12) + 1).toNat) (v := 0) (show (0 : Int) ≤ 0 ∧ 0 ≤ 6 from (by omega))
  refine lv_aload_n hx hb (dk_at dkX12_town_3 10 rfl) rfl (lv_at hl 0 rfl) ?_
  refine va_get (D := (dC, dI)) (ci := 12) (v := .ref (q 25)) (C := RX12) (T := TX12) (N := 85) hx hb hts hiX12 hown hK hP 0 wm0 rfl 36 (by decide) (hts _ (List.mem_cons_of_mem _ (wl_in_3 _ (List.mem_of_getElem? (i := 20) rfl)))) (fun _ h9 => h9) rfl (dk_at dkX12_town_3 11 rfl) ?_
  refine lv_aload_n hx hb (dk_at dkX12_town_3 12 rfl) rfl (lv_at hl 0 rfl) ?_
  refine va_get (D := (dC, dI)) (ci := 12) (v := .int (iI (-(A 0 12) + 1))) (C := RX12) (T := TX12) (N := 85) hx hb hts hiX12 hown hK hP 0 wm0 rfl 47 (by decide) (hts _ (List.mem_cons_of_mem _ (wl_in_1 _ (List.mem_of_getElem? (i := 12) rfl)))) (fun _ h9 => h9) rfl (dk_at dkX12_town_3 13 rfl) ?_
  refine lv_iconst (v := iI 0) hx hb (dk_at dkX12_town_3 14 rfl) (by decide +kernel) ?_
  refine x_iast hx hb hK hP hDD hS 25 1 wm25 rfl (by omega) (by decide) (dk_at dkX12_town_3 15 rfl) ws25 (fun H locs hP hS => ?_)
  have hI := hI.st (j := 25) (i := (-(A 0 12) + 1).toNat) (v := 0) (show (0 : Int) ≤ 0 ∧ 0 ≤ 6 from (by omega))
  refine lv_aload_n hx hb (dk_at dkX12_town_4 0 rfl) rfl (lv_at hl 0 rfl) ?_
  refine va_get (D := (dC, dI)) (ci := 12) (v := .ref (q 29)) (C := RX12) (T := TX12) (N := 85) hx hb hts hiX12 hown hK hP 0 wm0 rfl 40 (by decide) (hts _ (List.mem_cons_of_mem _ (wl_in_3 _ (List.mem_of_getElem? (i := 25) rfl)))) (fun _ h9 => h9) rfl (dk_at dkX12_town_4 1 rfl) ?_
  refine lv_aload_n hx hb (dk_at dkX12_town_4 2 rfl) rfl (lv_at hl 0 rfl) ?_
  refine va_get (D := (dC, dI)) (ci := 12) (v := .int (iI (-(A 0 12) + 1))) (C := RX12) (T := TX12) (N := 85) hx hb hts hiX12 hown hK hP 0 wm0 rfl 47 (by decide) (hts _ (List.mem_cons_of_mem _ (wl_in_1 _ (List.mem_of_getElem? (i := 12) rfl)))) (fun _ h9 => h9) rfl (dk_at dkX12_town_4 3 rfl) ?_
  refine lv_iconst (v := iI 0) hx hb (dk_at dkX12_town_4 4 rfl) (by decide +kernel) ?_
  refine x_iast hx hb hK hP hDD hS 29 1 wm29 rfl (by omega) (by decide) (dk_at dkX12_town_4 5 rfl) ws29 (fun H locs hP hS => ?_)
  have hI := hI.st (j := 29) (i := (-(A 0 12) + 1).toNat) (v := 0) (show (0 : Int) ≤ 0 ∧ 0 ≤ 6 from (by omega))
  refine lv_aload_n hx hb (dk_at dkX12_town_4 6 rfl) rfl (lv_at hl 0 rfl) ?_
  refine lv_iconst (v := iI 0) hx hb (dk_at dkX12_town_4 7 rfl) (by decide +kernel) ?_
  refine x_put (D := (dC, dI)) (ci := 12) (v := .int (iI 0)) (ty := .int) (C := RX12) (T := TX12) (N := 85) hx hb hts hiX12 tyX12 tyX12_ok nmX12 hown hK hP hDD hS 0 wm0 rfl 46 (by decide) (hts _ (List.mem_cons_of_mem _ (wl_in_1 _ (List.mem_of_getElem? (i := 31) rfl)))) (fun _ h9 => h9) rfl (by decide +kernel) rfl rfl (Nat.le_of_ble_eq_true rfl) (dk_at dkX12_town_4 8 rfl) (wf46 (v := 0)) (fun H locs hP hS => ?_)
  have hI := hI.st (j := 0) (i := 46) (v := 0) (show (0 : Int) ≤ 0 ∧ 0 ≤ 1600 from (by omega))
  refine lv_iconst (v := iI 0) hx hb (dk_at dkX12_town_4 9 rfl) (by decide +kernel) ?_
  refine lv_istore_n (lv' := [(1, .int (iI 0)), (0, .ref (q 0))]) hx hb (dk_at dkX12_town_4 10 rfl) rfl hl (by decide) rfl (fun ls hl => ?_)
  refine lv_aload_n hx hb (dk_at dkX12_town_4 11 rfl) rfl (lv_at hl 1 rfl) ?_
  obtain ⟨A1, hA1⟩ : ∃ A1 : St, A1 = (stA (stA (stA (stA (stA (stA (stA (stA (stA (stA (stA (stA (stA (stA (stA A 0 2 (A 0 1)) 0 1 0) 0 5 0) 0 8 0) 0 9 (-1)) 0 47 (-(A 0 12) + 1)) 2 (-(A 0 12) + 1).toNat 0) 4 (-(A 0 12) + 1).toNat 0) 11 (-(A 0 12) + 1).toNat 0) 16 (-(A 0 12) + 1).toNat 0) 19 (-(A 0 12) + 1).toNat 0) 22 (-(A 0 12) + 1).toNat 0) 25 (-(A 0 12) + 1).toNat 0) 29 (-(A 0 12) + 1).toNat 0) 0 46 0) := ⟨_, rfl⟩
  rw [← hA1] at hP hI
  have e_A1_4 : A1 0 4 = (A 0 4) := by rw [hA1]; exact rfl
  have r_A_0_4 : (0 : Int) ≤ (A 0 4) ∧ (A 0 4) ≤ 1600 := by rw [← e_A1_4]; exact hI 0 4
  have e_A1_5 : A1 0 5 = 0 := by rw [hA1]; rfl
  have e_A1_8 : A1 0 8 = 0 := by rw [hA1]; rfl
  have hci0 : CI A1 := CI.zero (n := -(A 0 12) + 1) hcCI (by omega) (by rw [hA1]; rfl) (by rw [hA1]; rfl) (by rw [hA1]; rfl) (by rw [hA1]; rfl) (by rw [hA1]; rfl)
  have hwi0 : WI A1 := WI.zero (n := -(A 0 12) + 1) hcWI (by omega) (by rw [hA1]; rfl) (by rw [hA1]; rfl)
  refine x_callv (As := []) (rest := []) ⟨hx, hb, hml, hown, hts⟩ (mb_X12_ahead l dC dI cB cI cJ cZ cQ q _ hI) (cwV 0 hts (goodV (wl_in_0 _ (List.mem_of_getElem? (i := 40) rfl)) (wl_in_0 _ (List.mem_of_getElem? (i := 41) rfl)) (wl_in_0 _ (List.mem_of_getElem? (i := 42) rfl)) (wl_in_0 _ (List.mem_of_getElem? (i := 8) rfl)) (wl_in_0 _ (List.mem_of_getElem? (i := 20) rfl))) rfl rfl rfl (by decide +kernel) ⟨Nat.le_of_ble_eq_true rfl, Nat.le_of_ble_eq_true rfl⟩) hK hDD hA0 hP hS 0 12 wm0 rfl rfl hl.1 (Nat.le_of_ble_eq_true rfl) (dk_at dkX12_town_4 12 rfl) (fun A2 H locs hw3 hP hS => ?_)
  have ghw3 : q_X12_ahead A1 A2 := hw3
  obtain ⟨_, hI, hf4, hw3⟩ := hw3
  have r_A2_0_3 : (0 : Int) ≤ (A2 0 3) ∧ (A2 0 3) ≤ 3 := hI 0 3
  have r_A2_0_4 : (0 : Int) ≤ (A2 0 4) ∧ (A2 0 4) ≤ 1600 := hI 0 4
  have r_A2_0_5 : (0 : Int) ≤ (A2 0 5) ∧ (A2 0 5) ≤ 1600 := hI 0 5
  have r_A2_0_8 : (0 : Int) ≤ (A2 0 8) ∧ (A2 0 8) ≤ 5 := hI 0 8
  have e_A1_46 : A1 0 46 = 0 := by rw [hA1]; rfl
  have e_A2_46 : A2 0 46 = 0 := (hf4.2 46 rfl).trans e_A1_46
  have hcb : CB A2 := ⟨by omega, hw3.2.1, hw3.2.2.1⟩
  have L129_8 : ∀ (n10 : Nat) (z5 : Int) (A7 : St) (H : Heap) (locs : List Loc) (ls : Array Slot), (-2147483648 ≤ z5 ∧ z5 ≤ 2147483647) → (Hd ((A7 0 8) = 0 → CB A7)) → (CI A7) → (WI A7) → (∀ (z : Int) (u : St), (∃ mm1 : Nat, (d_X12_town_1 A z u mm1 z5 A7)) → r_X12_town A z u) → ((1602 * (5 - (A7 0 8)) + 1602 - (A7 0 4)).toNat = n10) → IM A7 → fr [2, 3, 4, 5, 6, 7, 8, 9, 10, 11, 12, 13, 14, 15, 16, 17, 18, 19, 20, 21, 22, 23, 24, 25, 26, 27, 28, 29, 30, 31, 32, 33, 34, 35, 36, 37, 38, 39, 40] [3, 4, 5, 6, 7, 8, 9, 46, 53, 54, 56, 57] A2 A7 → va_P (dC, dI) vwCl (WM cI cJ cZ q A7) H → va_S AS s.heap H locs → lv_has ls 2 [(1, .int (iI z5)), (0, .ref (q 0))] → W p l e (headSpec ws_mb_X12_town ({ frames := 8, cells := 0, slots := 0, locals := 175 } : Room)).room s m [.ref (q 0)].toArray below meth c H locs 0 0 Q (F0 m 129 ls []) := by
    intro n10
    induction n10 using Nat.strongRecOn with
    | ind n10 ih9 =>
      intro z5 A7 H locs ls f11 f12 hc13 hc14 hk1 hn10 hI hj6 hP hS hl
      have gI15 : Hd (IM A7) := Hd.mk hI
      have r_A7_0_4 : (0 : Int) ≤ (A7 0 4) ∧ (A7 0 4) ≤ 1600 := hI 0 4
      have r_A7_0_8 : (0 : Int) ≤ (A7 0 8) ∧ (A7 0 8) ≤ 5 := hI 0 8
      have r_A7_0_3 : (0 : Int) ≤ (A7 0 3) ∧ (A7 0 3) ≤ 3 := hI 0 3
      have r_A7_0_5 : (0 : Int) ≤ (A7 0 5) ∧ (A7 0 5) ≤ 1600 := hI 0 5
      refine lv_aload_n hx hb (dk_at dkX12_town_4 13 rfl) rfl (lv_at hl 1 rfl) ?_
      refine va_get (D := (dC, dI)) (ci := 12) (v := .int (iI (A7 0 8))) (C := RX12) (T := TX12) (N := 85) hx hb hts hiX12 hown hK hP 0 wm0 rfl 8 (by decide) (hts _ (List.mem_cons_of_mem _ (wl_in_0 _ (List.mem_of_getElem? (i := 16) rfl)))) (fun _ h9 => h9) rfl (dk_at dkX12_town_4 14 rfl) ?_
      have J153_17 : ∀ (H : Heap) (locs : List Loc) (ls : Array Slot), (∀ (z : Int) (u : St), (∃ mm1 : Nat, (d_X12_town_2 z5 A A7 z u)) → r_X12_town A z u) → va_P (dC, dI) vwCl (WM cI cJ cZ q A7) H → va_S AS s.heap H locs → lv_has ls 2 [(1, .int (iI z5)), (0, .ref (q 0))] → W p l e (headSpec ws_mb_X12_town ({ frames := 8, cells := 0, slots := 0, locals := 175 } : Room)).room s m [.ref (q 0)].toArray below meth c H locs 0 0 Q (F0 m 153 ls []) := by
        intro H locs ls hk2 hP hS hl
        refine lv_aload_n hx hb (dk_at dkX12_town_5 7 rfl) rfl (lv_at hl 1 rfl) ?_
        refine lv_aload_n hx hb (dk_at dkX12_town_5 8 rfl) rfl (lv_at hl 1 rfl) ?_
        refine va_get (D := (dC, dI)) (ci := 12) (v := .int (iI (A7 0 8))) (C := RX12) (T := TX12) (N := 85) hx hb hts hiX12 hown hK hP 0 wm0 rfl 8 (by decide) (hts _ (List.mem_cons_of_mem _ (wl_in_0 _ (List.mem_of_getElem? (i := 16) rfl)))) (fun _ h9 => h9) rfl (dk_at dkX12_town_5 9 rfl) ?_
        refine x_put (D := (dC, dI)) (ci := 12) (v := .int (iI (A7 0 8))) (ty := .int) (C := RX12) (T := TX12) (N := 85) hx hb hts hiX12 tyX12 tyX12_ok nmX12 hown hK hP hDD hS 0 wm0 rfl 10 (by decide) (hts _ (List.mem_cons_of_mem _ (wl_in_4 _ (List.mem_of_getElem? (i := 15) rfl)))) (fun _ h9 => h9) rfl (by decide +kernel) rfl rfl (Nat.le_of_ble_eq_true rfl) (dk_at dkX12_town_5 10 rfl) (wf10 (v := (A7 0 8))) (fun H locs hP hS => ?_)
        have hI := hI.st (j := 0) (i := 10) (v := (A7 0 8)) (show (0 : Int) ≤ (A7 0 8) ∧ (A7 0 8) ≤ 5 from (by omega))
        refine lv_aload_n hx hb (dk_at dkX12_town_5 11 rfl) rfl (lv_at hl 1 rfl) ?_
        refine lv_aload_n hx hb (dk_at dkX12_town_5 12 rfl) rfl (lv_at hl 1 rfl) ?_
        refine va_get (D := (dC, dI)) (ci := 12) (v := .int (iI (A7 0 9))) (C := RX12) (T := TX12) (N := 85) hx hb hts hiX12 hown hK hP 0 wm0 rfl 9 (by decide) (hts _ (List.mem_cons_of_mem _ (wl_in_0 _ (List.mem_of_getElem? (i := 17) rfl)))) (fun _ h9 => h9) rfl (dk_at dkX12_town_5 13 rfl) ?_
        have r_A7_0_9 : (-1 : Int) ≤ (A7 0 9) ∧ (A7 0 9) ≤ 1600 := hI 0 9
        refine x_put (D := (dC, dI)) (ci := 12) (v := .int (iI (A7 0 9))) (ty := .int) (C := RX12) (T := TX12) (N := 85) hx hb hts hiX12 tyX12 tyX12_ok nmX12 hown hK hP hDD hS 0 wm0 rfl 11 (by decide) (hts _ (List.mem_cons_of_mem _ (wl_in_4 _ (List.mem_of_getElem? (i := 16) rfl)))) (fun _ h9 => h9) rfl (by decide +kernel) rfl rfl (Nat.le_of_ble_eq_true rfl) (dk_at dkX12_town_5 14 rfl) (wf11 (v := (A7 0 9))) (fun H locs hP hS => ?_)
        have hI := hI.st (j := 0) (i := 11) (v := (A7 0 9)) (show (-1 : Int) ≤ (A7 0 9) ∧ (A7 0 9) ≤ 1600 from (by omega))
        refine lv_aload_n hx hb (dk_at dkX12_town_5 15 rfl) rfl (lv_at hl 1 rfl) ?_
        refine va_get (D := (dC, dI)) (ci := 12) (v := .int (iI (A7 0 8))) (C := RX12) (T := TX12) (N := 85) hx hb hts hiX12 hown hK hP 0 wm0 rfl 8 (by decide) (hts _ (List.mem_cons_of_mem _ (wl_in_0 _ (List.mem_of_getElem? (i := 16) rfl)))) (fun _ h9 => h9) rfl (dk_at dkX12_town_6 0 rfl) ?_
        refine lv_if_le (tgt := 182) hx hb (dk_at dkX12_town_6 1 rfl) (by decide) (fun c26 => ?_) (fun c26 => ?_)
        · have c26 : (A7 0 8) ≤ 0 := (i_le0 (rb r_A7_0_8 (by decide) (by decide))).mp c26
          refine lv_aload_n hx hb (dk_at dkX12_town_6 6 rfl) rfl (lv_at hl 1 rfl) ?_
          refine lv_aload_n hx hb (dk_at dkX12_town_6 7 rfl) rfl (lv_at hl 1 rfl) ?_
          have e_A1_47 : A1 0 47 = -(A 0 12) + 1 := by rw [hA1]; rfl
          have e_A2_47 : A2 0 47 = -(A 0 12) + 1 := (hf4.2 47 rfl).trans e_A1_47
          have e_A7_47 : A7 0 47 = -(A 0 12) + 1 := (hj6.2 47 rfl).trans e_A2_47
          refine va_get (D := (dC, dI)) (ci := 12) (v := .int (iI (A7 0 47))) (C := RX12) (T := TX12) (N := 85) hx hb hts hiX12 hown hK hP 0 wm0 rfl 47 (by decide) (hts _ (List.mem_cons_of_mem _ (wl_in_1 _ (List.mem_of_getElem? (i := 12) rfl)))) (fun _ h9 => h9) rfl (dk_at dkX12_town_6 8 rfl) ?_
          refine tp_i (y := iI (-(A 0 12) + 1)) (congrArg iI e_A7_47) ?_
          refine x_put (D := (dC, dI)) (ci := 12) (v := .int (iI (-(A 0 12) + 1))) (ty := .int) (C := RX12) (T := TX12) (N := 85) hx hb hts hiX12 tyX12 tyX12_ok nmX12 hown hK hP hDD hS 0 wm0 rfl 12 (by decide) (hts _ (List.mem_cons_of_mem _ (wl_in_4 _ (List.mem_of_getElem? (i := 14) rfl)))) (fun _ h9 => h9) rfl (by decide +kernel) rfl rfl (Nat.le_of_ble_eq_true rfl) (dk_at dkX12_town_6 9 rfl) (wf12 (v := -(A 0 12) + 1)) (fun H locs hP hS => ?_)
          have hI := hI.st (j := 0) (i := 12) (v := -(A 0 12) + 1) (show (0 : Int) ≤ -(A 0 12) + 1 ∧ -(A 0 12) + 1 ≤ 1 from (by omega))
          refine lv_aload_n hx hb (dk_at dkX12_town_6 10 rfl) rfl (lv_at hl 1 rfl) ?_
          refine lv_iconst (v := iI 0) hx hb (dk_at dkX12_town_6 11 rfl) (by decide +kernel) ?_
          refine x_put (D := (dC, dI)) (ci := 12) (v := .int (iI 0)) (ty := .int) (C := RX12) (T := TX12) (N := 85) hx hb hts hiX12 tyX12 tyX12_ok nmX12 hown hK hP hDD hS 0 wm0 rfl 75 (by decide) (hts _ (List.mem_cons_of_mem _ (wl_in_4 _ (List.mem_of_getElem? (i := 17) rfl)))) (fun _ h9 => h9) rfl (by decide +kernel) rfl rfl (Nat.le_of_ble_eq_true rfl) (dk_at dkX12_town_6 12 rfl) (wf75 (v := 0)) (fun H locs hP hS => ?_)
          have hI := hI.st (j := 0) (i := 75) (v := 0) (show (0 : Int) ≤ 0 ∧ 0 ≤ 20 from (by omega))
          refine lv_iload_n hx hb (dk_at dkX12_town_6 13 rfl) rfl (lv_at hl 0 rfl) ?_
          obtain ⟨A27, hA27⟩ : ∃ A27 : St, A27 = (stA (stA (stA (stA A7 0 10 (A7 0 8)) 0 11 (A7 0 9)) 0 12 (-(A 0 12) + 1)) 0 75 0) := ⟨_, rfl⟩
          rw [← hA27] at hP hI
          have e_A1_1 : A1 0 1 = 0 := by rw [hA1]; rfl
          have e_A2_1 : A2 0 1 = 0 := (hf4.2 1 rfl).trans e_A1_1
          have e_A7_1 : A7 0 1 = 0 := (hj6.2 1 rfl).trans e_A2_1
          have e_A27_1 : A27 0 1 = 0 := by rw [hA27]; exact e_A7_1
          exact RET z5 _ _ _ _ _ ⟨hk2 _ _ ⟨0, (u_d_X12_town_2 (Or.inl ⟨c26, ⟨A27, hA27, ⟨rfl, rfl⟩⟩⟩))⟩, hI, fr_def hA27 (fr.sf (fr.sf (fr.sf (fr.sf (fr.trans (fr.trans (fr_def hA1 (fr.sf (fr.st (fr.st (fr.st (fr.st (fr.st (fr.st (fr.st (fr.st (fr.sf (fr.sf (fr.sf (fr.sf (fr.sf (fr.sf (fr.rf) rfl) rfl) rfl) rfl) rfl) rfl) (by decide) rfl) (by decide) rfl) (by decide) rfl) (by decide) rfl) (by decide) rfl) (by decide) rfl) (by decide) rfl) (by decide) rfl) rfl)) hf4 rfl rfl) hj6 rfl rfl) rfl) rfl) rfl) rfl), (CI.fr hc13 (fr_def hA27 (fr.sf (fr.sf (fr.sf (fr.sf (fr.rf (M := []) (N := [10, 11, 12, 75])) rfl) rfl) rfl) rfl)) rfl rfl), (WI.fr hc14 (fr_def hA27 (fr.sf (fr.sf (fr.sf (fr.sf (fr.rf (M := []) (N := [10, 11, 12, 75])) rfl) rfl) rfl) rfl)) rfl rfl), by omega⟩ hP hS (dk_at dkX12_town_6 14 rfl)
        · have c26 : ¬ (A7 0 8) ≤ 0 := mt (i_le0 (rb r_A7_0_8 (by decide) (by decide))).mpr c26
          refine lv_aload_n hx hb (dk_at dkX12_town_6 2 rfl) rfl (lv_at hl 1 rfl) ?_
          refine lv_iconst (v := iI 1) hx hb (dk_at dkX12_town_6 3 rfl) (by decide +kernel) ?_
          obtain ⟨A28, hA28⟩ : ∃ A28 : St, A28 = (stA (stA A7 0 10 (A7 0 8)) 0 11 (A7 0 9)) := ⟨_, rfl⟩
          rw [← hA28] at hP hI
          refine x_calli (As := [.int (iI 1)]) (rest := []) ⟨hx, hb, hml, hown, hts⟩ (mc_X12_refuses l dC dI cB cI cJ cZ cQ q _ 1 hI ⟨by decide, by decide⟩) (cwV 1 hts (goodV (wl_in_0 _ (List.mem_of_getElem? (i := 5) rfl)) (wl_in_0 _ (List.mem_of_getElem? (i := 6) rfl)) (wl_in_0 _ (List.mem_of_getElem? (i := 7) rfl)) (wl_in_0 _ (List.mem_of_getElem? (i := 8) rfl)) (wl_in_0 _ (List.mem_of_getElem? (i := 9) rfl))) rfl rfl rfl (by decide +kernel) ⟨Nat.le_of_ble_eq_true rfl, Nat.le_of_ble_eq_true rfl⟩) hK hDD hA0 hP hS 0 12 wm0 rfl rfl hl.1 (Nat.le_of_ble_eq_true rfl) (dk_at dkX12_town_6 4 rfl) (fun z29 A30 H locs hw31 hP hS => ?_)
          have ghw31 : q_X12_refuses 1 A28 z29 A30 := hw31
          obtain ⟨_, hI, hf32, hw31⟩ := hw31
          have e_A1_1 : A1 0 1 = 0 := by rw [hA1]; rfl
          have e_A2_1 : A2 0 1 = 0 := (hf4.2 1 rfl).trans e_A1_1
          have e_A7_1 : A7 0 1 = 0 := (hj6.2 1 rfl).trans e_A2_1
          have e_A28_1 : A28 0 1 = 0 := by rw [hA28]; exact e_A7_1
          have e_A30_1 : A30 0 1 = 0 := (hf32.2 1 rfl).trans e_A28_1
          exact RET z29 _ _ _ _ _ ⟨hk2 _ _ ⟨0, (u_d_X12_town_2 (Or.inr ⟨c26, ⟨A28, hA28, ⟨z29, A30, ghw31, ⟨rfl, rfl⟩⟩⟩⟩))⟩, hI, fr.trans (fr_def hA28 (fr.sf (fr.sf (fr.trans (fr.trans (fr_def hA1 (fr.sf (fr.st (fr.st (fr.st (fr.st (fr.st (fr.st (fr.st (fr.st (fr.sf (fr.sf (fr.sf (fr.sf (fr.sf (fr.sf (fr.rf) rfl) rfl) rfl) rfl) rfl) rfl) (by decide) rfl) (by decide) rfl) (by decide) rfl) (by decide) rfl) (by decide) rfl) (by decide) rfl) (by decide) rfl) (by decide) rfl) rfl)) hf4 rfl rfl) hj6 rfl rfl) rfl) rfl)) hf32 rfl rfl, (CI.fr (CI.fr hc13 (fr_def hA28 (fr.sf (fr.sf (fr.rf (M := []) (N := [10, 11])) rfl) rfl)) rfl rfl) hf32 rfl rfl), (WI.fr (WI.fr hc14 (fr_def hA28 (fr.sf (fr.sf (fr.rf (M := []) (N := [10, 11])) rfl) rfl)) rfl rfl) hf32 rfl rfl), by omega⟩ hP hS (dk_at dkX12_town_6 5 rfl)
      refine lv_if_ne (tgt := 153) hx hb (dk_at dkX12_town_4 15 rfl) (by decide) (fun c16 => ?_) (fun c16 => ?_)
      · have c16 : ¬ (A7 0 8) = 0 := mt (i_eq0 (rb r_A7_0_8 (by decide) (by decide))).mpr c16
        exact J153_17 _ _ _ (fun zq uq ⟨mm1, hq⟩ => hk1 _ _ ⟨mm1 + 1, (u_d_X12_town_1 ⟨gI15.out, ⟨f11, (Or.inl ⟨c16, hq⟩)⟩⟩)⟩) hP hS (lv_sub hl [0, 1] rfl)
      · have c16 : (A7 0 8) = 0 := (i_eq0 (rb r_A7_0_8 (by decide) (by decide))).mp c16
        refine lv_aload_n hx hb (dk_at dkX12_town_5 0 rfl) rfl (lv_at hl 1 rfl) ?_
        refine va_get (D := (dC, dI)) (ci := 12) (v := .int (iI (A7 0 3))) (C := RX12) (T := TX12) (N := 85) hx hb hts hiX12 hown hK hP 0 wm0 rfl 3 (by decide) (hts _ (List.mem_cons_of_mem _ (wl_in_0 _ (List.mem_of_getElem? (i := 24) rfl)))) (fun _ h9 => h9) rfl (dk_at dkX12_town_5 1 rfl) ?_
        refine lv_if_eq (tgt := 153) hx hb (dk_at dkX12_town_5 2 rfl) (by decide) (fun c18 => ?_) (fun c18 => ?_)
        · have c18 : (A7 0 3) = 0 := (i_eq0 (rb r_A7_0_3 (by decide) (by decide))).mp c18
          exact J153_17 _ _ _ (fun zq uq ⟨mm1, hq⟩ => hk1 _ _ ⟨mm1 + 1, (u_d_X12_town_1 ⟨gI15.out, ⟨f11, (Or.inr ⟨c16, (Or.inl ⟨c18, hq⟩)⟩)⟩⟩)⟩) hP hS (lv_sub hl [0, 1] rfl)
        · have c18 : ¬ (A7 0 3) = 0 := mt (i_eq0 (rb r_A7_0_3 (by decide) (by decide))).mpr c18
          have gcb := f12.out (by omega)
          have hlt := CB.lt gcb (by omega)
          refine lv_aload_n hx hb (dk_at dkX12_town_5 3 rfl) rfl (lv_at hl 1 rfl) ?_
          refine x_callv (As := []) (rest := []) ⟨hx, hb, hml, hown, hts⟩ (mb_X12_statement l dC dI cB cI cJ cZ cQ q _ hI (by exact gcb) hc13 hc14) (cwV 0 hts (goodV (wl_in_4 _ (List.mem_of_getElem? (i := 18) rfl)) (wl_in_4 _ (List.mem_of_getElem? (i := 19) rfl)) (wl_in_4 _ (List.mem_of_getElem? (i := 20) rfl)) (wl_in_0 _ (List.mem_of_getElem? (i := 8) rfl)) (wl_in_3 _ (List.mem_of_getElem? (i := 32) rfl))) rfl rfl rfl (by decide +kernel) ⟨Nat.le_of_ble_eq_true rfl, Nat.le_of_ble_eq_true rfl⟩) hK hDD hA0 hP hS 0 12 wm0 rfl rfl hl.1 (Nat.le_of_ble_eq_true rfl) (dk_at dkX12_town_5 4 rfl) (fun A19 H locs hw20 hP hS => ?_)
          have ghw20 : q_X12_statement A7 A19 := hw20
          obtain ⟨_, hI, hf21, hw20⟩ := hw20
          obtain ⟨hc22, hw20⟩ := hw20
          obtain ⟨hc23, hw20⟩ := hw20
          have r_A19_0_4 : (0 : Int) ≤ (A19 0 4) ∧ (A19 0 4) ≤ 1600 := hI 0 4
          have r_A19_0_8 : (0 : Int) ≤ (A19 0 8) ∧ (A19 0 8) ≤ 5 := hI 0 8
          obtain ⟨z24, gz24, hz24, ez24⟩ := i_wrapE (z5 + 1)
          refine lv_iinc (v := iI z24) (lv' := [(1, .int (iI z24)), (0, .ref (q 0))]) hx hb (dk_at dkX12_town_5 5 rfl) hl (k := 0) rfl ((i_inc (by omega)).trans ez24) (by decide) rfl (fun ls hl => ?_)
          refine lv_goto (tgt := 129) hx hb (dk_at dkX12_town_5 6 rfl) (by decide) ?_
          have r_A19_0_5 : (0 : Int) ≤ (A19 0 5) ∧ (A19 0 5) ≤ 1600 := hI 0 5
          have gm : A19 0 8 = 0 → A7 0 5 ≤ A19 0 4 := fun h => (hw20.out h).2
          exact ih9 _ (by omega) z24 _ _ _ _ (by omega) (by exact Hd.mk (fun h0 => (hw20.out (by omega)).1)) hc22 hc23 (fun zq uq ⟨mm1, hq⟩ => hk1 _ _ ⟨mm1 + 1, (u_d_X12_town_1 ⟨gI15.out, ⟨f11, (Or.inr ⟨c16, (Or.inr ⟨c18, ⟨A19, ghw20, ⟨z24, gz24.out, hq⟩⟩⟩)⟩)⟩⟩)⟩) rfl hI (fr.trans (fr.trans (fr.rf) hj6 rfl rfl) hf21 rfl rfl) hP hS (lv_sub hl [0, 1] rfl)
  exact L129_8 _ 0 _ _ _ _ (by omega) (by exact Hd.mk (fun _ => hcb)) (CI.fr hci0 hf4 rfl rfl) (WI.fr hwi0 hf4 rfl rfl) (fun zq uq ⟨mm1, hq⟩ => (u_r_X12_town ⟨A1, hA1, ⟨A2, ghw3, ⟨mm1, hq⟩⟩⟩)) rfl hI (fr.rf) hP hS (lv_sub hl [0, 1] rfl)
/-! codes at work; searches -/
theorem okcI {f : Nat → Int} {s len k n z : Int} (hw : wfc f s.toNat len.toNat) (hs : 0 ≤ s) (hk : s ≤ k ∧ k < s + len) (hn : n = dep f s.toNat (k - s).toNat) (hz : z = f k.toNat) : z ≤ 9 ∨ (z = 22 ∧ 1 ≤ n) ∨ (10 ≤ z ∧ z ≤ 21 ∧ 2 ≤ n) := by
  have h := hw.2 (k - s).toNat (by omega)
  unfold okc at h
  have e : s.toNat + (k - s).toNat = k.toNat := by omega
  rw [e, ← hz, ← hn] at h
  exact h
theorem dep_stepI {f : Nat → Int} {s k n n' z : Int} (hs : 0 ≤ s) (hk : s ≤ k) (hn : n = dep f s.toNat (k - s).toNat) (hz : z = f k.toNat) (h : (z ≤ 9 ∧ n' = n + 1) ∨ (z = 22 ∧ n' = n) ∨ (10 ≤ z ∧ z ≤ 21 ∧ n' = n - 1)) : n' = dep f s.toNat (k + 1 - s).toNat := by
  have e1 : (k + 1 - s).toNat = (k - s).toNat + 1 := by omega
  have e : s.toNat + (k - s).toNat = k.toNat := by omega
  rw [e1]
  show n' = dep f s.toNat (k - s).toNat + ds (f (s.toNat + (k - s).toNat))
  rw [e, ← hz, ← hn]
  unfold ds
  rcases h with ⟨a, b⟩ | ⟨a, b⟩ | ⟨a, b, d⟩
  · rw [if_pos a]
    omega
  · rw [if_neg (by omega), if_pos a]
    omega
  · rw [if_neg (by omega), if_neg (by omega)]
    omega
theorem CI.at {A : St} (h : CI A) (hI : IM A) {k x y : Int} (hk : 6 * A 0 12 ≤ k ∧ k < 6 * A 0 12 + A 29 (A 0 12).toNat) (hx : x = A 31 k.toNat) (hy : y = A 32 k.toNat) : x ≤ y ∧ wfc (A 33) (1600 * A 0 12 + x).toNat (y - x).toNat := by
  have r1 : (0 : Int) ≤ A 0 12 := (hI 0 12).1
  have r2 : A 0 12 ≤ 1 := (hI 0 12).2
  have g := h (A 0 12).toNat (k - 6 * A 0 12).toNat (by omega) (by omega)
  have e : 6 * (A 0 12).toNat + (k - 6 * A 0 12).toNat = k.toNat := by omega
  rw [e, ← hx, ← hy] at g
  have r3 : (0 : Int) ≤ x := by rw [hx]; exact (hI 31 _).1
  have e2 : (1600 * A 0 12 + x).toNat = 1600 * (A 0 12).toNat + x.toNat := by omega
  rw [e2]
  exact ⟨g.1, g.2.2⟩
theorem ct_mono {f : Nat → Int} {s : Nat} {p : Int} {n : Nat} : ∀ m, ct f s p n ≤ ct f s p (n + m)
  | 0 => Int.le_refl _
  | m + 1 => by
    have := ct_mono (f := f) (s := s) (p := p) (n := n) m
    have e : ct f s p (n + (m + 1)) = ct f s p (n + m) + (if f (s + (n + m)) = p then 1 else 0) := rfl
    rw [e]
    split <;> omega
/-- a want that is found is one of two -/
theorem WI.two {A : St} (h : WI A) (hI : IM A) {k m p : Int} (hk : 6 * A 0 12 ≤ k ∧ k < 6 * A 0 12 + A 22 (A 0 12).toNat) (hm : m = ct (A 23) (6 * A 0 12).toNat p (k - 6 * A 0 12).toNat) (hp : A 23 k.toNat = p) : m ≤ 1 := by
  have r1 : (0 : Int) ≤ A 0 12 := (hI 0 12).1
  have r2 : A 0 12 ≤ 1 := (hI 0 12).2
  have g := h.le (b := A 0 12) ⟨r1, r2⟩ p
  have g2 := ct_stepI (f := A 23) (p := p) (b := 6 * A 0 12) (i := k) (m := m) (m' := m + 1) (by omega) hk.1 hm (Or.inl ⟨hp, rfl⟩)
  have g3 := ct_mono (f := A 23) (s := (6 * A 0 12).toNat) (p := p) (n := (k + 1 - 6 * A 0 12).toNat) ((A 22 (A 0 12).toNat).toNat - (k + 1 - 6 * A 0 12).toNat)
  have e : (k + 1 - 6 * A 0 12).toNat + ((A 22 (A 0 12).toNat).toNat - (k + 1 - 6 * A 0 12).toNat) = (A 22 (A 0 12).toNat).toNat := by omega
  rw [e, ← g2] at g3
  omega
theorem all_step {f g : Nat → Int} {k : Int} (hk : 0 ≤ k) (h : ∀ i : Nat, (i : Int) < k → f i = -1) (hg : g = up f k.toNat (-1)) : ∀ i : Nat, (i : Int) < k + 1 → g i = -1 := by
  intro i hi
  rw [hg]
  by_cases e : i = k.toNat
  · rw [e, up_same]
  · rw [up_ne _ _ e]
    exact h i (by omega)
theorem dkX12_works_0 : dkq cX12_works [(0, .iconst 0, 1), (1, .istore_n 3, 1), (2, .sipush 1600, 3), (5, .aload_n 0, 1), (6, .getfield 48, 3), (9, .imul, 1), (10, .iload_n 1, 1), (11, .iadd, 1), (12, .istore 4, 2), (14, .iload 4, 2), (16, .sipush 1600, 3), (19, .aload_n 0, 1), (20, .getfield 48, 3), (23, .imul, 1), (24, .iload_n 2, 1), (25, .iadd, 1)] = true := by decide +kernel
theorem dkX12_works_1 : dkq cX12_works [(26, .if_icmp .ge 130, 3), (29, .aload_n 0, 1), (30, .getfield 146, 3), (33, .iload 4, 2), (35, .iaload, 1), (36, .istore 5, 2), (38, .iload 5, 2), (40, .bipush 9, 2), (42, .if_icmp .gt 50, 3), (45, .aload_n 0, 1), (46, .getfield 192, 3), (49, .iload_n 3, 1), (50, .iload 5, 2), (52, .ifCond .ne 14, 3), (55, .aload_n 0, 1), (56, .getfield 149, 3)] = true := by decide +kernel
theorem dkX12_works_2 : dkq cX12_works [(59, .iload 4, 2), (61, .iaload, 1), (62, .i2l, 1), (63, .goto 22, 3), (66, .iload 5, 2), (68, .bipush 9, 2), (70, .if_icmp .ne 7, 3), (73, .lconst 1, 1), (74, .goto 11, 3), (77, .aload_n 0, 1), (78, .getfield 195, 3), (81, .iload 5, 2), (83, .iaload, 1), (84, .i2l, 1), (85, .lastore, 1), (86, .iinc 3 1, 3)] = true := by decide +kernel
theorem dkX12_works_3 : dkq cX12_works [(89, .goto 61, 3), (92, .iload 5, 2), (94, .bipush 22, 2), (96, .if_icmp .ne 24, 3), (99, .aload_n 0, 1), (100, .getfield 192, 3), (103, .iload_n 3, 1), (104, .iconst 1, 1), (105, .isub, 1), (106, .lconst 1, 1), (107, .aload_n 0, 1), (108, .getfield 192, 3), (111, .iload_n 3, 1), (112, .iconst 1, 1), (113, .isub, 1), (114, .laload, 1)] = true := by decide +kernel
theorem dkX12_works_4 : dkq cX12_works [(115, .lsub, 1), (116, .lastore, 1), (117, .goto 33, 3), (120, .iinc 3 (-1), 3), (123, .aload_n 0, 1), (124, .getfield 192, 3), (127, .iload_n 3, 1), (128, .iconst 1, 1), (129, .isub, 1), (130, .iload 5, 2), (132, .aload_n 0, 1), (133, .getfield 192, 3), (136, .iload_n 3, 1), (137, .iconst 1, 1), (138, .isub, 1), (139, .laload, 1)] = true := by decide +kernel
theorem dkX12_works_5 : dkq cX12_works [(140, .aload_n 0, 1), (141, .getfield 192, 3), (144, .iload_n 3, 1), (145, .laload, 1), (146, .invokestatic 480, 3), (149, .lastore, 1), (150, .iinc 4 1, 3), (153, .goto (-139), 3), (156, .aload_n 0, 1), (157, .getfield 192, 3), (160, .iconst 0, 1), (161, .laload, 1), (162, .lreturn, 1)] = true := by decide +kernel
theorem dkX12_isBarred_0 : dkq cX12_isBarred [(0, .aload_n 0, 1), (1, .getfield 195, 3), (4, .iconst 1, 1), (5, .iload_n 2, 1), (6, .iastore, 1), (7, .aload_n 0, 1), (8, .getfield 195, 3), (11, .iconst 2, 1), (12, .iload_n 3, 1), (13, .iastore, 1), (14, .aload_n 0, 1), (15, .getfield 195, 3), (18, .iconst 3, 1), (19, .iload 4, 2), (21, .iastore, 1), (22, .aload_n 0, 1)] = true := by decide +kernel
theorem dkX12_isBarred_1 : dkq cX12_isBarred [(23, .getfield 195, 3), (26, .iconst 4, 1), (27, .iload 5, 2), (29, .iastore, 1), (30, .bipush 6, 2), (32, .aload_n 0, 1), (33, .getfield 48, 3), (36, .imul, 1), (37, .istore 6, 2), (39, .iload 6, 2), (41, .bipush 6, 2), (43, .aload_n 0, 1), (44, .getfield 48, 3), (47, .imul, 1), (48, .aload_n 0, 1), (49, .getfield 134, 3)] = true := by decide +kernel
theorem dkX12_isBarred_2 : dkq cX12_isBarred [(52, .aload_n 0, 1), (53, .getfield 48, 3), (56, .iaload, 1), (57, .iadd, 1), (58, .if_icmp .ge 45, 3), (61, .aload_n 0, 1), (62, .getfield 137, 3), (65, .iload 6, 2), (67, .iaload, 1), (68, .iload_n 1, 1), (69, .if_icmp .ne 28, 3), (72, .aload_n 0, 1), (73, .aload_n 0, 1), (74, .getfield 140, 3), (77, .iload 6, 2), (79, .iaload, 1)] = true := by decide +kernel
theorem dkX12_isBarred_3 : dkq cX12_isBarred [(80, .aload_n 0, 1), (81, .getfield 143, 3), (84, .iload 6, 2), (86, .iaload, 1), (87, .invokevirtual 516, 3), (90, .lconst 1, 1), (91, .lcmp, 1), (92, .ifCond .ne 5, 3), (95, .iconst 1, 1), (96, .ireturn, 1), (97, .iinc 6 1, 3), (100, .goto (-61), 3), (103, .iconst 0, 1), (104, .ireturn, 1)] = true := by decide +kernel
theorem dkX12_gone_0 : dkq cX12_gone [(0, .aload_n 0, 1), (1, .iload_n 1, 1), (2, .invokevirtual 520, 3), (5, .istore_n 3, 1), (6, .aload_n 0, 1), (7, .getfield 70, 3), (10, .aload_n 0, 1), (11, .iload_n 2, 1), (12, .invokevirtual 487, 3), (15, .baload, 1), (16, .ifCond .ne 42, 3), (19, .aload_n 0, 1), (20, .iload_n 3, 1), (21, .iload_n 2, 1), (22, .invokevirtual 523, 3), (25, .ifCond .eq 33, 3)] = true := by decide +kernel
theorem dkX12_gone_1 : dkq cX12_gone [(28, .aload_n 0, 1), (29, .iload_n 2, 1), (30, .invokevirtual 493, 3), (33, .ifCond .ne 25, 3), (36, .aload_n 0, 1), (37, .iload_n 2, 1), (38, .iload_n 1, 1), (39, .iload_n 3, 1), (40, .aload_n 0, 1), (41, .iload_n 1, 1), (42, .invokevirtual 526, 3), (45, .invokestatic 529, 3), (48, .aload_n 0, 1), (49, .invokevirtual 496, 3), (52, .invokevirtual 532, 3), (55, .ifCond .eq 5, 3)] = true := by decide +kernel
theorem dkX12_gone_2 : dkq cX12_gone [(58, .iconst (-1), 1), (59, .ireturn, 1), (60, .aload_n 0, 1), (61, .getfield 101, 3), (64, .iconst 3, 1), (65, .aload_n 0, 1), (66, .getfield 48, 3), (69, .imul, 1), (70, .iload_n 1, 1), (71, .iadd, 1), (72, .aload_n 0, 1), (73, .iload_n 2, 1), (74, .iload_n 3, 1), (75, .invokevirtual 536, 3), (78, .iastore, 1), (79, .aload_n 0, 1)] = true := by decide +kernel
theorem dkX12_gone_3 : dkq cX12_gone [(80, .iload_n 1, 1), (81, .invokevirtual 520, 3), (84, .ireturn, 1)] = true := by decide +kernel
theorem dkX12_go_0 : dkq cX12_go [(0, .aload_n 0, 1), (1, .iload_n 1, 1), (2, .invokevirtual 539, 3), (5, .ifCond .eq 20, 3), (8, .aload_n 0, 1), (9, .iload_n 2, 1), (10, .invokevirtual 507, 3), (13, .ifCond .eq 12, 3), (16, .aload_n 0, 1), (17, .iload_n 1, 1), (18, .iload_n 2, 1), (19, .invokevirtual 542, 3), (22, .goto 4, 3), (25, .iconst (-1), 1), (26, .istore_n 3, 1), (27, .iload_n 3, 1)] = true := by decide +kernel
theorem dkX12_go_1 : dkq cX12_go [(28, .iconst (-1), 1), (29, .if_icmp .ne 11, 3), (32, .aload_n 0, 1), (33, .iconst 2, 1), (34, .invokevirtual 271, 3), (37, .goto 4, 3), (40, .iload_n 3, 1), (41, .ireturn, 1)] = true := by decide +kernel
theorem dkX12_told_0 : dkq cX12_told [(0, .aload_n 0, 1), (1, .iload_n 1, 1), (2, .invokevirtual 539, 3), (5, .ifCond .ne 5, 3), (8, .iconst (-1), 1), (9, .ireturn, 1), (10, .iload_n 2, 1), (11, .ifCond .ne 22, 3), (14, .aload_n 0, 1), (15, .iload_n 3, 1), (16, .invokevirtual 507, 3), (19, .ifCond .eq 12, 3), (22, .aload_n 0, 1), (23, .iload_n 1, 1), (24, .iload_n 3, 1), (25, .invokevirtual 542, 3)] = true := by decide +kernel
theorem dkX12_told_1 : dkq cX12_told [(28, .goto 4, 3), (31, .iconst (-1), 1), (32, .ireturn, 1), (33, .iload_n 2, 1), (34, .iconst 1, 1), (35, .if_icmp .ne 22, 3), (38, .aload_n 0, 1), (39, .iload_n 3, 1), (40, .invokevirtual 510, 3), (43, .ifCond .eq 12, 3), (46, .aload_n 0, 1), (47, .iload_n 1, 1), (48, .iload_n 3, 1), (49, .invokevirtual 545, 3), (52, .goto 4, 3), (55, .iconst (-1), 1)] = true := by decide +kernel
theorem dkX12_told_2 : dkq cX12_told [(56, .ireturn, 1), (57, .iload_n 2, 1), (58, .iconst 2, 1), (59, .if_icmp .ne 20, 3), (62, .aload_n 0, 1), (63, .iload_n 3, 1), (64, .invokevirtual 507, 3), (67, .ifCond .eq 12, 3), (70, .aload_n 0, 1), (71, .iload_n 1, 1), (72, .iload_n 3, 1), (73, .invokevirtual 555, 3), (76, .goto 4, 3), (79, .iconst (-1), 1), (80, .istore 4, 2), (82, .iload 4, 2)] = true := by decide +kernel
theorem dkX12_told_3 : dkq cX12_told [(84, .iconst (-1), 1), (85, .if_icmp .ne 7, 3), (88, .iconst (-1), 1), (89, .goto 11, 3), (92, .aload_n 0, 1), (93, .iload_n 1, 1), (94, .iload 4, 2), (96, .iload_n 3, 1), (97, .invokevirtual 548, 3), (100, .ireturn, 1)] = true := by decide +kernel
theorem dkX12_row_0 : dkq cX12_row [(0, .aload_n 0, 1), (1, .getfield 13, 3), (4, .istore_n 1, 1), (5, .aload_n 0, 1), (6, .iconst 0, 1), (7, .putfield 13, 3), (10, .aload_n 0, 1), (11, .invokevirtual 558, 3), (14, .iconst (-1), 1), (15, .istore_n 2, 1), (16, .iconst 0, 1), (17, .istore_n 3, 1), (18, .iload_n 3, 1), (19, .iload_n 1, 1), (20, .if_icmp .ge 67, 3), (23, .iload_n 2, 1)] = true := by decide +kernel
theorem dkX12_row_1 : dkq cX12_row [(24, .iconst (-1), 1), (25, .if_icmp .ne 62, 3), (28, .iload_n 3, 1), (29, .iconst 3, 1), (30, .iadd, 1), (31, .iload_n 1, 1), (32, .if_icmp .gt 32, 3), (35, .aload_n 0, 1), (36, .aload_n 0, 1), (37, .getfield 7, 3), (40, .iload_n 3, 1), (41, .iaload, 1), (42, .aload_n 0, 1), (43, .getfield 7, 3), (46, .iload_n 3, 1), (47, .iconst 1, 1)] = true := by decide +kernel
theorem dkX12_row_2 : dkq cX12_row [(48, .iadd, 1), (49, .iaload, 1), (50, .aload_n 0, 1), (51, .getfield 7, 3), (54, .iload_n 3, 1), (55, .iconst 2, 1), (56, .iadd, 1), (57, .iaload, 1), (58, .invokevirtual 561, 3), (61, .goto 4, 3), (64, .iconst (-1), 1), (65, .istore 4, 2), (67, .iload 4, 2), (69, .iconst (-1), 1), (70, .if_icmp .ne 9, 3), (73, .iload_n 3, 1)] = true := by decide +kernel
theorem dkX12_row_3 : dkq cX12_row [(74, .iconst 3, 1), (75, .idiv, 1), (76, .goto 4, 3), (79, .iconst (-1), 1), (80, .istore_n 2, 1), (81, .iinc 3 3, 3), (84, .goto (-66), 3), (87, .aload_n 0, 1), (88, .invokevirtual 564, 3), (91, .iload_n 2, 1), (92, .ireturn, 1)] = true := by decide +kernel
