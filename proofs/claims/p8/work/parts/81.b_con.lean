abbrev tr_r_X12_others (A : St) (u : St) : Prop := (∃ z1 : Int, q_X12_isWord 1936225652 A z1 ∧ (((z1 = 0) ∧ (∃ z5 : Int, q_X12_isWord 1819243380 A z5 ∧ (((z5 = 0) ∧ (∃ z9 : Int, q_X12_isWord 499967946343 A z9 ∧ (((z9 = 0) ∧ (∃ z13 : Int, q_X12_isWord 512735736947 A z13 ∧ (((z13 = 0) ∧ (∃ z17 : Int, q_X12_isWord 1836413812 A z17 ∧ (((z17 = 0) ∧ (∃ z21 : Int, q_X12_isWord 6447474 A z21 ∧ (((z21 = 0) ∧ (∃ A25 : St, q_X12_blame 1 (A 0 4) A A25 ∧ (u = A25))) ∨ ((¬ z21 = 0) ∧ (∃ A28 : St, q_X12_barring A A28 ∧ (u = A28)))))) ∨ ((¬ z17 = 0) ∧ (∃ A32 : St, q_X12_mustBe A A32 ∧ (u = A32)))))) ∨ ((¬ z13 = 0) ∧ (∃ A36 : St, q_X12_wanting A A36 ∧ (u = A36)))))) ∨ ((¬ z9 = 0) ∧ (∃ A41 : St, q_X12_thing A A41 ∧ (u = A41)))))) ∨ ((¬ z5 = 0) ∧ (∃ A45 : St, q_X12_losing A A45 ∧ (u = A45)))))) ∨ ((¬ z1 = 0) ∧ (∃ A49 : St, q_X12_shutting A A49 ∧ (u = A49)))))
def r_X12_others (A : St) (u : St) : Prop := tr_r_X12_others A u
theorem u_r_X12_others {A : St} {u : St} (h : tr_r_X12_others A u) : r_X12_others A u := h
def q_X12_others (A : St) (u : St) : Prop := r_X12_others A u ∧ IM u ∧ fr [10, 14, 15, 19, 20, 21, 22, 23, 24, 25, 26, 27, 28, 29, 30, 31, 32, 33, 34, 35, 36, 37, 38, 39, 40] [3, 4, 5, 6, 7, 8, 9, 46, 53, 54, 56, 57] A u ∧ CI u ∧ WI u ∧ (Hd (u 0 8 = 0 → CB u ∧ A 0 5 ≤ u 0 4))
def ws_mb_X12_others : List Cond := .code yX12_others cX12_others 1 none :: WX
set_option maxHeartbeats 4000000 in
set_option maxRecDepth 100000 in
theorem mb_X12_others (l : Launch) (dC : Nat → ClassId) (dI : Nat → Nat → Nat) (cB cI cJ cZ cQ : ClassId) (q : Nat → Nat) (A : St) (hI : IM A) (hp0 : CB A) (hcCI : CI A) (hcWI : WI A) : XMv l yX12_others ws_mb_X12_others ({ frames := 6, cells := 0, slots := 0, locals := 135 } : Room) (dC, dI) (tyA cB cI cJ cZ cQ) (WM cI cJ cZ q) A [.ref (q 0)] (fun u => r_X12_others A u ∧ IM u ∧ fr [10, 14, 15, 19, 20, 21, 22, 23, 24, 25, 26, 27, 28, 29, 30, 31, 32, 33, 34, 35, 36, 37, 38, 39, 40] [3, 4, 5, 6, 7, 8, 9, 46, 53, 54, 56, 57] A u ∧ CI u ∧ WI u ∧ (Hd (u 0 8 = 0 → CB u ∧ A 0 5 ≤ u 0 4))) := by
  refine x_metv (cc := cX12_others) (maxL := 1) WM_adr (by decide +kernel) rfl (Nat.le_of_ble_eq_true rfl) (fun p e s m below meth c Q AS ls hx hb hml hown hts hK hDD hA0 hP hS hl RET => ?_)
  have hown : s.vm.findClass RX12 = some m.cls := hown
  have hl : lv_has ls 1 [(0, .ref (q 0))] := hl
  have hiX12 : ∀ w ∈ u_ws RX12 TX12 85, w ∈ ws_mb_X12_others := fun w h => List.mem_cons_of_mem _ (wx_lay w h)
  obtain ⟨H, hHe⟩ : ∃ H : Heap, H = s.heap := ⟨_, rfl⟩
  rw [← hHe] at hP
  have hS : va_S AS s.heap H [] := by rw [hHe]; exact hS
  suffices hgo : ∀ locs : List Loc, va_S AS s.heap H locs → W p l e (headSpec ws_mb_X12_others ({ frames := 6, cells := 0, slots := 0, locals := 135 } : Room)).room s m [.ref (q 0)].toArray below meth c H locs 0 0 Q (F0 m 0 ls []) by
    have := hgo [] hS
    rw [hHe] at this
    exact this
  clear hS hHe
  intro locs hS
  have hle := CB.le hp0
  refine lv_aload_n hx hb dX12_others_0 rfl (lv_at hl 0 rfl) ?_
  refine lv_ldc2 (v := 1936225652) hx hb hown (hts _ (List.mem_cons_of_mem _ (wl_in_0 _ (List.mem_of_getElem? (i := 52) rfl)))) dX12_others_1 ?_
  refine tp_l (y := jI 1936225652) (by decide +kernel) ?_
  have r_A_0_3 : (0 : Int) ≤ (A 0 3) ∧ (A 0 3) ≤ 3 := hI 0 3
  have r_A_0_7 : (-9223372036854775808 : Int) ≤ (A 0 7) ∧ (A 0 7) ≤ 9223372036854775807 := hI 0 7
  refine x_calli (As := [.long (jI 1936225652)]) (rest := []) ⟨hx, hb, hml, hown, hts⟩ (mb_X12_isWord l dC dI cB cI cJ cZ cQ q _ 1936225652 hI ⟨by decide, by decide⟩) (cwV 1 hts (goodV (wl_in_1 _ (List.mem_of_getElem? (i := 59) rfl)) (wl_in_2 _ (List.mem_of_getElem? (i := 0) rfl)) (wl_in_2 _ (List.mem_of_getElem? (i := 1) rfl)) (wl_in_0 _ (List.mem_of_getElem? (i := 8) rfl)) (wl_in_0 _ (List.mem_of_getElem? (i := 35) rfl))) rfl rfl rfl (by decide +kernel) ⟨Nat.le_of_ble_eq_true rfl, Nat.le_of_ble_eq_true rfl⟩) hK hDD hA0 hP hS 0 12 wm0 rfl rfl hl.1 (Nat.le_of_ble_eq_true rfl) dX12_others_4 (fun z1 A2 H locs hw3 hP hS => ?_)
  obtain ⟨rfl, hw3⟩ := hw3
  have ghw3 : q_X12_isWord 1936225652 A z1 := hw3
  have hw3 := hw3.2
  have rz1 : 0 ≤ z1 ∧ z1 ≤ 1 := hw3.1
  replace hw3 := Hd.mk hw3.2
  refine lv_if_eq (tgt := 17) hx hb dX12_others_7 (by decide) (fun c4 => ?_) (fun c4 => ?_)
  · have c4 : z1 = 0 := (i_eq0 (rb rz1 (by decide) (by decide))).mp c4
    refine lv_aload_n hx hb dX12_others_17 rfl (lv_at hl 0 rfl) ?_
    refine lv_ldc2 (v := 1819243380) hx hb hown (hts _ (List.mem_cons_of_mem _ (wl_in_0 _ (List.mem_of_getElem? (i := 54) rfl)))) dX12_others_18 ?_
    refine tp_l (y := jI 1819243380) (by decide +kernel) ?_
    refine x_calli (As := [.long (jI 1819243380)]) (rest := []) ⟨hx, hb, hml, hown, hts⟩ (mb_X12_isWord l dC dI cB cI cJ cZ cQ q _ 1819243380 hI ⟨by decide, by decide⟩) (cwV 1 hts (goodV (wl_in_1 _ (List.mem_of_getElem? (i := 59) rfl)) (wl_in_2 _ (List.mem_of_getElem? (i := 0) rfl)) (wl_in_2 _ (List.mem_of_getElem? (i := 1) rfl)) (wl_in_0 _ (List.mem_of_getElem? (i := 8) rfl)) (wl_in_0 _ (List.mem_of_getElem? (i := 35) rfl))) rfl rfl rfl (by decide +kernel) ⟨Nat.le_of_ble_eq_true rfl, Nat.le_of_ble_eq_true rfl⟩) hK hDD hA0 hP hS 0 12 wm0 rfl rfl hl.1 (Nat.le_of_ble_eq_true rfl) dX12_others_21 (fun z5 A6 H locs hw7 hP hS => ?_)
    obtain ⟨rfl, hw7⟩ := hw7
    have ghw7 : q_X12_isWord 1819243380 A z5 := hw7
    have hw7 := hw7.2
    have rz5 : 0 ≤ z5 ∧ z5 ≤ 1 := hw7.1
    replace hw7 := Hd.mk hw7.2
    refine lv_if_eq (tgt := 34) hx hb dX12_others_24 (by decide) (fun c8 => ?_) (fun c8 => ?_)
    · have c8 : z5 = 0 := (i_eq0 (rb rz5 (by decide) (by decide))).mp c8
      refine lv_aload_n hx hb dX12_others_34 rfl (lv_at hl 0 rfl) ?_
      refine lv_ldc2 (v := 499967946343) hx hb hown (hts _ (List.mem_cons_of_mem _ (wl_in_0 _ (List.mem_of_getElem? (i := 55) rfl)))) dX12_others_35 ?_
      refine tp_l (y := jI 499967946343) (by decide +kernel) ?_
      refine x_calli (As := [.long (jI 499967946343)]) (rest := []) ⟨hx, hb, hml, hown, hts⟩ (mb_X12_isWord l dC dI cB cI cJ cZ cQ q _ 499967946343 hI ⟨by decide, by decide⟩) (cwV 1 hts (goodV (wl_in_1 _ (List.mem_of_getElem? (i := 59) rfl)) (wl_in_2 _ (List.mem_of_getElem? (i := 0) rfl)) (wl_in_2 _ (List.mem_of_getElem? (i := 1) rfl)) (wl_in_0 _ (List.mem_of_getElem? (i := 8) rfl)) (wl_in_0 _ (List.mem_of_getElem? (i := 35) rfl))) rfl rfl rfl (by decide +kernel) ⟨Nat.le_of_ble_eq_true rfl, Nat.le_of_ble_eq_true rfl⟩) hK hDD hA0 hP hS 0 12 wm0 rfl rfl hl.1 (Nat.le_of_ble_eq_true rfl) dX12_others_38 (fun z9 A10 H locs hw11 hP hS => ?_)
      obtain ⟨rfl, hw11⟩ := hw11
      have ghw11 : q_X12_isWord 499967946343 A z9 := hw11
      have hw11 := hw11.2
      have rz9 : 0 ≤ z9 ∧ z9 ≤ 1 := hw11.1
      replace hw11 := Hd.mk hw11.2
      refine lv_if_eq (tgt := 51) hx hb dX12_others_41 (by decide) (fun c12 => ?_) (fun c12 => ?_)
      · have c12 : z9 = 0 := (i_eq0 (rb rz9 (by decide) (by decide))).mp c12
        refine lv_aload_n hx hb dX12_others_51 rfl (lv_at hl 0 rfl) ?_
        refine lv_ldc2 (v := 512735736947) hx hb hown (hts _ (List.mem_cons_of_mem _ (wl_in_0 _ (List.mem_of_getElem? (i := 56) rfl)))) dX12_others_52 ?_
        refine tp_l (y := jI 512735736947) (by decide +kernel) ?_
        refine x_calli (As := [.long (jI 512735736947)]) (rest := []) ⟨hx, hb, hml, hown, hts⟩ (mb_X12_isWord l dC dI cB cI cJ cZ cQ q _ 512735736947 hI ⟨by decide, by decide⟩) (cwV 1 hts (goodV (wl_in_1 _ (List.mem_of_getElem? (i := 59) rfl)) (wl_in_2 _ (List.mem_of_getElem? (i := 0) rfl)) (wl_in_2 _ (List.mem_of_getElem? (i := 1) rfl)) (wl_in_0 _ (List.mem_of_getElem? (i := 8) rfl)) (wl_in_0 _ (List.mem_of_getElem? (i := 35) rfl))) rfl rfl rfl (by decide +kernel) ⟨Nat.le_of_ble_eq_true rfl, Nat.le_of_ble_eq_true rfl⟩) hK hDD hA0 hP hS 0 12 wm0 rfl rfl hl.1 (Nat.le_of_ble_eq_true rfl) dX12_others_55 (fun z13 A14 H locs hw15 hP hS => ?_)
        obtain ⟨rfl, hw15⟩ := hw15
        have ghw15 : q_X12_isWord 512735736947 A z13 := hw15
        have hw15 := hw15.2
        have rz13 : 0 ≤ z13 ∧ z13 ≤ 1 := hw15.1
        replace hw15 := Hd.mk hw15.2
        refine lv_if_eq (tgt := 68) hx hb dX12_others_58 (by decide) (fun c16 => ?_) (fun c16 => ?_)
        · have c16 : z13 = 0 := (i_eq0 (rb rz13 (by decide) (by decide))).mp c16
          refine lv_aload_n hx hb dX12_others_68 rfl (lv_at hl 0 rfl) ?_
          refine lv_ldc2 (v := 1836413812) hx hb hown (hts _ (List.mem_cons_of_mem _ (wl_in_0 _ (List.mem_of_getElem? (i := 57) rfl)))) dX12_others_69 ?_
          refine tp_l (y := jI 1836413812) (by decide +kernel) ?_
          refine x_calli (As := [.long (jI 1836413812)]) (rest := []) ⟨hx, hb, hml, hown, hts⟩ (mb_X12_isWord l dC dI cB cI cJ cZ cQ q _ 1836413812 hI ⟨by decide, by decide⟩) (cwV 1 hts (goodV (wl_in_1 _ (List.mem_of_getElem? (i := 59) rfl)) (wl_in_2 _ (List.mem_of_getElem? (i := 0) rfl)) (wl_in_2 _ (List.mem_of_getElem? (i := 1) rfl)) (wl_in_0 _ (List.mem_of_getElem? (i := 8) rfl)) (wl_in_0 _ (List.mem_of_getElem? (i := 35) rfl))) rfl rfl rfl (by decide +kernel) ⟨Nat.le_of_ble_eq_true rfl, Nat.le_of_ble_eq_true rfl⟩) hK hDD hA0 hP hS 0 12 wm0 rfl rfl hl.1 (Nat.le_of_ble_eq_true rfl) dX12_others_72 (fun z17 A18 H locs hw19 hP hS => ?_)
          obtain ⟨rfl, hw19⟩ := hw19
          have ghw19 : q_X12_isWord 1836413812 A z17 := hw19
          have hw19 := hw19.2
          have rz17 : 0 ≤ z17 ∧ z17 ≤ 1 := hw19.1
          replace hw19 := Hd.mk hw19.2
          refine lv_if_eq (tgt := 85) hx hb dX12_others_75 (by decide) (fun c20 => ?_) (fun c20 => ?_)
          · have c20 : z17 = 0 := (i_eq0 (rb rz17 (by decide) (by decide))).mp c20
            refine lv_aload_n hx hb dX12_others_85 rfl (lv_at hl 0 rfl) ?_
            refine lv_ldc2 (v := 6447474) hx hb hown (hts _ (List.mem_cons_of_mem _ (wl_in_0 _ (List.mem_of_getElem? (i := 58) rfl)))) dX12_others_86 ?_
            refine tp_l (y := jI 6447474) (by decide +kernel) ?_
            refine x_calli (As := [.long (jI 6447474)]) (rest := []) ⟨hx, hb, hml, hown, hts⟩ (mb_X12_isWord l dC dI cB cI cJ cZ cQ q _ 6447474 hI ⟨by decide, by decide⟩) (cwV 1 hts (goodV (wl_in_1 _ (List.mem_of_getElem? (i := 59) rfl)) (wl_in_2 _ (List.mem_of_getElem? (i := 0) rfl)) (wl_in_2 _ (List.mem_of_getElem? (i := 1) rfl)) (wl_in_0 _ (List.mem_of_getElem? (i := 8) rfl)) (wl_in_0 _ (List.mem_of_getElem? (i := 35) rfl))) rfl rfl rfl (by decide +kernel) ⟨Nat.le_of_ble_eq_true rfl, Nat.le_of_ble_eq_true rfl⟩) hK hDD hA0 hP hS 0 12 wm0 rfl rfl hl.1 (Nat.le_of_ble_eq_true rfl) dX12_others_89 (fun z21 A22 H locs hw23 hP hS => ?_)
            obtain ⟨rfl, hw23⟩ := hw23
            have ghw23 : q_X12_isWord 6447474 A z21 := hw23
            have hw23 := hw23.2
            have rz21 : 0 ≤ z21 ∧ z21 ≤ 1 := hw23.1
            replace hw23 := Hd.mk hw23.2
            refine lv_if_eq (tgt := 102) hx hb dX12_others_92 (by decide) (fun c24 => ?_) (fun c24 => ?_)
            · have c24 : z21 = 0 := (i_eq0 (rb rz21 (by decide) (by decide))).mp c24
              refine lv_aload_n hx hb dX12_others_102 rfl (lv_at hl 0 rfl) ?_
              refine lv_iconst (v := iI 1) hx hb dX12_others_103 (by decide +kernel) ?_
              refine lv_aload_n hx hb dX12_others_104 rfl (lv_at hl 0 rfl) ?_
              refine va_get (D := (dC, dI)) (ci := 12) (v := .int (iI (A 0 4))) (C := RX12) (T := TX12) (N := 85) hx hb hts hiX12 hown hK hP 0 wm0 rfl 4 (by decide) (hts _ (List.mem_cons_of_mem _ (wl_in_0 _ (List.mem_of_getElem? (i := 23) rfl)))) (fun _ h9 => h9) rfl dX12_others_105 ?_
              have r_A_0_4 : (0 : Int) ≤ (A 0 4) ∧ (A 0 4) ≤ 1600 := hI 0 4
              refine x_callv (As := [.int (iI 1), .int (iI (A 0 4))]) (rest := []) ⟨hx, hb, hml, hown, hts⟩ (mc_X12_blame l dC dI cB cI cJ cZ cQ q _ 1 (A 0 4) hI ⟨by decide, by decide⟩ r_A_0_4) (cwV 2 hts (goodV (wl_in_0 _ (List.mem_of_getElem? (i := 31) rfl)) (wl_in_0 _ (List.mem_of_getElem? (i := 32) rfl)) (wl_in_0 _ (List.mem_of_getElem? (i := 33) rfl)) (wl_in_0 _ (List.mem_of_getElem? (i := 8) rfl)) (wl_in_0 _ (List.mem_of_getElem? (i := 15) rfl))) rfl rfl rfl (by decide +kernel) ⟨Nat.le_of_ble_eq_true rfl, Nat.le_of_ble_eq_true rfl⟩) hK hDD hA0 hP hS 0 12 wm0 rfl rfl hl.1 (Nat.le_of_ble_eq_true rfl) dX12_others_108 (fun A25 H locs hw26 hP hS => ?_)
              have ghw26 : q_X12_blame 1 (A 0 4) A A25 := hw26
              obtain ⟨_, hI, hf27, hw26⟩ := hw26
              have r_A25_0_8 : (0 : Int) ≤ (A25 0 8) ∧ (A25 0 8) ≤ 5 := hI 0 8
              have e_A25_4 : A25 0 4 = (A 0 4) := (hf27.2 4 rfl)
              have e_A25_5 : A25 0 5 = (A 0 5) := (hf27.2 5 rfl)
              have r_A_0_5 : (0 : Int) ≤ (A 0 5) ∧ (A 0 5) ≤ 1600 := by rw [← e_A25_5]; exact hI 0 5
              exact RET _ _ _ _ _ ⟨(u_r_X12_others ⟨z1, ghw3, (Or.inl ⟨c4, ⟨z5, ghw7, (Or.inl ⟨c8, ⟨z9, ghw11, (Or.inl ⟨c12, ⟨z13, ghw15, (Or.inl ⟨c16, ⟨z17, ghw19, (Or.inl ⟨c20, ⟨z21, ghw23, (Or.inl ⟨c24, ⟨A25, ghw26, rfl⟩⟩)⟩⟩)⟩⟩)⟩⟩)⟩⟩)⟩⟩)⟩), hI, fr.trans (fr.rf) hf27 rfl rfl, (CI.fr hcCI hf27 rfl rfl), (WI.fr hcWI hf27 rfl rfl), Hd.mk (fun h => absurd h (by omega))⟩ hP hS dX12_others_111
            · have c24 : ¬ z21 = 0 := mt (i_eq0 (rb rz21 (by decide) (by decide))).mpr c24
              have hw23b := hw23.out.mp (by omega)
              refine lv_aload_n hx hb dX12_others_95 rfl (lv_at hl 0 rfl) ?_
              have r_A_0_5 : (0 : Int) ≤ (A 0 5) ∧ (A 0 5) ≤ 1600 := hI 0 5
              refine x_callv (As := []) (rest := []) ⟨hx, hb, hml, hown, hts⟩ (mb_X12_barring l dC dI cB cI cJ cZ cQ q _ hI (by exact hp0) hcCI) (cwV 0 hts (goodV (wl_in_4 _ (List.mem_of_getElem? (i := 7) rfl)) (wl_in_4 _ (List.mem_of_getElem? (i := 8) rfl)) (wl_in_4 _ (List.mem_of_getElem? (i := 9) rfl)) (wl_in_0 _ (List.mem_of_getElem? (i := 8) rfl)) (wl_in_3 _ (List.mem_of_getElem? (i := 24) rfl))) rfl rfl rfl (by decide +kernel) ⟨Nat.le_of_ble_eq_true rfl, Nat.le_of_ble_eq_true rfl⟩) hK hDD hA0 hP hS 0 12 wm0 rfl rfl hl.1 (Nat.le_of_ble_eq_true rfl) dX12_others_96 (fun A28 H locs hw29 hP hS => ?_)
              have ghw29 : q_X12_barring A A28 := hw29
              obtain ⟨_, hI, hf30, hw29⟩ := hw29
              obtain ⟨hc31, hw29⟩ := hw29
              have r_A28_0_4 : (0 : Int) ≤ (A28 0 4) ∧ (A28 0 4) ≤ 1600 := hI 0 4
              have r_A28_0_8 : (0 : Int) ≤ (A28 0 8) ∧ (A28 0 8) ≤ 5 := hI 0 8
              refine lv_goto (tgt := 111) hx hb dX12_others_99 (by decide) ?_
              have r_A28_0_5 : (0 : Int) ≤ (A28 0 5) ∧ (A28 0 5) ≤ 1600 := hI 0 5
              exact RET _ _ _ _ _ ⟨(u_r_X12_others ⟨z1, ghw3, (Or.inl ⟨c4, ⟨z5, ghw7, (Or.inl ⟨c8, ⟨z9, ghw11, (Or.inl ⟨c12, ⟨z13, ghw15, (Or.inl ⟨c16, ⟨z17, ghw19, (Or.inl ⟨c20, ⟨z21, ghw23, (Or.inr ⟨c24, ⟨A28, ghw29, rfl⟩⟩)⟩⟩)⟩⟩)⟩⟩)⟩⟩)⟩⟩)⟩), hI, fr.trans (fr.rf) hf30 rfl rfl, hc31, (WI.fr hcWI hf30 rfl rfl), Hd.mk (fun h0 => by have g := hw29.out (by omega); exact ⟨g.1, by have := g.2; omega⟩)⟩ hP hS dX12_others_111
          · have c20 : ¬ z17 = 0 := mt (i_eq0 (rb rz17 (by decide) (by decide))).mpr c20
            have hw19b := hw19.out.mp (by omega)
            refine lv_aload_n hx hb dX12_others_78 rfl (lv_at hl 0 rfl) ?_
            have r_A_0_4 : (0 : Int) ≤ (A 0 4) ∧ (A 0 4) ≤ 1600 := hI 0 4
            have r_A_0_5 : (0 : Int) ≤ (A 0 5) ∧ (A 0 5) ≤ 1600 := hI 0 5
            refine x_callv (As := []) (rest := []) ⟨hx, hb, hml, hown, hts⟩ (mb_X12_mustBe l dC dI cB cI cJ cZ cQ q _ hI hp0) (cwV 0 hts (goodV (wl_in_4 _ (List.mem_of_getElem? (i := 4) rfl)) (wl_in_4 _ (List.mem_of_getElem? (i := 5) rfl)) (wl_in_4 _ (List.mem_of_getElem? (i := 6) rfl)) (wl_in_0 _ (List.mem_of_getElem? (i := 8) rfl)) (wl_in_3 _ (List.mem_of_getElem? (i := 19) rfl))) rfl rfl rfl (by decide +kernel) ⟨Nat.le_of_ble_eq_true rfl, Nat.le_of_ble_eq_true rfl⟩) hK hDD hA0 hP hS 0 12 wm0 rfl rfl hl.1 (Nat.le_of_ble_eq_true rfl) dX12_others_79 (fun A32 H locs hw33 hP hS => ?_)
            have ghw33 : q_X12_mustBe A A32 := hw33
            obtain ⟨_, hI, hf34, hw33⟩ := hw33
            obtain ⟨hc35, hw33⟩ := hw33
            have r_A32_0_4 : (0 : Int) ≤ (A32 0 4) ∧ (A32 0 4) ≤ 1600 := hI 0 4
            have r_A32_0_8 : (0 : Int) ≤ (A32 0 8) ∧ (A32 0 8) ≤ 5 := hI 0 8
            refine lv_goto (tgt := 111) hx hb dX12_others_82 (by decide) ?_
            have r_A32_0_5 : (0 : Int) ≤ (A32 0 5) ∧ (A32 0 5) ≤ 1600 := hI 0 5
            exact RET _ _ _ _ _ ⟨(u_r_X12_others ⟨z1, ghw3, (Or.inl ⟨c4, ⟨z5, ghw7, (Or.inl ⟨c8, ⟨z9, ghw11, (Or.inl ⟨c12, ⟨z13, ghw15, (Or.inl ⟨c16, ⟨z17, ghw19, (Or.inr ⟨c20, ⟨A32, ghw33, rfl⟩⟩)⟩⟩)⟩⟩)⟩⟩)⟩⟩)⟩), hI, fr.trans (fr.rf) hf34 rfl rfl, (CI.fr hcCI hf34 rfl rfl), (WI.fr hcWI hf34 rfl rfl), Hd.mk (fun h0 => ⟨hc35, by omega⟩)⟩ hP hS dX12_others_111
        · have c16 : ¬ z13 = 0 := mt (i_eq0 (rb rz13 (by decide) (by decide))).mpr c16
          have hw15b := hw15.out.mp (by omega)
          refine lv_aload_n hx hb dX12_others_61 rfl (lv_at hl 0 rfl) ?_
          have r_A_0_4 : (0 : Int) ≤ (A 0 4) ∧ (A 0 4) ≤ 1600 := hI 0 4
          have r_A_0_5 : (0 : Int) ≤ (A 0 5) ∧ (A 0 5) ≤ 1600 := hI 0 5
          refine x_callv (As := []) (rest := []) ⟨hx, hb, hml, hown, hts⟩ (mb_X12_wanting l dC dI cB cI cJ cZ cQ q _ hI hp0 hcWI) (cwV 0 hts (goodV (wl_in_4 _ (List.mem_of_getElem? (i := 1) rfl)) (wl_in_4 _ (List.mem_of_getElem? (i := 2) rfl)) (wl_in_4 _ (List.mem_of_getElem? (i := 3) rfl)) (wl_in_0 _ (List.mem_of_getElem? (i := 8) rfl)) (wl_in_3 _ (List.mem_of_getElem? (i := 15) rfl))) rfl rfl rfl (by decide +kernel) ⟨Nat.le_of_ble_eq_true rfl, Nat.le_of_ble_eq_true rfl⟩) hK hDD hA0 hP hS 0 12 wm0 rfl rfl hl.1 (Nat.le_of_ble_eq_true rfl) dX12_others_62 (fun A36 H locs hw37 hP hS => ?_)
          have ghw37 : q_X12_wanting A A36 := hw37
          obtain ⟨_, hI, hf38, hw37⟩ := hw37
          obtain ⟨hc39, hw37⟩ := hw37
          obtain ⟨hc40, hw37⟩ := hw37
          have r_A36_0_4 : (0 : Int) ≤ (A36 0 4) ∧ (A36 0 4) ≤ 1600 := hI 0 4
          have r_A36_0_8 : (0 : Int) ≤ (A36 0 8) ∧ (A36 0 8) ≤ 5 := hI 0 8
          refine lv_goto (tgt := 111) hx hb dX12_others_65 (by decide) ?_
          have r_A36_0_5 : (0 : Int) ≤ (A36 0 5) ∧ (A36 0 5) ≤ 1600 := hI 0 5
          exact RET _ _ _ _ _ ⟨(u_r_X12_others ⟨z1, ghw3, (Or.inl ⟨c4, ⟨z5, ghw7, (Or.inl ⟨c8, ⟨z9, ghw11, (Or.inl ⟨c12, ⟨z13, ghw15, (Or.inr ⟨c16, ⟨A36, ghw37, rfl⟩⟩)⟩⟩)⟩⟩)⟩⟩)⟩), hI, fr.trans (fr.rf) hf38 rfl rfl, (CI.fr hcCI hf38 rfl rfl), hc40, Hd.mk (fun h0 => ⟨hc39, by omega⟩)⟩ hP hS dX12_others_111
      · have c12 : ¬ z9 = 0 := mt (i_eq0 (rb rz9 (by decide) (by decide))).mpr c12
        have hw11b := hw11.out.mp (by omega)
        refine lv_aload_n hx hb dX12_others_44 rfl (lv_at hl 0 rfl) ?_
        have r_A_0_4 : (0 : Int) ≤ (A 0 4) ∧ (A 0 4) ≤ 1600 := hI 0 4
        have r_A_0_5 : (0 : Int) ≤ (A 0 5) ∧ (A 0 5) ≤ 1600 := hI 0 5
        refine x_callv (As := []) (rest := []) ⟨hx, hb, hml, hown, hts⟩ (mb_X12_thing l dC dI cB cI cJ cZ cQ q _ hI hp0) (cwV 0 hts (goodV (wl_in_3 _ (List.mem_of_getElem? (i := 58) rfl)) (wl_in_3 _ (List.mem_of_getElem? (i := 59) rfl)) (wl_in_4 _ (List.mem_of_getElem? (i := 0) rfl)) (wl_in_0 _ (List.mem_of_getElem? (i := 8) rfl)) (wl_in_3 _ (List.mem_of_getElem? (i := 13) rfl))) rfl rfl rfl (by decide +kernel) ⟨Nat.le_of_ble_eq_true rfl, Nat.le_of_ble_eq_true rfl⟩) hK hDD hA0 hP hS 0 12 wm0 rfl rfl hl.1 (Nat.le_of_ble_eq_true rfl) dX12_others_45 (fun A41 H locs hw42 hP hS => ?_)
        have ghw42 : q_X12_thing A A41 := hw42
        obtain ⟨_, hI, hf43, hw42⟩ := hw42
        obtain ⟨hc44, hw42⟩ := hw42
        have r_A41_0_4 : (0 : Int) ≤ (A41 0 4) ∧ (A41 0 4) ≤ 1600 := hI 0 4
        have r_A41_0_8 : (0 : Int) ≤ (A41 0 8) ∧ (A41 0 8) ≤ 5 := hI 0 8
        refine lv_goto (tgt := 111) hx hb dX12_others_48 (by decide) ?_
        have r_A41_0_5 : (0 : Int) ≤ (A41 0 5) ∧ (A41 0 5) ≤ 1600 := hI 0 5
        exact RET _ _ _ _ _ ⟨(u_r_X12_others ⟨z1, ghw3, (Or.inl ⟨c4, ⟨z5, ghw7, (Or.inl ⟨c8, ⟨z9, ghw11, (Or.inr ⟨c12, ⟨A41, ghw42, rfl⟩⟩)⟩⟩)⟩⟩)⟩), hI, fr.trans (fr.rf) hf43 rfl rfl, (CI.fr hcCI hf43 rfl rfl), (WI.fr hcWI hf43 rfl rfl), Hd.mk (fun h0 => ⟨hc44, by omega⟩)⟩ hP hS dX12_others_111
    · have c8 : ¬ z5 = 0 := mt (i_eq0 (rb rz5 (by decide) (by decide))).mpr c8
      have hw7b := hw7.out.mp (by omega)
      refine lv_aload_n hx hb dX12_others_27 rfl (lv_at hl 0 rfl) ?_
      have r_A_0_4 : (0 : Int) ≤ (A 0 4) ∧ (A 0 4) ≤ 1600 := hI 0 4
      have r_A_0_5 : (0 : Int) ≤ (A 0 5) ∧ (A 0 5) ≤ 1600 := hI 0 5
      refine x_callv (As := []) (rest := []) ⟨hx, hb, hml, hown, hts⟩ (mb_X12_losing l dC dI cB cI cJ cZ cQ q _ hI hp0) (cwV 0 hts (goodV (wl_in_3 _ (List.mem_of_getElem? (i := 55) rfl)) (wl_in_3 _ (List.mem_of_getElem? (i := 56) rfl)) (wl_in_3 _ (List.mem_of_getElem? (i := 57) rfl)) (wl_in_0 _ (List.mem_of_getElem? (i := 8) rfl)) (wl_in_3 _ (List.mem_of_getElem? (i := 12) rfl))) rfl rfl rfl (by decide +kernel) ⟨Nat.le_of_ble_eq_true rfl, Nat.le_of_ble_eq_true rfl⟩) hK hDD hA0 hP hS 0 12 wm0 rfl rfl hl.1 (Nat.le_of_ble_eq_true rfl) dX12_others_28 (fun A45 H locs hw46 hP hS => ?_)
      have ghw46 : q_X12_losing A A45 := hw46
      obtain ⟨_, hI, hf47, hw46⟩ := hw46
      obtain ⟨hc48, hw46⟩ := hw46
      have r_A45_0_4 : (0 : Int) ≤ (A45 0 4) ∧ (A45 0 4) ≤ 1600 := hI 0 4
      have r_A45_0_8 : (0 : Int) ≤ (A45 0 8) ∧ (A45 0 8) ≤ 5 := hI 0 8
      refine lv_goto (tgt := 111) hx hb dX12_others_31 (by decide) ?_
      have r_A45_0_5 : (0 : Int) ≤ (A45 0 5) ∧ (A45 0 5) ≤ 1600 := hI 0 5
      exact RET _ _ _ _ _ ⟨(u_r_X12_others ⟨z1, ghw3, (Or.inl ⟨c4, ⟨z5, ghw7, (Or.inr ⟨c8, ⟨A45, ghw46, rfl⟩⟩)⟩⟩)⟩), hI, fr.trans (fr.rf) hf47 rfl rfl, (CI.fr hcCI hf47 rfl rfl), (WI.fr hcWI hf47 rfl rfl), Hd.mk (fun h0 => ⟨hc48, by omega⟩)⟩ hP hS dX12_others_111
  · have c4 : ¬ z1 = 0 := mt (i_eq0 (rb rz1 (by decide) (by decide))).mpr c4
    have hw3b := hw3.out.mp (by omega)
    refine lv_aload_n hx hb dX12_others_10 rfl (lv_at hl 0 rfl) ?_
    have r_A_0_4 : (0 : Int) ≤ (A 0 4) ∧ (A 0 4) ≤ 1600 := hI 0 4
    have r_A_0_5 : (0 : Int) ≤ (A 0 5) ∧ (A 0 5) ≤ 1600 := hI 0 5
    refine x_callv (As := []) (rest := []) ⟨hx, hb, hml, hown, hts⟩ (mb_X12_shutting l dC dI cB cI cJ cZ cQ q _ hI hp0) (cwV 0 hts (goodV (wl_in_3 _ (List.mem_of_getElem? (i := 52) rfl)) (wl_in_3 _ (List.mem_of_getElem? (i := 53) rfl)) (wl_in_3 _ (List.mem_of_getElem? (i := 54) rfl)) (wl_in_0 _ (List.mem_of_getElem? (i := 8) rfl)) (wl_in_3 _ (List.mem_of_getElem? (i := 8) rfl))) rfl rfl rfl (by decide +kernel) ⟨Nat.le_of_ble_eq_true rfl, Nat.le_of_ble_eq_true rfl⟩) hK hDD hA0 hP hS 0 12 wm0 rfl rfl hl.1 (Nat.le_of_ble_eq_true rfl) dX12_others_11 (fun A49 H locs hw50 hP hS => ?_)
    have ghw50 : q_X12_shutting A A49 := hw50
    obtain ⟨_, hI, hf51, hw50⟩ := hw50
    obtain ⟨hc52, hw50⟩ := hw50
    have r_A49_0_4 : (0 : Int) ≤ (A49 0 4) ∧ (A49 0 4) ≤ 1600 := hI 0 4
    have r_A49_0_8 : (0 : Int) ≤ (A49 0 8) ∧ (A49 0 8) ≤ 5 := hI 0 8
    refine lv_goto (tgt := 111) hx hb dX12_others_14 (by decide) ?_
    have r_A49_0_5 : (0 : Int) ≤ (A49 0 5) ∧ (A49 0 5) ≤ 1600 := hI 0 5
    exact RET _ _ _ _ _ ⟨(u_r_X12_others ⟨z1, ghw3, (Or.inr ⟨c4, ⟨A49, ghw50, rfl⟩⟩)⟩), hI, fr.trans (fr.rf) hf51 rfl rfl, (CI.fr hcCI hf51 rfl rfl), (WI.fr hcWI hf51 rfl rfl), Hd.mk (fun h0 => ⟨hc52, by omega⟩)⟩ hP hS dX12_others_111

abbrev tr_d_X12_statement_1 (u : St) (A56 : St) : Prop := ((IM A56) ∧ (((¬ (A56 0 8) = 0) ∧ (u = A56)) ∨ (((A56 0 8) = 0) ∧ (∃ A62 : St, q_X12_must 59 A56 A62 ∧ (u = A62)))))
def d_X12_statement_1 (u : St) (A56 : St) : Prop := tr_d_X12_statement_1 u A56
theorem u_d_X12_statement_1 {u : St} {A56 : St} (h : tr_d_X12_statement_1 u A56) : d_X12_statement_1 u A56 := h
abbrev tr_r_X12_statement (A : St) (u : St) : Prop := (∃ z1 : Int, q_X12_isWord 482854658917 A z1 ∧ (((z1 = 0) ∧ (∃ z6 : Int, q_X12_isWord 1685024626 A z6 ∧ (((z6 = 0) ∧ (∃ z10 : Int, q_X12_isWord 6451064 A z10 ∧ (((z10 = 0) ∧ (∃ z14 : Int, q_X12_isWord 7038329 A z14 ∧ (((z14 = 0) ∧ (∃ z18 : Int, q_X12_isWord 123581014175598 A z18 ∧ (((z18 = 0) ∧ (∃ z22 : Int, q_X12_isWord 6840691 A z22 ∧ (((z22 = 0) ∧ (∃ A26 : St, q_X12_others A A26 ∧ (d_X12_statement_1 u A26))) ∨ ((¬ z22 = 0) ∧ (∃ A31 : St, q_X12_having A A31 ∧ (d_X12_statement_1 u A31)))))) ∨ ((¬ z18 = 0) ∧ (∃ A35 : St, q_X12_person A A35 ∧ (d_X12_statement_1 u A35)))))) ∨ ((¬ z14 = 0) ∧ (∃ A39 : St, q_X12_key A A39 ∧ (d_X12_statement_1 u A39)))))) ∨ ((¬ z10 = 0) ∧ (∃ A43 : St, q_X12_door 1 A A43 ∧ (d_X12_statement_1 u A43)))))) ∨ ((¬ z6 = 0) ∧ (∃ A47 : St, q_X12_door 0 A A47 ∧ (d_X12_statement_1 u A47)))))) ∨ ((¬ z1 = 0) ∧ (∃ A51 : St, q_X12_place A A51 ∧ (d_X12_statement_1 u A51)))))
def r_X12_statement (A : St) (u : St) : Prop := tr_r_X12_statement A u
theorem u_r_X12_statement {A : St} {u : St} (h : tr_r_X12_statement A u) : r_X12_statement A u := h
def q_X12_statement (A : St) (u : St) : Prop := r_X12_statement A u ∧ IM u ∧ fr [2, 3, 4, 5, 6, 7, 8, 9, 10, 11, 12, 13, 14, 15, 16, 17, 18, 19, 20, 21, 22, 23, 24, 25, 26, 27, 28, 29, 30, 31, 32, 33, 34, 35, 36, 37, 38, 39, 40] [3, 4, 5, 6, 7, 8, 9, 46, 53, 54, 56, 57] A u ∧ CI u ∧ WI u ∧ (Hd (u 0 8 = 0 → CB u ∧ A 0 5 ≤ u 0 4))
def ws_mb_X12_statement : List Cond := .code yX12_statement cX12_statement 1 none :: WX
set_option maxHeartbeats 4000000 in
set_option maxRecDepth 100000 in
theorem mb_X12_statement (l : Launch) (dC : Nat → ClassId) (dI : Nat → Nat → Nat) (cB cI cJ cZ cQ : ClassId) (q : Nat → Nat) (A : St) (hI : IM A) (hp0 : CB A) (hcCI : CI A) (hcWI : WI A) : XMv l yX12_statement ws_mb_X12_statement ({ frames := 7, cells := 0, slots := 0, locals := 155 } : Room) (dC, dI) (tyA cB cI cJ cZ cQ) (WM cI cJ cZ q) A [.ref (q 0)] (fun u => r_X12_statement A u ∧ IM u ∧ fr [2, 3, 4, 5, 6, 7, 8, 9, 10, 11, 12, 13, 14, 15, 16, 17, 18, 19, 20, 21, 22, 23, 24, 25, 26, 27, 28, 29, 30, 31, 32, 33, 34, 35, 36, 37, 38, 39, 40] [3, 4, 5, 6, 7, 8, 9, 46, 53, 54, 56, 57] A u ∧ CI u ∧ WI u ∧ (Hd (u 0 8 = 0 → CB u ∧ A 0 5 ≤ u 0 4))) := by
  refine x_metv (cc := cX12_statement) (maxL := 1) WM_adr (by decide +kernel) rfl (Nat.le_of_ble_eq_true rfl) (fun p e s m below meth c Q AS ls hx hb hml hown hts hK hDD hA0 hP hS hl RET => ?_)
  have hown : s.vm.findClass RX12 = some m.cls := hown
  have hl : lv_has ls 1 [(0, .ref (q 0))] := hl
  have hiX12 : ∀ w ∈ u_ws RX12 TX12 85, w ∈ ws_mb_X12_statement := fun w h => List.mem_cons_of_mem _ (wx_lay w h)
  obtain ⟨H, hHe⟩ : ∃ H : Heap, H = s.heap := ⟨_, rfl⟩
  rw [← hHe] at hP
  have hS : va_S AS s.heap H [] := by rw [hHe]; exact hS
  suffices hgo : ∀ locs : List Loc, va_S AS s.heap H locs → W p l e (headSpec ws_mb_X12_statement ({ frames := 7, cells := 0, slots := 0, locals := 155 } : Room)).room s m [.ref (q 0)].toArray below meth c H locs 0 0 Q (F0 m 0 ls []) by
    have := hgo [] hS
    rw [hHe] at this
    exact this
  clear hS hHe
  intro locs hS
  have hle := CB.le hp0
  refine lv_aload_n hx hb dX12_statement_0 rfl (lv_at hl 0 rfl) ?_
  refine lv_ldc2 (v := 482854658917) hx hb hown (hts _ (List.mem_cons_of_mem _ (wl_in_0 _ (List.mem_of_getElem? (i := 44) rfl)))) dX12_statement_1 ?_
  refine tp_l (y := jI 482854658917) (by decide +kernel) ?_
  have r_A_0_3 : (0 : Int) ≤ (A 0 3) ∧ (A 0 3) ≤ 3 := hI 0 3
  have r_A_0_7 : (-9223372036854775808 : Int) ≤ (A 0 7) ∧ (A 0 7) ≤ 9223372036854775807 := hI 0 7
  refine x_calli (As := [.long (jI 482854658917)]) (rest := []) ⟨hx, hb, hml, hown, hts⟩ (mb_X12_isWord l dC dI cB cI cJ cZ cQ q _ 482854658917 hI ⟨by decide, by decide⟩) (cwV 1 hts (goodV (wl_in_1 _ (List.mem_of_getElem? (i := 59) rfl)) (wl_in_2 _ (List.mem_of_getElem? (i := 0) rfl)) (wl_in_2 _ (List.mem_of_getElem? (i := 1) rfl)) (wl_in_0 _ (List.mem_of_getElem? (i := 8) rfl)) (wl_in_0 _ (List.mem_of_getElem? (i := 35) rfl))) rfl rfl rfl (by decide +kernel) ⟨Nat.le_of_ble_eq_true rfl, Nat.le_of_ble_eq_true rfl⟩) hK hDD hA0 hP hS 0 12 wm0 rfl rfl hl.1 (Nat.le_of_ble_eq_true rfl) dX12_statement_4 (fun z1 A2 H locs hw3 hP hS => ?_)
  obtain ⟨rfl, hw3⟩ := hw3
  have ghw3 : q_X12_isWord 482854658917 A z1 := hw3
  have hw3 := hw3.2
  have rz1 : 0 ≤ z1 ∧ z1 ≤ 1 := hw3.1
  replace hw3 := Hd.mk hw3.2
  have J108_5 : ∀ (A56 : St) (H : Heap) (locs : List Loc) (ls : Array Slot), (Hd ((A56 0 8) = 0 → CB A56 ∧ A 0 5 ≤ (A56 0 4))) → (CI A56) → (WI A56) → (∀ (u : St), (d_X12_statement_1 u A56) → r_X12_statement A u) → IM A56 → fr [2, 3, 4, 5, 6, 7, 8, 9, 10, 11, 12, 13, 14, 15, 16, 17, 18, 19, 20, 21, 22, 23, 24, 25, 26, 27, 28, 29, 30, 31, 32, 33, 34, 35, 36, 37, 38, 39, 40] [3, 4, 5, 6, 7, 8, 9, 46, 53, 54, 56, 57] A A56 → va_P (dC, dI) vwCl (WM cI cJ cZ q A56) H → va_S AS s.heap H locs → lv_has ls 1 [(0, .ref (q 0))] → W p l e (headSpec ws_mb_X12_statement ({ frames := 7, cells := 0, slots := 0, locals := 155 } : Room)).room s m [.ref (q 0)].toArray below meth c H locs 0 0 Q (F0 m 108 ls []) := by
    intro A56 H locs ls f57 hc58 hc59 hk1 hI hj55 hP hS hl
    have gI60 : Hd (IM A56) := Hd.mk hI
    refine lv_aload_n hx hb dX12_statement_108 rfl (lv_at hl 0 rfl) ?_
    refine va_get (D := (dC, dI)) (ci := 12) (v := .int (iI (A56 0 8))) (C := RX12) (T := TX12) (N := 85) hx hb hts hiX12 hown hK hP 0 wm0 rfl 8 (by decide) (hts _ (List.mem_cons_of_mem _ (wl_in_0 _ (List.mem_of_getElem? (i := 16) rfl)))) (fun _ h9 => h9) rfl dX12_statement_109 ?_
    have r_A56_0_8 : (0 : Int) ≤ (A56 0 8) ∧ (A56 0 8) ≤ 5 := hI 0 8
    refine lv_if_ne (tgt := 121) hx hb dX12_statement_112 (by decide) (fun c61 => ?_) (fun c61 => ?_)
    · have c61 : ¬ (A56 0 8) = 0 := mt (i_eq0 (rb r_A56_0_8 (by decide) (by decide))).mpr c61
      have r_A56_0_4 : (0 : Int) ≤ (A56 0 4) ∧ (A56 0 4) ≤ 1600 := hI 0 4
      have r_A56_0_5 : (0 : Int) ≤ (A56 0 5) ∧ (A56 0 5) ≤ 1600 := hI 0 5
      exact RET _ _ _ _ _ ⟨hk1 _ (u_d_X12_statement_1 ⟨gI60.out, (Or.inl ⟨c61, rfl⟩)⟩), hI, fr.trans (fr.rf) hj55 rfl rfl, hc58, hc59, Hd.mk (fun h => absurd h (by omega))⟩ hP hS dX12_statement_121
    · have c61 : (A56 0 8) = 0 := (i_eq0 (rb r_A56_0_8 (by decide) (by decide))).mp c61
      have gst := f57.out (by omega)
      refine lv_aload_n hx hb dX12_statement_115 rfl (lv_at hl 0 rfl) ?_
      refine lv_bipush (v := iI 59) hx hb dX12_statement_116 (by decide +kernel) ?_
      have r_A56_0_4 : (0 : Int) ≤ (A56 0 4) ∧ (A56 0 4) ≤ 1600 := hI 0 4
      refine x_callv (As := [.int (iI 59)]) (rest := []) ⟨hx, hb, hml, hown, hts⟩ (mb_X12_must l dC dI cB cI cJ cZ cQ q _ 59 hI ⟨by decide, by decide⟩ gst.1) (cwV 1 hts (goodV (wl_in_4 _ (List.mem_of_getElem? (i := 10) rfl)) (wl_in_4 _ (List.mem_of_getElem? (i := 11) rfl)) (wl_in_4 _ (List.mem_of_getElem? (i := 12) rfl)) (wl_in_0 _ (List.mem_of_getElem? (i := 8) rfl)) (wl_in_0 _ (List.mem_of_getElem? (i := 36) rfl))) rfl rfl rfl (by decide +kernel) ⟨Nat.le_of_ble_eq_true rfl, Nat.le_of_ble_eq_true rfl⟩) hK hDD hA0 hP hS 0 12 wm0 rfl rfl hl.1 (Nat.le_of_ble_eq_true rfl) dX12_statement_118 (fun A62 H locs hw63 hP hS => ?_)
      have ghw63 : q_X12_must 59 A56 A62 := hw63
      obtain ⟨_, hI, hf64, hw63⟩ := hw63
      obtain ⟨hc65, hw63⟩ := hw63
      have r_A62_0_4 : (0 : Int) ≤ (A62 0 4) ∧ (A62 0 4) ≤ 1600 := hI 0 4
      have r_A62_0_5 : (0 : Int) ≤ (A62 0 5) ∧ (A62 0 5) ≤ 1600 := hI 0 5
      have r_A62_0_8 : (0 : Int) ≤ (A62 0 8) ∧ (A62 0 8) ≤ 5 := hI 0 8
      exact RET _ _ _ _ _ ⟨hk1 _ (u_d_X12_statement_1 ⟨gI60.out, (Or.inr ⟨c61, ⟨A62, ghw63, rfl⟩⟩)⟩), hI, fr.trans (fr.trans (fr.rf) hj55 rfl rfl) hf64 rfl rfl, (CI.fr hc58 hf64 rfl rfl), (WI.fr hc59 hf64 rfl rfl), Hd.mk (fun h0 => ⟨hc65, by have := gst.2; omega⟩)⟩ hP hS dX12_statement_121
  refine lv_if_eq (tgt := 17) hx hb dX12_statement_7 (by decide) (fun c4 => ?_) (fun c4 => ?_)
  · have c4 : z1 = 0 := (i_eq0 (rb rz1 (by decide) (by decide))).mp c4
    refine lv_aload_n hx hb dX12_statement_17 rfl (lv_at hl 0 rfl) ?_
    refine lv_ldc2 (v := 1685024626) hx hb hown (hts _ (List.mem_cons_of_mem _ (wl_in_0 _ (List.mem_of_getElem? (i := 45) rfl)))) dX12_statement_18 ?_
    refine tp_l (y := jI 1685024626) (by decide +kernel) ?_
    refine x_calli (As := [.long (jI 1685024626)]) (rest := []) ⟨hx, hb, hml, hown, hts⟩ (mb_X12_isWord l dC dI cB cI cJ cZ cQ q _ 1685024626 hI ⟨by decide, by decide⟩) (cwV 1 hts (goodV (wl_in_1 _ (List.mem_of_getElem? (i := 59) rfl)) (wl_in_2 _ (List.mem_of_getElem? (i := 0) rfl)) (wl_in_2 _ (List.mem_of_getElem? (i := 1) rfl)) (wl_in_0 _ (List.mem_of_getElem? (i := 8) rfl)) (wl_in_0 _ (List.mem_of_getElem? (i := 35) rfl))) rfl rfl rfl (by decide +kernel) ⟨Nat.le_of_ble_eq_true rfl, Nat.le_of_ble_eq_true rfl⟩) hK hDD hA0 hP hS 0 12 wm0 rfl rfl hl.1 (Nat.le_of_ble_eq_true rfl) dX12_statement_21 (fun z6 A7 H locs hw8 hP hS => ?_)
    obtain ⟨rfl, hw8⟩ := hw8
    have ghw8 : q_X12_isWord 1685024626 A z6 := hw8
    have hw8 := hw8.2
    have rz6 : 0 ≤ z6 ∧ z6 ≤ 1 := hw8.1
    replace hw8 := Hd.mk hw8.2
    refine lv_if_eq (tgt := 35) hx hb dX12_statement_24 (by decide) (fun c9 => ?_) (fun c9 => ?_)
    · have c9 : z6 = 0 := (i_eq0 (rb rz6 (by decide) (by decide))).mp c9
      refine lv_aload_n hx hb dX12_statement_35 rfl (lv_at hl 0 rfl) ?_
      refine lv_ldc2 (v := 6451064) hx hb hown (hts _ (List.mem_cons_of_mem _ (wl_in_0 _ (List.mem_of_getElem? (i := 46) rfl)))) dX12_statement_36 ?_
      refine tp_l (y := jI 6451064) (by decide +kernel) ?_
      refine x_calli (As := [.long (jI 6451064)]) (rest := []) ⟨hx, hb, hml, hown, hts⟩ (mb_X12_isWord l dC dI cB cI cJ cZ cQ q _ 6451064 hI ⟨by decide, by decide⟩) (cwV 1 hts (goodV (wl_in_1 _ (List.mem_of_getElem? (i := 59) rfl)) (wl_in_2 _ (List.mem_of_getElem? (i := 0) rfl)) (wl_in_2 _ (List.mem_of_getElem? (i := 1) rfl)) (wl_in_0 _ (List.mem_of_getElem? (i := 8) rfl)) (wl_in_0 _ (List.mem_of_getElem? (i := 35) rfl))) rfl rfl rfl (by decide +kernel) ⟨Nat.le_of_ble_eq_true rfl, Nat.le_of_ble_eq_true rfl⟩) hK hDD hA0 hP hS 0 12 wm0 rfl rfl hl.1 (Nat.le_of_ble_eq_true rfl) dX12_statement_39 (fun z10 A11 H locs hw12 hP hS => ?_)
      obtain ⟨rfl, hw12⟩ := hw12
      have ghw12 : q_X12_isWord 6451064 A z10 := hw12
      have hw12 := hw12.2
      have rz10 : 0 ≤ z10 ∧ z10 ≤ 1 := hw12.1
      replace hw12 := Hd.mk hw12.2
      refine lv_if_eq (tgt := 53) hx hb dX12_statement_42 (by decide) (fun c13 => ?_) (fun c13 => ?_)
      · have c13 : z10 = 0 := (i_eq0 (rb rz10 (by decide) (by decide))).mp c13
        refine lv_aload_n hx hb dX12_statement_53 rfl (lv_at hl 0 rfl) ?_
        refine lv_ldc2 (v := 7038329) hx hb hown (hts _ (List.mem_cons_of_mem _ (wl_in_0 _ (List.mem_of_getElem? (i := 48) rfl)))) dX12_statement_54 ?_
        refine tp_l (y := jI 7038329) (by decide +kernel) ?_
        refine x_calli (As := [.long (jI 7038329)]) (rest := []) ⟨hx, hb, hml, hown, hts⟩ (mb_X12_isWord l dC dI cB cI cJ cZ cQ q _ 7038329 hI ⟨by decide, by decide⟩) (cwV 1 hts (goodV (wl_in_1 _ (List.mem_of_getElem? (i := 59) rfl)) (wl_in_2 _ (List.mem_of_getElem? (i := 0) rfl)) (wl_in_2 _ (List.mem_of_getElem? (i := 1) rfl)) (wl_in_0 _ (List.mem_of_getElem? (i := 8) rfl)) (wl_in_0 _ (List.mem_of_getElem? (i := 35) rfl))) rfl rfl rfl (by decide +kernel) ⟨Nat.le_of_ble_eq_true rfl, Nat.le_of_ble_eq_true rfl⟩) hK hDD hA0 hP hS 0 12 wm0 rfl rfl hl.1 (Nat.le_of_ble_eq_true rfl) dX12_statement_57 (fun z14 A15 H locs hw16 hP hS => ?_)
        obtain ⟨rfl, hw16⟩ := hw16
        have ghw16 : q_X12_isWord 7038329 A z14 := hw16
        have hw16 := hw16.2
        have rz14 : 0 ≤ z14 ∧ z14 ≤ 1 := hw16.1
        replace hw16 := Hd.mk hw16.2
        refine lv_if_eq (tgt := 70) hx hb dX12_statement_60 (by decide) (fun c17 => ?_) (fun c17 => ?_)
        · have c17 : z14 = 0 := (i_eq0 (rb rz14 (by decide) (by decide))).mp c17
          refine lv_aload_n hx hb dX12_statement_70 rfl (lv_at hl 0 rfl) ?_
          refine lv_ldc2 (v := 123581014175598) hx hb hown (hts _ (List.mem_cons_of_mem _ (wl_in_0 _ (List.mem_of_getElem? (i := 50) rfl)))) dX12_statement_71 ?_
          refine tp_l (y := jI 123581014175598) (by decide +kernel) ?_
          refine x_calli (As := [.long (jI 123581014175598)]) (rest := []) ⟨hx, hb, hml, hown, hts⟩ (mb_X12_isWord l dC dI cB cI cJ cZ cQ q _ 123581014175598 hI ⟨by decide, by decide⟩) (cwV 1 hts (goodV (wl_in_1 _ (List.mem_of_getElem? (i := 59) rfl)) (wl_in_2 _ (List.mem_of_getElem? (i := 0) rfl)) (wl_in_2 _ (List.mem_of_getElem? (i := 1) rfl)) (wl_in_0 _ (List.mem_of_getElem? (i := 8) rfl)) (wl_in_0 _ (List.mem_of_getElem? (i := 35) rfl))) rfl rfl rfl (by decide +kernel) ⟨Nat.le_of_ble_eq_true rfl, Nat.le_of_ble_eq_true rfl⟩) hK hDD hA0 hP hS 0 12 wm0 rfl rfl hl.1 (Nat.le_of_ble_eq_true rfl) dX12_statement_74 (fun z18 A19 H locs hw20 hP hS => ?_)
          obtain ⟨rfl, hw20⟩ := hw20
          have ghw20 : q_X12_isWord 123581014175598 A z18 := hw20
          have hw20 := hw20.2
          have rz18 : 0 ≤ z18 ∧ z18 ≤ 1 := hw20.1
          replace hw20 := Hd.mk hw20.2
          refine lv_if_eq (tgt := 87) hx hb dX12_statement_77 (by decide) (fun c21 => ?_) (fun c21 => ?_)
          · have c21 : z18 = 0 := (i_eq0 (rb rz18 (by decide) (by decide))).mp c21
            refine lv_aload_n hx hb dX12_statement_87 rfl (lv_at hl 0 rfl) ?_
            refine lv_ldc2 (v := 6840691) hx hb hown (hts _ (List.mem_cons_of_mem _ (wl_in_0 _ (List.mem_of_getElem? (i := 51) rfl)))) dX12_statement_88 ?_
            refine tp_l (y := jI 6840691) (by decide +kernel) ?_
            refine x_calli (As := [.long (jI 6840691)]) (rest := []) ⟨hx, hb, hml, hown, hts⟩ (mb_X12_isWord l dC dI cB cI cJ cZ cQ q _ 6840691 hI ⟨by decide, by decide⟩) (cwV 1 hts (goodV (wl_in_1 _ (List.mem_of_getElem? (i := 59) rfl)) (wl_in_2 _ (List.mem_of_getElem? (i := 0) rfl)) (wl_in_2 _ (List.mem_of_getElem? (i := 1) rfl)) (wl_in_0 _ (List.mem_of_getElem? (i := 8) rfl)) (wl_in_0 _ (List.mem_of_getElem? (i := 35) rfl))) rfl rfl rfl (by decide +kernel) ⟨Nat.le_of_ble_eq_true rfl, Nat.le_of_ble_eq_true rfl⟩) hK hDD hA0 hP hS 0 12 wm0 rfl rfl hl.1 (Nat.le_of_ble_eq_true rfl) dX12_statement_91 (fun z22 A23 H locs hw24 hP hS => ?_)
            obtain ⟨rfl, hw24⟩ := hw24
            have ghw24 : q_X12_isWord 6840691 A z22 := hw24
            have hw24 := hw24.2
            have rz22 : 0 ≤ z22 ∧ z22 ≤ 1 := hw24.1
            replace hw24 := Hd.mk hw24.2
            refine lv_if_eq (tgt := 104) hx hb dX12_statement_94 (by decide) (fun c25 => ?_) (fun c25 => ?_)
            · have c25 : z22 = 0 := (i_eq0 (rb rz22 (by decide) (by decide))).mp c25
              refine lv_aload_n hx hb dX12_statement_104 rfl (lv_at hl 0 rfl) ?_
              have r_A_0_5 : (0 : Int) ≤ (A 0 5) ∧ (A 0 5) ≤ 1600 := hI 0 5
              refine x_callv (As := []) (rest := []) ⟨hx, hb, hml, hown, hts⟩ (mb_X12_others l dC dI cB cI cJ cZ cQ q _ hI (by exact hp0) hcCI hcWI) (cwV 0 hts (goodV (wl_in_3 _ (List.mem_of_getElem? (i := 48) rfl)) (wl_in_3 _ (List.mem_of_getElem? (i := 49) rfl)) (wl_in_3 _ (List.mem_of_getElem? (i := 50) rfl)) (wl_in_0 _ (List.mem_of_getElem? (i := 8) rfl)) (wl_in_3 _ (List.mem_of_getElem? (i := 51) rfl))) rfl rfl rfl (by decide +kernel) ⟨Nat.le_of_ble_eq_true rfl, Nat.le_of_ble_eq_true rfl⟩) hK hDD hA0 hP hS 0 12 wm0 rfl rfl hl.1 (Nat.le_of_ble_eq_true rfl) dX12_statement_105 (fun A26 H locs hw27 hP hS => ?_)
              have ghw27 : q_X12_others A A26 := hw27
              obtain ⟨_, hI, hf28, hw27⟩ := hw27
              obtain ⟨hc29, hw27⟩ := hw27
              obtain ⟨hc30, hw27⟩ := hw27
              have r_A26_0_4 : (0 : Int) ≤ (A26 0 4) ∧ (A26 0 4) ≤ 1600 := hI 0 4
              have r_A26_0_8 : (0 : Int) ≤ (A26 0 8) ∧ (A26 0 8) ≤ 5 := hI 0 8
              exact J108_5 _ _ _ _ (by exact Hd.mk (fun h0 => by have g := hw27.out (by omega); exact ⟨g.1, by have := g.2; omega⟩)) hc29 hc30 (fun uq hq => (u_r_X12_statement ⟨z1, ghw3, (Or.inl ⟨c4, ⟨z6, ghw8, (Or.inl ⟨c9, ⟨z10, ghw12, (Or.inl ⟨c13, ⟨z14, ghw16, (Or.inl ⟨c17, ⟨z18, ghw20, (Or.inl ⟨c21, ⟨z22, ghw24, (Or.inl ⟨c25, ⟨A26, ghw27, hq⟩⟩)⟩⟩)⟩⟩)⟩⟩)⟩⟩)⟩⟩)⟩)) hI (fr.trans (fr.rf) hf28 rfl rfl) hP hS (lv_sub hl [0] rfl)
            · have c25 : ¬ z22 = 0 := mt (i_eq0 (rb rz22 (by decide) (by decide))).mpr c25
              have hw24b := hw24.out.mp (by omega)
              refine lv_aload_n hx hb dX12_statement_97 rfl (lv_at hl 0 rfl) ?_
              have r_A_0_4 : (0 : Int) ≤ (A 0 4) ∧ (A 0 4) ≤ 1600 := hI 0 4
              have r_A_0_5 : (0 : Int) ≤ (A 0 5) ∧ (A 0 5) ≤ 1600 := hI 0 5
              refine x_callv (As := []) (rest := []) ⟨hx, hb, hml, hown, hts⟩ (mb_X12_having l dC dI cB cI cJ cZ cQ q _ hI hp0) (cwV 0 hts (goodV (wl_in_3 _ (List.mem_of_getElem? (i := 45) rfl)) (wl_in_3 _ (List.mem_of_getElem? (i := 46) rfl)) (wl_in_3 _ (List.mem_of_getElem? (i := 47) rfl)) (wl_in_0 _ (List.mem_of_getElem? (i := 8) rfl)) (wl_in_3 _ (List.mem_of_getElem? (i := 5) rfl))) rfl rfl rfl (by decide +kernel) ⟨Nat.le_of_ble_eq_true rfl, Nat.le_of_ble_eq_true rfl⟩) hK hDD hA0 hP hS 0 12 wm0 rfl rfl hl.1 (Nat.le_of_ble_eq_true rfl) dX12_statement_98 (fun A31 H locs hw32 hP hS => ?_)
              have ghw32 : q_X12_having A A31 := hw32
              obtain ⟨_, hI, hf33, hw32⟩ := hw32
              obtain ⟨hc34, hw32⟩ := hw32
              have r_A31_0_4 : (0 : Int) ≤ (A31 0 4) ∧ (A31 0 4) ≤ 1600 := hI 0 4
              have r_A31_0_8 : (0 : Int) ≤ (A31 0 8) ∧ (A31 0 8) ≤ 5 := hI 0 8
              refine lv_goto (tgt := 108) hx hb dX12_statement_101 (by decide) ?_
              exact J108_5 _ _ _ _ (by exact Hd.mk (fun h0 => ⟨hc34, by omega⟩)) (CI.fr hcCI hf33 rfl rfl) (WI.fr hcWI hf33 rfl rfl) (fun uq hq => (u_r_X12_statement ⟨z1, ghw3, (Or.inl ⟨c4, ⟨z6, ghw8, (Or.inl ⟨c9, ⟨z10, ghw12, (Or.inl ⟨c13, ⟨z14, ghw16, (Or.inl ⟨c17, ⟨z18, ghw20, (Or.inl ⟨c21, ⟨z22, ghw24, (Or.inr ⟨c25, ⟨A31, ghw32, hq⟩⟩)⟩⟩)⟩⟩)⟩⟩)⟩⟩)⟩⟩)⟩)) hI (fr.trans (fr.rf) hf33 rfl rfl) hP hS (lv_sub hl [0] rfl)
          · have c21 : ¬ z18 = 0 := mt (i_eq0 (rb rz18 (by decide) (by decide))).mpr c21
            have hw20b := hw20.out.mp (by omega)
            refine lv_aload_n hx hb dX12_statement_80 rfl (lv_at hl 0 rfl) ?_
            have r_A_0_4 : (0 : Int) ≤ (A 0 4) ∧ (A 0 4) ≤ 1600 := hI 0 4
            have r_A_0_5 : (0 : Int) ≤ (A 0 5) ∧ (A 0 5) ≤ 1600 := hI 0 5
            refine x_callv (As := []) (rest := []) ⟨hx, hb, hml, hown, hts⟩ (mb_X12_person l dC dI cB cI cJ cZ cQ q _ hI hp0) (cwV 0 hts (goodV (wl_in_3 _ (List.mem_of_getElem? (i := 42) rfl)) (wl_in_3 _ (List.mem_of_getElem? (i := 43) rfl)) (wl_in_3 _ (List.mem_of_getElem? (i := 44) rfl)) (wl_in_0 _ (List.mem_of_getElem? (i := 8) rfl)) (wl_in_3 _ (List.mem_of_getElem? (i := 3) rfl))) rfl rfl rfl (by decide +kernel) ⟨Nat.le_of_ble_eq_true rfl, Nat.le_of_ble_eq_true rfl⟩) hK hDD hA0 hP hS 0 12 wm0 rfl rfl hl.1 (Nat.le_of_ble_eq_true rfl) dX12_statement_81 (fun A35 H locs hw36 hP hS => ?_)
            have ghw36 : q_X12_person A A35 := hw36
            obtain ⟨_, hI, hf37, hw36⟩ := hw36
            obtain ⟨hc38, hw36⟩ := hw36
            have r_A35_0_4 : (0 : Int) ≤ (A35 0 4) ∧ (A35 0 4) ≤ 1600 := hI 0 4
            have r_A35_0_8 : (0 : Int) ≤ (A35 0 8) ∧ (A35 0 8) ≤ 5 := hI 0 8
            refine lv_goto (tgt := 108) hx hb dX12_statement_84 (by decide) ?_
            exact J108_5 _ _ _ _ (by exact Hd.mk (fun h0 => ⟨hc38, by omega⟩)) (CI.fr hcCI hf37 rfl rfl) (WI.fr hcWI hf37 rfl rfl) (fun uq hq => (u_r_X12_statement ⟨z1, ghw3, (Or.inl ⟨c4, ⟨z6, ghw8, (Or.inl ⟨c9, ⟨z10, ghw12, (Or.inl ⟨c13, ⟨z14, ghw16, (Or.inl ⟨c17, ⟨z18, ghw20, (Or.inr ⟨c21, ⟨A35, ghw36, hq⟩⟩)⟩⟩)⟩⟩)⟩⟩)⟩⟩)⟩)) hI (fr.trans (fr.rf) hf37 rfl rfl) hP hS (lv_sub hl [0] rfl)
        · have c17 : ¬ z14 = 0 := mt (i_eq0 (rb rz14 (by decide) (by decide))).mpr c17
          have hw16b := hw16.out.mp (by omega)
          refine lv_aload_n hx hb dX12_statement_63 rfl (lv_at hl 0 rfl) ?_
          have r_A_0_4 : (0 : Int) ≤ (A 0 4) ∧ (A 0 4) ≤ 1600 := hI 0 4
          have r_A_0_5 : (0 : Int) ≤ (A 0 5) ∧ (A 0 5) ≤ 1600 := hI 0 5
          refine x_callv (As := []) (rest := []) ⟨hx, hb, hml, hown, hts⟩ (mb_X12_key l dC dI cB cI cJ cZ cQ q _ hI hp0) (cwV 0 hts (goodV (wl_in_3 _ (List.mem_of_getElem? (i := 39) rfl)) (wl_in_3 _ (List.mem_of_getElem? (i := 40) rfl)) (wl_in_3 _ (List.mem_of_getElem? (i := 41) rfl)) (wl_in_0 _ (List.mem_of_getElem? (i := 8) rfl)) (wl_in_2 _ (List.mem_of_getElem? (i := 57) rfl))) rfl rfl rfl (by decide +kernel) ⟨Nat.le_of_ble_eq_true rfl, Nat.le_of_ble_eq_true rfl⟩) hK hDD hA0 hP hS 0 12 wm0 rfl rfl hl.1 (Nat.le_of_ble_eq_true rfl) dX12_statement_64 (fun A39 H locs hw40 hP hS => ?_)
          have ghw40 : q_X12_key A A39 := hw40
          obtain ⟨_, hI, hf41, hw40⟩ := hw40
          obtain ⟨hc42, hw40⟩ := hw40
          have r_A39_0_4 : (0 : Int) ≤ (A39 0 4) ∧ (A39 0 4) ≤ 1600 := hI 0 4
          have r_A39_0_8 : (0 : Int) ≤ (A39 0 8) ∧ (A39 0 8) ≤ 5 := hI 0 8
          refine lv_goto (tgt := 108) hx hb dX12_statement_67 (by decide) ?_
          exact J108_5 _ _ _ _ (by exact Hd.mk (fun h0 => ⟨hc42, by omega⟩)) (CI.fr hcCI hf41 rfl rfl) (WI.fr hcWI hf41 rfl rfl) (fun uq hq => (u_r_X12_statement ⟨z1, ghw3, (Or.inl ⟨c4, ⟨z6, ghw8, (Or.inl ⟨c9, ⟨z10, ghw12, (Or.inl ⟨c13, ⟨z14, ghw16, (Or.inr ⟨c17, ⟨A39, ghw40, hq⟩⟩)⟩⟩)⟩⟩)⟩⟩)⟩)) hI (fr.trans (fr.rf) hf41 rfl rfl) hP hS (lv_sub hl [0] rfl)
      · have c13 : ¬ z10 = 0 := mt (i_eq0 (rb rz10 (by decide) (by decide))).mpr c13
        have hw12b := hw12.out.mp (by omega)
        refine lv_aload_n hx hb dX12_statement_45 rfl (lv_at hl 0 rfl) ?_
        refine lv_iconst (v := iI 1) hx hb dX12_statement_46 (by decide +kernel) ?_
        have r_A_0_4 : (0 : Int) ≤ (A 0 4) ∧ (A 0 4) ≤ 1600 := hI 0 4
        have r_A_0_5 : (0 : Int) ≤ (A 0 5) ∧ (A 0 5) ≤ 1600 := hI 0 5
        refine x_callv (As := [.int (iI 1)]) (rest := []) ⟨hx, hb, hml, hown, hts⟩ (mb_X12_door l dC dI cB cI cJ cZ cQ q _ 1 hI ⟨by decide, by decide⟩ hp0) (cwV 1 hts (goodV (wl_in_3 _ (List.mem_of_getElem? (i := 36) rfl)) (wl_in_3 _ (List.mem_of_getElem? (i := 37) rfl)) (wl_in_3 _ (List.mem_of_getElem? (i := 38) rfl)) (wl_in_0 _ (List.mem_of_getElem? (i := 8) rfl)) (wl_in_2 _ (List.mem_of_getElem? (i := 38) rfl))) rfl rfl rfl (by decide +kernel) ⟨Nat.le_of_ble_eq_true rfl, Nat.le_of_ble_eq_true rfl⟩) hK hDD hA0 hP hS 0 12 wm0 rfl rfl hl.1 (Nat.le_of_ble_eq_true rfl) dX12_statement_47 (fun A43 H locs hw44 hP hS => ?_)
        have ghw44 : q_X12_door 1 A A43 := hw44
        obtain ⟨_, hI, hf45, hw44⟩ := hw44
        obtain ⟨hc46, hw44⟩ := hw44
        have r_A43_0_4 : (0 : Int) ≤ (A43 0 4) ∧ (A43 0 4) ≤ 1600 := hI 0 4
        have r_A43_0_8 : (0 : Int) ≤ (A43 0 8) ∧ (A43 0 8) ≤ 5 := hI 0 8
        refine lv_goto (tgt := 108) hx hb dX12_statement_50 (by decide) ?_
        exact J108_5 _ _ _ _ (by exact Hd.mk (fun h0 => ⟨hc46, by omega⟩)) (CI.fr hcCI hf45 rfl rfl) (WI.fr hcWI hf45 rfl rfl) (fun uq hq => (u_r_X12_statement ⟨z1, ghw3, (Or.inl ⟨c4, ⟨z6, ghw8, (Or.inl ⟨c9, ⟨z10, ghw12, (Or.inr ⟨c13, ⟨A43, ghw44, hq⟩⟩)⟩⟩)⟩⟩)⟩)) hI (fr.trans (fr.rf) hf45 rfl rfl) hP hS (lv_sub hl [0] rfl)
    · have c9 : ¬ z6 = 0 := mt (i_eq0 (rb rz6 (by decide) (by decide))).mpr c9
      have hw8b := hw8.out.mp (by omega)
      refine lv_aload_n hx hb dX12_statement_27 rfl (lv_at hl 0 rfl) ?_
      refine lv_iconst (v := iI 0) hx hb dX12_statement_28 (by decide +kernel) ?_
      have r_A_0_4 : (0 : Int) ≤ (A 0 4) ∧ (A 0 4) ≤ 1600 := hI 0 4
      have r_A_0_5 : (0 : Int) ≤ (A 0 5) ∧ (A 0 5) ≤ 1600 := hI 0 5
      refine x_callv (As := [.int (iI 0)]) (rest := []) ⟨hx, hb, hml, hown, hts⟩ (mb_X12_door l dC dI cB cI cJ cZ cQ q _ 0 hI ⟨by decide, by decide⟩ hp0) (cwV 1 hts (goodV (wl_in_3 _ (List.mem_of_getElem? (i := 36) rfl)) (wl_in_3 _ (List.mem_of_getElem? (i := 37) rfl)) (wl_in_3 _ (List.mem_of_getElem? (i := 38) rfl)) (wl_in_0 _ (List.mem_of_getElem? (i := 8) rfl)) (wl_in_2 _ (List.mem_of_getElem? (i := 38) rfl))) rfl rfl rfl (by decide +kernel) ⟨Nat.le_of_ble_eq_true rfl, Nat.le_of_ble_eq_true rfl⟩) hK hDD hA0 hP hS 0 12 wm0 rfl rfl hl.1 (Nat.le_of_ble_eq_true rfl) dX12_statement_29 (fun A47 H locs hw48 hP hS => ?_)
      have ghw48 : q_X12_door 0 A A47 := hw48
      obtain ⟨_, hI, hf49, hw48⟩ := hw48
      obtain ⟨hc50, hw48⟩ := hw48
      have r_A47_0_4 : (0 : Int) ≤ (A47 0 4) ∧ (A47 0 4) ≤ 1600 := hI 0 4
      have r_A47_0_8 : (0 : Int) ≤ (A47 0 8) ∧ (A47 0 8) ≤ 5 := hI 0 8
      refine lv_goto (tgt := 108) hx hb dX12_statement_32 (by decide) ?_
      exact J108_5 _ _ _ _ (by exact Hd.mk (fun h0 => ⟨hc50, by omega⟩)) (CI.fr hcCI hf49 rfl rfl) (WI.fr hcWI hf49 rfl rfl) (fun uq hq => (u_r_X12_statement ⟨z1, ghw3, (Or.inl ⟨c4, ⟨z6, ghw8, (Or.inr ⟨c9, ⟨A47, ghw48, hq⟩⟩)⟩⟩)⟩)) hI (fr.trans (fr.rf) hf49 rfl rfl) hP hS (lv_sub hl [0] rfl)
  · have c4 : ¬ z1 = 0 := mt (i_eq0 (rb rz1 (by decide) (by decide))).mpr c4
    have hw3b := hw3.out.mp (by omega)
    refine lv_aload_n hx hb dX12_statement_10 rfl (lv_at hl 0 rfl) ?_
    have r_A_0_4 : (0 : Int) ≤ (A 0 4) ∧ (A 0 4) ≤ 1600 := hI 0 4
    have r_A_0_5 : (0 : Int) ≤ (A 0 5) ∧ (A 0 5) ≤ 1600 := hI 0 5
    refine x_callv (As := []) (rest := []) ⟨hx, hb, hml, hown, hts⟩ (mb_X12_place l dC dI cB cI cJ cZ cQ q _ hI hp0) (cwV 0 hts (goodV (wl_in_3 _ (List.mem_of_getElem? (i := 33) rfl)) (wl_in_3 _ (List.mem_of_getElem? (i := 34) rfl)) (wl_in_3 _ (List.mem_of_getElem? (i := 35) rfl)) (wl_in_0 _ (List.mem_of_getElem? (i := 8) rfl)) (wl_in_2 _ (List.mem_of_getElem? (i := 31) rfl))) rfl rfl rfl (by decide +kernel) ⟨Nat.le_of_ble_eq_true rfl, Nat.le_of_ble_eq_true rfl⟩) hK hDD hA0 hP hS 0 12 wm0 rfl rfl hl.1 (Nat.le_of_ble_eq_true rfl) dX12_statement_11 (fun A51 H locs hw52 hP hS => ?_)
    have ghw52 : q_X12_place A A51 := hw52
    obtain ⟨_, hI, hf53, hw52⟩ := hw52
    obtain ⟨hc54, hw52⟩ := hw52
    have r_A51_0_4 : (0 : Int) ≤ (A51 0 4) ∧ (A51 0 4) ≤ 1600 := hI 0 4
    have r_A51_0_8 : (0 : Int) ≤ (A51 0 8) ∧ (A51 0 8) ≤ 5 := hI 0 8
    refine lv_goto (tgt := 108) hx hb dX12_statement_14 (by decide) ?_
    exact J108_5 _ _ _ _ (by exact Hd.mk (fun h0 => ⟨hc54, by omega⟩)) (CI.fr hcCI hf53 rfl rfl) (WI.fr hcWI hf53 rfl rfl) (fun uq hq => (u_r_X12_statement ⟨z1, ghw3, (Or.inr ⟨c4, ⟨A51, ghw52, hq⟩⟩)⟩)) hI (fr.trans (fr.rf) hf53 rfl rfl) hP hS (lv_sub hl [0] rfl)
theorem dX12_town_0 : decode cX12_town 0 = .ok (.aload_n 0, 1) := by decide +kernel
theorem dX12_town_1 : decode cX12_town 1 = .ok (.aload_n 0, 1) := by decide +kernel
theorem dX12_town_2 : decode cX12_town 2 = .ok (.getfield 13, 3) := by decide +kernel
theorem dX12_town_5 : decode cX12_town 5 = .ok (.putfield 17, 3) := by decide +kernel
theorem dX12_town_8 : decode cX12_town 8 = .ok (.aload_n 0, 1) := by decide +kernel
theorem dX12_town_9 : decode cX12_town 9 = .ok (.iconst 0, 1) := by decide +kernel
theorem dX12_town_10 : decode cX12_town 10 = .ok (.putfield 13, 3) := by decide +kernel
theorem dX12_town_13 : decode cX12_town 13 = .ok (.aload_n 0, 1) := by decide +kernel
theorem dX12_town_14 : decode cX12_town 14 = .ok (.iconst 0, 1) := by decide +kernel
theorem dX12_town_15 : decode cX12_town 15 = .ok (.putfield 26, 3) := by decide +kernel
theorem dX12_town_18 : decode cX12_town 18 = .ok (.aload_n 0, 1) := by decide +kernel
theorem dX12_town_19 : decode cX12_town 19 = .ok (.iconst 0, 1) := by decide +kernel
theorem dX12_town_20 : decode cX12_town 20 = .ok (.putfield 36, 3) := by decide +kernel
theorem dX12_town_23 : decode cX12_town 23 = .ok (.aload_n 0, 1) := by decide +kernel
theorem dX12_town_24 : decode cX12_town 24 = .ok (.iconst (-1), 1) := by decide +kernel
theorem dX12_town_25 : decode cX12_town 25 = .ok (.putfield 39, 3) := by decide +kernel
theorem dX12_town_28 : decode cX12_town 28 = .ok (.aload_n 0, 1) := by decide +kernel
theorem dX12_town_29 : decode cX12_town 29 = .ok (.iconst 1, 1) := by decide +kernel
theorem dX12_town_30 : decode cX12_town 30 = .ok (.aload_n 0, 1) := by decide +kernel
theorem dX12_town_31 : decode cX12_town 31 = .ok (.getfield 48, 3) := by decide +kernel
theorem dX12_town_34 : decode cX12_town 34 = .ok (.isub, 1) := by decide +kernel
theorem dX12_town_35 : decode cX12_town 35 = .ok (.putfield 155, 3) := by decide +kernel
theorem dX12_town_38 : decode cX12_town 38 = .ok (.aload_n 0, 1) := by decide +kernel
theorem dX12_town_39 : decode cX12_town 39 = .ok (.getfield 51, 3) := by decide +kernel
theorem dX12_town_42 : decode cX12_town 42 = .ok (.aload_n 0, 1) := by decide +kernel
theorem dX12_town_43 : decode cX12_town 43 = .ok (.getfield 155, 3) := by decide +kernel
theorem dX12_town_46 : decode cX12_town 46 = .ok (.iconst 0, 1) := by decide +kernel
theorem dX12_town_47 : decode cX12_town 47 = .ok (.iastore, 1) := by decide +kernel
theorem dX12_town_48 : decode cX12_town 48 = .ok (.aload_n 0, 1) := by decide +kernel
theorem dX12_town_49 : decode cX12_town 49 = .ok (.getfield 58, 3) := by decide +kernel
theorem dX12_town_52 : decode cX12_town 52 = .ok (.aload_n 0, 1) := by decide +kernel
theorem dX12_town_53 : decode cX12_town 53 = .ok (.getfield 155, 3) := by decide +kernel
theorem dX12_town_56 : decode cX12_town 56 = .ok (.iconst 0, 1) := by decide +kernel
theorem dX12_town_57 : decode cX12_town 57 = .ok (.iastore, 1) := by decide +kernel
theorem dX12_town_58 : decode cX12_town 58 = .ok (.aload_n 0, 1) := by decide +kernel
theorem dX12_town_59 : decode cX12_town 59 = .ok (.getfield 80, 3) := by decide +kernel
theorem dX12_town_62 : decode cX12_town 62 = .ok (.aload_n 0, 1) := by decide +kernel
theorem dX12_town_63 : decode cX12_town 63 = .ok (.getfield 155, 3) := by decide +kernel
theorem dX12_town_66 : decode cX12_town 66 = .ok (.iconst 0, 1) := by decide +kernel
theorem dX12_town_67 : decode cX12_town 67 = .ok (.iastore, 1) := by decide +kernel
theorem dX12_town_68 : decode cX12_town 68 = .ok (.aload_n 0, 1) := by decide +kernel
theorem dX12_town_69 : decode cX12_town 69 = .ok (.getfield 95, 3) := by decide +kernel
theorem dX12_town_72 : decode cX12_town 72 = .ok (.aload_n 0, 1) := by decide +kernel
theorem dX12_town_73 : decode cX12_town 73 = .ok (.getfield 155, 3) := by decide +kernel
theorem dX12_town_76 : decode cX12_town 76 = .ok (.iconst 0, 1) := by decide +kernel
theorem dX12_town_77 : decode cX12_town 77 = .ok (.iastore, 1) := by decide +kernel
theorem dX12_town_78 : decode cX12_town 78 = .ok (.aload_n 0, 1) := by decide +kernel
theorem dX12_town_79 : decode cX12_town 79 = .ok (.getfield 104, 3) := by decide +kernel
theorem dX12_town_82 : decode cX12_town 82 = .ok (.aload_n 0, 1) := by decide +kernel
theorem dX12_town_83 : decode cX12_town 83 = .ok (.getfield 155, 3) := by decide +kernel
theorem dX12_town_86 : decode cX12_town 86 = .ok (.iconst 0, 1) := by decide +kernel
theorem dX12_town_87 : decode cX12_town 87 = .ok (.iastore, 1) := by decide +kernel
theorem dX12_town_88 : decode cX12_town 88 = .ok (.aload_n 0, 1) := by decide +kernel
theorem dX12_town_89 : decode cX12_town 89 = .ok (.getfield 113, 3) := by decide +kernel
theorem dX12_town_92 : decode cX12_town 92 = .ok (.aload_n 0, 1) := by decide +kernel
theorem dX12_town_93 : decode cX12_town 93 = .ok (.getfield 155, 3) := by decide +kernel
theorem dX12_town_96 : decode cX12_town 96 = .ok (.iconst 0, 1) := by decide +kernel
theorem dX12_town_97 : decode cX12_town 97 = .ok (.iastore, 1) := by decide +kernel
theorem dX12_town_98 : decode cX12_town 98 = .ok (.aload_n 0, 1) := by decide +kernel
theorem dX12_town_99 : decode cX12_town 99 = .ok (.getfield 122, 3) := by decide +kernel
theorem dX12_town_102 : decode cX12_town 102 = .ok (.aload_n 0, 1) := by decide +kernel
theorem dX12_town_103 : decode cX12_town 103 = .ok (.getfield 155, 3) := by decide +kernel
theorem dX12_town_106 : decode cX12_town 106 = .ok (.iconst 0, 1) := by decide +kernel
theorem dX12_town_107 : decode cX12_town 107 = .ok (.iastore, 1) := by decide +kernel
theorem dX12_town_108 : decode cX12_town 108 = .ok (.aload_n 0, 1) := by decide +kernel
theorem dX12_town_109 : decode cX12_town 109 = .ok (.getfield 134, 3) := by decide +kernel
theorem dX12_town_112 : decode cX12_town 112 = .ok (.aload_n 0, 1) := by decide +kernel
theorem dX12_town_113 : decode cX12_town 113 = .ok (.getfield 155, 3) := by decide +kernel
theorem dX12_town_116 : decode cX12_town 116 = .ok (.iconst 0, 1) := by decide +kernel
theorem dX12_town_117 : decode cX12_town 117 = .ok (.iastore, 1) := by decide +kernel
theorem dX12_town_118 : decode cX12_town 118 = .ok (.aload_n 0, 1) := by decide +kernel
theorem dX12_town_119 : decode cX12_town 119 = .ok (.iconst 0, 1) := by decide +kernel
theorem dX12_town_120 : decode cX12_town 120 = .ok (.putfield 152, 3) := by decide +kernel
theorem dX12_town_123 : decode cX12_town 123 = .ok (.iconst 0, 1) := by decide +kernel
theorem dX12_town_124 : decode cX12_town 124 = .ok (.istore_n 1, 1) := by decide +kernel
theorem dX12_town_125 : decode cX12_town 125 = .ok (.aload_n 0, 1) := by decide +kernel
theorem dX12_town_126 : decode cX12_town 126 = .ok (.invokevirtual 293, 3) := by decide +kernel
theorem dX12_town_129 : decode cX12_town 129 = .ok (.aload_n 0, 1) := by decide +kernel
theorem dX12_town_130 : decode cX12_town 130 = .ok (.getfield 36, 3) := by decide +kernel
theorem dX12_town_133 : decode cX12_town 133 = .ok (.ifCond .ne 20, 3) := by decide +kernel
theorem dX12_town_136 : decode cX12_town 136 = .ok (.aload_n 0, 1) := by decide +kernel
theorem dX12_town_137 : decode cX12_town 137 = .ok (.getfield 20, 3) := by decide +kernel
theorem dX12_town_140 : decode cX12_town 140 = .ok (.ifCond .eq 13, 3) := by decide +kernel
theorem dX12_town_143 : decode cX12_town 143 = .ok (.aload_n 0, 1) := by decide +kernel
theorem dX12_town_144 : decode cX12_town 144 = .ok (.invokevirtual 465, 3) := by decide +kernel
theorem dX12_town_147 : decode cX12_town 147 = .ok (.iinc 1 1, 3) := by decide +kernel
theorem dX12_town_150 : decode cX12_town 150 = .ok (.goto (-21), 3) := by decide +kernel
theorem dX12_town_153 : decode cX12_town 153 = .ok (.aload_n 0, 1) := by decide +kernel
theorem dX12_town_154 : decode cX12_town 154 = .ok (.aload_n 0, 1) := by decide +kernel
theorem dX12_town_155 : decode cX12_town 155 = .ok (.getfield 36, 3) := by decide +kernel
theorem dX12_town_158 : decode cX12_town 158 = .ok (.putfield 42, 3) := by decide +kernel
theorem dX12_town_161 : decode cX12_town 161 = .ok (.aload_n 0, 1) := by decide +kernel
theorem dX12_town_162 : decode cX12_town 162 = .ok (.aload_n 0, 1) := by decide +kernel
theorem dX12_town_163 : decode cX12_town 163 = .ok (.getfield 39, 3) := by decide +kernel
theorem dX12_town_166 : decode cX12_town 166 = .ok (.putfield 45, 3) := by decide +kernel
theorem dX12_town_169 : decode cX12_town 169 = .ok (.aload_n 0, 1) := by decide +kernel
theorem dX12_town_170 : decode cX12_town 170 = .ok (.getfield 36, 3) := by decide +kernel
theorem dX12_town_173 : decode cX12_town 173 = .ok (.ifCond .le 9, 3) := by decide +kernel
theorem dX12_town_176 : decode cX12_town 176 = .ok (.aload_n 0, 1) := by decide +kernel
theorem dX12_town_177 : decode cX12_town 177 = .ok (.iconst 1, 1) := by decide +kernel
theorem dX12_town_178 : decode cX12_town 178 = .ok (.invokevirtual 271, 3) := by decide +kernel
theorem dX12_town_181 : decode cX12_town 181 = .ok (.ireturn, 1) := by decide +kernel
theorem dX12_town_182 : decode cX12_town 182 = .ok (.aload_n 0, 1) := by decide +kernel
theorem dX12_town_183 : decode cX12_town 183 = .ok (.aload_n 0, 1) := by decide +kernel
theorem dX12_town_184 : decode cX12_town 184 = .ok (.getfield 155, 3) := by decide +kernel
theorem dX12_town_187 : decode cX12_town 187 = .ok (.putfield 48, 3) := by decide +kernel
theorem dX12_town_190 : decode cX12_town 190 = .ok (.aload_n 0, 1) := by decide +kernel
theorem dX12_town_191 : decode cX12_town 191 = .ok (.iconst 0, 1) := by decide +kernel
theorem dX12_town_192 : decode cX12_town 192 = .ok (.putfield 241, 3) := by decide +kernel
theorem dX12_town_195 : decode cX12_town 195 = .ok (.iload_n 1, 1) := by decide +kernel
theorem dX12_town_196 : decode cX12_town 196 = .ok (.ireturn, 1) := by decide +kernel
abbrev tr_d_X12_town_2 (z5 : Int) (A : St) (A7 : St) (z : Int) (u : St) : Prop := ((((A7 0 8) ≤ 0) ∧ (∃ A27 : St, A27 = (stA (stA (stA (stA A7 0 10 (A7 0 8)) 0 11 (A7 0 9)) 0 12 (-(A 0 12) + 1)) 0 75 0) ∧ (z = z5 ∧ u = A27))) ∨ ((¬ (A7 0 8) ≤ 0) ∧ (∃ A28 : St, A28 = (stA (stA A7 0 10 (A7 0 8)) 0 11 (A7 0 9)) ∧ (∃ z29 : Int, ∃ A30 : St, q_X12_refuses 1 A28 z29 A30 ∧ (z = z29 ∧ u = A30)))))
def d_X12_town_2 (z5 : Int) (A : St) (A7 : St) (z : Int) (u : St) : Prop := tr_d_X12_town_2 z5 A A7 z u
theorem u_d_X12_town_2 {z5 : Int} {A : St} {A7 : St} {z : Int} {u : St} (h : tr_d_X12_town_2 z5 A A7 z u) : d_X12_town_2 z5 A A7 z u := h
abbrev tr_d_X12_town_1 (A : St) (z : Int) (u : St) (K1 : Int → St → Prop) (z5 : Int) (A7 : St) : Prop := ((IM A7) ∧ ((-2147483648 ≤ z5 ∧ z5 ≤ 2147483647) ∧ (((¬ (A7 0 8) = 0) ∧ (d_X12_town_2 z5 A A7 z u)) ∨ (((A7 0 8) = 0) ∧ ((((A7 0 3) = 0) ∧ (d_X12_town_2 z5 A A7 z u)) ∨ ((¬ (A7 0 3) = 0) ∧ (∃ A19 : St, q_X12_statement A7 A19 ∧ (∃ z24 : Int, z24 = oWrap (z5 + 1) ∧ (K1 z24 A19)))))))))
def d_X12_town_1 (A : St) (z : Int) (u : St) : Nat → Int → St → Prop
  | 0, _, _ => False
  | nn9 + 1, z5, A7 => tr_d_X12_town_1 A z u (fun z5 A7 => d_X12_town_1 A z u nn9 z5 A7) z5 A7
theorem u_d_X12_town_1 {A : St} {z : Int} {u : St} {nn9 : Nat} {z5 : Int} {A7 : St} (h : tr_d_X12_town_1 A z u (fun z5 A7 => d_X12_town_1 A z u nn9 z5 A7) z5 A7) : d_X12_town_1 A z u (nn9 + 1) z5 A7 := h
abbrev tr_r_X12_town (A : St) (z : Int) (u : St) : Prop := (∃ A1 : St, A1 = (stA (stA (stA (stA (stA (stA (stA (stA (stA (stA (stA (stA (stA (stA (stA A 0 2 (A 0 1)) 0 1 0) 0 5 0) 0 8 0) 0 9 (-1)) 0 47 (-(A 0 12) + 1)) 2 (-(A 0 12) + 1).toNat 0) 4 (-(A 0 12) + 1).toNat 0) 11 (-(A 0 12) + 1).toNat 0) 16 (-(A 0 12) + 1).toNat 0) 19 (-(A 0 12) + 1).toNat 0) 22 (-(A 0 12) + 1).toNat 0) 25 (-(A 0 12) + 1).toNat 0) 29 (-(A 0 12) + 1).toNat 0) 0 46 0) ∧ (∃ A2 : St, q_X12_ahead A1 A2 ∧ (∃ nn9 : Nat, d_X12_town_1 A z u nn9 0 A2)))
def r_X12_town (A : St) (z : Int) (u : St) : Prop := tr_r_X12_town A z u
theorem u_r_X12_town {A : St} {z : Int} {u : St} (h : tr_r_X12_town A z u) : r_X12_town A z u := h
def q_X12_town (A : St) (z : Int) (u : St) : Prop := r_X12_town A z u ∧ IM u ∧ fr [2, 3, 4, 5, 6, 7, 8, 9, 10, 11, 12, 13, 14, 15, 16, 17, 18, 19, 20, 21, 22, 23, 24, 25, 26, 27, 28, 29, 30, 31, 32, 33, 34, 35, 36, 37, 38, 39, 40, 41] [1, 2, 3, 4, 5, 6, 7, 8, 9, 10, 11, 12, 46, 47, 53, 54, 56, 57, 75] A u ∧ CI u ∧ WI u ∧ ((-2147483648 ≤ z ∧ z ≤ 2147483647) ∧ u 0 1 = 0)
def ws_mb_X12_town : List Cond := .code yX12_town cX12_town 2 (some .int) :: WX
set_option maxHeartbeats 4000000 in
set_option maxRecDepth 100000 in
theorem mb_X12_town (l : Launch) (dC : Nat → ClassId) (dI : Nat → Nat → Nat) (cB cI cJ cZ cQ : ClassId) (q : Nat → Nat) (A : St) (hI : IM A) (hcCI : CI A) (hcWI : WI A) : XMi l yX12_town ws_mb_X12_town ({ frames := 8, cells := 0, slots := 0, locals := 175 } : Room) (dC, dI) (tyA cB cI cJ cZ cQ) (WM cI cJ cZ q) A [.ref (q 0)] (fun z u => r_X12_town A z u ∧ IM u ∧ fr [2, 3, 4, 5, 6, 7, 8, 9, 10, 11, 12, 13, 14, 15, 16, 17, 18, 19, 20, 21, 22, 23, 24, 25, 26, 27, 28, 29, 30, 31, 32, 33, 34, 35, 36, 37, 38, 39, 40, 41] [1, 2, 3, 4, 5, 6, 7, 8, 9, 10, 11, 12, 46, 47, 53, 54, 56, 57, 75] A u ∧ CI u ∧ WI u ∧ ((-2147483648 ≤ z ∧ z ≤ 2147483647) ∧ u 0 1 = 0)) := by
  refine x_meti (cc := cX12_town) (maxL := 2) WM_adr (by decide +kernel) rfl (Nat.le_of_ble_eq_true rfl) (fun p e s m below meth c Q AS ls hx hb hml hown hts hK hDD hA0 hP hS hl RET => ?_)
  have hown : s.vm.findClass RX12 = some m.cls := hown
  have hl : lv_has ls 2 [(0, .ref (q 0))] := hl
  have hiX12 : ∀ w ∈ u_ws RX12 TX12 85, w ∈ ws_mb_X12_town := fun w h => List.mem_cons_of_mem _ (wx_lay w h)
  obtain ⟨H, hHe⟩ : ∃ H : Heap, H = s.heap := ⟨_, rfl⟩
  rw [← hHe] at hP
  have hS : va_S AS s.heap H [] := by rw [hHe]; exact hS
  suffices hgo : ∀ locs : List Loc, va_S AS s.heap H locs → W p l e (headSpec ws_mb_X12_town ({ frames := 8, cells := 0, slots := 0, locals := 175 } : Room)).room s m [.ref (q 0)].toArray below meth c H locs 0 0 Q (F0 m 0 ls []) by
    have := hgo [] hS
    rw [hHe] at this
    exact this
  clear hS hHe
  intro locs hS
  refine lv_aload_n hx hb dX12_town_0 rfl (lv_at hl 0 rfl) ?_
  refine lv_aload_n hx hb dX12_town_1 rfl (lv_at hl 0 rfl) ?_
  refine va_get (D := (dC, dI)) (ci := 12) (v := .int (iI (A 0 1))) (C := RX12) (T := TX12) (N := 85) hx hb hts hiX12 hown hK hP 0 wm0 rfl 1 (by decide) (hts _ (List.mem_cons_of_mem _ (wl_in_0 _ (List.mem_of_getElem? (i := 3) rfl)))) (fun _ h9 => h9) rfl dX12_town_2 ?_
  have r_A_0_1 : (0 : Int) ≤ (A 0 1) ∧ (A 0 1) ≤ 1600 := hI 0 1
  refine x_put (D := (dC, dI)) (ci := 12) (v := .int (iI (A 0 1))) (ty := .int) (C := RX12) (T := TX12) (N := 85) hx hb hts hiX12 tyX12 tyX12_ok nmX12 hown hK hP hDD hS 0 wm0 rfl 2 (by decide) (hts _ (List.mem_cons_of_mem _ (wl_in_0 _ (List.mem_of_getElem? (i := 22) rfl)))) (fun _ h9 => h9) rfl (by decide +kernel) rfl rfl (Nat.le_of_ble_eq_true rfl) dX12_town_5 (wf2 (v := (A 0 1))) (fun H locs hP hS => ?_)
  have hI := hI.st (j := 0) (i := 2) (v := (A 0 1)) (show (0 : Int) ≤ (A 0 1) ∧ (A 0 1) ≤ 1600 from (by omega))
  refine lv_aload_n hx hb dX12_town_8 rfl (lv_at hl 0 rfl) ?_
  refine lv_iconst (v := iI 0) hx hb dX12_town_9 (by decide +kernel) ?_
  refine x_put (D := (dC, dI)) (ci := 12) (v := .int (iI 0)) (ty := .int) (C := RX12) (T := TX12) (N := 85) hx hb hts hiX12 tyX12 tyX12_ok nmX12 hown hK hP hDD hS 0 wm0 rfl 1 (by decide) (hts _ (List.mem_cons_of_mem _ (wl_in_0 _ (List.mem_of_getElem? (i := 3) rfl)))) (fun _ h9 => h9) rfl (by decide +kernel) rfl rfl (Nat.le_of_ble_eq_true rfl) dX12_town_10 (wf1 (v := 0)) (fun H locs hP hS => ?_)
  have hI := hI.st (j := 0) (i := 1) (v := 0) (show (0 : Int) ≤ 0 ∧ 0 ≤ 1600 from (by omega))
  refine lv_aload_n hx hb dX12_town_13 rfl (lv_at hl 0 rfl) ?_
  refine lv_iconst (v := iI 0) hx hb dX12_town_14 (by decide +kernel) ?_
  refine x_put (D := (dC, dI)) (ci := 12) (v := .int (iI 0)) (ty := .int) (C := RX12) (T := TX12) (N := 85) hx hb hts hiX12 tyX12 tyX12_ok nmX12 hown hK hP hDD hS 0 wm0 rfl 5 (by decide) (hts _ (List.mem_cons_of_mem _ (wl_in_0 _ (List.mem_of_getElem? (i := 21) rfl)))) (fun _ h9 => h9) rfl (by decide +kernel) rfl rfl (Nat.le_of_ble_eq_true rfl) dX12_town_15 (wf5 (v := 0)) (fun H locs hP hS => ?_)
  have hI := hI.st (j := 0) (i := 5) (v := 0) (show (0 : Int) ≤ 0 ∧ 0 ≤ 1600 from (by omega))
  refine lv_aload_n hx hb dX12_town_18 rfl (lv_at hl 0 rfl) ?_
  refine lv_iconst (v := iI 0) hx hb dX12_town_19 (by decide +kernel) ?_
  refine x_put (D := (dC, dI)) (ci := 12) (v := .int (iI 0)) (ty := .int) (C := RX12) (T := TX12) (N := 85) hx hb hts hiX12 tyX12 tyX12_ok nmX12 hown hK hP hDD hS 0 wm0 rfl 8 (by decide) (hts _ (List.mem_cons_of_mem _ (wl_in_0 _ (List.mem_of_getElem? (i := 16) rfl)))) (fun _ h9 => h9) rfl (by decide +kernel) rfl rfl (Nat.le_of_ble_eq_true rfl) dX12_town_20 (wf8 (v := 0)) (fun H locs hP hS => ?_)
  have hI := hI.st (j := 0) (i := 8) (v := 0) (show (0 : Int) ≤ 0 ∧ 0 ≤ 5 from (by omega))
  refine lv_aload_n hx hb dX12_town_23 rfl (lv_at hl 0 rfl) ?_
  refine lv_iconst (v := iI (-1)) hx hb dX12_town_24 (by decide +kernel) ?_
  refine x_put (D := (dC, dI)) (ci := 12) (v := .int (iI (-1))) (ty := .int) (C := RX12) (T := TX12) (N := 85) hx hb hts hiX12 tyX12 tyX12_ok nmX12 hown hK hP hDD hS 0 wm0 rfl 9 (by decide) (hts _ (List.mem_cons_of_mem _ (wl_in_0 _ (List.mem_of_getElem? (i := 17) rfl)))) (fun _ h9 => h9) rfl (by decide +kernel) rfl rfl (Nat.le_of_ble_eq_true rfl) dX12_town_25 (wf9 (v := (-1))) (fun H locs hP hS => ?_)
  have hI := hI.st (j := 0) (i := 9) (v := (-1)) (show (-1 : Int) ≤ (-1) ∧ (-1) ≤ 1600 from (by omega))
  refine lv_aload_n hx hb dX12_town_28 rfl (lv_at hl 0 rfl) ?_
  refine lv_iconst (v := iI 1) hx hb dX12_town_29 (by decide +kernel) ?_
  refine lv_aload_n hx hb dX12_town_30 rfl (lv_at hl 0 rfl) ?_
  refine va_get (D := (dC, dI)) (ci := 12) (v := .int (iI (A 0 12))) (C := RX12) (T := TX12) (N := 85) hx hb hts hiX12 hown hK hP 0 wm0 rfl 12 (by decide) (hts _ (List.mem_cons_of_mem _ (wl_in_4 _ (List.mem_of_getElem? (i := 14) rfl)))) (fun _ h9 => h9) rfl dX12_town_31 ?_
  have r_A_0_12 : (0 : Int) ≤ (A 0 12) ∧ (A 0 12) ≤ 1 := hI 0 12
  refine x_subv (v := -(A 0 12) + 1) hx hb dX12_town_34 (by omega) ?_
  refine x_put (D := (dC, dI)) (ci := 12) (v := .int (iI (-(A 0 12) + 1))) (ty := .int) (C := RX12) (T := TX12) (N := 85) hx hb hts hiX12 tyX12 tyX12_ok nmX12 hown hK hP hDD hS 0 wm0 rfl 47 (by decide) (hts _ (List.mem_cons_of_mem _ (wl_in_1 _ (List.mem_of_getElem? (i := 12) rfl)))) (fun _ h9 => h9) rfl (by decide +kernel) rfl rfl (Nat.le_of_ble_eq_true rfl) dX12_town_35 (wf47 (v := -(A 0 12) + 1)) (fun H locs hP hS => ?_)
  have hI := hI.st (j := 0) (i := 47) (v := -(A 0 12) + 1) (show (0 : Int) ≤ -(A 0 12) + 1 ∧ -(A 0 12) + 1 ≤ 1 from (by omega))
  refine lv_aload_n hx hb dX12_town_38 rfl (lv_at hl 0 rfl) ?_
  refine va_get (D := (dC, dI)) (ci := 12) (v := .ref (q 2)) (C := RX12) (T := TX12) (N := 85) hx hb hts hiX12 hown hK hP 0 wm0 rfl 13 (by decide) (hts _ (List.mem_cons_of_mem _ (wl_in_1 _ (List.mem_of_getElem? (i := 11) rfl)))) (fun _ h9 => h9) rfl dX12_town_39 ?_
  refine lv_aload_n hx hb dX12_town_42 rfl (lv_at hl 0 rfl) ?_
  refine va_get (D := (dC, dI)) (ci := 12) (v := .int (iI (-(A 0 12) + 1))) (C := RX12) (T := TX12) (N := 85) hx hb hts hiX12 hown hK hP 0 wm0 rfl 47 (by decide) (hts _ (List.mem_cons_of_mem _ (wl_in_1 _ (List.mem_of_getElem? (i := 12) rfl)))) (fun _ h9 => h9) rfl dX12_town_43 ?_
  refine lv_iconst (v := iI 0) hx hb dX12_town_46 (by decide +kernel) ?_
  refine x_iast hx hb hK hP hDD hS 2 1 wm2 rfl (by omega) (by decide) dX12_town_47 ws2 (fun H locs hP hS => ?_)
  have hI := hI.st (j := 2) (i := (-(A 0 12) + 1).toNat) (v := 0) (show (0 : Int) ≤ 0 ∧ 0 ≤ 8 from (by omega))
  refine lv_aload_n hx hb dX12_town_48 rfl (lv_at hl 0 rfl) ?_
  refine va_get (D := (dC, dI)) (ci := 12) (v := .ref (q 4)) (C := RX12) (T := TX12) (N := 85) hx hb hts hiX12 hown hK hP 0 wm0 rfl 15 (by decide) (hts _ (List.mem_cons_of_mem _ (wl_in_1 _ (List.mem_of_getElem? (i := 13) rfl)))) (fun _ h9 => h9) rfl dX12_town_49 ?_
  refine lv_aload_n hx hb dX12_town_52 rfl (lv_at hl 0 rfl) ?_
  refine va_get (D := (dC, dI)) (ci := 12) (v := .int (iI (-(A 0 12) + 1))) (C := RX12) (T := TX12) (N := 85) hx hb hts hiX12 hown hK hP 0 wm0 rfl 47 (by decide) (hts _ (List.mem_cons_of_mem _ (wl_in_1 _ (List.mem_of_getElem? (i := 12) rfl)))) (fun _ h9 => h9) rfl dX12_town_53 ?_
  refine lv_iconst (v := iI 0) hx hb dX12_town_56 (by decide +kernel) ?_
  refine x_iast hx hb hK hP hDD hS 4 1 wm4 rfl (by omega) (by decide) dX12_town_57 ws4 (fun H locs hP hS => ?_)
  have hI := hI.st (j := 4) (i := (-(A 0 12) + 1).toNat) (v := 0) (show (0 : Int) ≤ 0 ∧ 0 ≤ 10 from (by omega))
  refine lv_aload_n hx hb dX12_town_58 rfl (lv_at hl 0 rfl) ?_
  refine va_get (D := (dC, dI)) (ci := 12) (v := .ref (q 11)) (C := RX12) (T := TX12) (N := 85) hx hb hts hiX12 hown hK hP 0 wm0 rfl 22 (by decide) (hts _ (List.mem_cons_of_mem _ (wl_in_1 _ (List.mem_of_getElem? (i := 14) rfl)))) (fun _ h9 => h9) rfl dX12_town_59 ?_
  refine lv_aload_n hx hb dX12_town_62 rfl (lv_at hl 0 rfl) ?_
  refine va_get (D := (dC, dI)) (ci := 12) (v := .int (iI (-(A 0 12) + 1))) (C := RX12) (T := TX12) (N := 85) hx hb hts hiX12 hown hK hP 0 wm0 rfl 47 (by decide) (hts _ (List.mem_cons_of_mem _ (wl_in_1 _ (List.mem_of_getElem? (i := 12) rfl)))) (fun _ h9 => h9) rfl dX12_town_63 ?_
  refine lv_iconst (v := iI 0) hx hb dX12_town_66 (by decide +kernel) ?_
  refine x_iast hx hb hK hP hDD hS 11 1 wm11 rfl (by omega) (by decide) dX12_town_67 ws11 (fun H locs hP hS => ?_)
  have hI := hI.st (j := 11) (i := (-(A 0 12) + 1).toNat) (v := 0) (show (0 : Int) ≤ 0 ∧ 0 ≤ 4 from (by omega))
  refine lv_aload_n hx hb dX12_town_68 rfl (lv_at hl 0 rfl) ?_
  refine va_get (D := (dC, dI)) (ci := 12) (v := .ref (q 16)) (C := RX12) (T := TX12) (N := 85) hx hb hts hiX12 hown hK hP 0 wm0 rfl 27 (by decide) (hts _ (List.mem_cons_of_mem _ (wl_in_1 _ (List.mem_of_getElem? (i := 15) rfl)))) (fun _ h9 => h9) rfl dX12_town_69 ?_
  refine lv_aload_n hx hb dX12_town_72 rfl (lv_at hl 0 rfl) ?_
  refine va_get (D := (dC, dI)) (ci := 12) (v := .int (iI (-(A 0 12) + 1))) (C := RX12) (T := TX12) (N := 85) hx hb hts hiX12 hown hK hP 0 wm0 rfl 47 (by decide) (hts _ (List.mem_cons_of_mem _ (wl_in_1 _ (List.mem_of_getElem? (i := 12) rfl)))) (fun _ h9 => h9) rfl dX12_town_73 ?_
  refine lv_iconst (v := iI 0) hx hb dX12_town_76 (by decide +kernel) ?_
  refine x_iast hx hb hK hP hDD hS 16 1 wm16 rfl (by omega) (by decide) dX12_town_77 ws16 (fun H locs hP hS => ?_)
  have hI := hI.st (j := 16) (i := (-(A 0 12) + 1).toNat) (v := 0) (show (0 : Int) ≤ 0 ∧ 0 ≤ 3 from (by omega))
  refine lv_aload_n hx hb dX12_town_78 rfl (lv_at hl 0 rfl) ?_
  refine va_get (D := (dC, dI)) (ci := 12) (v := .ref (q 19)) (C := RX12) (T := TX12) (N := 85) hx hb hts hiX12 hown hK hP 0 wm0 rfl 30 (by decide) (hts _ (List.mem_cons_of_mem _ (wl_in_1 _ (List.mem_of_getElem? (i := 16) rfl)))) (fun _ h9 => h9) rfl dX12_town_79 ?_
  refine lv_aload_n hx hb dX12_town_82 rfl (lv_at hl 0 rfl) ?_
  refine va_get (D := (dC, dI)) (ci := 12) (v := .int (iI (-(A 0 12) + 1))) (C := RX12) (T := TX12) (N := 85) hx hb hts hiX12 hown hK hP 0 wm0 rfl 47 (by decide) (hts _ (List.mem_cons_of_mem _ (wl_in_1 _ (List.mem_of_getElem? (i := 12) rfl)))) (fun _ h9 => h9) rfl dX12_town_83 ?_
  refine lv_iconst (v := iI 0) hx hb dX12_town_86 (by decide +kernel) ?_
  refine x_iast hx hb hK hP hDD hS 19 1 wm19 rfl (by omega) (by decide) dX12_town_87 ws19 (fun H locs hP hS => ?_)
  have hI := hI.st (j := 19) (i := (-(A 0 12) + 1).toNat) (v := 0) (show (0 : Int) ≤ 0 ∧ 0 ≤ 4 from (by omega))
  refine lv_aload_n hx hb dX12_town_88 rfl (lv_at hl 0 rfl) ?_
  refine va_get (D := (dC, dI)) (ci := 12) (v := .ref (q 22)) (C := RX12) (T := TX12) (N := 85) hx hb hts hiX12 hown hK hP 0 wm0 rfl 33 (by decide) (hts _ (List.mem_cons_of_mem _ (wl_in_3 _ (List.mem_of_getElem? (i := 16) rfl)))) (fun _ h9 => h9) rfl dX12_town_89 ?_
  refine lv_aload_n hx hb dX12_town_92 rfl (lv_at hl 0 rfl) ?_
  refine va_get (D := (dC, dI)) (ci := 12) (v := .int (iI (-(A 0 12) + 1))) (C := RX12) (T := TX12) (N := 85) hx hb hts hiX12 hown hK hP 0 wm0 rfl 47 (by decide) (hts _ (List.mem_cons_of_mem _ (wl_in_1 _ (List.mem_of_getElem? (i := 12) rfl)))) (fun _ h9 => h9) rfl dX12_town_93 ?_
  refine lv_iconst (v := iI 0) hx hb dX12_town_96 (by decide +kernel) ?_
  refine x_iast hx hb hK hP hDD hS 22 1 wm22 rfl (by omega) (by decide) dX12_town_97 ws22 (fun H locs hP hS => ?_)
  have hI := hI.st (j := 22) (i := (-(A 0 12) + 1).toNat) (v := 0) (show (0 : Int) ≤ 0 ∧ 0 ≤ 6 from (by omega))
  refine lv_aload_n hx hb dX12_town_98 rfl (lv_at hl 0 rfl) ?_
  refine va_get (D := (dC, dI)) (ci := 12) (v := .ref (q 25)) (C := RX12) (T := TX12) (N := 85) hx hb hts hiX12 hown hK hP 0 wm0 rfl 36 (by decide) (hts _ (List.mem_cons_of_mem _ (wl_in_3 _ (List.mem_of_getElem? (i := 20) rfl)))) (fun _ h9 => h9) rfl dX12_town_99 ?_
  refine lv_aload_n hx hb dX12_town_102 rfl (lv_at hl 0 rfl) ?_
  refine va_get (D := (dC, dI)) (ci := 12) (v := .int (iI (-(A 0 12) + 1))) (C := RX12) (T := TX12) (N := 85) hx hb hts hiX12 hown hK hP 0 wm0 rfl 47 (by decide) (hts _ (List.mem_cons_of_mem _ (wl_in_1 _ (List.mem_of_getElem? (i := 12) rfl)))) (fun _ h9 => h9) rfl dX12_town_103 ?_
  refine lv_iconst (v := iI 0) hx hb dX12_town_106 (by decide +kernel) ?_
  refine x_iast hx hb hK hP hDD hS 25 1 wm25 rfl (by omega) (by decide) dX12_town_107 ws25 (fun H locs hP hS => ?_)
  have hI := hI.st (j := 25) (i := (-(A 0 12) + 1).toNat) (v := 0) (show (0 : Int) ≤ 0 ∧ 0 ≤ 6 from (by omega))
  refine lv_aload_n hx hb dX12_town_108 rfl (lv_at hl 0 rfl) ?_
  refine va_get (D := (dC, dI)) (ci := 12) (v := .ref (q 29)) (C := RX12) (T := TX12) (N := 85) hx hb hts hiX12 hown hK hP 0 wm0 rfl 40 (by decide) (hts _ (List.mem_cons_of_mem _ (wl_in_3 _ (List.mem_of_getElem? (i := 25) rfl)))) (fun _ h9 => h9) rfl dX12_town_109 ?_
  refine lv_aload_n hx hb dX12_town_112 rfl (lv_at hl 0 rfl) ?_
  refine va_get (D := (dC, dI)) (ci := 12) (v := .int (iI (-(A 0 12) + 1))) (C := RX12) (T := TX12) (N := 85) hx hb hts hiX12 hown hK hP 0 wm0 rfl 47 (by decide) (hts _ (List.mem_cons_of_mem _ (wl_in_1 _ (List.mem_of_getElem? (i := 12) rfl)))) (fun _ h9 => h9) rfl dX12_town_113 ?_
  refine lv_iconst (v := iI 0) hx hb dX12_town_116 (by decide +kernel) ?_
  refine x_iast hx hb hK hP hDD hS 29 1 wm29 rfl (by omega) (by decide) dX12_town_117 ws29 (fun H locs hP hS => ?_)
  have hI := hI.st (j := 29) (i := (-(A 0 12) + 1).toNat) (v := 0) (show (0 : Int) ≤ 0 ∧ 0 ≤ 6 from (by omega))
  refine lv_aload_n hx hb dX12_town_118 rfl (lv_at hl 0 rfl) ?_
  refine lv_iconst (v := iI 0) hx hb dX12_town_119 (by decide +kernel) ?_
  refine x_put (D := (dC, dI)) (ci := 12) (v := .int (iI 0)) (ty := .int) (C := RX12) (T := TX12) (N := 85) hx hb hts hiX12 tyX12 tyX12_ok nmX12 hown hK hP hDD hS 0 wm0 rfl 46 (by decide) (hts _ (List.mem_cons_of_mem _ (wl_in_1 _ (List.mem_of_getElem? (i := 31) rfl)))) (fun _ h9 => h9) rfl (by decide +kernel) rfl rfl (Nat.le_of_ble_eq_true rfl) dX12_town_120 (wf46 (v := 0)) (fun H locs hP hS => ?_)
  have hI := hI.st (j := 0) (i := 46) (v := 0) (show (0 : Int) ≤ 0 ∧ 0 ≤ 1600 from (by omega))
  refine lv_iconst (v := iI 0) hx hb dX12_town_123 (by decide +kernel) ?_
  refine lv_istore_n (lv' := [(1, .int (iI 0)), (0, .ref (q 0))]) hx hb dX12_town_124 rfl hl (by decide) rfl (fun ls hl => ?_)
  refine lv_aload_n hx hb dX12_town_125 rfl (lv_at hl 1 rfl) ?_
  obtain ⟨A1, hA1⟩ : ∃ A1 : St, A1 = (stA (stA (stA (stA (stA (stA (stA (stA (stA (stA (stA (stA (stA (stA (stA A 0 2 (A 0 1)) 0 1 0) 0 5 0) 0 8 0) 0 9 (-1)) 0 47 (-(A 0 12) + 1)) 2 (-(A 0 12) + 1).toNat 0) 4 (-(A 0 12) + 1).toNat 0) 11 (-(A 0 12) + 1).toNat 0) 16 (-(A 0 12) + 1).toNat 0) 19 (-(A 0 12) + 1).toNat 0) 22 (-(A 0 12) + 1).toNat 0) 25 (-(A 0 12) + 1).toNat 0) 29 (-(A 0 12) + 1).toNat 0) 0 46 0) := ⟨_, rfl⟩
  rw [← hA1] at hP hI
  have e_A1_4 : A1 0 4 = (A 0 4) := by rw [hA1]; exact rfl
  have r_A_0_4 : (0 : Int) ≤ (A 0 4) ∧ (A 0 4) ≤ 1600 := by rw [← e_A1_4]; exact hI 0 4
  have e_A1_5 : A1 0 5 = 0 := by rw [hA1]; rfl
  have e_A1_8 : A1 0 8 = 0 := by rw [hA1]; rfl
  have hci0 : CI A1 := CI.zero (n := -(A 0 12) + 1) hcCI (by omega) (by rw [hA1]; rfl) (by rw [hA1]; rfl) (by rw [hA1]; rfl) (by rw [hA1]; rfl) (by rw [hA1]; rfl)
  have hwi0 : WI A1 := WI.zero (n := -(A 0 12) + 1) hcWI (by omega) (by rw [hA1]; rfl) (by rw [hA1]; rfl)
  refine x_callv (As := []) (rest := []) ⟨hx, hb, hml, hown, hts⟩ (mb_X12_ahead l dC dI cB cI cJ cZ cQ q _ hI) (cwV 0 hts (goodV (wl_in_0 _ (List.mem_of_getElem? (i := 40) rfl)) (wl_in_0 _ (List.mem_of_getElem? (i := 41) rfl)) (wl_in_0 _ (List.mem_of_getElem? (i := 42) rfl)) (wl_in_0 _ (List.mem_of_getElem? (i := 8) rfl)) (wl_in_0 _ (List.mem_of_getElem? (i := 20) rfl))) rfl rfl rfl (by decide +kernel) ⟨Nat.le_of_ble_eq_true rfl, Nat.le_of_ble_eq_true rfl⟩) hK hDD hA0 hP hS 0 12 wm0 rfl rfl hl.1 (Nat.le_of_ble_eq_true rfl) dX12_town_126 (fun A2 H locs hw3 hP hS => ?_)
  have ghw3 : q_X12_ahead A1 A2 := hw3
  obtain ⟨_, hI, hf4, hw3⟩ := hw3
  have r_A2_0_3 : (0 : Int) ≤ (A2 0 3) ∧ (A2 0 3) ≤ 3 := hI 0 3
  have r_A2_0_4 : (0 : Int) ≤ (A2 0 4) ∧ (A2 0 4) ≤ 1600 := hI 0 4
  have r_A2_0_5 : (0 : Int) ≤ (A2 0 5) ∧ (A2 0 5) ≤ 1600 := hI 0 5
  have r_A2_0_8 : (0 : Int) ≤ (A2 0 8) ∧ (A2 0 8) ≤ 5 := hI 0 8
  have e_A1_46 : A1 0 46 = 0 := by rw [hA1]; rfl
  have e_A2_46 : A2 0 46 = 0 := (hf4.2 46 rfl).trans e_A1_46
  have hcb : CB A2 := ⟨by omega, hw3.2.1, hw3.2.2.1⟩
  have L129_8 : ∀ (n10 : Nat) (z5 : Int) (A7 : St) (H : Heap) (locs : List Loc) (ls : Array Slot), (-2147483648 ≤ z5 ∧ z5 ≤ 2147483647) → (Hd ((A7 0 8) = 0 → CB A7)) → (CI A7) → (WI A7) → (∀ (z : Int) (u : St), (∃ mm1 : Nat, (d_X12_town_1 A z u mm1 z5 A7)) → r_X12_town A z u) → ((1602 * (5 - (A7 0 8)) + 1602 - (A7 0 4)).toNat = n10) → IM A7 → fr [2, 3, 4, 5, 6, 7, 8, 9, 10, 11, 12, 13, 14, 15, 16, 17, 18, 19, 20, 21, 22, 23, 24, 25, 26, 27, 28, 29, 30, 31, 32, 33, 34, 35, 36, 37, 38, 39, 40] [3, 4, 5, 6, 7, 8, 9, 46, 53, 54, 56, 57] A2 A7 → va_P (dC, dI) vwCl (WM cI cJ cZ q A7) H → va_S AS s.heap H locs → lv_has ls 2 [(1, .int (iI z5)), (0, .ref (q 0))] → W p l e (headSpec ws_mb_X12_town ({ frames := 8, cells := 0, slots := 0, locals := 175 } : Room)).room s m [.ref (q 0)].toArray below meth c H locs 0 0 Q (F0 m 129 ls []) := by
    intro n10
    induction n10 using Nat.strongRecOn with
    | ind n10 ih9 =>
      intro z5 A7 H locs ls f11 f12 hc13 hc14 hk1 hn10 hI hj6 hP hS hl
      have gI15 : Hd (IM A7) := Hd.mk hI
      have r_A7_0_4 : (0 : Int) ≤ (A7 0 4) ∧ (A7 0 4) ≤ 1600 := hI 0 4
      have r_A7_0_8 : (0 : Int) ≤ (A7 0 8) ∧ (A7 0 8) ≤ 5 := hI 0 8
      have r_A7_0_3 : (0 : Int) ≤ (A7 0 3) ∧ (A7 0 3) ≤ 3 := hI 0 3
      have r_A7_0_5 : (0 : Int) ≤ (A7 0 5) ∧ (A7 0 5) ≤ 1600 := hI 0 5
      refine lv_aload_n hx hb dX12_town_129 rfl (lv_at hl 1 rfl) ?_
      refine va_get (D := (dC, dI)) (ci := 12) (v := .int (iI (A7 0 8))) (C := RX12) (T := TX12) (N := 85) hx hb hts hiX12 hown hK hP 0 wm0 rfl 8 (by decide) (hts _ (List.mem_cons_of_mem _ (wl_in_0 _ (List.mem_of_getElem? (i := 16) rfl)))) (fun _ h9 => h9) rfl dX12_town_130 ?_
      have J153_17 : ∀ (H : Heap) (locs : List Loc) (ls : Array Slot), (∀ (z : Int) (u : St), (∃ mm1 : Nat, (d_X12_town_2 z5 A A7 z u)) → r_X12_town A z u) → va_P (dC, dI) vwCl (WM cI cJ cZ q A7) H → va_S AS s.heap H locs → lv_has ls 2 [(1, .int (iI z5)), (0, .ref (q 0))] → W p l e (headSpec ws_mb_X12_town ({ frames := 8, cells := 0, slots := 0, locals := 175 } : Room)).room s m [.ref (q 0)].toArray below meth c H locs 0 0 Q (F0 m 153 ls []) := by
        intro H locs ls hk2 hP hS hl
        refine lv_aload_n hx hb dX12_town_153 rfl (lv_at hl 1 rfl) ?_
        refine lv_aload_n hx hb dX12_town_154 rfl (lv_at hl 1 rfl) ?_
        refine va_get (D := (dC, dI)) (ci := 12) (v := .int (iI (A7 0 8))) (C := RX12) (T := TX12) (N := 85) hx hb hts hiX12 hown hK hP 0 wm0 rfl 8 (by decide) (hts _ (List.mem_cons_of_mem _ (wl_in_0 _ (List.mem_of_getElem? (i := 16) rfl)))) (fun _ h9 => h9) rfl dX12_town_155 ?_
        refine x_put (D := (dC, dI)) (ci := 12) (v := .int (iI (A7 0 8))) (ty := .int) (C := RX12) (T := TX12) (N := 85) hx hb hts hiX12 tyX12 tyX12_ok nmX12 hown hK hP hDD hS 0 wm0 rfl 10 (by decide) (hts _ (List.mem_cons_of_mem _ (wl_in_4 _ (List.mem_of_getElem? (i := 15) rfl)))) (fun _ h9 => h9) rfl (by decide +kernel) rfl rfl (Nat.le_of_ble_eq_true rfl) dX12_town_158 (wf10 (v := (A7 0 8))) (fun H locs hP hS => ?_)
        have hI := hI.st (j := 0) (i := 10) (v := (A7 0 8)) (show (0 : Int) ≤ (A7 0 8) ∧ (A7 0 8) ≤ 5 from (by omega))
        refine lv_aload_n hx hb dX12_town_161 rfl (lv_at hl 1 rfl) ?_
        refine lv_aload_n hx hb dX12_town_162 rfl (lv_at hl 1 rfl) ?_
        refine va_get (D := (dC, dI)) (ci := 12) (v := .int (iI (A7 0 9))) (C := RX12) (T := TX12) (N := 85) hx hb hts hiX12 hown hK hP 0 wm0 rfl 9 (by decide) (hts _ (List.mem_cons_of_mem _ (wl_in_0 _ (List.mem_of_getElem? (i := 17) rfl)))) (fun _ h9 => h9) rfl dX12_town_163 ?_
        have r_A7_0_9 : (-1 : Int) ≤ (A7 0 9) ∧ (A7 0 9) ≤ 1600 := hI 0 9
        refine x_put (D := (dC, dI)) (ci := 12) (v := .int (iI (A7 0 9))) (ty := .int) (C := RX12) (T := TX12) (N := 85) hx hb hts hiX12 tyX12 tyX12_ok nmX12 hown hK hP hDD hS 0 wm0 rfl 11 (by decide) (hts _ (List.mem_cons_of_mem _ (wl_in_4 _ (List.mem_of_getElem? (i := 16) rfl)))) (fun _ h9 => h9) rfl (by decide +kernel) rfl rfl (Nat.le_of_ble_eq_true rfl) dX12_town_166 (wf11 (v := (A7 0 9))) (fun H locs hP hS => ?_)
        have hI := hI.st (j := 0) (i := 11) (v := (A7 0 9)) (show (-1 : Int) ≤ (A7 0 9) ∧ (A7 0 9) ≤ 1600 from (by omega))
        refine lv_aload_n hx hb dX12_town_169 rfl (lv_at hl 1 rfl) ?_
        refine va_get (D := (dC, dI)) (ci := 12) (v := .int (iI (A7 0 8))) (C := RX12) (T := TX12) (N := 85) hx hb hts hiX12 hown hK hP 0 wm0 rfl 8 (by decide) (hts _ (List.mem_cons_of_mem _ (wl_in_0 _ (List.mem_of_getElem? (i := 16) rfl)))) (fun _ h9 => h9) rfl dX12_town_170 ?_
        refine lv_if_le (tgt := 182) hx hb dX12_town_173 (by decide) (fun c26 => ?_) (fun c26 => ?_)
        · have c26 : (A7 0 8) ≤ 0 := (i_le0 (rb r_A7_0_8 (by decide) (by decide))).mp c26
          refine lv_aload_n hx hb dX12_town_182 rfl (lv_at hl 1 rfl) ?_
          refine lv_aload_n hx hb dX12_town_183 rfl (lv_at hl 1 rfl) ?_
          have e_A1_47 : A1 0 47 = -(A 0 12) + 1 := by rw [hA1]; rfl
          have e_A2_47 : A2 0 47 = -(A 0 12) + 1 := (hf4.2 47 rfl).trans e_A1_47
          have e_A7_47 : A7 0 47 = -(A 0 12) + 1 := (hj6.2 47 rfl).trans e_A2_47
          refine va_get (D := (dC, dI)) (ci := 12) (v := .int (iI (A7 0 47))) (C := RX12) (T := TX12) (N := 85) hx hb hts hiX12 hown hK hP 0 wm0 rfl 47 (by decide) (hts _ (List.mem_cons_of_mem _ (wl_in_1 _ (List.mem_of_getElem? (i := 12) rfl)))) (fun _ h9 => h9) rfl dX12_town_184 ?_
          refine tp_i (y := iI (-(A 0 12) + 1)) (congrArg iI e_A7_47) ?_
          refine x_put (D := (dC, dI)) (ci := 12) (v := .int (iI (-(A 0 12) + 1))) (ty := .int) (C := RX12) (T := TX12) (N := 85) hx hb hts hiX12 tyX12 tyX12_ok nmX12 hown hK hP hDD hS 0 wm0 rfl 12 (by decide) (hts _ (List.mem_cons_of_mem _ (wl_in_4 _ (List.mem_of_getElem? (i := 14) rfl)))) (fun _ h9 => h9) rfl (by decide +kernel) rfl rfl (Nat.le_of_ble_eq_true rfl) dX12_town_187 (wf12 (v := -(A 0 12) + 1)) (fun H locs hP hS => ?_)
          have hI := hI.st (j := 0) (i := 12) (v := -(A 0 12) + 1) (show (0 : Int) ≤ -(A 0 12) + 1 ∧ -(A 0 12) + 1 ≤ 1 from (by omega))
          refine lv_aload_n hx hb dX12_town_190 rfl (lv_at hl 1 rfl) ?_
          refine lv_iconst (v := iI 0) hx hb dX12_town_191 (by decide +kernel) ?_
          refine x_put (D := (dC, dI)) (ci := 12) (v := .int (iI 0)) (ty := .int) (C := RX12) (T := TX12) (N := 85) hx hb hts hiX12 tyX12 tyX12_ok nmX12 hown hK hP hDD hS 0 wm0 rfl 75 (by decide) (hts _ (List.mem_cons_of_mem _ (wl_in_4 _ (List.mem_of_getElem? (i := 17) rfl)))) (fun _ h9 => h9) rfl (by decide +kernel) rfl rfl (Nat.le_of_ble_eq_true rfl) dX12_town_192 (wf75 (v := 0)) (fun H locs hP hS => ?_)
          have hI := hI.st (j := 0) (i := 75) (v := 0) (show (0 : Int) ≤ 0 ∧ 0 ≤ 20 from (by omega))
          refine lv_iload_n hx hb dX12_town_195 rfl (lv_at hl 0 rfl) ?_
          obtain ⟨A27, hA27⟩ : ∃ A27 : St, A27 = (stA (stA (stA (stA A7 0 10 (A7 0 8)) 0 11 (A7 0 9)) 0 12 (-(A 0 12) + 1)) 0 75 0) := ⟨_, rfl⟩
          rw [← hA27] at hP hI
          have e_A1_1 : A1 0 1 = 0 := by rw [hA1]; rfl
          have e_A2_1 : A2 0 1 = 0 := (hf4.2 1 rfl).trans e_A1_1
          have e_A7_1 : A7 0 1 = 0 := (hj6.2 1 rfl).trans e_A2_1
          have e_A27_1 : A27 0 1 = 0 := by rw [hA27]; exact e_A7_1
          exact RET z5 _ _ _ _ _ ⟨hk2 _ _ ⟨0, (u_d_X12_town_2 (Or.inl ⟨c26, ⟨A27, hA27, ⟨rfl, rfl⟩⟩⟩))⟩, hI, fr_def hA27 (fr.sf (fr.sf (fr.sf (fr.sf (fr.trans (fr.trans (fr_def hA1 (fr.sf (fr.st (fr.st (fr.st (fr.st (fr.st (fr.st (fr.st (fr.st (fr.sf (fr.sf (fr.sf (fr.sf (fr.sf (fr.sf (fr.rf) rfl) rfl) rfl) rfl) rfl) rfl) (by decide) rfl) (by decide) rfl) (by decide) rfl) (by decide) rfl) (by decide) rfl) (by decide) rfl) (by decide) rfl) (by decide) rfl) rfl)) hf4 rfl rfl) hj6 rfl rfl) rfl) rfl) rfl) rfl), (CI.fr hc13 (fr_def hA27 (fr.sf (fr.sf (fr.sf (fr.sf (fr.rf (M := []) (N := [10, 11, 12, 75])) rfl) rfl) rfl) rfl)) rfl rfl), (WI.fr hc14 (fr_def hA27 (fr.sf (fr.sf (fr.sf (fr.sf (fr.rf (M := []) (N := [10, 11, 12, 75])) rfl) rfl) rfl) rfl)) rfl rfl), by omega⟩ hP hS dX12_town_196
        · have c26 : ¬ (A7 0 8) ≤ 0 := mt (i_le0 (rb r_A7_0_8 (by decide) (by decide))).mpr c26
          refine lv_aload_n hx hb dX12_town_176 rfl (lv_at hl 1 rfl) ?_
          refine lv_iconst (v := iI 1) hx hb dX12_town_177 (by decide +kernel) ?_
          obtain ⟨A28, hA28⟩ : ∃ A28 : St, A28 = (stA (stA A7 0 10 (A7 0 8)) 0 11 (A7 0 9)) := ⟨_, rfl⟩
          rw [← hA28] at hP hI
          refine x_calli (As := [.int (iI 1)]) (rest := []) ⟨hx, hb, hml, hown, hts⟩ (mc_X12_refuses l dC dI cB cI cJ cZ cQ q _ 1 hI ⟨by decide, by decide⟩) (cwV 1 hts (goodV (wl_in_0 _ (List.mem_of_getElem? (i := 5) rfl)) (wl_in_0 _ (List.mem_of_getElem? (i := 6) rfl)) (wl_in_0 _ (List.mem_of_getElem? (i := 7) rfl)) (wl_in_0 _ (List.mem_of_getElem? (i := 8) rfl)) (wl_in_0 _ (List.mem_of_getElem? (i := 9) rfl))) rfl rfl rfl (by decide +kernel) ⟨Nat.le_of_ble_eq_true rfl, Nat.le_of_ble_eq_true rfl⟩) hK hDD hA0 hP hS 0 12 wm0 rfl rfl hl.1 (Nat.le_of_ble_eq_true rfl) dX12_town_178 (fun z29 A30 H locs hw31 hP hS => ?_)
          have ghw31 : q_X12_refuses 1 A28 z29 A30 := hw31
          obtain ⟨_, hI, hf32, hw31⟩ := hw31
          have e_A1_1 : A1 0 1 = 0 := by rw [hA1]; rfl
          have e_A2_1 : A2 0 1 = 0 := (hf4.2 1 rfl).trans e_A1_1
          have e_A7_1 : A7 0 1 = 0 := (hj6.2 1 rfl).trans e_A2_1
          have e_A28_1 : A28 0 1 = 0 := by rw [hA28]; exact e_A7_1
          have e_A30_1 : A30 0 1 = 0 := (hf32.2 1 rfl).trans e_A28_1
          exact RET z29 _ _ _ _ _ ⟨hk2 _ _ ⟨0, (u_d_X12_town_2 (Or.inr ⟨c26, ⟨A28, hA28, ⟨z29, A30, ghw31, ⟨rfl, rfl⟩⟩⟩⟩))⟩, hI, fr.trans (fr_def hA28 (fr.sf (fr.sf (fr.trans (fr.trans (fr_def hA1 (fr.sf (fr.st (fr.st (fr.st (fr.st (fr.st (fr.st (fr.st (fr.st (fr.sf (fr.sf (fr.sf (fr.sf (fr.sf (fr.sf (fr.rf) rfl) rfl) rfl) rfl) rfl) rfl) (by decide) rfl) (by decide) rfl) (by decide) rfl) (by decide) rfl) (by decide) rfl) (by decide) rfl) (by decide) rfl) (by decide) rfl) rfl)) hf4 rfl rfl) hj6 rfl rfl) rfl) rfl)) hf32 rfl rfl, (CI.fr (CI.fr hc13 (fr_def hA28 (fr.sf (fr.sf (fr.rf (M := []) (N := [10, 11])) rfl) rfl)) rfl rfl) hf32 rfl rfl), (WI.fr (WI.fr hc14 (fr_def hA28 (fr.sf (fr.sf (fr.rf (M := []) (N := [10, 11])) rfl) rfl)) rfl rfl) hf32 rfl rfl), by omega⟩ hP hS dX12_town_181
      refine lv_if_ne (tgt := 153) hx hb dX12_town_133 (by decide) (fun c16 => ?_) (fun c16 => ?_)
      · have c16 : ¬ (A7 0 8) = 0 := mt (i_eq0 (rb r_A7_0_8 (by decide) (by decide))).mpr c16
        exact J153_17 _ _ _ (fun zq uq ⟨mm1, hq⟩ => hk1 _ _ ⟨mm1 + 1, (u_d_X12_town_1 ⟨gI15.out, ⟨f11, (Or.inl ⟨c16, hq⟩)⟩⟩)⟩) hP hS (lv_sub hl [0, 1] rfl)
      · have c16 : (A7 0 8) = 0 := (i_eq0 (rb r_A7_0_8 (by decide) (by decide))).mp c16
        refine lv_aload_n hx hb dX12_town_136 rfl (lv_at hl 1 rfl) ?_
        refine va_get (D := (dC, dI)) (ci := 12) (v := .int (iI (A7 0 3))) (C := RX12) (T := TX12) (N := 85) hx hb hts hiX12 hown hK hP 0 wm0 rfl 3 (by decide) (hts _ (List.mem_cons_of_mem _ (wl_in_0 _ (List.mem_of_getElem? (i := 24) rfl)))) (fun _ h9 => h9) rfl dX12_town_137 ?_
        refine lv_if_eq (tgt := 153) hx hb dX12_town_140 (by decide) (fun c18 => ?_) (fun c18 => ?_)
        · have c18 : (A7 0 3) = 0 := (i_eq0 (rb r_A7_0_3 (by decide) (by decide))).mp c18
          exact J153_17 _ _ _ (fun zq uq ⟨mm1, hq⟩ => hk1 _ _ ⟨mm1 + 1, (u_d_X12_town_1 ⟨gI15.out, ⟨f11, (Or.inr ⟨c16, (Or.inl ⟨c18, hq⟩)⟩)⟩⟩)⟩) hP hS (lv_sub hl [0, 1] rfl)
        · have c18 : ¬ (A7 0 3) = 0 := mt (i_eq0 (rb r_A7_0_3 (by decide) (by decide))).mpr c18
          have gcb := f12.out (by omega)
          have hlt := CB.lt gcb (by omega)
          refine lv_aload_n hx hb dX12_town_143 rfl (lv_at hl 1 rfl) ?_
          refine x_callv (As := []) (rest := []) ⟨hx, hb, hml, hown, hts⟩ (mb_X12_statement l dC dI cB cI cJ cZ cQ q _ hI (by exact gcb) hc13 hc14) (cwV 0 hts (goodV (wl_in_4 _ (List.mem_of_getElem? (i := 18) rfl)) (wl_in_4 _ (List.mem_of_getElem? (i := 19) rfl)) (wl_in_4 _ (List.mem_of_getElem? (i := 20) rfl)) (wl_in_0 _ (List.mem_of_getElem? (i := 8) rfl)) (wl_in_3 _ (List.mem_of_getElem? (i := 32) rfl))) rfl rfl rfl (by decide +kernel) ⟨Nat.le_of_ble_eq_true rfl, Nat.le_of_ble_eq_true rfl⟩) hK hDD hA0 hP hS 0 12 wm0 rfl rfl hl.1 (Nat.le_of_ble_eq_true rfl) dX12_town_144 (fun A19 H locs hw20 hP hS => ?_)
          have ghw20 : q_X12_statement A7 A19 := hw20
          obtain ⟨_, hI, hf21, hw20⟩ := hw20
          obtain ⟨hc22, hw20⟩ := hw20
          obtain ⟨hc23, hw20⟩ := hw20
          have r_A19_0_4 : (0 : Int) ≤ (A19 0 4) ∧ (A19 0 4) ≤ 1600 := hI 0 4
          have r_A19_0_8 : (0 : Int) ≤ (A19 0 8) ∧ (A19 0 8) ≤ 5 := hI 0 8
          obtain ⟨z24, gz24, hz24, ez24⟩ := i_wrapE (z5 + 1)
          refine lv_iinc (v := iI z24) (lv' := [(1, .int (iI z24)), (0, .ref (q 0))]) hx hb dX12_town_147 hl (k := 0) rfl ((i_inc (by omega)).trans ez24) (by decide) rfl (fun ls hl => ?_)
          refine lv_goto (tgt := 129) hx hb dX12_town_150 (by decide) ?_
          have r_A19_0_5 : (0 : Int) ≤ (A19 0 5) ∧ (A19 0 5) ≤ 1600 := hI 0 5
          have gm : A19 0 8 = 0 → A7 0 5 ≤ A19 0 4 := fun h => (hw20.out h).2
          exact ih9 _ (by omega) z24 _ _ _ _ (by omega) (by exact Hd.mk (fun h0 => (hw20.out (by omega)).1)) hc22 hc23 (fun zq uq ⟨mm1, hq⟩ => hk1 _ _ ⟨mm1 + 1, (u_d_X12_town_1 ⟨gI15.out, ⟨f11, (Or.inr ⟨c16, (Or.inr ⟨c18, ⟨A19, ghw20, ⟨z24, gz24.out, hq⟩⟩⟩)⟩)⟩⟩)⟩) rfl hI (fr.trans (fr.trans (fr.rf) hj6 rfl rfl) hf21 rfl rfl) hP hS (lv_sub hl [0, 1] rfl)
  exact L129_8 _ 0 _ _ _ _ (by omega) (by exact Hd.mk (fun _ => hcb)) (CI.fr hci0 hf4 rfl rfl) (WI.fr hwi0 hf4 rfl rfl) (fun zq uq ⟨mm1, hq⟩ => (u_r_X12_town ⟨A1, hA1, ⟨A2, ghw3, ⟨mm1, hq⟩⟩⟩)) rfl hI (fr.rf) hP hS (lv_sub hl [0, 1] rfl)
/-! codes at work; searches -/
theorem okcI {f : Nat → Int} {s len k n z : Int} (hw : wfc f s.toNat len.toNat) (hs : 0 ≤ s) (hk : s ≤ k ∧ k < s + len) (hn : n = dep f s.toNat (k - s).toNat) (hz : z = f k.toNat) : z ≤ 9 ∨ (z = 22 ∧ 1 ≤ n) ∨ (10 ≤ z ∧ z ≤ 21 ∧ 2 ≤ n) := by
  have h := hw.2 (k - s).toNat (by omega)
  unfold okc at h
  have e : s.toNat + (k - s).toNat = k.toNat := by omega
  rw [e, ← hz, ← hn] at h
  exact h
theorem dep_stepI {f : Nat → Int} {s k n n' z : Int} (hs : 0 ≤ s) (hk : s ≤ k) (hn : n = dep f s.toNat (k - s).toNat) (hz : z = f k.toNat) (h : (z ≤ 9 ∧ n' = n + 1) ∨ (z = 22 ∧ n' = n) ∨ (10 ≤ z ∧ z ≤ 21 ∧ n' = n - 1)) : n' = dep f s.toNat (k + 1 - s).toNat := by
  have e1 : (k + 1 - s).toNat = (k - s).toNat + 1 := by omega
  have e : s.toNat + (k - s).toNat = k.toNat := by omega
  rw [e1]
  show n' = dep f s.toNat (k - s).toNat + ds (f (s.toNat + (k - s).toNat))
  rw [e, ← hz, ← hn]
  unfold ds
  rcases h with ⟨a, b⟩ | ⟨a, b⟩ | ⟨a, b, d⟩
  · rw [if_pos a]
    omega
  · rw [if_neg (by omega), if_pos a]
    omega
  · rw [if_neg (by omega), if_neg (by omega)]
    omega
theorem CI.at {A : St} (h : CI A) (hI : IM A) {k x y : Int} (hk : 6 * A 0 12 ≤ k ∧ k < 6 * A 0 12 + A 29 (A 0 12).toNat) (hx : x = A 31 k.toNat) (hy : y = A 32 k.toNat) : x ≤ y ∧ wfc (A 33) (1600 * A 0 12 + x).toNat (y - x).toNat := by
  have r1 : (0 : Int) ≤ A 0 12 := (hI 0 12).1
  have r2 : A 0 12 ≤ 1 := (hI 0 12).2
  have g := h (A 0 12).toNat (k - 6 * A 0 12).toNat (by omega) (by omega)
  have e : 6 * (A 0 12).toNat + (k - 6 * A 0 12).toNat = k.toNat := by omega
  rw [e, ← hx, ← hy] at g
  have r3 : (0 : Int) ≤ x := by rw [hx]; exact (hI 31 _).1
  have e2 : (1600 * A 0 12 + x).toNat = 1600 * (A 0 12).toNat + x.toNat := by omega
  rw [e2]
  exact ⟨g.1, g.2.2⟩
theorem ct_mono {f : Nat → Int} {s : Nat} {p : Int} {n : Nat} : ∀ m, ct f s p n ≤ ct f s p (n + m)
  | 0 => Int.le_refl _
  | m + 1 => by
    have := ct_mono (f := f) (s := s) (p := p) (n := n) m
    have e : ct f s p (n + (m + 1)) = ct f s p (n + m) + (if f (s + (n + m)) = p then 1 else 0) := rfl
    rw [e]
    split <;> omega
/-- a want that is found is one of two -/
theorem WI.two {A : St} (h : WI A) (hI : IM A) {k m p : Int} (hk : 6 * A 0 12 ≤ k ∧ k < 6 * A 0 12 + A 22 (A 0 12).toNat) (hm : m = ct (A 23) (6 * A 0 12).toNat p (k - 6 * A 0 12).toNat) (hp : A 23 k.toNat = p) : m ≤ 1 := by
  have r1 : (0 : Int) ≤ A 0 12 := (hI 0 12).1
  have r2 : A 0 12 ≤ 1 := (hI 0 12).2
  have g := h.le (b := A 0 12) ⟨r1, r2⟩ p
  have g2 := ct_stepI (f := A 23) (p := p) (b := 6 * A 0 12) (i := k) (m := m) (m' := m + 1) (by omega) hk.1 hm (Or.inl ⟨hp, rfl⟩)
  have g3 := ct_mono (f := A 23) (s := (6 * A 0 12).toNat) (p := p) (n := (k + 1 - 6 * A 0 12).toNat) ((A 22 (A 0 12).toNat).toNat - (k + 1 - 6 * A 0 12).toNat)
  have e : (k + 1 - 6 * A 0 12).toNat + ((A 22 (A 0 12).toNat).toNat - (k + 1 - 6 * A 0 12).toNat) = (A 22 (A 0 12).toNat).toNat := by omega
  rw [e, ← g2] at g3
  omega
theorem all_step {f g : Nat → Int} {k : Int} (hk : 0 ≤ k) (h : ∀ i : Nat, (i : Int) < k → f i = -1) (hg : g = up f k.toNat (-1)) : ∀ i : Nat, (i : Int) < k + 1 → g i = -1 := by
  intro i hi
  rw [hg]
  by_cases e : i = k.toNat
  · rw [e, up_same]
  · rw [up_ne _ _ e]
    exact h i (by omega)
