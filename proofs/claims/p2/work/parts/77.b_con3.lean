set_option maxHeartbeats 4000000 in
set_option maxRecDepth 100000 in
theorem mb_X12_goesOn (l : Launch) (dC : Nat → ClassId) (dI : Nat → Nat → Nat) (cB cI cJ cZ cQ : ClassId) (q : Nat → Nat) (A : St) (hI : IM A) (hp0 : RI 1 A) (hp1 : A 0 8 = 0) (hp2 : PR A) (hp3 : A 0 57 = 1) (hcCI : CI A) : XMi l yX12_goesOn ws_mb_X12_goesOn ({ frames := 2, cells := 0, slots := 0, locals := 47 } : Room) (dC, dI) (tyA cB cI cJ cZ cQ) (WM cI cJ cZ q) A [.ref (q 0)] (fun z u => IM u ∧ fr [33, 34, 35, 36, 37, 40] [3, 4, 5, 6, 7, 8, 9, 46, 53, 54, 56, 57] A u ∧ CI u ∧ ((0 ≤ z ∧ z ≤ 1) ∧ (Hd (u 0 8 = 0 → (z = 1 → RI (u 0 57) u ∧ PR u ∧ A 0 4 + 1 ≤ u 0 4) ∧ (z = 0 → DP (u 33) (sA u) (1600 * u 0 47 + u 0 46) 1 ∧ CB u ∧ A 0 4 ≤ u 0 4))))) := by
  refine x_metz (cc := cX12_goesOn) (maxL := 5) WM_adr (by decide +kernel) rfl (Nat.le_of_ble_eq_true rfl) (fun z u h => h.2.2.2.1) (fun p e s m below meth c Q AS ls hx hb hml hown hts hK hDD hA0 hP hS hl RET => ?_)
  have hown : s.vm.findClass RX12 = some m.cls := hown
  have hl : lv_has ls 5 [(0, .ref (q 0))] := hl
  have hiX12 : ∀ w ∈ u_ws RX12 TX12 85, w ∈ ws_mb_X12_goesOn := fun w h => List.mem_cons_of_mem _ (wx_lay w h)
  obtain ⟨H, hHe⟩ : ∃ H : Heap, H = s.heap := ⟨_, rfl⟩
  rw [← hHe] at hP
  have hS : va_S AS s.heap H [] := by rw [hHe]; exact hS
  suffices hgo : ∀ locs : List Loc, va_S AS s.heap H locs → W p l e (headSpec ws_mb_X12_goesOn ({ frames := 2, cells := 0, slots := 0, locals := 47 } : Room)).room s m [.ref (q 0)].toArray below meth c H locs 0 0 Q (F0 m 0 ls []) by
    have := hgo [] hS
    rw [hHe] at this
    exact this
  clear hS hHe
  intro locs hS
  have hI0 := hI
  have hdp := RI.deep hp0 hI0
  have hrm := RI.room hp0 hI0
  have r_A_0_3 : (0 : Int) ≤ (A 0 3) ∧ (A 0 3) ≤ 3 := hI 0 3
  have r_A_0_4 : (0 : Int) ≤ (A 0 4) ∧ (A 0 4) ≤ 1600 := hI 0 4
  have r_A_0_5 : (0 : Int) ≤ (A 0 5) ∧ (A 0 5) ≤ 1600 := hI 0 5
  have r_A_0_7 : (-9223372036854775808 : Int) ≤ (A 0 7) ∧ (A 0 7) ≤ 9223372036854775807 := hI 0 7
  have r_A_0_8 : (0 : Int) ≤ (A 0 8) ∧ (A 0 8) ≤ 5 := hI 0 8
  have r_A_0_46 : (0 : Int) ≤ (A 0 46) ∧ (A 0 46) ≤ 1600 := hI 0 46
  have r_A_0_47 : (0 : Int) ≤ (A 0 47) ∧ (A 0 47) ≤ 1 := hI 0 47
  have r_A_0_53 : (0 : Int) ≤ (A 0 53) ∧ (A 0 53) ≤ 20 := hI 0 53
  have r_A_0_54 : (0 : Int) ≤ (A 0 54) ∧ (A 0 54) ≤ 8 := hI 0 54
  have r_A_0_56 : (0 : Int) ≤ (A 0 56) ∧ (A 0 56) ≤ 500 := hI 0 56
  have hop := hp0.1
  refine lv_aload_n hx hb dX12_goesOn_0 rfl (lv_at hl 0 rfl) ?_
  refine va_get (D := (dC, dI)) (ci := 12) (v := .int (iI (A 0 53))) (C := RX12) (T := TX12) (N := 85) hx hb hts hiX12 hown hK hP 0 wm0 rfl 53 (by decide) (hts _ (List.mem_cons_of_mem _ (wl_in_1 _ (List.mem_of_getElem? (i := 37) rfl)))) (fun _ h9 => h9) rfl dX12_goesOn_1 ?_
  refine lv_iconst (v := iI 1) hx hb dX12_goesOn_4 (by decide +kernel) ?_
  refine x_subv (v := (A 0 53) - 1) hx hb dX12_goesOn_5 (by omega) ?_
  refine lv_istore_n (lv' := [(1, .int (iI ((A 0 53) - 1))), (0, .ref (q 0))]) hx hb dX12_goesOn_6 rfl hl (by decide) rfl (fun ls hl => ?_)
  refine lv_aload_n hx hb dX12_goesOn_7 rfl (lv_at hl 1 rfl) ?_
  refine va_get (D := (dC, dI)) (ci := 12) (v := .ref (q 35)) (C := RX12) (T := TX12) (N := 85) hx hb hts hiX12 hown hK hP 0 wm0 rfl 48 (by decide) (hts _ (List.mem_cons_of_mem _ (wl_in_1 _ (List.mem_of_getElem? (i := 46) rfl)))) (fun _ h9 => h9) rfl dX12_goesOn_8 ?_
  refine lv_iload_n hx hb dX12_goesOn_11 rfl (lv_at hl 0 rfl) ?_
  refine x_iald hx hb hK hP 35 1 wm35 rfl (by omega) (by decide) dX12_goesOn_12 (fun z1 hz1 => ?_)
  have rz1 : (0 : Int) ≤ z1 ∧ z1 ≤ 5 := by rw [hz1]; exact hI 35 _
  have hz1 : z1 = A 35 ((A 0 53) - 1).toNat := hz1
  refine lv_istore_n (lv' := [(2, .int (iI z1)), (1, .int (iI ((A 0 53) - 1))), (0, .ref (q 0))]) hx hb dX12_goesOn_13 rfl hl (by decide) rfl (fun ls hl => ?_)
  refine lv_iload_n hx hb dX12_goesOn_14 rfl (lv_at hl 0 rfl) ?_
  refine x_callSi (As := [.int (iI z1)]) (rest := []) ⟨hx, hb, hml, hown, hts⟩ (mc_X12_isTest l dC dI cB cI cJ cZ cQ q _ z1 hI (rb rz1 (by decide) (by decide))) (va_cwS 1 hts (goodS (wl_in_1 _ (List.mem_of_getElem? (i := 57) rfl)) (wl_in_1 _ (List.mem_of_getElem? (i := 58) rfl)) (wl_in_0 _ (List.mem_of_getElem? (i := 8) rfl)) (wl_in_1 _ (List.mem_of_getElem? (i := 54) rfl))) rfl rfl rfl (by decide +kernel) ⟨Nat.le_of_ble_eq_true rfl, Nat.le_of_ble_eq_true rfl⟩) hK hDD hA0 hP hS rfl hl.1 (Nat.le_of_ble_eq_true rfl) dX12_goesOn_15 (fun z2 A3 H locs hw4 hP hS => ?_)
  obtain ⟨rfl, hw4⟩ := hw4
  refine lv_istore_n (lv' := [(3, .int (iI z2)), (2, .int (iI z1)), (1, .int (iI ((A 0 53) - 1))), (0, .ref (q 0))]) hx hb dX12_goesOn_18 rfl hl (by decide) rfl (fun ls hl => ?_)
  refine lv_aload_n hx hb dX12_goesOn_19 rfl (lv_at hl 3 rfl) ?_
  refine va_get (D := (dC, dI)) (ci := 12) (v := .ref (q 36)) (C := RX12) (T := TX12) (N := 85) hx hb hts hiX12 hown hK hP 0 wm0 rfl 49 (by decide) (hts _ (List.mem_cons_of_mem _ (wl_in_1 _ (List.mem_of_getElem? (i := 47) rfl)))) (fun _ h9 => h9) rfl dX12_goesOn_20 ?_
  refine lv_iload_n hx hb dX12_goesOn_23 rfl (lv_at hl 2 rfl) ?_
  refine x_iald hx hb hK hP 36 1 wm36 rfl (by omega) (by decide) dX12_goesOn_24 (fun z5 hz5 => ?_)
  have rz5 : (0 : Int) ≤ z5 ∧ z5 ≤ 2 := by rw [hz5]; exact hI 36 _
  have hz5 : z5 = A 36 ((A 0 53) - 1).toNat := hz5
  refine lv_iconst (v := iI 2) hx hb dX12_goesOn_25 (by decide +kernel) ?_
  refine lv_icmp_ge (tgt := 175) hx hb dX12_goesOn_26 (by decide) (fun c6 => ?_) (fun c6 => ?_)
  · have c6 : 2 ≤ z5 := (i_le ⟨by decide, by decide⟩ (rb rz5 (by decide) (by decide))).mp c6
    exact mb_X12_goesOn_c175 l dC dI cB cI cJ cZ cQ q A hI0 hp0 hp1 hp2 hp3 hcCI p e s m below meth c Q AS hx hb hml hown hts hK hDD hA0 RET _ _ _ z1 z2 (by omega) (by omega) hz1 hP hS (lv_sub hl [3, 2, 1, 0] rfl)
  · have c6 : ¬ 2 ≤ z5 := mt (i_le ⟨by decide, by decide⟩ (rb rz5 (by decide) (by decide))).mpr c6
    refine lv_aload_n hx hb dX12_goesOn_29 rfl (lv_at hl 3 rfl) ?_
    refine lv_bipush (v := iI 43) hx hb dX12_goesOn_30 (by decide +kernel) ?_
    have r_A_0_6 : (-2147483648 : Int) ≤ (A 0 6) ∧ (A 0 6) ≤ 2147483647 := hI 0 6
    refine x_calli (As := [.int (iI 43)]) (rest := []) ⟨hx, hb, hml, hown, hts⟩ (mb_X12_isSign l dC dI cB cI cJ cZ cQ q _ 43 hI ⟨by decide, by decide⟩) (cwV 1 hts (goodV (wl_in_0 _ (List.mem_of_getElem? (i := 37) rfl)) (wl_in_0 _ (List.mem_of_getElem? (i := 38) rfl)) (wl_in_0 _ (List.mem_of_getElem? (i := 39) rfl)) (wl_in_0 _ (List.mem_of_getElem? (i := 8) rfl)) (wl_in_0 _ (List.mem_of_getElem? (i := 34) rfl))) rfl rfl rfl (by decide +kernel) ⟨Nat.le_of_ble_eq_true rfl, Nat.le_of_ble_eq_true rfl⟩) hK hDD hA0 hP hS 0 12 wm0 rfl rfl hl.1 (Nat.le_of_ble_eq_true rfl) dX12_goesOn_32 (fun z8 A9 H locs hw10 hP hS => ?_)
    obtain ⟨rfl, hw10⟩ := hw10
    have rz8 : 0 ≤ z8 ∧ z8 ≤ 1 := hw10.1
    replace hw10 := Hd.mk hw10.2
    refine lv_if_ne (tgt := 74) hx hb dX12_goesOn_35 (by decide) (fun c11 => ?_) (fun c11 => ?_)
    · have c11 : ¬ z8 = 0 := mt (i_eq0 (rb rz8 (by decide) (by decide))).mpr c11
      have hw10b := hw10.out.mp (by omega)
      refine lv_aload_n hx hb dX12_goesOn_74 rfl (lv_at hl 3 rfl) ?_
      refine lv_aload_n hx hb dX12_goesOn_75 rfl (lv_at hl 3 rfl) ?_
      refine lv_bipush (v := iI 43) hx hb dX12_goesOn_76 (by decide +kernel) ?_
      refine x_calli (As := [.int (iI 43)]) (rest := [.ref (q 0)]) ⟨hx, hb, hml, hown, hts⟩ (mb_X12_isSign l dC dI cB cI cJ cZ cQ q _ 43 hI ⟨by decide, by decide⟩) (cwV 1 hts (goodV (wl_in_0 _ (List.mem_of_getElem? (i := 37) rfl)) (wl_in_0 _ (List.mem_of_getElem? (i := 38) rfl)) (wl_in_0 _ (List.mem_of_getElem? (i := 39) rfl)) (wl_in_0 _ (List.mem_of_getElem? (i := 8) rfl)) (wl_in_0 _ (List.mem_of_getElem? (i := 34) rfl))) rfl rfl rfl (by decide +kernel) ⟨Nat.le_of_ble_eq_true rfl, Nat.le_of_ble_eq_true rfl⟩) hK hDD hA0 hP hS 0 12 wm0 rfl rfl hl.1 (Nat.le_of_ble_eq_true rfl) dX12_goesOn_78 (fun z12 A13 H locs hw14 hP hS => ?_)
      obtain ⟨rfl, hw14⟩ := hw14
      have rz12 : 0 ≤ z12 ∧ z12 ≤ 1 := hw14.1
      replace hw14 := Hd.mk hw14.2
      have ez12 : z12 = z8 := by have a := hw10.out; have b := hw14.out; omega
      refine lv_if_ne (tgt := 93) hx hb dX12_goesOn_81 (by decide) (fun _ => ?_) (fun c15 => False.elim (by have c15 : z12 = 0 := (i_eq0 (rb rz12 (by decide) (by decide))).mp c15; omega))
      refine lv_iconst (v := iI 5) hx hb dX12_goesOn_93 (by decide +kernel) ?_
      refine lv_goto (tgt := 99) hx hb dX12_goesOn_94 (by decide) ?_
      refine x_callv (As := [.int (iI 5)]) (rest := []) ⟨hx, hb, hml, hown, hts⟩ (mb_X12_joins l dC dI cB cI cJ cZ cQ q _ 5 hI ⟨by decide, by decide⟩ (by exact hp0) hcCI) (cwV 1 hts (goodV (wl_in_2 _ (List.mem_of_getElem? (i := 10) rfl)) (wl_in_2 _ (List.mem_of_getElem? (i := 11) rfl)) (wl_in_2 _ (List.mem_of_getElem? (i := 12) rfl)) (wl_in_0 _ (List.mem_of_getElem? (i := 8) rfl)) (wl_in_1 _ (List.mem_of_getElem? (i := 34) rfl))) rfl rfl rfl (by decide +kernel) ⟨Nat.le_of_ble_eq_true rfl, Nat.le_of_ble_eq_true rfl⟩) hK hDD hA0 hP hS 0 12 wm0 rfl rfl hl.1 (Nat.le_of_ble_eq_true rfl) dX12_goesOn_99 (fun A16 H locs hw17 hP hS => ?_)
      obtain ⟨hI, hf18, hw17⟩ := hw17
      obtain ⟨hc19, hw17⟩ := hw17
      have e_A16_53 : A16 0 53 = (A 0 53) := (hf18.2 53 rfl)
      have r_A16_0_56 : (0 : Int) ≤ (A16 0 56) ∧ (A16 0 56) ≤ 500 := hI 0 56
      have hj := hw17
      have hIj := hI
      have hrj := RI.room hj.1 hIj
      clear hw17
      have e_A16_3 : A16 0 3 = (A 0 3) := (hf18.2 3 rfl)
      have e_A16_4 : A16 0 4 = (A 0 4) := (hf18.2 4 rfl)
      have e_A16_5 : A16 0 5 = (A 0 5) := (hf18.2 5 rfl)
      have e_A16_7 : A16 0 7 = (A 0 7) := (hf18.2 7 rfl)
      have e_A16_8 : A16 0 8 = (A 0 8) := (hf18.2 8 rfl)
      have e_A16_47 : A16 0 47 = (A 0 47) := (hf18.2 47 rfl)
      have e_A16_54 : A16 0 54 = (A 0 54) := (hf18.2 54 rfl)
      have r_A16_0_46 : (0 : Int) ≤ (A16 0 46) ∧ (A16 0 46) ≤ 1600 := hI 0 46
      refine lv_aload_n hx hb dX12_goesOn_102 rfl (lv_at hl 3 rfl) ?_
      refine lv_aload_n hx hb dX12_goesOn_103 rfl (lv_at hl 3 rfl) ?_
      refine lv_bipush (v := iI 43) hx hb dX12_goesOn_104 (by decide +kernel) ?_
      have e_A16_6 : A16 0 6 = (A 0 6) := (hf18.2 6 rfl)
      refine x_calli (As := [.int (iI 43)]) (rest := [.ref (q 0)]) ⟨hx, hb, hml, hown, hts⟩ (mb_X12_isSign l dC dI cB cI cJ cZ cQ q _ 43 hI ⟨by decide, by decide⟩) (cwV 1 hts (goodV (wl_in_0 _ (List.mem_of_getElem? (i := 37) rfl)) (wl_in_0 _ (List.mem_of_getElem? (i := 38) rfl)) (wl_in_0 _ (List.mem_of_getElem? (i := 39) rfl)) (wl_in_0 _ (List.mem_of_getElem? (i := 8) rfl)) (wl_in_0 _ (List.mem_of_getElem? (i := 34) rfl))) rfl rfl rfl (by decide +kernel) ⟨Nat.le_of_ble_eq_true rfl, Nat.le_of_ble_eq_true rfl⟩) hK hDD hA0 hP hS 0 12 wm0 rfl rfl hl.1 (Nat.le_of_ble_eq_true rfl) dX12_goesOn_106 (fun z20 A21 H locs hw22 hP hS => ?_)
      obtain ⟨rfl, hw22⟩ := hw22
      have rz20 : 0 ≤ z20 ∧ z20 ≤ 1 := hw22.1
      replace hw22 := Hd.mk hw22.2
      have ez20 : z20 = z8 := by have a := hw10.out; have b := hw22.out; omega
      refine lv_if_eq (tgt := 117) hx hb dX12_goesOn_109 (by decide) (fun c23 => False.elim (by have c23 : z20 = 0 := (i_eq0 (rb rz20 (by decide) (by decide))).mp c23; omega)) (fun _ => ?_)
      refine lv_bipush (v := iI 10) hx hb dX12_goesOn_112 (by decide +kernel) ?_
      refine lv_goto (tgt := 161) hx hb dX12_goesOn_114 (by decide) ?_
      refine x_callv (As := [.int (iI 10)]) (rest := []) ⟨hx, hb, hml, hown, hts⟩ (mb_X12_holdsBack l dC dI cB cI cJ cZ cQ q _ 10 hI ⟨by decide, by decide⟩ (by omega)) (cwV 1 hts (goodV (wl_in_2 _ (List.mem_of_getElem? (i := 2) rfl)) (wl_in_2 _ (List.mem_of_getElem? (i := 3) rfl)) (wl_in_2 _ (List.mem_of_getElem? (i := 4) rfl)) (wl_in_0 _ (List.mem_of_getElem? (i := 8) rfl)) (wl_in_1 _ (List.mem_of_getElem? (i := 44) rfl))) rfl rfl rfl (by decide +kernel) ⟨Nat.le_of_ble_eq_true rfl, Nat.le_of_ble_eq_true rfl⟩) hK hDD hA0 hP hS 0 12 wm0 rfl rfl hl.1 (Nat.le_of_ble_eq_true rfl) dX12_goesOn_161 (fun A24 H locs hw25 hP hS => ?_)
      obtain ⟨hI, hf26, hw25⟩ := hw25
      have r_A24_0_56 : (0 : Int) ≤ (A24 0 56) ∧ (A24 0 56) ≤ 500 := hI 0 56
      refine lv_aload_n hx hb dX12_goesOn_164 rfl (lv_at hl 3 rfl) ?_
      have e_A24_4 : A24 0 4 = (A 0 4) := (hf26.2 4 rfl).trans e_A16_4
      have e_A24_5 : A24 0 5 = (A 0 5) := (hf26.2 5 rfl).trans e_A16_5
      have e_A24_8 : A24 0 8 = (A 0 8) := (hf26.2 8 rfl).trans e_A16_8
      refine x_callv (As := []) (rest := []) ⟨hx, hb, hml, hown, hts⟩ (mb_X12_ahead l dC dI cB cI cJ cZ cQ q _ hI) (cwV 0 hts (goodV (wl_in_0 _ (List.mem_of_getElem? (i := 40) rfl)) (wl_in_0 _ (List.mem_of_getElem? (i := 41) rfl)) (wl_in_0 _ (List.mem_of_getElem? (i := 42) rfl)) (wl_in_0 _ (List.mem_of_getElem? (i := 8) rfl)) (wl_in_0 _ (List.mem_of_getElem? (i := 20) rfl))) rfl rfl rfl (by decide +kernel) ⟨Nat.le_of_ble_eq_true rfl, Nat.le_of_ble_eq_true rfl⟩) hK hDD hA0 hP hS 0 12 wm0 rfl rfl hl.1 (Nat.le_of_ble_eq_true rfl) dX12_goesOn_165 (fun A27 H locs hw28 hP hS => ?_)
      obtain ⟨hI, hf29, hw28⟩ := hw28
      have r_A27_0_3 : (0 : Int) ≤ (A27 0 3) ∧ (A27 0 3) ≤ 3 := hI 0 3
      have r_A27_0_4 : (0 : Int) ≤ (A27 0 4) ∧ (A27 0 4) ≤ 1600 := hI 0 4
      have r_A27_0_5 : (0 : Int) ≤ (A27 0 5) ∧ (A27 0 5) ≤ 1600 := hI 0 5
      have r_A27_0_8 : (0 : Int) ≤ (A27 0 8) ∧ (A27 0 8) ≤ 5 := hI 0 8
      have hw28x := hw28.1
      have hw28y := hw28.2.1
      replace hw28 := Hd.mk hw28
      refine lv_aload_n hx hb dX12_goesOn_168 rfl (lv_at hl 3 rfl) ?_
      refine lv_iconst (v := iI 0) hx hb dX12_goesOn_169 (by decide +kernel) ?_
      refine x_put (D := (dC, dI)) (ci := 12) (v := .int (iI 0)) (ty := .boolean) (C := RX12) (T := TX12) (N := 85) hx hb hts hiX12 tyX12 tyX12_ok nmX12 hown hK hP hDD hS 0 wm0 rfl 57 (by decide) (hts _ (List.mem_cons_of_mem _ (wl_in_2 _ (List.mem_of_getElem? (i := 9) rfl)))) (fun _ h9 => h9) rfl (by decide +kernel) (by decide +kernel) rfl (Nat.le_of_ble_eq_true rfl) dX12_goesOn_170 (wf57 (v := 0)) (fun H locs hP hS => ?_)
      have hI := hI.st (j := 0) (i := 57) (v := 0) (show (0 : Int) ≤ 0 ∧ 0 ≤ 1 from (by omega))
      refine lv_iconst (v := iI 1) hx hb dX12_goesOn_173 (by decide +kernel) ?_
      obtain ⟨A30, hA30⟩ : ∃ A30 : St, A30 = (stA A27 0 57 0) := ⟨_, rfl⟩
      rw [← hA30] at hP hI
      have e_A30_4 : A30 0 4 = (A27 0 4) := by rw [hA30]; exact rfl
      have e_A30_5 : A30 0 5 = (A27 0 5) := by rw [hA30]; exact rfl
      have e_A30_8 : A30 0 8 = (A27 0 8) := by rw [hA30]; exact rfl
      have e_A24_46 : A24 0 46 = (A16 0 46) := (hf26.2 46 rfl)
      have e_A27_46 : A27 0 46 = (A16 0 46) := (hf29.2 46 rfl).trans e_A24_46
      have e_A30_46 : A30 0 46 = (A16 0 46) := by rw [hA30]; exact e_A27_46
      have e_A24_47 : A24 0 47 = (A 0 47) := (hf26.2 47 rfl).trans e_A16_47
      have e_A27_47 : A27 0 47 = (A 0 47) := (hf29.2 47 rfl).trans e_A24_47
      have e_A30_47 : A30 0 47 = (A 0 47) := by rw [hA30]; exact e_A27_47
      have e_A30_57 : A30 0 57 = 0 := by rw [hA30]; rfl
      have ca31 : A16 35 = A 35 := (hf18.1 35 (by decide) rfl)
      have ca32 : A30 1 = A27 1 := by rw [hA30]; exact rfl
      have e_A30_3 : A30 0 3 = (A27 0 3) := by rw [hA30]; exact rfl
      have e_A30_7 : A30 0 7 = (A27 0 7) := by rw [hA30]; exact rfl
      have hlt := RI.lt hp0 (by omega)
      have ca33 : A27 40 = A24 40 := (hf29.1 40 (by decide) rfl)
      have ca34 : A30 40 = A24 40 := by rw [hA30]; exact ca33
      have ca35 : A24 29 = A16 29 := (hf26.1 29 (by decide) rfl)
      have ca36 : A27 29 = A16 29 := (hf29.1 29 (by decide) rfl).trans ca35
      have ca37 : A30 29 = A16 29 := by rw [hA30]; exact ca36
      have ca38 : A24 31 = A16 31 := (hf26.1 31 (by decide) rfl)
      have ca39 : A27 31 = A16 31 := (hf29.1 31 (by decide) rfl).trans ca38
      have ca40 : A30 31 = A16 31 := by rw [hA30]; exact ca39
      have ca41 : A24 33 = A16 33 := (hf26.1 33 (by decide) rfl)
      have ca42 : A27 33 = A16 33 := (hf29.1 33 (by decide) rfl).trans ca41
      have ca43 : A30 33 = A16 33 := by rw [hA30]; exact ca42
      have ca44 : A24 35 = A16 35 := (hf26.1 35 (by decide) rfl)
      have ca45 : A27 35 = A16 35 := (hf29.1 35 (by decide) rfl).trans ca44
      have ca46 : A30 35 = A16 35 := by rw [hA30]; exact ca45
      have ca47 : A24 37 = A16 37 := (hf26.1 37 (by decide) rfl)
      have ca48 : A27 37 = A16 37 := (hf29.1 37 (by decide) rfl).trans ca47
      have ca49 : A30 37 = A16 37 := by rw [hA30]; exact ca48
      have ca50 : A24 39 = A16 39 := (hf26.1 39 (by decide) rfl)
      have ca51 : A27 39 = A16 39 := (hf29.1 39 (by decide) rfl).trans ca50
      have ca52 : A30 39 = A16 39 := by rw [hA30]; exact ca51
      have e_A24_53 : A24 0 53 = (A 0 53) := (hf26.2 53 rfl).trans e_A16_53
      have e_A27_53 : A27 0 53 = (A 0 53) := (hf29.2 53 rfl).trans e_A24_53
      have e_A30_53 : A30 0 53 = (A 0 53) := by rw [hA30]; exact e_A27_53
      have e_A24_54 : A24 0 54 = (A 0 54) := (hf26.2 54 rfl).trans e_A16_54
      have e_A27_54 : A27 0 54 = (A 0 54) := (hf29.2 54 rfl).trans e_A24_54
      have e_A30_54 : A30 0 54 = (A 0 54) := by rw [hA30]; exact e_A27_54
      have e_A27_56 : A27 0 56 = (A24 0 56) := (hf29.2 56 rfl)
      have e_A30_56 : A30 0 56 = (A24 0 56) := by rw [hA30]; exact e_A27_56
      exact RET 1 _ _ _ _ _ ⟨hI, fr_def hA30 (fr.sf (fr.trans (fr.trans (fr.trans (fr.rf) hf18 rfl rfl) hf26 rfl rfl) hf29 rfl rfl) rfl), (CI.fr (CI.fr (CI.fr hc19 hf26 rfl rfl) hf29 rfl rfl) (fr_def hA30 (fr.sf (fr.rf (M := []) (N := [57])) rfl)) rfl rfl), ⟨by decide, Hd.mk (fun h0 => ⟨fun _ => ⟨by rw [show A30 0 57 = 0 by omega]; exact RI.op (x := 10) (r37 := A16 37) hj.1 hIj (by omega) (by decide) (hj.2.imp id (fun t => by rw [show rk 10 = 5 by decide]; exact t)) (fun _ _ => rfl) (fun h => absurd h (by rw [RI.nn hj.1 rfl]; decide)) ⟨ca37, ca40, ca43, ca46, ca49, ca52, (ca34.trans hw25.2), e_A30_46, (e_A30_47.trans e_A16_47.symm), (e_A30_53.trans e_A16_53.symm), (e_A30_54.trans e_A16_54.symm), (by omega)⟩ (by omega) (by omega) (LX.of ca32 e_A30_3 e_A30_4 e_A30_5 e_A30_7 hw28.out.2.2.1), (PR.fr (PR.fr (PR.fr (PR.fr hp2 hf18 rfl rfl) hf26 rfl rfl) hf29 rfl rfl) (fr_def hA30 (fr.sf (fr.rf (M := []) (N := [57])) rfl)) rfl rfl), by omega⟩, fun h => absurd h (by decide)⟩)⟩⟩ hP hS dX12_goesOn_174
    · have c11 : z8 = 0 := (i_eq0 (rb rz8 (by decide) (by decide))).mp c11
      refine lv_aload_n hx hb dX12_goesOn_38 rfl (lv_at hl 3 rfl) ?_
      refine lv_bipush (v := iI 45) hx hb dX12_goesOn_39 (by decide +kernel) ?_
      refine x_calli (As := [.int (iI 45)]) (rest := []) ⟨hx, hb, hml, hown, hts⟩ (mb_X12_isSign l dC dI cB cI cJ cZ cQ q _ 45 hI ⟨by decide, by decide⟩) (cwV 1 hts (goodV (wl_in_0 _ (List.mem_of_getElem? (i := 37) rfl)) (wl_in_0 _ (List.mem_of_getElem? (i := 38) rfl)) (wl_in_0 _ (List.mem_of_getElem? (i := 39) rfl)) (wl_in_0 _ (List.mem_of_getElem? (i := 8) rfl)) (wl_in_0 _ (List.mem_of_getElem? (i := 34) rfl))) rfl rfl rfl (by decide +kernel) ⟨Nat.le_of_ble_eq_true rfl, Nat.le_of_ble_eq_true rfl⟩) hK hDD hA0 hP hS 0 12 wm0 rfl rfl hl.1 (Nat.le_of_ble_eq_true rfl) dX12_goesOn_41 (fun z53 A54 H locs hw55 hP hS => ?_)
      obtain ⟨rfl, hw55⟩ := hw55
      have rz53 : 0 ≤ z53 ∧ z53 ≤ 1 := hw55.1
      replace hw55 := Hd.mk hw55.2
      refine lv_if_ne (tgt := 74) hx hb dX12_goesOn_44 (by decide) (fun c56 => ?_) (fun c56 => ?_)
      · have c56 : ¬ z53 = 0 := mt (i_eq0 (rb rz53 (by decide) (by decide))).mpr c56
        have hw55b := hw55.out.mp (by omega)
        refine lv_aload_n hx hb dX12_goesOn_74 rfl (lv_at hl 3 rfl) ?_
        refine lv_aload_n hx hb dX12_goesOn_75 rfl (lv_at hl 3 rfl) ?_
        refine lv_bipush (v := iI 43) hx hb dX12_goesOn_76 (by decide +kernel) ?_
        refine x_calli (As := [.int (iI 43)]) (rest := [.ref (q 0)]) ⟨hx, hb, hml, hown, hts⟩ (mb_X12_isSign l dC dI cB cI cJ cZ cQ q _ 43 hI ⟨by decide, by decide⟩) (cwV 1 hts (goodV (wl_in_0 _ (List.mem_of_getElem? (i := 37) rfl)) (wl_in_0 _ (List.mem_of_getElem? (i := 38) rfl)) (wl_in_0 _ (List.mem_of_getElem? (i := 39) rfl)) (wl_in_0 _ (List.mem_of_getElem? (i := 8) rfl)) (wl_in_0 _ (List.mem_of_getElem? (i := 34) rfl))) rfl rfl rfl (by decide +kernel) ⟨Nat.le_of_ble_eq_true rfl, Nat.le_of_ble_eq_true rfl⟩) hK hDD hA0 hP hS 0 12 wm0 rfl rfl hl.1 (Nat.le_of_ble_eq_true rfl) dX12_goesOn_78 (fun z57 A58 H locs hw59 hP hS => ?_)
        obtain ⟨rfl, hw59⟩ := hw59
        have rz57 : 0 ≤ z57 ∧ z57 ≤ 1 := hw59.1
        replace hw59 := Hd.mk hw59.2
        have ez57 : z57 = z8 := by have a := hw10.out; have b := hw59.out; omega
        refine lv_if_ne (tgt := 93) hx hb dX12_goesOn_81 (by decide) (fun c60 => False.elim (by have c60 : ¬ z57 = 0 := mt (i_eq0 (rb rz57 (by decide) (by decide))).mpr c60; omega)) (fun _ => ?_)
        refine lv_aload_n hx hb dX12_goesOn_84 rfl (lv_at hl 3 rfl) ?_
        refine lv_bipush (v := iI 45) hx hb dX12_goesOn_85 (by decide +kernel) ?_
        refine x_calli (As := [.int (iI 45)]) (rest := [.ref (q 0)]) ⟨hx, hb, hml, hown, hts⟩ (mb_X12_isSign l dC dI cB cI cJ cZ cQ q _ 45 hI ⟨by decide, by decide⟩) (cwV 1 hts (goodV (wl_in_0 _ (List.mem_of_getElem? (i := 37) rfl)) (wl_in_0 _ (List.mem_of_getElem? (i := 38) rfl)) (wl_in_0 _ (List.mem_of_getElem? (i := 39) rfl)) (wl_in_0 _ (List.mem_of_getElem? (i := 8) rfl)) (wl_in_0 _ (List.mem_of_getElem? (i := 34) rfl))) rfl rfl rfl (by decide +kernel) ⟨Nat.le_of_ble_eq_true rfl, Nat.le_of_ble_eq_true rfl⟩) hK hDD hA0 hP hS 0 12 wm0 rfl rfl hl.1 (Nat.le_of_ble_eq_true rfl) dX12_goesOn_87 (fun z61 A62 H locs hw63 hP hS => ?_)
        obtain ⟨rfl, hw63⟩ := hw63
        have rz61 : 0 ≤ z61 ∧ z61 ≤ 1 := hw63.1
        replace hw63 := Hd.mk hw63.2
        have ez61 : z61 = z53 := by have a := hw55.out; have b := hw63.out; omega
        refine lv_if_eq (tgt := 97) hx hb dX12_goesOn_90 (by decide) (fun c64 => False.elim (by have c64 : z61 = 0 := (i_eq0 (rb rz61 (by decide) (by decide))).mp c64; omega)) (fun _ => ?_)
        refine lv_iconst (v := iI 5) hx hb dX12_goesOn_93 (by decide +kernel) ?_
        refine lv_goto (tgt := 99) hx hb dX12_goesOn_94 (by decide) ?_
        refine x_callv (As := [.int (iI 5)]) (rest := []) ⟨hx, hb, hml, hown, hts⟩ (mb_X12_joins l dC dI cB cI cJ cZ cQ q _ 5 hI ⟨by decide, by decide⟩ (by exact hp0) hcCI) (cwV 1 hts (goodV (wl_in_2 _ (List.mem_of_getElem? (i := 10) rfl)) (wl_in_2 _ (List.mem_of_getElem? (i := 11) rfl)) (wl_in_2 _ (List.mem_of_getElem? (i := 12) rfl)) (wl_in_0 _ (List.mem_of_getElem? (i := 8) rfl)) (wl_in_1 _ (List.mem_of_getElem? (i := 34) rfl))) rfl rfl rfl (by decide +kernel) ⟨Nat.le_of_ble_eq_true rfl, Nat.le_of_ble_eq_true rfl⟩) hK hDD hA0 hP hS 0 12 wm0 rfl rfl hl.1 (Nat.le_of_ble_eq_true rfl) dX12_goesOn_99 (fun A65 H locs hw66 hP hS => ?_)
        obtain ⟨hI, hf67, hw66⟩ := hw66
        obtain ⟨hc68, hw66⟩ := hw66
        have e_A65_53 : A65 0 53 = (A 0 53) := (hf67.2 53 rfl)
        have r_A65_0_56 : (0 : Int) ≤ (A65 0 56) ∧ (A65 0 56) ≤ 500 := hI 0 56
        have hj := hw66
        have hIj := hI
        have hrj := RI.room hj.1 hIj
        clear hw66
        have e_A65_3 : A65 0 3 = (A 0 3) := (hf67.2 3 rfl)
        have e_A65_4 : A65 0 4 = (A 0 4) := (hf67.2 4 rfl)
        have e_A65_5 : A65 0 5 = (A 0 5) := (hf67.2 5 rfl)
        have e_A65_7 : A65 0 7 = (A 0 7) := (hf67.2 7 rfl)
        have e_A65_8 : A65 0 8 = (A 0 8) := (hf67.2 8 rfl)
        have e_A65_47 : A65 0 47 = (A 0 47) := (hf67.2 47 rfl)
        have e_A65_54 : A65 0 54 = (A 0 54) := (hf67.2 54 rfl)
        have r_A65_0_46 : (0 : Int) ≤ (A65 0 46) ∧ (A65 0 46) ≤ 1600 := hI 0 46
        refine lv_aload_n hx hb dX12_goesOn_102 rfl (lv_at hl 3 rfl) ?_
        refine lv_aload_n hx hb dX12_goesOn_103 rfl (lv_at hl 3 rfl) ?_
        refine lv_bipush (v := iI 43) hx hb dX12_goesOn_104 (by decide +kernel) ?_
        have e_A65_6 : A65 0 6 = (A 0 6) := (hf67.2 6 rfl)
        refine x_calli (As := [.int (iI 43)]) (rest := [.ref (q 0)]) ⟨hx, hb, hml, hown, hts⟩ (mb_X12_isSign l dC dI cB cI cJ cZ cQ q _ 43 hI ⟨by decide, by decide⟩) (cwV 1 hts (goodV (wl_in_0 _ (List.mem_of_getElem? (i := 37) rfl)) (wl_in_0 _ (List.mem_of_getElem? (i := 38) rfl)) (wl_in_0 _ (List.mem_of_getElem? (i := 39) rfl)) (wl_in_0 _ (List.mem_of_getElem? (i := 8) rfl)) (wl_in_0 _ (List.mem_of_getElem? (i := 34) rfl))) rfl rfl rfl (by decide +kernel) ⟨Nat.le_of_ble_eq_true rfl, Nat.le_of_ble_eq_true rfl⟩) hK hDD hA0 hP hS 0 12 wm0 rfl rfl hl.1 (Nat.le_of_ble_eq_true rfl) dX12_goesOn_106 (fun z69 A70 H locs hw71 hP hS => ?_)
        obtain ⟨rfl, hw71⟩ := hw71
        have rz69 : 0 ≤ z69 ∧ z69 ≤ 1 := hw71.1
        replace hw71 := Hd.mk hw71.2
        have ez69 : z69 = z8 := by have a := hw10.out; have b := hw71.out; omega
        refine lv_if_eq (tgt := 117) hx hb dX12_goesOn_109 (by decide) (fun _ => ?_) (fun c72 => False.elim (by have c72 : ¬ z69 = 0 := mt (i_eq0 (rb rz69 (by decide) (by decide))).mpr c72; omega))
        refine lv_aload_n hx hb dX12_goesOn_117 rfl (lv_at hl 3 rfl) ?_
        refine lv_bipush (v := iI 45) hx hb dX12_goesOn_118 (by decide +kernel) ?_
        refine x_calli (As := [.int (iI 45)]) (rest := [.ref (q 0)]) ⟨hx, hb, hml, hown, hts⟩ (mb_X12_isSign l dC dI cB cI cJ cZ cQ q _ 45 hI ⟨by decide, by decide⟩) (cwV 1 hts (goodV (wl_in_0 _ (List.mem_of_getElem? (i := 37) rfl)) (wl_in_0 _ (List.mem_of_getElem? (i := 38) rfl)) (wl_in_0 _ (List.mem_of_getElem? (i := 39) rfl)) (wl_in_0 _ (List.mem_of_getElem? (i := 8) rfl)) (wl_in_0 _ (List.mem_of_getElem? (i := 34) rfl))) rfl rfl rfl (by decide +kernel) ⟨Nat.le_of_ble_eq_true rfl, Nat.le_of_ble_eq_true rfl⟩) hK hDD hA0 hP hS 0 12 wm0 rfl rfl hl.1 (Nat.le_of_ble_eq_true rfl) dX12_goesOn_120 (fun z73 A74 H locs hw75 hP hS => ?_)
        obtain ⟨rfl, hw75⟩ := hw75
        have rz73 : 0 ≤ z73 ∧ z73 ≤ 1 := hw75.1
        replace hw75 := Hd.mk hw75.2
        have ez73 : z73 = z53 := by have a := hw55.out; have b := hw75.out; omega
        refine lv_if_eq (tgt := 131) hx hb dX12_goesOn_123 (by decide) (fun c76 => False.elim (by have c76 : z73 = 0 := (i_eq0 (rb rz73 (by decide) (by decide))).mp c76; omega)) (fun _ => ?_)
        refine lv_bipush (v := iI 11) hx hb dX12_goesOn_126 (by decide +kernel) ?_
        refine lv_goto (tgt := 161) hx hb dX12_goesOn_128 (by decide) ?_
        refine x_callv (As := [.int (iI 11)]) (rest := []) ⟨hx, hb, hml, hown, hts⟩ (mb_X12_holdsBack l dC dI cB cI cJ cZ cQ q _ 11 hI ⟨by decide, by decide⟩ (by omega)) (cwV 1 hts (goodV (wl_in_2 _ (List.mem_of_getElem? (i := 2) rfl)) (wl_in_2 _ (List.mem_of_getElem? (i := 3) rfl)) (wl_in_2 _ (List.mem_of_getElem? (i := 4) rfl)) (wl_in_0 _ (List.mem_of_getElem? (i := 8) rfl)) (wl_in_1 _ (List.mem_of_getElem? (i := 44) rfl))) rfl rfl rfl (by decide +kernel) ⟨Nat.le_of_ble_eq_true rfl, Nat.le_of_ble_eq_true rfl⟩) hK hDD hA0 hP hS 0 12 wm0 rfl rfl hl.1 (Nat.le_of_ble_eq_true rfl) dX12_goesOn_161 (fun A77 H locs hw78 hP hS => ?_)
        obtain ⟨hI, hf79, hw78⟩ := hw78
        have r_A77_0_56 : (0 : Int) ≤ (A77 0 56) ∧ (A77 0 56) ≤ 500 := hI 0 56
        refine lv_aload_n hx hb dX12_goesOn_164 rfl (lv_at hl 3 rfl) ?_
        have e_A77_4 : A77 0 4 = (A 0 4) := (hf79.2 4 rfl).trans e_A65_4
        have e_A77_5 : A77 0 5 = (A 0 5) := (hf79.2 5 rfl).trans e_A65_5
        have e_A77_8 : A77 0 8 = (A 0 8) := (hf79.2 8 rfl).trans e_A65_8
        refine x_callv (As := []) (rest := []) ⟨hx, hb, hml, hown, hts⟩ (mb_X12_ahead l dC dI cB cI cJ cZ cQ q _ hI) (cwV 0 hts (goodV (wl_in_0 _ (List.mem_of_getElem? (i := 40) rfl)) (wl_in_0 _ (List.mem_of_getElem? (i := 41) rfl)) (wl_in_0 _ (List.mem_of_getElem? (i := 42) rfl)) (wl_in_0 _ (List.mem_of_getElem? (i := 8) rfl)) (wl_in_0 _ (List.mem_of_getElem? (i := 20) rfl))) rfl rfl rfl (by decide +kernel) ⟨Nat.le_of_ble_eq_true rfl, Nat.le_of_ble_eq_true rfl⟩) hK hDD hA0 hP hS 0 12 wm0 rfl rfl hl.1 (Nat.le_of_ble_eq_true rfl) dX12_goesOn_165 (fun A80 H locs hw81 hP hS => ?_)
        obtain ⟨hI, hf82, hw81⟩ := hw81
        have r_A80_0_3 : (0 : Int) ≤ (A80 0 3) ∧ (A80 0 3) ≤ 3 := hI 0 3
        have r_A80_0_4 : (0 : Int) ≤ (A80 0 4) ∧ (A80 0 4) ≤ 1600 := hI 0 4
        have r_A80_0_5 : (0 : Int) ≤ (A80 0 5) ∧ (A80 0 5) ≤ 1600 := hI 0 5
        have r_A80_0_8 : (0 : Int) ≤ (A80 0 8) ∧ (A80 0 8) ≤ 5 := hI 0 8
        have hw81x := hw81.1
        have hw81y := hw81.2.1
        replace hw81 := Hd.mk hw81
        refine lv_aload_n hx hb dX12_goesOn_168 rfl (lv_at hl 3 rfl) ?_
        refine lv_iconst (v := iI 0) hx hb dX12_goesOn_169 (by decide +kernel) ?_
        refine x_put (D := (dC, dI)) (ci := 12) (v := .int (iI 0)) (ty := .boolean) (C := RX12) (T := TX12) (N := 85) hx hb hts hiX12 tyX12 tyX12_ok nmX12 hown hK hP hDD hS 0 wm0 rfl 57 (by decide) (hts _ (List.mem_cons_of_mem _ (wl_in_2 _ (List.mem_of_getElem? (i := 9) rfl)))) (fun _ h9 => h9) rfl (by decide +kernel) (by decide +kernel) rfl (Nat.le_of_ble_eq_true rfl) dX12_goesOn_170 (wf57 (v := 0)) (fun H locs hP hS => ?_)
        have hI := hI.st (j := 0) (i := 57) (v := 0) (show (0 : Int) ≤ 0 ∧ 0 ≤ 1 from (by omega))
        refine lv_iconst (v := iI 1) hx hb dX12_goesOn_173 (by decide +kernel) ?_
        obtain ⟨A83, hA83⟩ : ∃ A83 : St, A83 = (stA A80 0 57 0) := ⟨_, rfl⟩
        rw [← hA83] at hP hI
        have e_A83_4 : A83 0 4 = (A80 0 4) := by rw [hA83]; exact rfl
        have e_A83_5 : A83 0 5 = (A80 0 5) := by rw [hA83]; exact rfl
        have e_A83_8 : A83 0 8 = (A80 0 8) := by rw [hA83]; exact rfl
        have e_A77_46 : A77 0 46 = (A65 0 46) := (hf79.2 46 rfl)
        have e_A80_46 : A80 0 46 = (A65 0 46) := (hf82.2 46 rfl).trans e_A77_46
        have e_A83_46 : A83 0 46 = (A65 0 46) := by rw [hA83]; exact e_A80_46
        have e_A77_47 : A77 0 47 = (A 0 47) := (hf79.2 47 rfl).trans e_A65_47
        have e_A80_47 : A80 0 47 = (A 0 47) := (hf82.2 47 rfl).trans e_A77_47
        have e_A83_47 : A83 0 47 = (A 0 47) := by rw [hA83]; exact e_A80_47
        have e_A83_57 : A83 0 57 = 0 := by rw [hA83]; rfl
        have ca84 : A65 35 = A 35 := (hf67.1 35 (by decide) rfl)
        have ca85 : A83 1 = A80 1 := by rw [hA83]; exact rfl
        have e_A83_3 : A83 0 3 = (A80 0 3) := by rw [hA83]; exact rfl
        have e_A83_7 : A83 0 7 = (A80 0 7) := by rw [hA83]; exact rfl
        have hlt := RI.lt hp0 (by omega)
        have ca86 : A80 40 = A77 40 := (hf82.1 40 (by decide) rfl)
        have ca87 : A83 40 = A77 40 := by rw [hA83]; exact ca86
        have ca88 : A77 29 = A65 29 := (hf79.1 29 (by decide) rfl)
        have ca89 : A80 29 = A65 29 := (hf82.1 29 (by decide) rfl).trans ca88
        have ca90 : A83 29 = A65 29 := by rw [hA83]; exact ca89
        have ca91 : A77 31 = A65 31 := (hf79.1 31 (by decide) rfl)
        have ca92 : A80 31 = A65 31 := (hf82.1 31 (by decide) rfl).trans ca91
        have ca93 : A83 31 = A65 31 := by rw [hA83]; exact ca92
        have ca94 : A77 33 = A65 33 := (hf79.1 33 (by decide) rfl)
        have ca95 : A80 33 = A65 33 := (hf82.1 33 (by decide) rfl).trans ca94
        have ca96 : A83 33 = A65 33 := by rw [hA83]; exact ca95
        have ca97 : A77 35 = A65 35 := (hf79.1 35 (by decide) rfl)
        have ca98 : A80 35 = A65 35 := (hf82.1 35 (by decide) rfl).trans ca97
        have ca99 : A83 35 = A65 35 := by rw [hA83]; exact ca98
        have ca100 : A77 37 = A65 37 := (hf79.1 37 (by decide) rfl)
        have ca101 : A80 37 = A65 37 := (hf82.1 37 (by decide) rfl).trans ca100
        have ca102 : A83 37 = A65 37 := by rw [hA83]; exact ca101
        have ca103 : A77 39 = A65 39 := (hf79.1 39 (by decide) rfl)
        have ca104 : A80 39 = A65 39 := (hf82.1 39 (by decide) rfl).trans ca103
        have ca105 : A83 39 = A65 39 := by rw [hA83]; exact ca104
        have e_A77_53 : A77 0 53 = (A 0 53) := (hf79.2 53 rfl).trans e_A65_53
        have e_A80_53 : A80 0 53 = (A 0 53) := (hf82.2 53 rfl).trans e_A77_53
        have e_A83_53 : A83 0 53 = (A 0 53) := by rw [hA83]; exact e_A80_53
        have e_A77_54 : A77 0 54 = (A 0 54) := (hf79.2 54 rfl).trans e_A65_54
        have e_A80_54 : A80 0 54 = (A 0 54) := (hf82.2 54 rfl).trans e_A77_54
        have e_A83_54 : A83 0 54 = (A 0 54) := by rw [hA83]; exact e_A80_54
        have e_A80_56 : A80 0 56 = (A77 0 56) := (hf82.2 56 rfl)
        have e_A83_56 : A83 0 56 = (A77 0 56) := by rw [hA83]; exact e_A80_56
        exact RET 1 _ _ _ _ _ ⟨hI, fr_def hA83 (fr.sf (fr.trans (fr.trans (fr.trans (fr.rf) hf67 rfl rfl) hf79 rfl rfl) hf82 rfl rfl) rfl), (CI.fr (CI.fr (CI.fr hc68 hf79 rfl rfl) hf82 rfl rfl) (fr_def hA83 (fr.sf (fr.rf (M := []) (N := [57])) rfl)) rfl rfl), ⟨by decide, Hd.mk (fun h0 => ⟨fun _ => ⟨by rw [show A83 0 57 = 0 by omega]; exact RI.op (x := 11) (r37 := A65 37) hj.1 hIj (by omega) (by decide) (hj.2.imp id (fun t => by rw [show rk 11 = 5 by decide]; exact t)) (fun _ _ => rfl) (fun h => absurd h (by rw [RI.nn hj.1 rfl]; decide)) ⟨ca90, ca93, ca96, ca99, ca102, ca105, (ca87.trans hw78.2), e_A83_46, (e_A83_47.trans e_A65_47.symm), (e_A83_53.trans e_A65_53.symm), (e_A83_54.trans e_A65_54.symm), (by omega)⟩ (by omega) (by omega) (LX.of ca85 e_A83_3 e_A83_4 e_A83_5 e_A83_7 hw81.out.2.2.1), (PR.fr (PR.fr (PR.fr (PR.fr hp2 hf67 rfl rfl) hf79 rfl rfl) hf82 rfl rfl) (fr_def hA83 (fr.sf (fr.rf (M := []) (N := [57])) rfl)) rfl rfl), by omega⟩, fun h => absurd h (by decide)⟩)⟩⟩ hP hS dX12_goesOn_174
      · have c56 : z53 = 0 := (i_eq0 (rb rz53 (by decide) (by decide))).mp c56
        refine lv_aload_n hx hb dX12_goesOn_47 rfl (lv_at hl 3 rfl) ?_
        refine lv_bipush (v := iI 42) hx hb dX12_goesOn_48 (by decide +kernel) ?_
        refine x_calli (As := [.int (iI 42)]) (rest := []) ⟨hx, hb, hml, hown, hts⟩ (mb_X12_isSign l dC dI cB cI cJ cZ cQ q _ 42 hI ⟨by decide, by decide⟩) (cwV 1 hts (goodV (wl_in_0 _ (List.mem_of_getElem? (i := 37) rfl)) (wl_in_0 _ (List.mem_of_getElem? (i := 38) rfl)) (wl_in_0 _ (List.mem_of_getElem? (i := 39) rfl)) (wl_in_0 _ (List.mem_of_getElem? (i := 8) rfl)) (wl_in_0 _ (List.mem_of_getElem? (i := 34) rfl))) rfl rfl rfl (by decide +kernel) ⟨Nat.le_of_ble_eq_true rfl, Nat.le_of_ble_eq_true rfl⟩) hK hDD hA0 hP hS 0 12 wm0 rfl rfl hl.1 (Nat.le_of_ble_eq_true rfl) dX12_goesOn_50 (fun z106 A107 H locs hw108 hP hS => ?_)
        obtain ⟨rfl, hw108⟩ := hw108
        have rz106 : 0 ≤ z106 ∧ z106 ≤ 1 := hw108.1
        replace hw108 := Hd.mk hw108.2
        refine lv_if_ne (tgt := 74) hx hb dX12_goesOn_53 (by decide) (fun c109 => ?_) (fun c109 => ?_)
        · have c109 : ¬ z106 = 0 := mt (i_eq0 (rb rz106 (by decide) (by decide))).mpr c109
          have hw108b := hw108.out.mp (by omega)
          refine lv_aload_n hx hb dX12_goesOn_74 rfl (lv_at hl 3 rfl) ?_
          refine lv_aload_n hx hb dX12_goesOn_75 rfl (lv_at hl 3 rfl) ?_
          refine lv_bipush (v := iI 43) hx hb dX12_goesOn_76 (by decide +kernel) ?_
          refine x_calli (As := [.int (iI 43)]) (rest := [.ref (q 0)]) ⟨hx, hb, hml, hown, hts⟩ (mb_X12_isSign l dC dI cB cI cJ cZ cQ q _ 43 hI ⟨by decide, by decide⟩) (cwV 1 hts (goodV (wl_in_0 _ (List.mem_of_getElem? (i := 37) rfl)) (wl_in_0 _ (List.mem_of_getElem? (i := 38) rfl)) (wl_in_0 _ (List.mem_of_getElem? (i := 39) rfl)) (wl_in_0 _ (List.mem_of_getElem? (i := 8) rfl)) (wl_in_0 _ (List.mem_of_getElem? (i := 34) rfl))) rfl rfl rfl (by decide +kernel) ⟨Nat.le_of_ble_eq_true rfl, Nat.le_of_ble_eq_true rfl⟩) hK hDD hA0 hP hS 0 12 wm0 rfl rfl hl.1 (Nat.le_of_ble_eq_true rfl) dX12_goesOn_78 (fun z110 A111 H locs hw112 hP hS => ?_)
          obtain ⟨rfl, hw112⟩ := hw112
          have rz110 : 0 ≤ z110 ∧ z110 ≤ 1 := hw112.1
          replace hw112 := Hd.mk hw112.2
          have ez110 : z110 = z8 := by have a := hw10.out; have b := hw112.out; omega
          refine lv_if_ne (tgt := 93) hx hb dX12_goesOn_81 (by decide) (fun c113 => False.elim (by have c113 : ¬ z110 = 0 := mt (i_eq0 (rb rz110 (by decide) (by decide))).mpr c113; omega)) (fun _ => ?_)
          refine lv_aload_n hx hb dX12_goesOn_84 rfl (lv_at hl 3 rfl) ?_
          refine lv_bipush (v := iI 45) hx hb dX12_goesOn_85 (by decide +kernel) ?_
          refine x_calli (As := [.int (iI 45)]) (rest := [.ref (q 0)]) ⟨hx, hb, hml, hown, hts⟩ (mb_X12_isSign l dC dI cB cI cJ cZ cQ q _ 45 hI ⟨by decide, by decide⟩) (cwV 1 hts (goodV (wl_in_0 _ (List.mem_of_getElem? (i := 37) rfl)) (wl_in_0 _ (List.mem_of_getElem? (i := 38) rfl)) (wl_in_0 _ (List.mem_of_getElem? (i := 39) rfl)) (wl_in_0 _ (List.mem_of_getElem? (i := 8) rfl)) (wl_in_0 _ (List.mem_of_getElem? (i := 34) rfl))) rfl rfl rfl (by decide +kernel) ⟨Nat.le_of_ble_eq_true rfl, Nat.le_of_ble_eq_true rfl⟩) hK hDD hA0 hP hS 0 12 wm0 rfl rfl hl.1 (Nat.le_of_ble_eq_true rfl) dX12_goesOn_87 (fun z114 A115 H locs hw116 hP hS => ?_)
          obtain ⟨rfl, hw116⟩ := hw116
          have rz114 : 0 ≤ z114 ∧ z114 ≤ 1 := hw116.1
          replace hw116 := Hd.mk hw116.2
          have ez114 : z114 = z53 := by have a := hw55.out; have b := hw116.out; omega
          refine lv_if_eq (tgt := 97) hx hb dX12_goesOn_90 (by decide) (fun _ => ?_) (fun c117 => False.elim (by have c117 : ¬ z114 = 0 := mt (i_eq0 (rb rz114 (by decide) (by decide))).mpr c117; omega))
          refine lv_bipush (v := iI 6) hx hb dX12_goesOn_97 (by decide +kernel) ?_
          refine x_callv (As := [.int (iI 6)]) (rest := []) ⟨hx, hb, hml, hown, hts⟩ (mb_X12_joins l dC dI cB cI cJ cZ cQ q _ 6 hI ⟨by decide, by decide⟩ (by exact hp0) hcCI) (cwV 1 hts (goodV (wl_in_2 _ (List.mem_of_getElem? (i := 10) rfl)) (wl_in_2 _ (List.mem_of_getElem? (i := 11) rfl)) (wl_in_2 _ (List.mem_of_getElem? (i := 12) rfl)) (wl_in_0 _ (List.mem_of_getElem? (i := 8) rfl)) (wl_in_1 _ (List.mem_of_getElem? (i := 34) rfl))) rfl rfl rfl (by decide +kernel) ⟨Nat.le_of_ble_eq_true rfl, Nat.le_of_ble_eq_true rfl⟩) hK hDD hA0 hP hS 0 12 wm0 rfl rfl hl.1 (Nat.le_of_ble_eq_true rfl) dX12_goesOn_99 (fun A118 H locs hw119 hP hS => ?_)
          obtain ⟨hI, hf120, hw119⟩ := hw119
          obtain ⟨hc121, hw119⟩ := hw119
          have e_A118_53 : A118 0 53 = (A 0 53) := (hf120.2 53 rfl)
          have r_A118_0_56 : (0 : Int) ≤ (A118 0 56) ∧ (A118 0 56) ≤ 500 := hI 0 56
          have hj := hw119
          have hIj := hI
          have hrj := RI.room hj.1 hIj
          clear hw119
          have e_A118_3 : A118 0 3 = (A 0 3) := (hf120.2 3 rfl)
          have e_A118_4 : A118 0 4 = (A 0 4) := (hf120.2 4 rfl)
          have e_A118_5 : A118 0 5 = (A 0 5) := (hf120.2 5 rfl)
          have e_A118_7 : A118 0 7 = (A 0 7) := (hf120.2 7 rfl)
          have e_A118_8 : A118 0 8 = (A 0 8) := (hf120.2 8 rfl)
          have e_A118_47 : A118 0 47 = (A 0 47) := (hf120.2 47 rfl)
          have e_A118_54 : A118 0 54 = (A 0 54) := (hf120.2 54 rfl)
          have r_A118_0_46 : (0 : Int) ≤ (A118 0 46) ∧ (A118 0 46) ≤ 1600 := hI 0 46
          refine lv_aload_n hx hb dX12_goesOn_102 rfl (lv_at hl 3 rfl) ?_
          refine lv_aload_n hx hb dX12_goesOn_103 rfl (lv_at hl 3 rfl) ?_
          refine lv_bipush (v := iI 43) hx hb dX12_goesOn_104 (by decide +kernel) ?_
          have e_A118_6 : A118 0 6 = (A 0 6) := (hf120.2 6 rfl)
          refine x_calli (As := [.int (iI 43)]) (rest := [.ref (q 0)]) ⟨hx, hb, hml, hown, hts⟩ (mb_X12_isSign l dC dI cB cI cJ cZ cQ q _ 43 hI ⟨by decide, by decide⟩) (cwV 1 hts (goodV (wl_in_0 _ (List.mem_of_getElem? (i := 37) rfl)) (wl_in_0 _ (List.mem_of_getElem? (i := 38) rfl)) (wl_in_0 _ (List.mem_of_getElem? (i := 39) rfl)) (wl_in_0 _ (List.mem_of_getElem? (i := 8) rfl)) (wl_in_0 _ (List.mem_of_getElem? (i := 34) rfl))) rfl rfl rfl (by decide +kernel) ⟨Nat.le_of_ble_eq_true rfl, Nat.le_of_ble_eq_true rfl⟩) hK hDD hA0 hP hS 0 12 wm0 rfl rfl hl.1 (Nat.le_of_ble_eq_true rfl) dX12_goesOn_106 (fun z122 A123 H locs hw124 hP hS => ?_)
          obtain ⟨rfl, hw124⟩ := hw124
          have rz122 : 0 ≤ z122 ∧ z122 ≤ 1 := hw124.1
          replace hw124 := Hd.mk hw124.2
          have ez122 : z122 = z8 := by have a := hw10.out; have b := hw124.out; omega
          refine lv_if_eq (tgt := 117) hx hb dX12_goesOn_109 (by decide) (fun _ => ?_) (fun c125 => False.elim (by have c125 : ¬ z122 = 0 := mt (i_eq0 (rb rz122 (by decide) (by decide))).mpr c125; omega))
          refine lv_aload_n hx hb dX12_goesOn_117 rfl (lv_at hl 3 rfl) ?_
          refine lv_bipush (v := iI 45) hx hb dX12_goesOn_118 (by decide +kernel) ?_
          refine x_calli (As := [.int (iI 45)]) (rest := [.ref (q 0)]) ⟨hx, hb, hml, hown, hts⟩ (mb_X12_isSign l dC dI cB cI cJ cZ cQ q _ 45 hI ⟨by decide, by decide⟩) (cwV 1 hts (goodV (wl_in_0 _ (List.mem_of_getElem? (i := 37) rfl)) (wl_in_0 _ (List.mem_of_getElem? (i := 38) rfl)) (wl_in_0 _ (List.mem_of_getElem? (i := 39) rfl)) (wl_in_0 _ (List.mem_of_getElem? (i := 8) rfl)) (wl_in_0 _ (List.mem_of_getElem? (i := 34) rfl))) rfl rfl rfl (by decide +kernel) ⟨Nat.le_of_ble_eq_true rfl, Nat.le_of_ble_eq_true rfl⟩) hK hDD hA0 hP hS 0 12 wm0 rfl rfl hl.1 (Nat.le_of_ble_eq_true rfl) dX12_goesOn_120 (fun z126 A127 H locs hw128 hP hS => ?_)
          obtain ⟨rfl, hw128⟩ := hw128
          have rz126 : 0 ≤ z126 ∧ z126 ≤ 1 := hw128.1
          replace hw128 := Hd.mk hw128.2
          have ez126 : z126 = z53 := by have a := hw55.out; have b := hw128.out; omega
          refine lv_if_eq (tgt := 131) hx hb dX12_goesOn_123 (by decide) (fun _ => ?_) (fun c129 => False.elim (by have c129 : ¬ z126 = 0 := mt (i_eq0 (rb rz126 (by decide) (by decide))).mpr c129; omega))
          refine lv_aload_n hx hb dX12_goesOn_131 rfl (lv_at hl 3 rfl) ?_
          refine lv_bipush (v := iI 42) hx hb dX12_goesOn_132 (by decide +kernel) ?_
          refine x_calli (As := [.int (iI 42)]) (rest := [.ref (q 0)]) ⟨hx, hb, hml, hown, hts⟩ (mb_X12_isSign l dC dI cB cI cJ cZ cQ q _ 42 hI ⟨by decide, by decide⟩) (cwV 1 hts (goodV (wl_in_0 _ (List.mem_of_getElem? (i := 37) rfl)) (wl_in_0 _ (List.mem_of_getElem? (i := 38) rfl)) (wl_in_0 _ (List.mem_of_getElem? (i := 39) rfl)) (wl_in_0 _ (List.mem_of_getElem? (i := 8) rfl)) (wl_in_0 _ (List.mem_of_getElem? (i := 34) rfl))) rfl rfl rfl (by decide +kernel) ⟨Nat.le_of_ble_eq_true rfl, Nat.le_of_ble_eq_true rfl⟩) hK hDD hA0 hP hS 0 12 wm0 rfl rfl hl.1 (Nat.le_of_ble_eq_true rfl) dX12_goesOn_134 (fun z130 A131 H locs hw132 hP hS => ?_)
          obtain ⟨rfl, hw132⟩ := hw132
          have rz130 : 0 ≤ z130 ∧ z130 ≤ 1 := hw132.1
          replace hw132 := Hd.mk hw132.2
          have ez130 : z130 = z106 := by have a := hw108.out; have b := hw132.out; omega
          refine lv_if_eq (tgt := 145) hx hb dX12_goesOn_137 (by decide) (fun c133 => False.elim (by have c133 : z130 = 0 := (i_eq0 (rb rz130 (by decide) (by decide))).mp c133; omega)) (fun _ => ?_)
          refine lv_bipush (v := iI 12) hx hb dX12_goesOn_140 (by decide +kernel) ?_
          refine lv_goto (tgt := 161) hx hb dX12_goesOn_142 (by decide) ?_
          refine x_callv (As := [.int (iI 12)]) (rest := []) ⟨hx, hb, hml, hown, hts⟩ (mb_X12_holdsBack l dC dI cB cI cJ cZ cQ q _ 12 hI ⟨by decide, by decide⟩ (by omega)) (cwV 1 hts (goodV (wl_in_2 _ (List.mem_of_getElem? (i := 2) rfl)) (wl_in_2 _ (List.mem_of_getElem? (i := 3) rfl)) (wl_in_2 _ (List.mem_of_getElem? (i := 4) rfl)) (wl_in_0 _ (List.mem_of_getElem? (i := 8) rfl)) (wl_in_1 _ (List.mem_of_getElem? (i := 44) rfl))) rfl rfl rfl (by decide +kernel) ⟨Nat.le_of_ble_eq_true rfl, Nat.le_of_ble_eq_true rfl⟩) hK hDD hA0 hP hS 0 12 wm0 rfl rfl hl.1 (Nat.le_of_ble_eq_true rfl) dX12_goesOn_161 (fun A134 H locs hw135 hP hS => ?_)
          obtain ⟨hI, hf136, hw135⟩ := hw135
          have r_A134_0_56 : (0 : Int) ≤ (A134 0 56) ∧ (A134 0 56) ≤ 500 := hI 0 56
          refine lv_aload_n hx hb dX12_goesOn_164 rfl (lv_at hl 3 rfl) ?_
          have e_A134_4 : A134 0 4 = (A 0 4) := (hf136.2 4 rfl).trans e_A118_4
          have e_A134_5 : A134 0 5 = (A 0 5) := (hf136.2 5 rfl).trans e_A118_5
          have e_A134_8 : A134 0 8 = (A 0 8) := (hf136.2 8 rfl).trans e_A118_8
          refine x_callv (As := []) (rest := []) ⟨hx, hb, hml, hown, hts⟩ (mb_X12_ahead l dC dI cB cI cJ cZ cQ q _ hI) (cwV 0 hts (goodV (wl_in_0 _ (List.mem_of_getElem? (i := 40) rfl)) (wl_in_0 _ (List.mem_of_getElem? (i := 41) rfl)) (wl_in_0 _ (List.mem_of_getElem? (i := 42) rfl)) (wl_in_0 _ (List.mem_of_getElem? (i := 8) rfl)) (wl_in_0 _ (List.mem_of_getElem? (i := 20) rfl))) rfl rfl rfl (by decide +kernel) ⟨Nat.le_of_ble_eq_true rfl, Nat.le_of_ble_eq_true rfl⟩) hK hDD hA0 hP hS 0 12 wm0 rfl rfl hl.1 (Nat.le_of_ble_eq_true rfl) dX12_goesOn_165 (fun A137 H locs hw138 hP hS => ?_)
          obtain ⟨hI, hf139, hw138⟩ := hw138
          have r_A137_0_3 : (0 : Int) ≤ (A137 0 3) ∧ (A137 0 3) ≤ 3 := hI 0 3
          have r_A137_0_4 : (0 : Int) ≤ (A137 0 4) ∧ (A137 0 4) ≤ 1600 := hI 0 4
          have r_A137_0_5 : (0 : Int) ≤ (A137 0 5) ∧ (A137 0 5) ≤ 1600 := hI 0 5
          have r_A137_0_8 : (0 : Int) ≤ (A137 0 8) ∧ (A137 0 8) ≤ 5 := hI 0 8
          have hw138x := hw138.1
          have hw138y := hw138.2.1
          replace hw138 := Hd.mk hw138
          refine lv_aload_n hx hb dX12_goesOn_168 rfl (lv_at hl 3 rfl) ?_
          refine lv_iconst (v := iI 0) hx hb dX12_goesOn_169 (by decide +kernel) ?_
          refine x_put (D := (dC, dI)) (ci := 12) (v := .int (iI 0)) (ty := .boolean) (C := RX12) (T := TX12) (N := 85) hx hb hts hiX12 tyX12 tyX12_ok nmX12 hown hK hP hDD hS 0 wm0 rfl 57 (by decide) (hts _ (List.mem_cons_of_mem _ (wl_in_2 _ (List.mem_of_getElem? (i := 9) rfl)))) (fun _ h9 => h9) rfl (by decide +kernel) (by decide +kernel) rfl (Nat.le_of_ble_eq_true rfl) dX12_goesOn_170 (wf57 (v := 0)) (fun H locs hP hS => ?_)
          have hI := hI.st (j := 0) (i := 57) (v := 0) (show (0 : Int) ≤ 0 ∧ 0 ≤ 1 from (by omega))
          refine lv_iconst (v := iI 1) hx hb dX12_goesOn_173 (by decide +kernel) ?_
          obtain ⟨A140, hA140⟩ : ∃ A140 : St, A140 = (stA A137 0 57 0) := ⟨_, rfl⟩
          rw [← hA140] at hP hI
          have e_A140_4 : A140 0 4 = (A137 0 4) := by rw [hA140]; exact rfl
          have e_A140_5 : A140 0 5 = (A137 0 5) := by rw [hA140]; exact rfl
          have e_A140_8 : A140 0 8 = (A137 0 8) := by rw [hA140]; exact rfl
          have e_A134_46 : A134 0 46 = (A118 0 46) := (hf136.2 46 rfl)
          have e_A137_46 : A137 0 46 = (A118 0 46) := (hf139.2 46 rfl).trans e_A134_46
          have e_A140_46 : A140 0 46 = (A118 0 46) := by rw [hA140]; exact e_A137_46
          have e_A134_47 : A134 0 47 = (A 0 47) := (hf136.2 47 rfl).trans e_A118_47
          have e_A137_47 : A137 0 47 = (A 0 47) := (hf139.2 47 rfl).trans e_A134_47
          have e_A140_47 : A140 0 47 = (A 0 47) := by rw [hA140]; exact e_A137_47
          have e_A140_57 : A140 0 57 = 0 := by rw [hA140]; rfl
          have ca141 : A118 35 = A 35 := (hf120.1 35 (by decide) rfl)
          have ca142 : A140 1 = A137 1 := by rw [hA140]; exact rfl
          have e_A140_3 : A140 0 3 = (A137 0 3) := by rw [hA140]; exact rfl
          have e_A140_7 : A140 0 7 = (A137 0 7) := by rw [hA140]; exact rfl
          have hlt := RI.lt hp0 (by omega)
          have ca143 : A137 40 = A134 40 := (hf139.1 40 (by decide) rfl)
          have ca144 : A140 40 = A134 40 := by rw [hA140]; exact ca143
          have ca145 : A134 29 = A118 29 := (hf136.1 29 (by decide) rfl)
          have ca146 : A137 29 = A118 29 := (hf139.1 29 (by decide) rfl).trans ca145
          have ca147 : A140 29 = A118 29 := by rw [hA140]; exact ca146
          have ca148 : A134 31 = A118 31 := (hf136.1 31 (by decide) rfl)
          have ca149 : A137 31 = A118 31 := (hf139.1 31 (by decide) rfl).trans ca148
          have ca150 : A140 31 = A118 31 := by rw [hA140]; exact ca149
          have ca151 : A134 33 = A118 33 := (hf136.1 33 (by decide) rfl)
          have ca152 : A137 33 = A118 33 := (hf139.1 33 (by decide) rfl).trans ca151
          have ca153 : A140 33 = A118 33 := by rw [hA140]; exact ca152
          have ca154 : A134 35 = A118 35 := (hf136.1 35 (by decide) rfl)
          have ca155 : A137 35 = A118 35 := (hf139.1 35 (by decide) rfl).trans ca154
          have ca156 : A140 35 = A118 35 := by rw [hA140]; exact ca155
          have ca157 : A134 37 = A118 37 := (hf136.1 37 (by decide) rfl)
          have ca158 : A137 37 = A118 37 := (hf139.1 37 (by decide) rfl).trans ca157
          have ca159 : A140 37 = A118 37 := by rw [hA140]; exact ca158
          have ca160 : A134 39 = A118 39 := (hf136.1 39 (by decide) rfl)
          have ca161 : A137 39 = A118 39 := (hf139.1 39 (by decide) rfl).trans ca160
          have ca162 : A140 39 = A118 39 := by rw [hA140]; exact ca161
          have e_A134_53 : A134 0 53 = (A 0 53) := (hf136.2 53 rfl).trans e_A118_53
          have e_A137_53 : A137 0 53 = (A 0 53) := (hf139.2 53 rfl).trans e_A134_53
          have e_A140_53 : A140 0 53 = (A 0 53) := by rw [hA140]; exact e_A137_53
          have e_A134_54 : A134 0 54 = (A 0 54) := (hf136.2 54 rfl).trans e_A118_54
          have e_A137_54 : A137 0 54 = (A 0 54) := (hf139.2 54 rfl).trans e_A134_54
          have e_A140_54 : A140 0 54 = (A 0 54) := by rw [hA140]; exact e_A137_54
          have e_A137_56 : A137 0 56 = (A134 0 56) := (hf139.2 56 rfl)
          have e_A140_56 : A140 0 56 = (A134 0 56) := by rw [hA140]; exact e_A137_56
          exact RET 1 _ _ _ _ _ ⟨hI, fr_def hA140 (fr.sf (fr.trans (fr.trans (fr.trans (fr.rf) hf120 rfl rfl) hf136 rfl rfl) hf139 rfl rfl) rfl), (CI.fr (CI.fr (CI.fr hc121 hf136 rfl rfl) hf139 rfl rfl) (fr_def hA140 (fr.sf (fr.rf (M := []) (N := [57])) rfl)) rfl rfl), ⟨by decide, Hd.mk (fun h0 => ⟨fun _ => ⟨by rw [show A140 0 57 = 0 by omega]; exact RI.op (x := 12) (r37 := A118 37) hj.1 hIj (by omega) (by decide) (hj.2.imp id (fun t => by rw [show rk 12 = 6 by decide]; exact t)) (fun _ _ => rfl) (fun h => absurd h (by rw [RI.nn hj.1 rfl]; decide)) ⟨ca147, ca150, ca153, ca156, ca159, ca162, (ca144.trans hw135.2), e_A140_46, (e_A140_47.trans e_A118_47.symm), (e_A140_53.trans e_A118_53.symm), (e_A140_54.trans e_A118_54.symm), (by omega)⟩ (by omega) (by omega) (LX.of ca142 e_A140_3 e_A140_4 e_A140_5 e_A140_7 hw138.out.2.2.1), (PR.fr (PR.fr (PR.fr (PR.fr hp2 hf120 rfl rfl) hf136 rfl rfl) hf139 rfl rfl) (fr_def hA140 (fr.sf (fr.rf (M := []) (N := [57])) rfl)) rfl rfl), by omega⟩, fun h => absurd h (by decide)⟩)⟩⟩ hP hS dX12_goesOn_174
        · have c109 : z106 = 0 := (i_eq0 (rb rz106 (by decide) (by decide))).mp c109
          refine lv_aload_n hx hb dX12_goesOn_56 rfl (lv_at hl 3 rfl) ?_
          refine lv_bipush (v := iI 47) hx hb dX12_goesOn_57 (by decide +kernel) ?_
          refine x_calli (As := [.int (iI 47)]) (rest := []) ⟨hx, hb, hml, hown, hts⟩ (mb_X12_isSign l dC dI cB cI cJ cZ cQ q _ 47 hI ⟨by decide, by decide⟩) (cwV 1 hts (goodV (wl_in_0 _ (List.mem_of_getElem? (i := 37) rfl)) (wl_in_0 _ (List.mem_of_getElem? (i := 38) rfl)) (wl_in_0 _ (List.mem_of_getElem? (i := 39) rfl)) (wl_in_0 _ (List.mem_of_getElem? (i := 8) rfl)) (wl_in_0 _ (List.mem_of_getElem? (i := 34) rfl))) rfl rfl rfl (by decide +kernel) ⟨Nat.le_of_ble_eq_true rfl, Nat.le_of_ble_eq_true rfl⟩) hK hDD hA0 hP hS 0 12 wm0 rfl rfl hl.1 (Nat.le_of_ble_eq_true rfl) dX12_goesOn_59 (fun z163 A164 H locs hw165 hP hS => ?_)
          obtain ⟨rfl, hw165⟩ := hw165
          have rz163 : 0 ≤ z163 ∧ z163 ≤ 1 := hw165.1
          replace hw165 := Hd.mk hw165.2
          refine lv_if_ne (tgt := 74) hx hb dX12_goesOn_62 (by decide) (fun c166 => ?_) (fun c166 => ?_)
          · have c166 : ¬ z163 = 0 := mt (i_eq0 (rb rz163 (by decide) (by decide))).mpr c166
            have hw165b := hw165.out.mp (by omega)
            refine lv_aload_n hx hb dX12_goesOn_74 rfl (lv_at hl 3 rfl) ?_
            refine lv_aload_n hx hb dX12_goesOn_75 rfl (lv_at hl 3 rfl) ?_
            refine lv_bipush (v := iI 43) hx hb dX12_goesOn_76 (by decide +kernel) ?_
            refine x_calli (As := [.int (iI 43)]) (rest := [.ref (q 0)]) ⟨hx, hb, hml, hown, hts⟩ (mb_X12_isSign l dC dI cB cI cJ cZ cQ q _ 43 hI ⟨by decide, by decide⟩) (cwV 1 hts (goodV (wl_in_0 _ (List.mem_of_getElem? (i := 37) rfl)) (wl_in_0 _ (List.mem_of_getElem? (i := 38) rfl)) (wl_in_0 _ (List.mem_of_getElem? (i := 39) rfl)) (wl_in_0 _ (List.mem_of_getElem? (i := 8) rfl)) (wl_in_0 _ (List.mem_of_getElem? (i := 34) rfl))) rfl rfl rfl (by decide +kernel) ⟨Nat.le_of_ble_eq_true rfl, Nat.le_of_ble_eq_true rfl⟩) hK hDD hA0 hP hS 0 12 wm0 rfl rfl hl.1 (Nat.le_of_ble_eq_true rfl) dX12_goesOn_78 (fun z167 A168 H locs hw169 hP hS => ?_)
            obtain ⟨rfl, hw169⟩ := hw169
            have rz167 : 0 ≤ z167 ∧ z167 ≤ 1 := hw169.1
            replace hw169 := Hd.mk hw169.2
            have ez167 : z167 = z8 := by have a := hw10.out; have b := hw169.out; omega
            refine lv_if_ne (tgt := 93) hx hb dX12_goesOn_81 (by decide) (fun c170 => False.elim (by have c170 : ¬ z167 = 0 := mt (i_eq0 (rb rz167 (by decide) (by decide))).mpr c170; omega)) (fun _ => ?_)
            refine lv_aload_n hx hb dX12_goesOn_84 rfl (lv_at hl 3 rfl) ?_
            refine lv_bipush (v := iI 45) hx hb dX12_goesOn_85 (by decide +kernel) ?_
            refine x_calli (As := [.int (iI 45)]) (rest := [.ref (q 0)]) ⟨hx, hb, hml, hown, hts⟩ (mb_X12_isSign l dC dI cB cI cJ cZ cQ q _ 45 hI ⟨by decide, by decide⟩) (cwV 1 hts (goodV (wl_in_0 _ (List.mem_of_getElem? (i := 37) rfl)) (wl_in_0 _ (List.mem_of_getElem? (i := 38) rfl)) (wl_in_0 _ (List.mem_of_getElem? (i := 39) rfl)) (wl_in_0 _ (List.mem_of_getElem? (i := 8) rfl)) (wl_in_0 _ (List.mem_of_getElem? (i := 34) rfl))) rfl rfl rfl (by decide +kernel) ⟨Nat.le_of_ble_eq_true rfl, Nat.le_of_ble_eq_true rfl⟩) hK hDD hA0 hP hS 0 12 wm0 rfl rfl hl.1 (Nat.le_of_ble_eq_true rfl) dX12_goesOn_87 (fun z171 A172 H locs hw173 hP hS => ?_)
            obtain ⟨rfl, hw173⟩ := hw173
            have rz171 : 0 ≤ z171 ∧ z171 ≤ 1 := hw173.1
            replace hw173 := Hd.mk hw173.2
            have ez171 : z171 = z53 := by have a := hw55.out; have b := hw173.out; omega
            refine lv_if_eq (tgt := 97) hx hb dX12_goesOn_90 (by decide) (fun _ => ?_) (fun c174 => False.elim (by have c174 : ¬ z171 = 0 := mt (i_eq0 (rb rz171 (by decide) (by decide))).mpr c174; omega))
            refine lv_bipush (v := iI 6) hx hb dX12_goesOn_97 (by decide +kernel) ?_
            refine x_callv (As := [.int (iI 6)]) (rest := []) ⟨hx, hb, hml, hown, hts⟩ (mb_X12_joins l dC dI cB cI cJ cZ cQ q _ 6 hI ⟨by decide, by decide⟩ (by exact hp0) hcCI) (cwV 1 hts (goodV (wl_in_2 _ (List.mem_of_getElem? (i := 10) rfl)) (wl_in_2 _ (List.mem_of_getElem? (i := 11) rfl)) (wl_in_2 _ (List.mem_of_getElem? (i := 12) rfl)) (wl_in_0 _ (List.mem_of_getElem? (i := 8) rfl)) (wl_in_1 _ (List.mem_of_getElem? (i := 34) rfl))) rfl rfl rfl (by decide +kernel) ⟨Nat.le_of_ble_eq_true rfl, Nat.le_of_ble_eq_true rfl⟩) hK hDD hA0 hP hS 0 12 wm0 rfl rfl hl.1 (Nat.le_of_ble_eq_true rfl) dX12_goesOn_99 (fun A175 H locs hw176 hP hS => ?_)
            obtain ⟨hI, hf177, hw176⟩ := hw176
            obtain ⟨hc178, hw176⟩ := hw176
            have e_A175_53 : A175 0 53 = (A 0 53) := (hf177.2 53 rfl)
            have r_A175_0_56 : (0 : Int) ≤ (A175 0 56) ∧ (A175 0 56) ≤ 500 := hI 0 56
            have hj := hw176
            have hIj := hI
            have hrj := RI.room hj.1 hIj
            clear hw176
            have e_A175_3 : A175 0 3 = (A 0 3) := (hf177.2 3 rfl)
            have e_A175_4 : A175 0 4 = (A 0 4) := (hf177.2 4 rfl)
            have e_A175_5 : A175 0 5 = (A 0 5) := (hf177.2 5 rfl)
            have e_A175_7 : A175 0 7 = (A 0 7) := (hf177.2 7 rfl)
            have e_A175_8 : A175 0 8 = (A 0 8) := (hf177.2 8 rfl)
            have e_A175_47 : A175 0 47 = (A 0 47) := (hf177.2 47 rfl)
            have e_A175_54 : A175 0 54 = (A 0 54) := (hf177.2 54 rfl)
            have r_A175_0_46 : (0 : Int) ≤ (A175 0 46) ∧ (A175 0 46) ≤ 1600 := hI 0 46
            refine lv_aload_n hx hb dX12_goesOn_102 rfl (lv_at hl 3 rfl) ?_
            refine lv_aload_n hx hb dX12_goesOn_103 rfl (lv_at hl 3 rfl) ?_
            refine lv_bipush (v := iI 43) hx hb dX12_goesOn_104 (by decide +kernel) ?_
            have e_A175_6 : A175 0 6 = (A 0 6) := (hf177.2 6 rfl)
            refine x_calli (As := [.int (iI 43)]) (rest := [.ref (q 0)]) ⟨hx, hb, hml, hown, hts⟩ (mb_X12_isSign l dC dI cB cI cJ cZ cQ q _ 43 hI ⟨by decide, by decide⟩) (cwV 1 hts (goodV (wl_in_0 _ (List.mem_of_getElem? (i := 37) rfl)) (wl_in_0 _ (List.mem_of_getElem? (i := 38) rfl)) (wl_in_0 _ (List.mem_of_getElem? (i := 39) rfl)) (wl_in_0 _ (List.mem_of_getElem? (i := 8) rfl)) (wl_in_0 _ (List.mem_of_getElem? (i := 34) rfl))) rfl rfl rfl (by decide +kernel) ⟨Nat.le_of_ble_eq_true rfl, Nat.le_of_ble_eq_true rfl⟩) hK hDD hA0 hP hS 0 12 wm0 rfl rfl hl.1 (Nat.le_of_ble_eq_true rfl) dX12_goesOn_106 (fun z179 A180 H locs hw181 hP hS => ?_)
            obtain ⟨rfl, hw181⟩ := hw181
            have rz179 : 0 ≤ z179 ∧ z179 ≤ 1 := hw181.1
            replace hw181 := Hd.mk hw181.2
            have ez179 : z179 = z8 := by have a := hw10.out; have b := hw181.out; omega
            refine lv_if_eq (tgt := 117) hx hb dX12_goesOn_109 (by decide) (fun _ => ?_) (fun c182 => False.elim (by have c182 : ¬ z179 = 0 := mt (i_eq0 (rb rz179 (by decide) (by decide))).mpr c182; omega))
            refine lv_aload_n hx hb dX12_goesOn_117 rfl (lv_at hl 3 rfl) ?_
            refine lv_bipush (v := iI 45) hx hb dX12_goesOn_118 (by decide +kernel) ?_
            refine x_calli (As := [.int (iI 45)]) (rest := [.ref (q 0)]) ⟨hx, hb, hml, hown, hts⟩ (mb_X12_isSign l dC dI cB cI cJ cZ cQ q _ 45 hI ⟨by decide, by decide⟩) (cwV 1 hts (goodV (wl_in_0 _ (List.mem_of_getElem? (i := 37) rfl)) (wl_in_0 _ (List.mem_of_getElem? (i := 38) rfl)) (wl_in_0 _ (List.mem_of_getElem? (i := 39) rfl)) (wl_in_0 _ (List.mem_of_getElem? (i := 8) rfl)) (wl_in_0 _ (List.mem_of_getElem? (i := 34) rfl))) rfl rfl rfl (by decide +kernel) ⟨Nat.le_of_ble_eq_true rfl, Nat.le_of_ble_eq_true rfl⟩) hK hDD hA0 hP hS 0 12 wm0 rfl rfl hl.1 (Nat.le_of_ble_eq_true rfl) dX12_goesOn_120 (fun z183 A184 H locs hw185 hP hS => ?_)
            obtain ⟨rfl, hw185⟩ := hw185
            have rz183 : 0 ≤ z183 ∧ z183 ≤ 1 := hw185.1
            replace hw185 := Hd.mk hw185.2
            have ez183 : z183 = z53 := by have a := hw55.out; have b := hw185.out; omega
            refine lv_if_eq (tgt := 131) hx hb dX12_goesOn_123 (by decide) (fun _ => ?_) (fun c186 => False.elim (by have c186 : ¬ z183 = 0 := mt (i_eq0 (rb rz183 (by decide) (by decide))).mpr c186; omega))
            refine lv_aload_n hx hb dX12_goesOn_131 rfl (lv_at hl 3 rfl) ?_
            refine lv_bipush (v := iI 42) hx hb dX12_goesOn_132 (by decide +kernel) ?_
            refine x_calli (As := [.int (iI 42)]) (rest := [.ref (q 0)]) ⟨hx, hb, hml, hown, hts⟩ (mb_X12_isSign l dC dI cB cI cJ cZ cQ q _ 42 hI ⟨by decide, by decide⟩) (cwV 1 hts (goodV (wl_in_0 _ (List.mem_of_getElem? (i := 37) rfl)) (wl_in_0 _ (List.mem_of_getElem? (i := 38) rfl)) (wl_in_0 _ (List.mem_of_getElem? (i := 39) rfl)) (wl_in_0 _ (List.mem_of_getElem? (i := 8) rfl)) (wl_in_0 _ (List.mem_of_getElem? (i := 34) rfl))) rfl rfl rfl (by decide +kernel) ⟨Nat.le_of_ble_eq_true rfl, Nat.le_of_ble_eq_true rfl⟩) hK hDD hA0 hP hS 0 12 wm0 rfl rfl hl.1 (Nat.le_of_ble_eq_true rfl) dX12_goesOn_134 (fun z187 A188 H locs hw189 hP hS => ?_)
            obtain ⟨rfl, hw189⟩ := hw189
            have rz187 : 0 ≤ z187 ∧ z187 ≤ 1 := hw189.1
            replace hw189 := Hd.mk hw189.2
            have ez187 : z187 = z106 := by have a := hw108.out; have b := hw189.out; omega
            refine lv_if_eq (tgt := 145) hx hb dX12_goesOn_137 (by decide) (fun _ => ?_) (fun c190 => False.elim (by have c190 : ¬ z187 = 0 := mt (i_eq0 (rb rz187 (by decide) (by decide))).mpr c190; omega))
            refine lv_aload_n hx hb dX12_goesOn_145 rfl (lv_at hl 3 rfl) ?_
            refine lv_bipush (v := iI 47) hx hb dX12_goesOn_146 (by decide +kernel) ?_
            refine x_calli (As := [.int (iI 47)]) (rest := [.ref (q 0)]) ⟨hx, hb, hml, hown, hts⟩ (mb_X12_isSign l dC dI cB cI cJ cZ cQ q _ 47 hI ⟨by decide, by decide⟩) (cwV 1 hts (goodV (wl_in_0 _ (List.mem_of_getElem? (i := 37) rfl)) (wl_in_0 _ (List.mem_of_getElem? (i := 38) rfl)) (wl_in_0 _ (List.mem_of_getElem? (i := 39) rfl)) (wl_in_0 _ (List.mem_of_getElem? (i := 8) rfl)) (wl_in_0 _ (List.mem_of_getElem? (i := 34) rfl))) rfl rfl rfl (by decide +kernel) ⟨Nat.le_of_ble_eq_true rfl, Nat.le_of_ble_eq_true rfl⟩) hK hDD hA0 hP hS 0 12 wm0 rfl rfl hl.1 (Nat.le_of_ble_eq_true rfl) dX12_goesOn_148 (fun z191 A192 H locs hw193 hP hS => ?_)
            obtain ⟨rfl, hw193⟩ := hw193
            have rz191 : 0 ≤ z191 ∧ z191 ≤ 1 := hw193.1
            replace hw193 := Hd.mk hw193.2
            have ez191 : z191 = z163 := by have a := hw165.out; have b := hw193.out; omega
            refine lv_if_eq (tgt := 159) hx hb dX12_goesOn_151 (by decide) (fun c194 => False.elim (by have c194 : z191 = 0 := (i_eq0 (rb rz191 (by decide) (by decide))).mp c194; omega)) (fun _ => ?_)
            refine lv_bipush (v := iI 13) hx hb dX12_goesOn_154 (by decide +kernel) ?_
            refine lv_goto (tgt := 161) hx hb dX12_goesOn_156 (by decide) ?_
            refine x_callv (As := [.int (iI 13)]) (rest := []) ⟨hx, hb, hml, hown, hts⟩ (mb_X12_holdsBack l dC dI cB cI cJ cZ cQ q _ 13 hI ⟨by decide, by decide⟩ (by omega)) (cwV 1 hts (goodV (wl_in_2 _ (List.mem_of_getElem? (i := 2) rfl)) (wl_in_2 _ (List.mem_of_getElem? (i := 3) rfl)) (wl_in_2 _ (List.mem_of_getElem? (i := 4) rfl)) (wl_in_0 _ (List.mem_of_getElem? (i := 8) rfl)) (wl_in_1 _ (List.mem_of_getElem? (i := 44) rfl))) rfl rfl rfl (by decide +kernel) ⟨Nat.le_of_ble_eq_true rfl, Nat.le_of_ble_eq_true rfl⟩) hK hDD hA0 hP hS 0 12 wm0 rfl rfl hl.1 (Nat.le_of_ble_eq_true rfl) dX12_goesOn_161 (fun A195 H locs hw196 hP hS => ?_)
            obtain ⟨hI, hf197, hw196⟩ := hw196
            have r_A195_0_56 : (0 : Int) ≤ (A195 0 56) ∧ (A195 0 56) ≤ 500 := hI 0 56
            refine lv_aload_n hx hb dX12_goesOn_164 rfl (lv_at hl 3 rfl) ?_
            have e_A195_4 : A195 0 4 = (A 0 4) := (hf197.2 4 rfl).trans e_A175_4
            have e_A195_5 : A195 0 5 = (A 0 5) := (hf197.2 5 rfl).trans e_A175_5
            have e_A195_8 : A195 0 8 = (A 0 8) := (hf197.2 8 rfl).trans e_A175_8
            refine x_callv (As := []) (rest := []) ⟨hx, hb, hml, hown, hts⟩ (mb_X12_ahead l dC dI cB cI cJ cZ cQ q _ hI) (cwV 0 hts (goodV (wl_in_0 _ (List.mem_of_getElem? (i := 40) rfl)) (wl_in_0 _ (List.mem_of_getElem? (i := 41) rfl)) (wl_in_0 _ (List.mem_of_getElem? (i := 42) rfl)) (wl_in_0 _ (List.mem_of_getElem? (i := 8) rfl)) (wl_in_0 _ (List.mem_of_getElem? (i := 20) rfl))) rfl rfl rfl (by decide +kernel) ⟨Nat.le_of_ble_eq_true rfl, Nat.le_of_ble_eq_true rfl⟩) hK hDD hA0 hP hS 0 12 wm0 rfl rfl hl.1 (Nat.le_of_ble_eq_true rfl) dX12_goesOn_165 (fun A198 H locs hw199 hP hS => ?_)
            obtain ⟨hI, hf200, hw199⟩ := hw199
            have r_A198_0_3 : (0 : Int) ≤ (A198 0 3) ∧ (A198 0 3) ≤ 3 := hI 0 3
            have r_A198_0_4 : (0 : Int) ≤ (A198 0 4) ∧ (A198 0 4) ≤ 1600 := hI 0 4
            have r_A198_0_5 : (0 : Int) ≤ (A198 0 5) ∧ (A198 0 5) ≤ 1600 := hI 0 5
            have r_A198_0_8 : (0 : Int) ≤ (A198 0 8) ∧ (A198 0 8) ≤ 5 := hI 0 8
            have hw199x := hw199.1
            have hw199y := hw199.2.1
            replace hw199 := Hd.mk hw199
            refine lv_aload_n hx hb dX12_goesOn_168 rfl (lv_at hl 3 rfl) ?_
            refine lv_iconst (v := iI 0) hx hb dX12_goesOn_169 (by decide +kernel) ?_
            refine x_put (D := (dC, dI)) (ci := 12) (v := .int (iI 0)) (ty := .boolean) (C := RX12) (T := TX12) (N := 85) hx hb hts hiX12 tyX12 tyX12_ok nmX12 hown hK hP hDD hS 0 wm0 rfl 57 (by decide) (hts _ (List.mem_cons_of_mem _ (wl_in_2 _ (List.mem_of_getElem? (i := 9) rfl)))) (fun _ h9 => h9) rfl (by decide +kernel) (by decide +kernel) rfl (Nat.le_of_ble_eq_true rfl) dX12_goesOn_170 (wf57 (v := 0)) (fun H locs hP hS => ?_)
            have hI := hI.st (j := 0) (i := 57) (v := 0) (show (0 : Int) ≤ 0 ∧ 0 ≤ 1 from (by omega))
            refine lv_iconst (v := iI 1) hx hb dX12_goesOn_173 (by decide +kernel) ?_
            obtain ⟨A201, hA201⟩ : ∃ A201 : St, A201 = (stA A198 0 57 0) := ⟨_, rfl⟩
            rw [← hA201] at hP hI
            have e_A201_4 : A201 0 4 = (A198 0 4) := by rw [hA201]; exact rfl
            have e_A201_5 : A201 0 5 = (A198 0 5) := by rw [hA201]; exact rfl
            have e_A201_8 : A201 0 8 = (A198 0 8) := by rw [hA201]; exact rfl
            have e_A195_46 : A195 0 46 = (A175 0 46) := (hf197.2 46 rfl)
            have e_A198_46 : A198 0 46 = (A175 0 46) := (hf200.2 46 rfl).trans e_A195_46
            have e_A201_46 : A201 0 46 = (A175 0 46) := by rw [hA201]; exact e_A198_46
            have e_A195_47 : A195 0 47 = (A 0 47) := (hf197.2 47 rfl).trans e_A175_47
            have e_A198_47 : A198 0 47 = (A 0 47) := (hf200.2 47 rfl).trans e_A195_47
            have e_A201_47 : A201 0 47 = (A 0 47) := by rw [hA201]; exact e_A198_47
            have e_A201_57 : A201 0 57 = 0 := by rw [hA201]; rfl
            have ca202 : A175 35 = A 35 := (hf177.1 35 (by decide) rfl)
            have ca203 : A201 1 = A198 1 := by rw [hA201]; exact rfl
            have e_A201_3 : A201 0 3 = (A198 0 3) := by rw [hA201]; exact rfl
            have e_A201_7 : A201 0 7 = (A198 0 7) := by rw [hA201]; exact rfl
            have hlt := RI.lt hp0 (by omega)
            have ca204 : A198 40 = A195 40 := (hf200.1 40 (by decide) rfl)
            have ca205 : A201 40 = A195 40 := by rw [hA201]; exact ca204
            have ca206 : A195 29 = A175 29 := (hf197.1 29 (by decide) rfl)
            have ca207 : A198 29 = A175 29 := (hf200.1 29 (by decide) rfl).trans ca206
            have ca208 : A201 29 = A175 29 := by rw [hA201]; exact ca207
            have ca209 : A195 31 = A175 31 := (hf197.1 31 (by decide) rfl)
            have ca210 : A198 31 = A175 31 := (hf200.1 31 (by decide) rfl).trans ca209
            have ca211 : A201 31 = A175 31 := by rw [hA201]; exact ca210
            have ca212 : A195 33 = A175 33 := (hf197.1 33 (by decide) rfl)
            have ca213 : A198 33 = A175 33 := (hf200.1 33 (by decide) rfl).trans ca212
            have ca214 : A201 33 = A175 33 := by rw [hA201]; exact ca213
            have ca215 : A195 35 = A175 35 := (hf197.1 35 (by decide) rfl)
            have ca216 : A198 35 = A175 35 := (hf200.1 35 (by decide) rfl).trans ca215
            have ca217 : A201 35 = A175 35 := by rw [hA201]; exact ca216
            have ca218 : A195 37 = A175 37 := (hf197.1 37 (by decide) rfl)
            have ca219 : A198 37 = A175 37 := (hf200.1 37 (by decide) rfl).trans ca218
            have ca220 : A201 37 = A175 37 := by rw [hA201]; exact ca219
            have ca221 : A195 39 = A175 39 := (hf197.1 39 (by decide) rfl)
            have ca222 : A198 39 = A175 39 := (hf200.1 39 (by decide) rfl).trans ca221
            have ca223 : A201 39 = A175 39 := by rw [hA201]; exact ca222
            have e_A195_53 : A195 0 53 = (A 0 53) := (hf197.2 53 rfl).trans e_A175_53
            have e_A198_53 : A198 0 53 = (A 0 53) := (hf200.2 53 rfl).trans e_A195_53
            have e_A201_53 : A201 0 53 = (A 0 53) := by rw [hA201]; exact e_A198_53
            have e_A195_54 : A195 0 54 = (A 0 54) := (hf197.2 54 rfl).trans e_A175_54
            have e_A198_54 : A198 0 54 = (A 0 54) := (hf200.2 54 rfl).trans e_A195_54
            have e_A201_54 : A201 0 54 = (A 0 54) := by rw [hA201]; exact e_A198_54
            have e_A198_56 : A198 0 56 = (A195 0 56) := (hf200.2 56 rfl)
            have e_A201_56 : A201 0 56 = (A195 0 56) := by rw [hA201]; exact e_A198_56
            exact RET 1 _ _ _ _ _ ⟨hI, fr_def hA201 (fr.sf (fr.trans (fr.trans (fr.trans (fr.rf) hf177 rfl rfl) hf197 rfl rfl) hf200 rfl rfl) rfl), (CI.fr (CI.fr (CI.fr hc178 hf197 rfl rfl) hf200 rfl rfl) (fr_def hA201 (fr.sf (fr.rf (M := []) (N := [57])) rfl)) rfl rfl), ⟨by decide, Hd.mk (fun h0 => ⟨fun _ => ⟨by rw [show A201 0 57 = 0 by omega]; exact RI.op (x := 13) (r37 := A175 37) hj.1 hIj (by omega) (by decide) (hj.2.imp id (fun t => by rw [show rk 13 = 6 by decide]; exact t)) (fun _ _ => rfl) (fun h => absurd h (by rw [RI.nn hj.1 rfl]; decide)) ⟨ca208, ca211, ca214, ca217, ca220, ca223, (ca205.trans hw196.2), e_A201_46, (e_A201_47.trans e_A175_47.symm), (e_A201_53.trans e_A175_53.symm), (e_A201_54.trans e_A175_54.symm), (by omega)⟩ (by omega) (by omega) (LX.of ca203 e_A201_3 e_A201_4 e_A201_5 e_A201_7 hw199.out.2.2.1), (PR.fr (PR.fr (PR.fr (PR.fr hp2 hf177 rfl rfl) hf197 rfl rfl) hf200 rfl rfl) (fr_def hA201 (fr.sf (fr.rf (M := []) (N := [57])) rfl)) rfl rfl), by omega⟩, fun h => absurd h (by decide)⟩)⟩⟩ hP hS dX12_goesOn_174
          · have c166 : z163 = 0 := (i_eq0 (rb rz163 (by decide) (by decide))).mp c166
            refine lv_aload_n hx hb dX12_goesOn_65 rfl (lv_at hl 3 rfl) ?_
            refine lv_bipush (v := iI 37) hx hb dX12_goesOn_66 (by decide +kernel) ?_
            refine x_calli (As := [.int (iI 37)]) (rest := []) ⟨hx, hb, hml, hown, hts⟩ (mb_X12_isSign l dC dI cB cI cJ cZ cQ q _ 37 hI ⟨by decide, by decide⟩) (cwV 1 hts (goodV (wl_in_0 _ (List.mem_of_getElem? (i := 37) rfl)) (wl_in_0 _ (List.mem_of_getElem? (i := 38) rfl)) (wl_in_0 _ (List.mem_of_getElem? (i := 39) rfl)) (wl_in_0 _ (List.mem_of_getElem? (i := 8) rfl)) (wl_in_0 _ (List.mem_of_getElem? (i := 34) rfl))) rfl rfl rfl (by decide +kernel) ⟨Nat.le_of_ble_eq_true rfl, Nat.le_of_ble_eq_true rfl⟩) hK hDD hA0 hP hS 0 12 wm0 rfl rfl hl.1 (Nat.le_of_ble_eq_true rfl) dX12_goesOn_68 (fun z224 A225 H locs hw226 hP hS => ?_)
            obtain ⟨rfl, hw226⟩ := hw226
            have rz224 : 0 ≤ z224 ∧ z224 ≤ 1 := hw226.1
            replace hw226 := Hd.mk hw226.2
            refine lv_if_eq (tgt := 175) hx hb dX12_goesOn_71 (by decide) (fun c227 => ?_) (fun c227 => ?_)
            · have c227 : z224 = 0 := (i_eq0 (rb rz224 (by decide) (by decide))).mp c227
              exact mb_X12_goesOn_c175 l dC dI cB cI cJ cZ cQ q A hI0 hp0 hp1 hp2 hp3 hcCI p e s m below meth c Q AS hx hb hml hown hts hK hDD hA0 RET _ _ _ z1 z2 (by omega) (by omega) hz1 hP hS (lv_sub hl [3, 2, 1, 0] rfl)
            · have c227 : ¬ z224 = 0 := mt (i_eq0 (rb rz224 (by decide) (by decide))).mpr c227
              have hw226b := hw226.out.mp (by omega)
              refine lv_aload_n hx hb dX12_goesOn_74 rfl (lv_at hl 3 rfl) ?_
              refine lv_aload_n hx hb dX12_goesOn_75 rfl (lv_at hl 3 rfl) ?_
              refine lv_bipush (v := iI 43) hx hb dX12_goesOn_76 (by decide +kernel) ?_
              refine x_calli (As := [.int (iI 43)]) (rest := [.ref (q 0)]) ⟨hx, hb, hml, hown, hts⟩ (mb_X12_isSign l dC dI cB cI cJ cZ cQ q _ 43 hI ⟨by decide, by decide⟩) (cwV 1 hts (goodV (wl_in_0 _ (List.mem_of_getElem? (i := 37) rfl)) (wl_in_0 _ (List.mem_of_getElem? (i := 38) rfl)) (wl_in_0 _ (List.mem_of_getElem? (i := 39) rfl)) (wl_in_0 _ (List.mem_of_getElem? (i := 8) rfl)) (wl_in_0 _ (List.mem_of_getElem? (i := 34) rfl))) rfl rfl rfl (by decide +kernel) ⟨Nat.le_of_ble_eq_true rfl, Nat.le_of_ble_eq_true rfl⟩) hK hDD hA0 hP hS 0 12 wm0 rfl rfl hl.1 (Nat.le_of_ble_eq_true rfl) dX12_goesOn_78 (fun z228 A229 H locs hw230 hP hS => ?_)
              obtain ⟨rfl, hw230⟩ := hw230
              have rz228 : 0 ≤ z228 ∧ z228 ≤ 1 := hw230.1
              replace hw230 := Hd.mk hw230.2
              have ez228 : z228 = z8 := by have a := hw10.out; have b := hw230.out; omega
              refine lv_if_ne (tgt := 93) hx hb dX12_goesOn_81 (by decide) (fun c231 => False.elim (by have c231 : ¬ z228 = 0 := mt (i_eq0 (rb rz228 (by decide) (by decide))).mpr c231; omega)) (fun _ => ?_)
              refine lv_aload_n hx hb dX12_goesOn_84 rfl (lv_at hl 3 rfl) ?_
              refine lv_bipush (v := iI 45) hx hb dX12_goesOn_85 (by decide +kernel) ?_
              refine x_calli (As := [.int (iI 45)]) (rest := [.ref (q 0)]) ⟨hx, hb, hml, hown, hts⟩ (mb_X12_isSign l dC dI cB cI cJ cZ cQ q _ 45 hI ⟨by decide, by decide⟩) (cwV 1 hts (goodV (wl_in_0 _ (List.mem_of_getElem? (i := 37) rfl)) (wl_in_0 _ (List.mem_of_getElem? (i := 38) rfl)) (wl_in_0 _ (List.mem_of_getElem? (i := 39) rfl)) (wl_in_0 _ (List.mem_of_getElem? (i := 8) rfl)) (wl_in_0 _ (List.mem_of_getElem? (i := 34) rfl))) rfl rfl rfl (by decide +kernel) ⟨Nat.le_of_ble_eq_true rfl, Nat.le_of_ble_eq_true rfl⟩) hK hDD hA0 hP hS 0 12 wm0 rfl rfl hl.1 (Nat.le_of_ble_eq_true rfl) dX12_goesOn_87 (fun z232 A233 H locs hw234 hP hS => ?_)
              obtain ⟨rfl, hw234⟩ := hw234
              have rz232 : 0 ≤ z232 ∧ z232 ≤ 1 := hw234.1
              replace hw234 := Hd.mk hw234.2
              have ez232 : z232 = z53 := by have a := hw55.out; have b := hw234.out; omega
              refine lv_if_eq (tgt := 97) hx hb dX12_goesOn_90 (by decide) (fun _ => ?_) (fun c235 => False.elim (by have c235 : ¬ z232 = 0 := mt (i_eq0 (rb rz232 (by decide) (by decide))).mpr c235; omega))
              refine lv_bipush (v := iI 6) hx hb dX12_goesOn_97 (by decide +kernel) ?_
              refine x_callv (As := [.int (iI 6)]) (rest := []) ⟨hx, hb, hml, hown, hts⟩ (mb_X12_joins l dC dI cB cI cJ cZ cQ q _ 6 hI ⟨by decide, by decide⟩ (by exact hp0) hcCI) (cwV 1 hts (goodV (wl_in_2 _ (List.mem_of_getElem? (i := 10) rfl)) (wl_in_2 _ (List.mem_of_getElem? (i := 11) rfl)) (wl_in_2 _ (List.mem_of_getElem? (i := 12) rfl)) (wl_in_0 _ (List.mem_of_getElem? (i := 8) rfl)) (wl_in_1 _ (List.mem_of_getElem? (i := 34) rfl))) rfl rfl rfl (by decide +kernel) ⟨Nat.le_of_ble_eq_true rfl, Nat.le_of_ble_eq_true rfl⟩) hK hDD hA0 hP hS 0 12 wm0 rfl rfl hl.1 (Nat.le_of_ble_eq_true rfl) dX12_goesOn_99 (fun A236 H locs hw237 hP hS => ?_)
              obtain ⟨hI, hf238, hw237⟩ := hw237
              obtain ⟨hc239, hw237⟩ := hw237
              have e_A236_53 : A236 0 53 = (A 0 53) := (hf238.2 53 rfl)
              have r_A236_0_56 : (0 : Int) ≤ (A236 0 56) ∧ (A236 0 56) ≤ 500 := hI 0 56
              have hj := hw237
              have hIj := hI
              have hrj := RI.room hj.1 hIj
              clear hw237
              have e_A236_3 : A236 0 3 = (A 0 3) := (hf238.2 3 rfl)
              have e_A236_4 : A236 0 4 = (A 0 4) := (hf238.2 4 rfl)
              have e_A236_5 : A236 0 5 = (A 0 5) := (hf238.2 5 rfl)
              have e_A236_7 : A236 0 7 = (A 0 7) := (hf238.2 7 rfl)
              have e_A236_8 : A236 0 8 = (A 0 8) := (hf238.2 8 rfl)
              have e_A236_47 : A236 0 47 = (A 0 47) := (hf238.2 47 rfl)
              have e_A236_54 : A236 0 54 = (A 0 54) := (hf238.2 54 rfl)
              have r_A236_0_46 : (0 : Int) ≤ (A236 0 46) ∧ (A236 0 46) ≤ 1600 := hI 0 46
              refine lv_aload_n hx hb dX12_goesOn_102 rfl (lv_at hl 3 rfl) ?_
              refine lv_aload_n hx hb dX12_goesOn_103 rfl (lv_at hl 3 rfl) ?_
              refine lv_bipush (v := iI 43) hx hb dX12_goesOn_104 (by decide +kernel) ?_
              have e_A236_6 : A236 0 6 = (A 0 6) := (hf238.2 6 rfl)
              refine x_calli (As := [.int (iI 43)]) (rest := [.ref (q 0)]) ⟨hx, hb, hml, hown, hts⟩ (mb_X12_isSign l dC dI cB cI cJ cZ cQ q _ 43 hI ⟨by decide, by decide⟩) (cwV 1 hts (goodV (wl_in_0 _ (List.mem_of_getElem? (i := 37) rfl)) (wl_in_0 _ (List.mem_of_getElem? (i := 38) rfl)) (wl_in_0 _ (List.mem_of_getElem? (i := 39) rfl)) (wl_in_0 _ (List.mem_of_getElem? (i := 8) rfl)) (wl_in_0 _ (List.mem_of_getElem? (i := 34) rfl))) rfl rfl rfl (by decide +kernel) ⟨Nat.le_of_ble_eq_true rfl, Nat.le_of_ble_eq_true rfl⟩) hK hDD hA0 hP hS 0 12 wm0 rfl rfl hl.1 (Nat.le_of_ble_eq_true rfl) dX12_goesOn_106 (fun z240 A241 H locs hw242 hP hS => ?_)
              obtain ⟨rfl, hw242⟩ := hw242
              have rz240 : 0 ≤ z240 ∧ z240 ≤ 1 := hw242.1
              replace hw242 := Hd.mk hw242.2
              have ez240 : z240 = z8 := by have a := hw10.out; have b := hw242.out; omega
              refine lv_if_eq (tgt := 117) hx hb dX12_goesOn_109 (by decide) (fun _ => ?_) (fun c243 => False.elim (by have c243 : ¬ z240 = 0 := mt (i_eq0 (rb rz240 (by decide) (by decide))).mpr c243; omega))
              refine lv_aload_n hx hb dX12_goesOn_117 rfl (lv_at hl 3 rfl) ?_
              refine lv_bipush (v := iI 45) hx hb dX12_goesOn_118 (by decide +kernel) ?_
              refine x_calli (As := [.int (iI 45)]) (rest := [.ref (q 0)]) ⟨hx, hb, hml, hown, hts⟩ (mb_X12_isSign l dC dI cB cI cJ cZ cQ q _ 45 hI ⟨by decide, by decide⟩) (cwV 1 hts (goodV (wl_in_0 _ (List.mem_of_getElem? (i := 37) rfl)) (wl_in_0 _ (List.mem_of_getElem? (i := 38) rfl)) (wl_in_0 _ (List.mem_of_getElem? (i := 39) rfl)) (wl_in_0 _ (List.mem_of_getElem? (i := 8) rfl)) (wl_in_0 _ (List.mem_of_getElem? (i := 34) rfl))) rfl rfl rfl (by decide +kernel) ⟨Nat.le_of_ble_eq_true rfl, Nat.le_of_ble_eq_true rfl⟩) hK hDD hA0 hP hS 0 12 wm0 rfl rfl hl.1 (Nat.le_of_ble_eq_true rfl) dX12_goesOn_120 (fun z244 A245 H locs hw246 hP hS => ?_)
              obtain ⟨rfl, hw246⟩ := hw246
              have rz244 : 0 ≤ z244 ∧ z244 ≤ 1 := hw246.1
              replace hw246 := Hd.mk hw246.2
              have ez244 : z244 = z53 := by have a := hw55.out; have b := hw246.out; omega
              refine lv_if_eq (tgt := 131) hx hb dX12_goesOn_123 (by decide) (fun _ => ?_) (fun c247 => False.elim (by have c247 : ¬ z244 = 0 := mt (i_eq0 (rb rz244 (by decide) (by decide))).mpr c247; omega))
              refine lv_aload_n hx hb dX12_goesOn_131 rfl (lv_at hl 3 rfl) ?_
              refine lv_bipush (v := iI 42) hx hb dX12_goesOn_132 (by decide +kernel) ?_
              refine x_calli (As := [.int (iI 42)]) (rest := [.ref (q 0)]) ⟨hx, hb, hml, hown, hts⟩ (mb_X12_isSign l dC dI cB cI cJ cZ cQ q _ 42 hI ⟨by decide, by decide⟩) (cwV 1 hts (goodV (wl_in_0 _ (List.mem_of_getElem? (i := 37) rfl)) (wl_in_0 _ (List.mem_of_getElem? (i := 38) rfl)) (wl_in_0 _ (List.mem_of_getElem? (i := 39) rfl)) (wl_in_0 _ (List.mem_of_getElem? (i := 8) rfl)) (wl_in_0 _ (List.mem_of_getElem? (i := 34) rfl))) rfl rfl rfl (by decide +kernel) ⟨Nat.le_of_ble_eq_true rfl, Nat.le_of_ble_eq_true rfl⟩) hK hDD hA0 hP hS 0 12 wm0 rfl rfl hl.1 (Nat.le_of_ble_eq_true rfl) dX12_goesOn_134 (fun z248 A249 H locs hw250 hP hS => ?_)
              obtain ⟨rfl, hw250⟩ := hw250
              have rz248 : 0 ≤ z248 ∧ z248 ≤ 1 := hw250.1
              replace hw250 := Hd.mk hw250.2
              have ez248 : z248 = z106 := by have a := hw108.out; have b := hw250.out; omega
              refine lv_if_eq (tgt := 145) hx hb dX12_goesOn_137 (by decide) (fun _ => ?_) (fun c251 => False.elim (by have c251 : ¬ z248 = 0 := mt (i_eq0 (rb rz248 (by decide) (by decide))).mpr c251; omega))
              refine lv_aload_n hx hb dX12_goesOn_145 rfl (lv_at hl 3 rfl) ?_
              refine lv_bipush (v := iI 47) hx hb dX12_goesOn_146 (by decide +kernel) ?_
              refine x_calli (As := [.int (iI 47)]) (rest := [.ref (q 0)]) ⟨hx, hb, hml, hown, hts⟩ (mb_X12_isSign l dC dI cB cI cJ cZ cQ q _ 47 hI ⟨by decide, by decide⟩) (cwV 1 hts (goodV (wl_in_0 _ (List.mem_of_getElem? (i := 37) rfl)) (wl_in_0 _ (List.mem_of_getElem? (i := 38) rfl)) (wl_in_0 _ (List.mem_of_getElem? (i := 39) rfl)) (wl_in_0 _ (List.mem_of_getElem? (i := 8) rfl)) (wl_in_0 _ (List.mem_of_getElem? (i := 34) rfl))) rfl rfl rfl (by decide +kernel) ⟨Nat.le_of_ble_eq_true rfl, Nat.le_of_ble_eq_true rfl⟩) hK hDD hA0 hP hS 0 12 wm0 rfl rfl hl.1 (Nat.le_of_ble_eq_true rfl) dX12_goesOn_148 (fun z252 A253 H locs hw254 hP hS => ?_)
              obtain ⟨rfl, hw254⟩ := hw254
              have rz252 : 0 ≤ z252 ∧ z252 ≤ 1 := hw254.1
              replace hw254 := Hd.mk hw254.2
              have ez252 : z252 = z163 := by have a := hw165.out; have b := hw254.out; omega
              refine lv_if_eq (tgt := 159) hx hb dX12_goesOn_151 (by decide) (fun _ => ?_) (fun c255 => False.elim (by have c255 : ¬ z252 = 0 := mt (i_eq0 (rb rz252 (by decide) (by decide))).mpr c255; omega))
              refine lv_bipush (v := iI 14) hx hb dX12_goesOn_159 (by decide +kernel) ?_
              refine x_callv (As := [.int (iI 14)]) (rest := []) ⟨hx, hb, hml, hown, hts⟩ (mb_X12_holdsBack l dC dI cB cI cJ cZ cQ q _ 14 hI ⟨by decide, by decide⟩ (by omega)) (cwV 1 hts (goodV (wl_in_2 _ (List.mem_of_getElem? (i := 2) rfl)) (wl_in_2 _ (List.mem_of_getElem? (i := 3) rfl)) (wl_in_2 _ (List.mem_of_getElem? (i := 4) rfl)) (wl_in_0 _ (List.mem_of_getElem? (i := 8) rfl)) (wl_in_1 _ (List.mem_of_getElem? (i := 44) rfl))) rfl rfl rfl (by decide +kernel) ⟨Nat.le_of_ble_eq_true rfl, Nat.le_of_ble_eq_true rfl⟩) hK hDD hA0 hP hS 0 12 wm0 rfl rfl hl.1 (Nat.le_of_ble_eq_true rfl) dX12_goesOn_161 (fun A256 H locs hw257 hP hS => ?_)
              obtain ⟨hI, hf258, hw257⟩ := hw257
              have r_A256_0_56 : (0 : Int) ≤ (A256 0 56) ∧ (A256 0 56) ≤ 500 := hI 0 56
              refine lv_aload_n hx hb dX12_goesOn_164 rfl (lv_at hl 3 rfl) ?_
              have e_A256_4 : A256 0 4 = (A 0 4) := (hf258.2 4 rfl).trans e_A236_4
              have e_A256_5 : A256 0 5 = (A 0 5) := (hf258.2 5 rfl).trans e_A236_5
              have e_A256_8 : A256 0 8 = (A 0 8) := (hf258.2 8 rfl).trans e_A236_8
              refine x_callv (As := []) (rest := []) ⟨hx, hb, hml, hown, hts⟩ (mb_X12_ahead l dC dI cB cI cJ cZ cQ q _ hI) (cwV 0 hts (goodV (wl_in_0 _ (List.mem_of_getElem? (i := 40) rfl)) (wl_in_0 _ (List.mem_of_getElem? (i := 41) rfl)) (wl_in_0 _ (List.mem_of_getElem? (i := 42) rfl)) (wl_in_0 _ (List.mem_of_getElem? (i := 8) rfl)) (wl_in_0 _ (List.mem_of_getElem? (i := 20) rfl))) rfl rfl rfl (by decide +kernel) ⟨Nat.le_of_ble_eq_true rfl, Nat.le_of_ble_eq_true rfl⟩) hK hDD hA0 hP hS 0 12 wm0 rfl rfl hl.1 (Nat.le_of_ble_eq_true rfl) dX12_goesOn_165 (fun A259 H locs hw260 hP hS => ?_)
              obtain ⟨hI, hf261, hw260⟩ := hw260
              have r_A259_0_3 : (0 : Int) ≤ (A259 0 3) ∧ (A259 0 3) ≤ 3 := hI 0 3
              have r_A259_0_4 : (0 : Int) ≤ (A259 0 4) ∧ (A259 0 4) ≤ 1600 := hI 0 4
              have r_A259_0_5 : (0 : Int) ≤ (A259 0 5) ∧ (A259 0 5) ≤ 1600 := hI 0 5
              have r_A259_0_8 : (0 : Int) ≤ (A259 0 8) ∧ (A259 0 8) ≤ 5 := hI 0 8
              have hw260x := hw260.1
              have hw260y := hw260.2.1
              replace hw260 := Hd.mk hw260
              refine lv_aload_n hx hb dX12_goesOn_168 rfl (lv_at hl 3 rfl) ?_
              refine lv_iconst (v := iI 0) hx hb dX12_goesOn_169 (by decide +kernel) ?_
              refine x_put (D := (dC, dI)) (ci := 12) (v := .int (iI 0)) (ty := .boolean) (C := RX12) (T := TX12) (N := 85) hx hb hts hiX12 tyX12 tyX12_ok nmX12 hown hK hP hDD hS 0 wm0 rfl 57 (by decide) (hts _ (List.mem_cons_of_mem _ (wl_in_2 _ (List.mem_of_getElem? (i := 9) rfl)))) (fun _ h9 => h9) rfl (by decide +kernel) (by decide +kernel) rfl (Nat.le_of_ble_eq_true rfl) dX12_goesOn_170 (wf57 (v := 0)) (fun H locs hP hS => ?_)
              have hI := hI.st (j := 0) (i := 57) (v := 0) (show (0 : Int) ≤ 0 ∧ 0 ≤ 1 from (by omega))
              refine lv_iconst (v := iI 1) hx hb dX12_goesOn_173 (by decide +kernel) ?_
              obtain ⟨A262, hA262⟩ : ∃ A262 : St, A262 = (stA A259 0 57 0) := ⟨_, rfl⟩
              rw [← hA262] at hP hI
              have e_A262_4 : A262 0 4 = (A259 0 4) := by rw [hA262]; exact rfl
              have e_A262_5 : A262 0 5 = (A259 0 5) := by rw [hA262]; exact rfl
              have e_A262_8 : A262 0 8 = (A259 0 8) := by rw [hA262]; exact rfl
              have e_A256_46 : A256 0 46 = (A236 0 46) := (hf258.2 46 rfl)
              have e_A259_46 : A259 0 46 = (A236 0 46) := (hf261.2 46 rfl).trans e_A256_46
              have e_A262_46 : A262 0 46 = (A236 0 46) := by rw [hA262]; exact e_A259_46
              have e_A256_47 : A256 0 47 = (A 0 47) := (hf258.2 47 rfl).trans e_A236_47
              have e_A259_47 : A259 0 47 = (A 0 47) := (hf261.2 47 rfl).trans e_A256_47
              have e_A262_47 : A262 0 47 = (A 0 47) := by rw [hA262]; exact e_A259_47
              have e_A262_57 : A262 0 57 = 0 := by rw [hA262]; rfl
              have ca263 : A236 35 = A 35 := (hf238.1 35 (by decide) rfl)
              have ca264 : A262 1 = A259 1 := by rw [hA262]; exact rfl
              have e_A262_3 : A262 0 3 = (A259 0 3) := by rw [hA262]; exact rfl
              have e_A262_7 : A262 0 7 = (A259 0 7) := by rw [hA262]; exact rfl
              have hlt := RI.lt hp0 (by omega)
              have ca265 : A259 40 = A256 40 := (hf261.1 40 (by decide) rfl)
              have ca266 : A262 40 = A256 40 := by rw [hA262]; exact ca265
              have ca267 : A256 29 = A236 29 := (hf258.1 29 (by decide) rfl)
              have ca268 : A259 29 = A236 29 := (hf261.1 29 (by decide) rfl).trans ca267
              have ca269 : A262 29 = A236 29 := by rw [hA262]; exact ca268
              have ca270 : A256 31 = A236 31 := (hf258.1 31 (by decide) rfl)
              have ca271 : A259 31 = A236 31 := (hf261.1 31 (by decide) rfl).trans ca270
              have ca272 : A262 31 = A236 31 := by rw [hA262]; exact ca271
              have ca273 : A256 33 = A236 33 := (hf258.1 33 (by decide) rfl)
              have ca274 : A259 33 = A236 33 := (hf261.1 33 (by decide) rfl).trans ca273
              have ca275 : A262 33 = A236 33 := by rw [hA262]; exact ca274
              have ca276 : A256 35 = A236 35 := (hf258.1 35 (by decide) rfl)
              have ca277 : A259 35 = A236 35 := (hf261.1 35 (by decide) rfl).trans ca276
              have ca278 : A262 35 = A236 35 := by rw [hA262]; exact ca277
              have ca279 : A256 37 = A236 37 := (hf258.1 37 (by decide) rfl)
              have ca280 : A259 37 = A236 37 := (hf261.1 37 (by decide) rfl).trans ca279
              have ca281 : A262 37 = A236 37 := by rw [hA262]; exact ca280
              have ca282 : A256 39 = A236 39 := (hf258.1 39 (by decide) rfl)
              have ca283 : A259 39 = A236 39 := (hf261.1 39 (by decide) rfl).trans ca282
              have ca284 : A262 39 = A236 39 := by rw [hA262]; exact ca283
              have e_A256_53 : A256 0 53 = (A 0 53) := (hf258.2 53 rfl).trans e_A236_53
              have e_A259_53 : A259 0 53 = (A 0 53) := (hf261.2 53 rfl).trans e_A256_53
              have e_A262_53 : A262 0 53 = (A 0 53) := by rw [hA262]; exact e_A259_53
              have e_A256_54 : A256 0 54 = (A 0 54) := (hf258.2 54 rfl).trans e_A236_54
              have e_A259_54 : A259 0 54 = (A 0 54) := (hf261.2 54 rfl).trans e_A256_54
              have e_A262_54 : A262 0 54 = (A 0 54) := by rw [hA262]; exact e_A259_54
              have e_A259_56 : A259 0 56 = (A256 0 56) := (hf261.2 56 rfl)
              have e_A262_56 : A262 0 56 = (A256 0 56) := by rw [hA262]; exact e_A259_56
              exact RET 1 _ _ _ _ _ ⟨hI, fr_def hA262 (fr.sf (fr.trans (fr.trans (fr.trans (fr.rf) hf238 rfl rfl) hf258 rfl rfl) hf261 rfl rfl) rfl), (CI.fr (CI.fr (CI.fr hc239 hf258 rfl rfl) hf261 rfl rfl) (fr_def hA262 (fr.sf (fr.rf (M := []) (N := [57])) rfl)) rfl rfl), ⟨by decide, Hd.mk (fun h0 => ⟨fun _ => ⟨by rw [show A262 0 57 = 0 by omega]; exact RI.op (x := 14) (r37 := A236 37) hj.1 hIj (by omega) (by decide) (hj.2.imp id (fun t => by rw [show rk 14 = 6 by decide]; exact t)) (fun _ _ => rfl) (fun h => absurd h (by rw [RI.nn hj.1 rfl]; decide)) ⟨ca269, ca272, ca275, ca278, ca281, ca284, (ca266.trans hw257.2), e_A262_46, (e_A262_47.trans e_A236_47.symm), (e_A262_53.trans e_A236_53.symm), (e_A262_54.trans e_A236_54.symm), (by omega)⟩ (by omega) (by omega) (LX.of ca264 e_A262_3 e_A262_4 e_A262_5 e_A262_7 hw260.out.2.2.1), (PR.fr (PR.fr (PR.fr (PR.fr hp2 hf238 rfl rfl) hf258 rfl rfl) hf261 rfl rfl) (fr_def hA262 (fr.sf (fr.rf (M := []) (N := [57])) rfl)) rfl rfl), by omega⟩, fun h => absurd h (by decide)⟩)⟩⟩ hP hS dX12_goesOn_174
