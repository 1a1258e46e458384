set_option maxHeartbeats 4000000 in
set_option maxRecDepth 100000 in
theorem mb_X12_goesOn_c314 (l : Launch) (dC : Nat → ClassId) (dI : Nat → Nat → Nat) (cB cI cJ cZ cQ : ClassId) (q : Nat → Nat) (A : St) (hI : IM A) (hp0 : RI 1 A) (hp1 : A 0 8 = 0) (hp2 : PR A) (hp3 : A 0 57 = 1) (hp4 : SP A) (hcCI : CI A) (p : Program) (e : Env) (s : State) (m : MethodId) (below : List Frame) (meth : Method) (c : Code) (Q : State → Prop) (AS : Nat → Prop) (hx : p.tables.exec = Jvm.exec) (hb : c.code = cX12_goesOn) (hml : c.maxLocals = 5) (hown : s.vm.findClass RX12 = some m.cls) (hts : ∀ w ∈ ws_mb_X12_goesOn, w.before [.ref (q 0)].toArray s = true) (hK : va_K (dC, dI) vwCl (tyA cB cI cJ cZ cQ) s) (hDD : ∀ A', va_D AS (WM cI cJ cZ q A')) (hA0 : ∀ b : Nat, s.heap.size ≤ b → AS b) (RET : ∀ (z : Int) (u : St) (H : Heap) (locs : List Loc) (pc : Nat) (ls : Array Slot), ((fun z u => r_X12_goesOn A z u ∧ IM u ∧ fr [33, 34, 35, 36, 37, 40] [3, 4, 5, 6, 7, 8, 9, 46, 53, 54, 56, 57] A u ∧ CI u ∧ ((0 ≤ z ∧ z ≤ 1) ∧ (Hd (u 0 8 = 0 → (z = 1 → RI (u 0 57) u ∧ (PR u ∧ SP u) ∧ A 0 4 + 1 ≤ u 0 4) ∧ (z = 0 → DP (u 33) (sA u) (1600 * u 0 47 + u 0 46) 1 ∧ CB u ∧ A 0 4 ≤ u 0 4))))) z u) → va_P (dC, dI) vwCl (WM cI cJ cZ q u) H → va_S AS s.heap H locs → decode cX12_goesOn pc = .ok (.ireturn, 1) → W p l e (headSpec ws_mb_X12_goesOn ({ frames := 2, cells := 0, slots := 0, locals := 47 } : Room)).room s m [.ref (q 0)].toArray below meth c H locs 0 0 Q (F0 m pc ls [.int (iI z)])) (H : Heap) (locs : List Loc) (ls : Array Slot) (z1 z2 : Int) (rz1 : (0 : Int) ≤ z1 ∧ z1 ≤ 5) (rz2 : (0 : Int) ≤ z2 ∧ z2 ≤ 1) (hz1 : z1 = A 35 ((A 0 53) - 1).toNat) (hs1 : A 0 3 = 1) (A443 : St) (hIv : IM A443) (hj442 : fr [] [8, 9] A A443) (hk6 : ∀ (z : Int) (u : St), (d_X12_goesOn_6 A z u z1 z2 A443) → r_X12_goesOn A z u) (hP : va_P (dC, dI) vwCl (WM cI cJ cZ q A443) H) (hS : va_S AS s.heap H locs) (hl : lv_has ls 5 [(0, .ref (q 0)), (1, .int (iI ((A 0 53) - 1))), (2, .int (iI z1)), (3, .int (iI z2))]) : W p l e (headSpec ws_mb_X12_goesOn ({ frames := 2, cells := 0, slots := 0, locals := 47 } : Room)).room s m [.ref (q 0)].toArray below meth c H locs 0 0 Q (F0 m 314 ls []) := by
  have hiX12 : ∀ w ∈ u_ws RX12 TX12 85, w ∈ ws_mb_X12_goesOn := fun w h => List.mem_cons_of_mem _ (wx_lay w h)
  have hI0 := hI
  have hdp := RI.deep hp0 hI0
  have hrm := RI.room hp0 hI0
  have r_A_0_3 : (0 : Int) ≤ (A 0 3) ∧ (A 0 3) ≤ 3 := hI 0 3
  have r_A_0_4 : (0 : Int) ≤ (A 0 4) ∧ (A 0 4) ≤ 1600 := hI 0 4
  have r_A_0_5 : (0 : Int) ≤ (A 0 5) ∧ (A 0 5) ≤ 1600 := hI 0 5
  have r_A_0_7 : (-9223372036854775808 : Int) ≤ (A 0 7) ∧ (A 0 7) ≤ 9223372036854775807 := hI 0 7
  have r_A_0_8 : (0 : Int) ≤ (A 0 8) ∧ (A 0 8) ≤ 5 := hI 0 8
  have r_A_0_46 : (0 : Int) ≤ (A 0 46) ∧ (A 0 46) ≤ 1600 := hI 0 46
  have r_A_0_47 : (0 : Int) ≤ (A 0 47) ∧ (A 0 47) ≤ 1 := hI 0 47
  have r_A_0_53 : (0 : Int) ≤ (A 0 53) ∧ (A 0 53) ≤ 20 := hI 0 53
  have r_A_0_54 : (0 : Int) ≤ (A 0 54) ∧ (A 0 54) ≤ 8 := hI 0 54
  have r_A_0_56 : (0 : Int) ≤ (A 0 56) ∧ (A 0 56) ≤ 500 := hI 0 56
  have hop := hp0.1
  have hI := hIv
  refine lv_aload_n hx hb (dk_at dkX12_goesOn_9 11 rfl) rfl (lv_at hl 0 rfl) ?_
  refine va_get (D := (dC, dI)) (ci := 12) (v := .int (iI (A443 0 8))) (C := RX12) (T := TX12) (N := 85) hx hb hts hiX12 hown hK hP 0 wm0 rfl 8 (by decide) (hts _ (List.mem_cons_of_mem _ (wl_in_0 _ (List.mem_of_getElem? (i := 16) rfl)))) (fun _ h9 => h9) rfl (dk_at dkX12_goesOn_9 12 rfl) ?_
  have r_A443_0_8 : (0 : Int) ≤ (A443 0 8) ∧ (A443 0 8) ≤ 5 := hI 0 8
  refine lv_if_le (tgt := 323) hx hb (dk_at dkX12_goesOn_9 13 rfl) (by decide) (fun c444 => ?_) (fun c444 => ?_)
  · have c444 : (A443 0 8) ≤ 0 := (i_le0 (rb r_A443_0_8 (by decide) (by decide))).mp c444
    refine lv_aload_n hx hb (dk_at dkX12_goesOn_10 0 rfl) rfl (lv_at hl 0 rfl) ?_
    refine lv_ldc2 (v := 6385252) hx hb hown (hts _ (List.mem_cons_of_mem _ (wl_in_1 _ (List.mem_of_getElem? (i := 1) rfl)))) (dk_at dkX12_goesOn_10 1 rfl) ?_
    refine tp_l (y := jI 6385252) (by decide +kernel) ?_
    have e_A443_3 : A443 0 3 = (A 0 3) := (hj442.2 3 rfl)
    have e_A443_7 : A443 0 7 = (A 0 7) := (hj442.2 7 rfl)
    refine x_calli (As := [.long (jI 6385252)]) (rest := []) ⟨hx, hb, hml, hown, hts⟩ (mb_X12_isWord l dC dI cB cI cJ cZ cQ q _ 6385252 hI ⟨by decide, by decide⟩) (cwV 1 hts (goodV (wl_in_1 _ (List.mem_of_getElem? (i := 59) rfl)) (wl_in_2 _ (List.mem_of_getElem? (i := 0) rfl)) (wl_in_2 _ (List.mem_of_getElem? (i := 1) rfl)) (wl_in_0 _ (List.mem_of_getElem? (i := 8) rfl)) (wl_in_0 _ (List.mem_of_getElem? (i := 35) rfl))) rfl rfl rfl (by decide +kernel) ⟨Nat.le_of_ble_eq_true rfl, Nat.le_of_ble_eq_true rfl⟩) hK hDD hA0 hP hS 0 12 wm0 rfl rfl hl.1 (Nat.le_of_ble_eq_true rfl) (dk_at dkX12_goesOn_10 2 rfl) (fun z445 A446 H locs hw447 hP hS => ?_)
    obtain ⟨rfl, hw447⟩ := hw447
    have ghw447 : q_X12_isWord 6385252 A443 z445 := hw447
    have hw447 := hw447.2
    have rz445 : 0 ≤ z445 ∧ z445 ≤ 1 := hw447.1
    replace hw447 := Hd.mk hw447.2
    refine lv_istore (lv' := [(4, .int (iI z445)), (0, .ref (q 0)), (1, .int (iI ((A 0 53) - 1))), (2, .int (iI z1)), (3, .int (iI z2))]) hx hb (dk_at dkX12_goesOn_10 3 rfl) hl (by decide) rfl (fun ls hl => ?_)
    refine lv_aload_n hx hb (dk_at dkX12_goesOn_10 4 rfl) rfl (lv_at hl 1 rfl) ?_
    refine lv_iload hx hb (dk_at dkX12_goesOn_10 5 rfl) (lv_at hl 0 rfl) ?_
    refine lv_if_eq (tgt := 342) hx hb (dk_at dkX12_goesOn_10 6 rfl) (by decide) (fun c448 => ?_) (fun c448 => ?_)
    · have c448 : z445 = 0 := (i_eq0 (rb rz445 (by decide) (by decide))).mp c448
      refine lv_iconst (v := iI 1) hx hb (dk_at dkX12_goesOn_10 9 rfl) (by decide +kernel) ?_
      refine x_callv (As := [.int (iI 1)]) (rest := []) ⟨hx, hb, hml, hown, hts⟩ (mb_X12_joins l dC dI cB cI cJ cZ cQ q _ 1 hI ⟨by decide, by decide⟩ (by exact (RI1.fr hp0 hj442 rfl rfl)) (CI.fr hcCI hj442 rfl rfl) (SP.fr hp4 hj442 rfl rfl)) (cwV 1 hts (goodV (wl_in_2 _ (List.mem_of_getElem? (i := 10) rfl)) (wl_in_2 _ (List.mem_of_getElem? (i := 11) rfl)) (wl_in_2 _ (List.mem_of_getElem? (i := 12) rfl)) (wl_in_0 _ (List.mem_of_getElem? (i := 8) rfl)) (wl_in_1 _ (List.mem_of_getElem? (i := 34) rfl))) rfl rfl rfl (by decide +kernel) ⟨Nat.le_of_ble_eq_true rfl, Nat.le_of_ble_eq_true rfl⟩) hK hDD hA0 hP hS 0 12 wm0 rfl rfl hl.1 (Nat.le_of_ble_eq_true rfl) (dk_at dkX12_goesOn_10 10 rfl) (fun A449 H locs hw450 hP hS => ?_)
      have ghw450 : q_X12_joins 1 A443 A449 := hw450
      obtain ⟨_, hI, hf451, hw450⟩ := hw450
      obtain ⟨hc452, hw450⟩ := hw450
      obtain ⟨hc453, hw450⟩ := hw450
      have e_A443_53 : A443 0 53 = (A 0 53) := (hj442.2 53 rfl)
      have e_A449_53 : A449 0 53 = (A 0 53) := (hf451.2 53 rfl).trans e_A443_53
      have r_A449_0_56 : (0 : Int) ≤ (A449 0 56) ∧ (A449 0 56) ≤ 500 := hI 0 56
      have hj1 := hw450.1
      have hj2 := Hd.mk hw450.2
      clear hw450
      have hIj := hI
      have hrj := RI.room hj1 hIj
      have e_A449_3 : A449 0 3 = (A 0 3) := (hf451.2 3 rfl).trans e_A443_3
      have e_A443_4 : A443 0 4 = (A 0 4) := (hj442.2 4 rfl)
      have e_A449_4 : A449 0 4 = (A 0 4) := (hf451.2 4 rfl).trans e_A443_4
      have e_A443_5 : A443 0 5 = (A 0 5) := (hj442.2 5 rfl)
      have e_A449_5 : A449 0 5 = (A 0 5) := (hf451.2 5 rfl).trans e_A443_5
      have e_A449_7 : A449 0 7 = (A 0 7) := (hf451.2 7 rfl).trans e_A443_7
      have e_A449_8 : A449 0 8 = (A443 0 8) := (hf451.2 8 rfl)
      have e_A443_47 : A443 0 47 = (A 0 47) := (hj442.2 47 rfl)
      have e_A449_47 : A449 0 47 = (A 0 47) := (hf451.2 47 rfl).trans e_A443_47
      have e_A443_54 : A443 0 54 = (A 0 54) := (hj442.2 54 rfl)
      have e_A449_54 : A449 0 54 = (A 0 54) := (hf451.2 54 rfl).trans e_A443_54
      have r_A449_0_46 : (0 : Int) ≤ (A449 0 46) ∧ (A449 0 46) ≤ 1600 := hI 0 46
      refine lv_aload_n hx hb (dk_at dkX12_goesOn_10 11 rfl) rfl (lv_at hl 1 rfl) ?_
      refine lv_iload hx hb (dk_at dkX12_goesOn_10 12 rfl) (lv_at hl 0 rfl) ?_
      refine lv_if_eq (tgt := 357) hx hb (dk_at dkX12_goesOn_10 13 rfl) (by decide) (fun _ => ?_) (fun c454 => False.elim (by have c454 : ¬ z445 = 0 := mt (i_eq0 (rb rz445 (by decide) (by decide))).mpr c454; omega))
      refine lv_bipush (v := iI 21) hx hb (dk_at dkX12_goesOn_11 0 rfl) (by decide +kernel) ?_
      refine x_callv (As := [.int (iI 21)]) (rest := []) ⟨hx, hb, hml, hown, hts⟩ (mb_X12_holdsBack l dC dI cB cI cJ cZ cQ q _ 21 hI ⟨by decide, by decide⟩ (by omega)) (cwV 1 hts (goodV (wl_in_2 _ (List.mem_of_getElem? (i := 2) rfl)) (wl_in_2 _ (List.mem_of_getElem? (i := 3) rfl)) (wl_in_2 _ (List.mem_of_getElem? (i := 4) rfl)) (wl_in_0 _ (List.mem_of_getElem? (i := 8) rfl)) (wl_in_1 _ (List.mem_of_getElem? (i := 44) rfl))) rfl rfl rfl (by decide +kernel) ⟨Nat.le_of_ble_eq_true rfl, Nat.le_of_ble_eq_true rfl⟩) hK hDD hA0 hP hS 0 12 wm0 rfl rfl hl.1 (Nat.le_of_ble_eq_true rfl) (dk_at dkX12_goesOn_11 1 rfl) (fun A455 H locs hw456 hP hS => ?_)
      have ghw456 : q_X12_holdsBack 21 A449 A455 := hw456
      obtain ⟨_, hI, hf457, hw456⟩ := hw456
      have r_A455_0_56 : (0 : Int) ≤ (A455 0 56) ∧ (A455 0 56) ≤ 500 := hI 0 56
      refine lv_aload_n hx hb (dk_at dkX12_goesOn_11 2 rfl) rfl (lv_at hl 1 rfl) ?_
      refine va_get (D := (dC, dI)) (ci := 12) (v := .ref (q 36)) (C := RX12) (T := TX12) (N := 85) hx hb hts hiX12 hown hK hP 0 wm0 rfl 49 (by decide) (hts _ (List.mem_cons_of_mem _ (wl_in_1 _ (List.mem_of_getElem? (i := 47) rfl)))) (fun _ h9 => h9) rfl (dk_at dkX12_goesOn_11 3 rfl) ?_
      refine lv_iload_n hx hb (dk_at dkX12_goesOn_11 4 rfl) rfl (lv_at hl 2 rfl) ?_
      refine lv_iconst (v := iI 0) hx hb (dk_at dkX12_goesOn_11 5 rfl) (by decide +kernel) ?_
      refine x_iast hx hb hK hP hDD hS 36 1 wm36 rfl (by omega) (by decide) (dk_at dkX12_goesOn_11 6 rfl) ws36 (fun H locs hP hS => ?_)
      have hI := hI.st (j := 36) (i := ((A 0 53) - 1).toNat) (v := 0) (show (0 : Int) ≤ 0 ∧ 0 ≤ 2 from (by omega))
      refine lv_aload_n hx hb (dk_at dkX12_goesOn_11 7 rfl) rfl (lv_at hl 1 rfl) ?_
      refine va_get (D := (dC, dI)) (ci := 12) (v := .ref (q 37)) (C := RX12) (T := TX12) (N := 85) hx hb hts hiX12 hown hK hP 0 wm0 rfl 50 (by decide) (hts _ (List.mem_cons_of_mem _ (wl_in_1 _ (List.mem_of_getElem? (i := 48) rfl)))) (fun _ h9 => h9) rfl (dk_at dkX12_goesOn_11 8 rfl) ?_
      refine lv_iload_n hx hb (dk_at dkX12_goesOn_11 9 rfl) rfl (lv_at hl 2 rfl) ?_
      refine lv_iconst (v := iI 1) hx hb (dk_at dkX12_goesOn_11 10 rfl) (by decide +kernel) ?_
      refine x_zast hx hb hK hP hDD hS 37 3 wm37 rfl (by omega) (by decide) (dk_at dkX12_goesOn_11 11 rfl) (by omega) ws37 (fun H locs hP hS => ?_)
      have hI := hI.st (j := 37) (i := ((A 0 53) - 1).toNat) (v := 1) (show (0 : Int) ≤ 1 ∧ 1 ≤ 1 from (by omega))
      refine lv_aload_n hx hb (dk_at dkX12_goesOn_11 12 rfl) rfl (lv_at hl 1 rfl) ?_
      obtain ⟨A458, hA458⟩ : ∃ A458 : St, A458 = (stA (stA A455 36 ((A 0 53) - 1).toNat 0) 37 ((A 0 53) - 1).toNat 1) := ⟨_, rfl⟩
      rw [← hA458] at hP hI
      have e_A455_4 : A455 0 4 = (A 0 4) := (hf457.2 4 rfl).trans e_A449_4
      have e_A458_4 : A458 0 4 = (A 0 4) := by rw [hA458]; exact e_A455_4
      have e_A455_5 : A455 0 5 = (A 0 5) := (hf457.2 5 rfl).trans e_A449_5
      have e_A458_5 : A458 0 5 = (A 0 5) := by rw [hA458]; exact e_A455_5
      have e_A455_8 : A455 0 8 = (A443 0 8) := (hf457.2 8 rfl).trans e_A449_8
      have e_A458_8 : A458 0 8 = (A443 0 8) := by rw [hA458]; exact e_A455_8
      refine x_callv (As := []) (rest := []) ⟨hx, hb, hml, hown, hts⟩ (mb_X12_ahead l dC dI cB cI cJ cZ cQ q _ hI) (cwV 0 hts (goodV (wl_in_0 _ (List.mem_of_getElem? (i := 40) rfl)) (wl_in_0 _ (List.mem_of_getElem? (i := 41) rfl)) (wl_in_0 _ (List.mem_of_getElem? (i := 42) rfl)) (wl_in_0 _ (List.mem_of_getElem? (i := 8) rfl)) (wl_in_0 _ (List.mem_of_getElem? (i := 20) rfl))) rfl rfl rfl (by decide +kernel) ⟨Nat.le_of_ble_eq_true rfl, Nat.le_of_ble_eq_true rfl⟩) hK hDD hA0 hP hS 0 12 wm0 rfl rfl hl.1 (Nat.le_of_ble_eq_true rfl) (dk_at dkX12_goesOn_11 13 rfl) (fun A459 H locs hw460 hP hS => ?_)
      have ghw460 : q_X12_ahead A458 A459 := hw460
      obtain ⟨_, hI, hf461, hw460⟩ := hw460
      have r_A459_0_3 : (0 : Int) ≤ (A459 0 3) ∧ (A459 0 3) ≤ 3 := hI 0 3
      have r_A459_0_4 : (0 : Int) ≤ (A459 0 4) ∧ (A459 0 4) ≤ 1600 := hI 0 4
      have r_A459_0_5 : (0 : Int) ≤ (A459 0 5) ∧ (A459 0 5) ≤ 1600 := hI 0 5
      have r_A459_0_8 : (0 : Int) ≤ (A459 0 8) ∧ (A459 0 8) ≤ 5 := hI 0 8
      have hw460x := hw460.1
      have hw460y := hw460.2.1
      replace hw460 := Hd.mk hw460
      refine lv_aload_n hx hb (dk_at dkX12_goesOn_11 14 rfl) rfl (lv_at hl 1 rfl) ?_
      refine lv_iconst (v := iI 0) hx hb (dk_at dkX12_goesOn_11 15 rfl) (by decide +kernel) ?_
      refine x_put (D := (dC, dI)) (ci := 12) (v := .int (iI 0)) (ty := .boolean) (C := RX12) (T := TX12) (N := 85) hx hb hts hiX12 tyX12 tyX12_ok nmX12 hown hK hP hDD hS 0 wm0 rfl 57 (by decide) (hts _ (List.mem_cons_of_mem _ (wl_in_2 _ (List.mem_of_getElem? (i := 9) rfl)))) (fun _ h9 => h9) rfl (by decide +kernel) (by decide +kernel) rfl (Nat.le_of_ble_eq_true rfl) (dk_at dkX12_goesOn_12 0 rfl) (wf57 (v := 0)) (fun H locs hP hS => ?_)
      have hI := hI.st (j := 0) (i := 57) (v := 0) (show (0 : Int) ≤ 0 ∧ 0 ≤ 1 from (by omega))
      refine lv_iconst (v := iI 1) hx hb (dk_at dkX12_goesOn_12 1 rfl) (by decide +kernel) ?_
      obtain ⟨A462, hA462⟩ : ∃ A462 : St, A462 = (stA A459 0 57 0) := ⟨_, rfl⟩
      rw [← hA462] at hP hI
      have e_A462_4 : A462 0 4 = (A459 0 4) := by rw [hA462]; exact rfl
      have e_A462_5 : A462 0 5 = (A459 0 5) := by rw [hA462]; exact rfl
      have e_A462_8 : A462 0 8 = (A459 0 8) := by rw [hA462]; exact rfl
      have e_A455_46 : A455 0 46 = (A449 0 46) := (hf457.2 46 rfl)
      have e_A458_46 : A458 0 46 = (A449 0 46) := by rw [hA458]; exact e_A455_46
      have e_A459_46 : A459 0 46 = (A449 0 46) := (hf461.2 46 rfl).trans e_A458_46
      have e_A462_46 : A462 0 46 = (A449 0 46) := by rw [hA462]; exact e_A459_46
      have e_A455_47 : A455 0 47 = (A 0 47) := (hf457.2 47 rfl).trans e_A449_47
      have e_A458_47 : A458 0 47 = (A 0 47) := by rw [hA458]; exact e_A455_47
      have e_A459_47 : A459 0 47 = (A 0 47) := (hf461.2 47 rfl).trans e_A458_47
      have e_A462_47 : A462 0 47 = (A 0 47) := by rw [hA462]; exact e_A459_47
      have e_A462_57 : A462 0 57 = 0 := by rw [hA462]; rfl
      have ca463 : A443 35 = A 35 := (hj442.1 35 (by decide) rfl)
      have ca464 : A449 35 = A 35 := (hf451.1 35 (by decide) rfl).trans ca463
      have ca465 : A462 1 = A459 1 := by rw [hA462]; exact rfl
      have e_A462_3 : A462 0 3 = (A459 0 3) := by rw [hA462]; exact rfl
      have e_A462_7 : A462 0 7 = (A459 0 7) := by rw [hA462]; exact rfl
      have hlt := RI.lt hp0 (by omega)
      have ca466 : A458 40 = A455 40 := by rw [hA458]; exact rfl
      have ca467 : A459 40 = A455 40 := (hf461.1 40 (by decide) rfl).trans ca466
      have ca468 : A462 40 = A455 40 := by rw [hA462]; exact ca467
      have ca469 : A455 37 = A449 37 := (hf457.1 37 (by decide) rfl)
      have e37 : A458 37 = up (A449 37) ((A 0 53) - 1).toNat 1 := by rw [hA458]; show up (A455 37) _ _ = _; rw [ca469]
      have ca470 : A459 37 = A458 37 := (hf461.1 37 (by decide) rfl)
      have ca471 : A462 37 = A458 37 := by rw [hA462]; exact ca470
      have e_A458_56 : A458 0 56 = (A455 0 56) := by rw [hA458]; exact rfl
      have e_A459_56 : A459 0 56 = (A455 0 56) := (hf461.2 56 rfl).trans e_A458_56
      have e_A462_56 : A462 0 56 = (A455 0 56) := by rw [hA462]; exact e_A459_56
      have ca472 : A455 29 = A449 29 := (hf457.1 29 (by decide) rfl)
      have ca473 : A458 29 = A449 29 := by rw [hA458]; exact ca472
      have ca474 : A459 29 = A449 29 := (hf461.1 29 (by decide) rfl).trans ca473
      have ca475 : A462 29 = A449 29 := by rw [hA462]; exact ca474
      have ca476 : A455 31 = A449 31 := (hf457.1 31 (by decide) rfl)
      have ca477 : A458 31 = A449 31 := by rw [hA458]; exact ca476
      have ca478 : A459 31 = A449 31 := (hf461.1 31 (by decide) rfl).trans ca477
      have ca479 : A462 31 = A449 31 := by rw [hA462]; exact ca478
      have ca480 : A455 33 = A449 33 := (hf457.1 33 (by decide) rfl)
      have ca481 : A458 33 = A449 33 := by rw [hA458]; exact ca480
      have ca482 : A459 33 = A449 33 := (hf461.1 33 (by decide) rfl).trans ca481
      have ca483 : A462 33 = A449 33 := by rw [hA462]; exact ca482
      have ca484 : A455 35 = A449 35 := (hf457.1 35 (by decide) rfl)
      have ca485 : A458 35 = A449 35 := by rw [hA458]; exact ca484
      have ca486 : A459 35 = A449 35 := (hf461.1 35 (by decide) rfl).trans ca485
      have ca487 : A462 35 = A449 35 := by rw [hA462]; exact ca486
      have ca488 : A455 39 = A449 39 := (hf457.1 39 (by decide) rfl)
      have ca489 : A458 39 = A449 39 := by rw [hA458]; exact ca488
      have ca490 : A459 39 = A449 39 := (hf461.1 39 (by decide) rfl).trans ca489
      have ca491 : A462 39 = A449 39 := by rw [hA462]; exact ca490
      have e_A455_53 : A455 0 53 = (A 0 53) := (hf457.2 53 rfl).trans e_A449_53
      have e_A458_53 : A458 0 53 = (A 0 53) := by rw [hA458]; exact e_A455_53
      have e_A459_53 : A459 0 53 = (A 0 53) := (hf461.2 53 rfl).trans e_A458_53
      have e_A462_53 : A462 0 53 = (A 0 53) := by rw [hA462]; exact e_A459_53
      have e_A455_54 : A455 0 54 = (A 0 54) := (hf457.2 54 rfl).trans e_A449_54
      have e_A458_54 : A458 0 54 = (A 0 54) := by rw [hA458]; exact e_A455_54
      have e_A459_54 : A459 0 54 = (A 0 54) := (hf461.2 54 rfl).trans e_A458_54
      have e_A462_54 : A462 0 54 = (A 0 54) := by rw [hA462]; exact e_A459_54
      have ca492 : A455 36 = A449 36 := (hf457.1 36 (by decide) rfl)
      have e36 : A458 36 = up (A449 36) ((A 0 53) - 1).toNat 0 := by rw [hA458]; show up (A455 36) _ _ = _; rw [ca492]
      have ca493 : A459 36 = A458 36 := (hf461.1 36 (by decide) rfl)
      have ca494 : A462 36 = A458 36 := by rw [hA462]; exact ca493
      have ca495 : A455 39 = A449 39 := (hf457.1 39 (by decide) rfl)
      have ca496 : A458 39 = A449 39 := by rw [hA458]; exact ca495
      have ca497 : A459 39 = A449 39 := (hf461.1 39 (by decide) rfl).trans ca496
      have ca498 : A462 39 = A449 39 := by rw [hA462]; exact ca497
      exact RET 1 _ _ _ _ _ ⟨hk6 _ _ (u_d_X12_goesOn_6 ⟨hIv, (Or.inl ⟨c444, ⟨z445, ghw447, (Or.inl ⟨c448, ⟨A449, ghw450, ⟨A455, ghw456, ⟨A458, hA458, ⟨A459, ghw460, ⟨A462, hA462, ⟨rfl, rfl⟩⟩⟩⟩⟩⟩⟩)⟩⟩)⟩), hI, fr_def hA462 (fr.sf (fr.trans (fr_def hA458 (fr.st (fr.st (fr.trans (fr.trans (fr.trans (fr.rf) hj442 rfl rfl) hf451 rfl rfl) hf457 rfl rfl) (by decide) rfl) (by decide) rfl)) hf461 rfl rfl) rfl), (CI.fr (CI.fr (CI.fr (CI.fr hc452 hf457 rfl rfl) (fr_def hA458 (fr.st (fr.st (fr.rf (M := [36, 37]) (N := [])) (by decide) rfl) (by decide) rfl)) rfl rfl) hf461 rfl rfl) (fr_def hA462 (fr.sf (fr.rf (M := []) (N := [57])) rfl)) rfl rfl), ⟨by decide, Hd.mk (fun h0 => ⟨fun _ => ⟨by rw [e_A462_57]; exact RI.op (x := 21) (r37 := up (A449 37) ((A 0 53) - 1).toNat 1) hj1 hIj (by rw [e_A449_3]; rw [hs1]; decide) (by decide) (hj2.out.imp id (fun t => by rw [show rk 21 = 1 by decide]; exact t)) (fun i hi => up_lo e_A449_53 hi) (fun _ => by decide) ⟨ca475, ca479, ca483, ca487, (ca471.trans e37), ca491, (ca468.trans hw456.2), e_A462_46, (e_A462_47.trans e_A449_47.symm), (e_A462_53.trans e_A449_53.symm), (e_A462_54.trans e_A449_54.symm), (e_A462_56.trans hw456.1)⟩ (by rw [← (e_A458_5.trans e_A449_5.symm), e_A462_4]; exact hw460x) (by rw [e_A462_4, e_A462_5]; exact hw460y) (LX.of ca465 e_A462_3 e_A462_4 e_A462_5 e_A462_7 hw460.out.2.2.1), ⟨(PR.fr (PR.fr (PR.fr (PR.fr (PR.fr (PR.fr hp2 hj442 rfl rfl) hf451 rfl rfl) hf457 rfl rfl) (fr_def hA458 (fr.st (fr.st (fr.rf (M := [36, 37]) (N := [])) (by decide) rfl) (by decide) rfl)) rfl rfl) hf461 rfl rfl) (fr_def hA462 (fr.sf (fr.rf (M := []) (N := [57])) rfl)) rfl rfl), SP.push (x := 21) (ph := 0) (r36 := up (A449 36) ((A 0 53) - 1).toNat 0) hc453 hIj hj1.2.1 (RI.deep hj1 hIj).1 (ca494.trans e36) (fun i hi => up_lo e_A449_53 hi) (by rw [e_A449_53, up_same]) ca498 (ca468.trans hw456.2) (e_A462_53.trans e_A449_53.symm) (e_A462_56.trans hw456.1) ((hj2.out.imp id (fun t => by rw [show rk 21 = 1 by decide]; exact t)).imp id Int.le_of_lt) (fun _ => ⟨by decide, Or.inr (by decide)⟩)⟩, by omega⟩, fun h => absurd h (by decide)⟩)⟩⟩ hP hS (dk_at dkX12_goesOn_12 2 rfl)
    · have c448 : ¬ z445 = 0 := mt (i_eq0 (rb rz445 (by decide) (by decide))).mpr c448
      have hw447b := hw447.out.mp (by omega)
      refine lv_iconst (v := iI 2) hx hb (dk_at dkX12_goesOn_10 7 rfl) (by decide +kernel) ?_
      refine lv_goto (tgt := 343) hx hb (dk_at dkX12_goesOn_10 8 rfl) (by decide) ?_
      refine x_callv (As := [.int (iI 2)]) (rest := []) ⟨hx, hb, hml, hown, hts⟩ (mb_X12_joins l dC dI cB cI cJ cZ cQ q _ 2 hI ⟨by decide, by decide⟩ (by exact (RI1.fr hp0 hj442 rfl rfl)) (CI.fr hcCI hj442 rfl rfl) (SP.fr hp4 hj442 rfl rfl)) (cwV 1 hts (goodV (wl_in_2 _ (List.mem_of_getElem? (i := 10) rfl)) (wl_in_2 _ (List.mem_of_getElem? (i := 11) rfl)) (wl_in_2 _ (List.mem_of_getElem? (i := 12) rfl)) (wl_in_0 _ (List.mem_of_getElem? (i := 8) rfl)) (wl_in_1 _ (List.mem_of_getElem? (i := 34) rfl))) rfl rfl rfl (by decide +kernel) ⟨Nat.le_of_ble_eq_true rfl, Nat.le_of_ble_eq_true rfl⟩) hK hDD hA0 hP hS 0 12 wm0 rfl rfl hl.1 (Nat.le_of_ble_eq_true rfl) (dk_at dkX12_goesOn_10 10 rfl) (fun A499 H locs hw500 hP hS => ?_)
      have ghw500 : q_X12_joins 2 A443 A499 := hw500
      obtain ⟨_, hI, hf501, hw500⟩ := hw500
      obtain ⟨hc502, hw500⟩ := hw500
      obtain ⟨hc503, hw500⟩ := hw500
      have e_A443_53 : A443 0 53 = (A 0 53) := (hj442.2 53 rfl)
      have e_A499_53 : A499 0 53 = (A 0 53) := (hf501.2 53 rfl).trans e_A443_53
      have r_A499_0_56 : (0 : Int) ≤ (A499 0 56) ∧ (A499 0 56) ≤ 500 := hI 0 56
      have hj1 := hw500.1
      have hj2 := Hd.mk hw500.2
      clear hw500
      have hIj := hI
      have hrj := RI.room hj1 hIj
      have e_A499_3 : A499 0 3 = (A 0 3) := (hf501.2 3 rfl).trans e_A443_3
      have e_A443_4 : A443 0 4 = (A 0 4) := (hj442.2 4 rfl)
      have e_A499_4 : A499 0 4 = (A 0 4) := (hf501.2 4 rfl).trans e_A443_4
      have e_A443_5 : A443 0 5 = (A 0 5) := (hj442.2 5 rfl)
      have e_A499_5 : A499 0 5 = (A 0 5) := (hf501.2 5 rfl).trans e_A443_5
      have e_A499_7 : A499 0 7 = (A 0 7) := (hf501.2 7 rfl).trans e_A443_7
      have e_A499_8 : A499 0 8 = (A443 0 8) := (hf501.2 8 rfl)
      have e_A443_47 : A443 0 47 = (A 0 47) := (hj442.2 47 rfl)
      have e_A499_47 : A499 0 47 = (A 0 47) := (hf501.2 47 rfl).trans e_A443_47
      have e_A443_54 : A443 0 54 = (A 0 54) := (hj442.2 54 rfl)
      have e_A499_54 : A499 0 54 = (A 0 54) := (hf501.2 54 rfl).trans e_A443_54
      have r_A499_0_46 : (0 : Int) ≤ (A499 0 46) ∧ (A499 0 46) ≤ 1600 := hI 0 46
      refine lv_aload_n hx hb (dk_at dkX12_goesOn_10 11 rfl) rfl (lv_at hl 1 rfl) ?_
      refine lv_iload hx hb (dk_at dkX12_goesOn_10 12 rfl) (lv_at hl 0 rfl) ?_
      refine lv_if_eq (tgt := 357) hx hb (dk_at dkX12_goesOn_10 13 rfl) (by decide) (fun c504 => False.elim (by have c504 : z445 = 0 := (i_eq0 (rb rz445 (by decide) (by decide))).mp c504; omega)) (fun _ => ?_)
      refine lv_bipush (v := iI 20) hx hb (dk_at dkX12_goesOn_10 14 rfl) (by decide +kernel) ?_
      refine lv_goto (tgt := 359) hx hb (dk_at dkX12_goesOn_10 15 rfl) (by decide) ?_
      refine x_callv (As := [.int (iI 20)]) (rest := []) ⟨hx, hb, hml, hown, hts⟩ (mb_X12_holdsBack l dC dI cB cI cJ cZ cQ q _ 20 hI ⟨by decide, by decide⟩ (by omega)) (cwV 1 hts (goodV (wl_in_2 _ (List.mem_of_getElem? (i := 2) rfl)) (wl_in_2 _ (List.mem_of_getElem? (i := 3) rfl)) (wl_in_2 _ (List.mem_of_getElem? (i := 4) rfl)) (wl_in_0 _ (List.mem_of_getElem? (i := 8) rfl)) (wl_in_1 _ (List.mem_of_getElem? (i := 44) rfl))) rfl rfl rfl (by decide +kernel) ⟨Nat.le_of_ble_eq_true rfl, Nat.le_of_ble_eq_true rfl⟩) hK hDD hA0 hP hS 0 12 wm0 rfl rfl hl.1 (Nat.le_of_ble_eq_true rfl) (dk_at dkX12_goesOn_11 1 rfl) (fun A505 H locs hw506 hP hS => ?_)
      have ghw506 : q_X12_holdsBack 20 A499 A505 := hw506
      obtain ⟨_, hI, hf507, hw506⟩ := hw506
      have r_A505_0_56 : (0 : Int) ≤ (A505 0 56) ∧ (A505 0 56) ≤ 500 := hI 0 56
      refine lv_aload_n hx hb (dk_at dkX12_goesOn_11 2 rfl) rfl (lv_at hl 1 rfl) ?_
      refine va_get (D := (dC, dI)) (ci := 12) (v := .ref (q 36)) (C := RX12) (T := TX12) (N := 85) hx hb hts hiX12 hown hK hP 0 wm0 rfl 49 (by decide) (hts _ (List.mem_cons_of_mem _ (wl_in_1 _ (List.mem_of_getElem? (i := 47) rfl)))) (fun _ h9 => h9) rfl (dk_at dkX12_goesOn_11 3 rfl) ?_
      refine lv_iload_n hx hb (dk_at dkX12_goesOn_11 4 rfl) rfl (lv_at hl 2 rfl) ?_
      refine lv_iconst (v := iI 0) hx hb (dk_at dkX12_goesOn_11 5 rfl) (by decide +kernel) ?_
      refine x_iast hx hb hK hP hDD hS 36 1 wm36 rfl (by omega) (by decide) (dk_at dkX12_goesOn_11 6 rfl) ws36 (fun H locs hP hS => ?_)
      have hI := hI.st (j := 36) (i := ((A 0 53) - 1).toNat) (v := 0) (show (0 : Int) ≤ 0 ∧ 0 ≤ 2 from (by omega))
      refine lv_aload_n hx hb (dk_at dkX12_goesOn_11 7 rfl) rfl (lv_at hl 1 rfl) ?_
      refine va_get (D := (dC, dI)) (ci := 12) (v := .ref (q 37)) (C := RX12) (T := TX12) (N := 85) hx hb hts hiX12 hown hK hP 0 wm0 rfl 50 (by decide) (hts _ (List.mem_cons_of_mem _ (wl_in_1 _ (List.mem_of_getElem? (i := 48) rfl)))) (fun _ h9 => h9) rfl (dk_at dkX12_goesOn_11 8 rfl) ?_
      refine lv_iload_n hx hb (dk_at dkX12_goesOn_11 9 rfl) rfl (lv_at hl 2 rfl) ?_
      refine lv_iconst (v := iI 1) hx hb (dk_at dkX12_goesOn_11 10 rfl) (by decide +kernel) ?_
      refine x_zast hx hb hK hP hDD hS 37 3 wm37 rfl (by omega) (by decide) (dk_at dkX12_goesOn_11 11 rfl) (by omega) ws37 (fun H locs hP hS => ?_)
      have hI := hI.st (j := 37) (i := ((A 0 53) - 1).toNat) (v := 1) (show (0 : Int) ≤ 1 ∧ 1 ≤ 1 from (by omega))
      refine lv_aload_n hx hb (dk_at dkX12_goesOn_11 12 rfl) rfl (lv_at hl 1 rfl) ?_
      obtain ⟨A508, hA508⟩ : ∃ A508 : St, A508 = (stA (stA A505 36 ((A 0 53) - 1).toNat 0) 37 ((A 0 53) - 1).toNat 1) := ⟨_, rfl⟩
      rw [← hA508] at hP hI
      have e_A505_4 : A505 0 4 = (A 0 4) := (hf507.2 4 rfl).trans e_A499_4
      have e_A508_4 : A508 0 4 = (A 0 4) := by rw [hA508]; exact e_A505_4
      have e_A505_5 : A505 0 5 = (A 0 5) := (hf507.2 5 rfl).trans e_A499_5
      have e_A508_5 : A508 0 5 = (A 0 5) := by rw [hA508]; exact e_A505_5
      have e_A505_8 : A505 0 8 = (A443 0 8) := (hf507.2 8 rfl).trans e_A499_8
      have e_A508_8 : A508 0 8 = (A443 0 8) := by rw [hA508]; exact e_A505_8
      refine x_callv (As := []) (rest := []) ⟨hx, hb, hml, hown, hts⟩ (mb_X12_ahead l dC dI cB cI cJ cZ cQ q _ hI) (cwV 0 hts (goodV (wl_in_0 _ (List.mem_of_getElem? (i := 40) rfl)) (wl_in_0 _ (List.mem_of_getElem? (i := 41) rfl)) (wl_in_0 _ (List.mem_of_getElem? (i := 42) rfl)) (wl_in_0 _ (List.mem_of_getElem? (i := 8) rfl)) (wl_in_0 _ (List.mem_of_getElem? (i := 20) rfl))) rfl rfl rfl (by decide +kernel) ⟨Nat.le_of_ble_eq_true rfl, Nat.le_of_ble_eq_true rfl⟩) hK hDD hA0 hP hS 0 12 wm0 rfl rfl hl.1 (Nat.le_of_ble_eq_true rfl) (dk_at dkX12_goesOn_11 13 rfl) (fun A509 H locs hw510 hP hS => ?_)
      have ghw510 : q_X12_ahead A508 A509 := hw510
      obtain ⟨_, hI, hf511, hw510⟩ := hw510
      have r_A509_0_3 : (0 : Int) ≤ (A509 0 3) ∧ (A509 0 3) ≤ 3 := hI 0 3
      have r_A509_0_4 : (0 : Int) ≤ (A509 0 4) ∧ (A509 0 4) ≤ 1600 := hI 0 4
      have r_A509_0_5 : (0 : Int) ≤ (A509 0 5) ∧ (A509 0 5) ≤ 1600 := hI 0 5
      have r_A509_0_8 : (0 : Int) ≤ (A509 0 8) ∧ (A509 0 8) ≤ 5 := hI 0 8
      have hw510x := hw510.1
      have hw510y := hw510.2.1
      replace hw510 := Hd.mk hw510
      refine lv_aload_n hx hb (dk_at dkX12_goesOn_11 14 rfl) rfl (lv_at hl 1 rfl) ?_
      refine lv_iconst (v := iI 0) hx hb (dk_at dkX12_goesOn_11 15 rfl) (by decide +kernel) ?_
      refine x_put (D := (dC, dI)) (ci := 12) (v := .int (iI 0)) (ty := .boolean) (C := RX12) (T := TX12) (N := 85) hx hb hts hiX12 tyX12 tyX12_ok nmX12 hown hK hP hDD hS 0 wm0 rfl 57 (by decide) (hts _ (List.mem_cons_of_mem _ (wl_in_2 _ (List.mem_of_getElem? (i := 9) rfl)))) (fun _ h9 => h9) rfl (by decide +kernel) (by decide +kernel) rfl (Nat.le_of_ble_eq_true rfl) (dk_at dkX12_goesOn_12 0 rfl) (wf57 (v := 0)) (fun H locs hP hS => ?_)
      have hI := hI.st (j := 0) (i := 57) (v := 0) (show (0 : Int) ≤ 0 ∧ 0 ≤ 1 from (by omega))
      refine lv_iconst (v := iI 1) hx hb (dk_at dkX12_goesOn_12 1 rfl) (by decide +kernel) ?_
      obtain ⟨A512, hA512⟩ : ∃ A512 : St, A512 = (stA A509 0 57 0) := ⟨_, rfl⟩
      rw [← hA512] at hP hI
      have e_A512_4 : A512 0 4 = (A509 0 4) := by rw [hA512]; exact rfl
      have e_A512_5 : A512 0 5 = (A509 0 5) := by rw [hA512]; exact rfl
      have e_A512_8 : A512 0 8 = (A509 0 8) := by rw [hA512]; exact rfl
      have e_A505_46 : A505 0 46 = (A499 0 46) := (hf507.2 46 rfl)
      have e_A508_46 : A508 0 46 = (A499 0 46) := by rw [hA508]; exact e_A505_46
      have e_A509_46 : A509 0 46 = (A499 0 46) := (hf511.2 46 rfl).trans e_A508_46
      have e_A512_46 : A512 0 46 = (A499 0 46) := by rw [hA512]; exact e_A509_46
      have e_A505_47 : A505 0 47 = (A 0 47) := (hf507.2 47 rfl).trans e_A499_47
      have e_A508_47 : A508 0 47 = (A 0 47) := by rw [hA508]; exact e_A505_47
      have e_A509_47 : A509 0 47 = (A 0 47) := (hf511.2 47 rfl).trans e_A508_47
      have e_A512_47 : A512 0 47 = (A 0 47) := by rw [hA512]; exact e_A509_47
      have e_A512_57 : A512 0 57 = 0 := by rw [hA512]; rfl
      have ca513 : A443 35 = A 35 := (hj442.1 35 (by decide) rfl)
      have ca514 : A499 35 = A 35 := (hf501.1 35 (by decide) rfl).trans ca513
      have ca515 : A512 1 = A509 1 := by rw [hA512]; exact rfl
      have e_A512_3 : A512 0 3 = (A509 0 3) := by rw [hA512]; exact rfl
      have e_A512_7 : A512 0 7 = (A509 0 7) := by rw [hA512]; exact rfl
      have hlt := RI.lt hp0 (by omega)
      have ca516 : A508 40 = A505 40 := by rw [hA508]; exact rfl
      have ca517 : A509 40 = A505 40 := (hf511.1 40 (by decide) rfl).trans ca516
      have ca518 : A512 40 = A505 40 := by rw [hA512]; exact ca517
      have ca519 : A505 37 = A499 37 := (hf507.1 37 (by decide) rfl)
      have e37 : A508 37 = up (A499 37) ((A 0 53) - 1).toNat 1 := by rw [hA508]; show up (A505 37) _ _ = _; rw [ca519]
      have ca520 : A509 37 = A508 37 := (hf511.1 37 (by decide) rfl)
      have ca521 : A512 37 = A508 37 := by rw [hA512]; exact ca520
      have e_A508_56 : A508 0 56 = (A505 0 56) := by rw [hA508]; exact rfl
      have e_A509_56 : A509 0 56 = (A505 0 56) := (hf511.2 56 rfl).trans e_A508_56
      have e_A512_56 : A512 0 56 = (A505 0 56) := by rw [hA512]; exact e_A509_56
      have ca522 : A505 29 = A499 29 := (hf507.1 29 (by decide) rfl)
      have ca523 : A508 29 = A499 29 := by rw [hA508]; exact ca522
      have ca524 : A509 29 = A499 29 := (hf511.1 29 (by decide) rfl).trans ca523
      have ca525 : A512 29 = A499 29 := by rw [hA512]; exact ca524
      have ca526 : A505 31 = A499 31 := (hf507.1 31 (by decide) rfl)
      have ca527 : A508 31 = A499 31 := by rw [hA508]; exact ca526
      have ca528 : A509 31 = A499 31 := (hf511.1 31 (by decide) rfl).trans ca527
      have ca529 : A512 31 = A499 31 := by rw [hA512]; exact ca528
      have ca530 : A505 33 = A499 33 := (hf507.1 33 (by decide) rfl)
      have ca531 : A508 33 = A499 33 := by rw [hA508]; exact ca530
      have ca532 : A509 33 = A499 33 := (hf511.1 33 (by decide) rfl).trans ca531
      have ca533 : A512 33 = A499 33 := by rw [hA512]; exact ca532
      have ca534 : A505 35 = A499 35 := (hf507.1 35 (by decide) rfl)
      have ca535 : A508 35 = A499 35 := by rw [hA508]; exact ca534
      have ca536 : A509 35 = A499 35 := (hf511.1 35 (by decide) rfl).trans ca535
      have ca537 : A512 35 = A499 35 := by rw [hA512]; exact ca536
      have ca538 : A505 39 = A499 39 := (hf507.1 39 (by decide) rfl)
      have ca539 : A508 39 = A499 39 := by rw [hA508]; exact ca538
      have ca540 : A509 39 = A499 39 := (hf511.1 39 (by decide) rfl).trans ca539
      have ca541 : A512 39 = A499 39 := by rw [hA512]; exact ca540
      have e_A505_53 : A505 0 53 = (A 0 53) := (hf507.2 53 rfl).trans e_A499_53
      have e_A508_53 : A508 0 53 = (A 0 53) := by rw [hA508]; exact e_A505_53
      have e_A509_53 : A509 0 53 = (A 0 53) := (hf511.2 53 rfl).trans e_A508_53
      have e_A512_53 : A512 0 53 = (A 0 53) := by rw [hA512]; exact e_A509_53
      have e_A505_54 : A505 0 54 = (A 0 54) := (hf507.2 54 rfl).trans e_A499_54
      have e_A508_54 : A508 0 54 = (A 0 54) := by rw [hA508]; exact e_A505_54
      have e_A509_54 : A509 0 54 = (A 0 54) := (hf511.2 54 rfl).trans e_A508_54
      have e_A512_54 : A512 0 54 = (A 0 54) := by rw [hA512]; exact e_A509_54
      have ca542 : A505 36 = A499 36 := (hf507.1 36 (by decide) rfl)
      have e36 : A508 36 = up (A499 36) ((A 0 53) - 1).toNat 0 := by rw [hA508]; show up (A505 36) _ _ = _; rw [ca542]
      have ca543 : A509 36 = A508 36 := (hf511.1 36 (by decide) rfl)
      have ca544 : A512 36 = A508 36 := by rw [hA512]; exact ca543
      have ca545 : A505 39 = A499 39 := (hf507.1 39 (by decide) rfl)
      have ca546 : A508 39 = A499 39 := by rw [hA508]; exact ca545
      have ca547 : A509 39 = A499 39 := (hf511.1 39 (by decide) rfl).trans ca546
      have ca548 : A512 39 = A499 39 := by rw [hA512]; exact ca547
      exact RET 1 _ _ _ _ _ ⟨hk6 _ _ (u_d_X12_goesOn_6 ⟨hIv, (Or.inl ⟨c444, ⟨z445, ghw447, (Or.inr ⟨c448, ⟨A499, ghw500, ⟨A505, ghw506, ⟨A508, hA508, ⟨A509, ghw510, ⟨A512, hA512, ⟨rfl, rfl⟩⟩⟩⟩⟩⟩⟩)⟩⟩)⟩), hI, fr_def hA512 (fr.sf (fr.trans (fr_def hA508 (fr.st (fr.st (fr.trans (fr.trans (fr.trans (fr.rf) hj442 rfl rfl) hf501 rfl rfl) hf507 rfl rfl) (by decide) rfl) (by decide) rfl)) hf511 rfl rfl) rfl), (CI.fr (CI.fr (CI.fr (CI.fr hc502 hf507 rfl rfl) (fr_def hA508 (fr.st (fr.st (fr.rf (M := [36, 37]) (N := [])) (by decide) rfl) (by decide) rfl)) rfl rfl) hf511 rfl rfl) (fr_def hA512 (fr.sf (fr.rf (M := []) (N := [57])) rfl)) rfl rfl), ⟨by decide, Hd.mk (fun h0 => ⟨fun _ => ⟨by rw [e_A512_57]; exact RI.op (x := 20) (r37 := up (A499 37) ((A 0 53) - 1).toNat 1) hj1 hIj (by rw [e_A499_3]; rw [hs1]; decide) (by decide) (hj2.out.imp id (fun t => by rw [show rk 20 = 2 by decide]; exact t)) (fun i hi => up_lo e_A499_53 hi) (fun _ => by decide) ⟨ca525, ca529, ca533, ca537, (ca521.trans e37), ca541, (ca518.trans hw506.2), e_A512_46, (e_A512_47.trans e_A499_47.symm), (e_A512_53.trans e_A499_53.symm), (e_A512_54.trans e_A499_54.symm), (e_A512_56.trans hw506.1)⟩ (by rw [← (e_A508_5.trans e_A499_5.symm), e_A512_4]; exact hw510x) (by rw [e_A512_4, e_A512_5]; exact hw510y) (LX.of ca515 e_A512_3 e_A512_4 e_A512_5 e_A512_7 hw510.out.2.2.1), ⟨(PR.fr (PR.fr (PR.fr (PR.fr (PR.fr (PR.fr hp2 hj442 rfl rfl) hf501 rfl rfl) hf507 rfl rfl) (fr_def hA508 (fr.st (fr.st (fr.rf (M := [36, 37]) (N := [])) (by decide) rfl) (by decide) rfl)) rfl rfl) hf511 rfl rfl) (fr_def hA512 (fr.sf (fr.rf (M := []) (N := [57])) rfl)) rfl rfl), SP.push (x := 20) (ph := 0) (r36 := up (A499 36) ((A 0 53) - 1).toNat 0) hc503 hIj hj1.2.1 (RI.deep hj1 hIj).1 (ca544.trans e36) (fun i hi => up_lo e_A499_53 hi) (by rw [e_A499_53, up_same]) ca548 (ca518.trans hw506.2) (e_A512_53.trans e_A499_53.symm) (e_A512_56.trans hw506.1) ((hj2.out.imp id (fun t => by rw [show rk 20 = 2 by decide]; exact t)).imp id Int.le_of_lt) (fun _ => ⟨by decide, Or.inr (by decide)⟩)⟩, by omega⟩, fun h => absurd h (by decide)⟩)⟩⟩ hP hS (dk_at dkX12_goesOn_12 2 rfl)
  · have c444 : ¬ (A443 0 8) ≤ 0 := mt (i_le0 (rb r_A443_0_8 (by decide) (by decide))).mpr c444
    refine lv_iconst (v := iI 0) hx hb (dk_at dkX12_goesOn_9 14 rfl) (by decide +kernel) ?_
    have e_A443_4 : A443 0 4 = (A 0 4) := (hj442.2 4 rfl)
    have e_A443_5 : A443 0 5 = (A 0 5) := (hj442.2 5 rfl)
    have e_A443_46 : A443 0 46 = (A 0 46) := (hj442.2 46 rfl)
    have e_A443_47 : A443 0 47 = (A 0 47) := (hj442.2 47 rfl)
    have e_A443_57 : A443 0 57 = (A 0 57) := (hj442.2 57 rfl)
    have r_A_0_57 : (0 : Int) ≤ (A 0 57) ∧ (A 0 57) ≤ 1 := by rw [← e_A443_57]; exact hI 0 57
    exact RET 0 _ _ _ _ _ ⟨hk6 _ _ (u_d_X12_goesOn_6 ⟨hIv, (Or.inr ⟨c444, ⟨rfl, rfl⟩⟩)⟩), hI, fr.trans (fr.rf) hj442 rfl rfl, (CI.fr hcCI hj442 rfl rfl), ⟨by decide, Hd.mk (fun h => absurd h (by omega))⟩⟩ hP hS (dk_at dkX12_goesOn_9 15 rfl)
set_option maxHeartbeats 4000000 in
set_option maxRecDepth 100000 in
theorem mb_X12_goesOn_c296 (l : Launch) (dC : Nat → ClassId) (dI : Nat → Nat → Nat) (cB cI cJ cZ cQ : ClassId) (q : Nat → Nat) (A : St) (hI : IM A) (hp0 : RI 1 A) (hp1 : A 0 8 = 0) (hp2 : PR A) (hp3 : A 0 57 = 1) (hp4 : SP A) (hcCI : CI A) (p : Program) (e : Env) (s : State) (m : MethodId) (below : List Frame) (meth : Method) (c : Code) (Q : State → Prop) (AS : Nat → Prop) (hx : p.tables.exec = Jvm.exec) (hb : c.code = cX12_goesOn) (hml : c.maxLocals = 5) (hown : s.vm.findClass RX12 = some m.cls) (hts : ∀ w ∈ ws_mb_X12_goesOn, w.before [.ref (q 0)].toArray s = true) (hK : va_K (dC, dI) vwCl (tyA cB cI cJ cZ cQ) s) (hDD : ∀ A', va_D AS (WM cI cJ cZ q A')) (hA0 : ∀ b : Nat, s.heap.size ≤ b → AS b) (RET : ∀ (z : Int) (u : St) (H : Heap) (locs : List Loc) (pc : Nat) (ls : Array Slot), ((fun z u => r_X12_goesOn A z u ∧ IM u ∧ fr [33, 34, 35, 36, 37, 40] [3, 4, 5, 6, 7, 8, 9, 46, 53, 54, 56, 57] A u ∧ CI u ∧ ((0 ≤ z ∧ z ≤ 1) ∧ (Hd (u 0 8 = 0 → (z = 1 → RI (u 0 57) u ∧ (PR u ∧ SP u) ∧ A 0 4 + 1 ≤ u 0 4) ∧ (z = 0 → DP (u 33) (sA u) (1600 * u 0 47 + u 0 46) 1 ∧ CB u ∧ A 0 4 ≤ u 0 4))))) z u) → va_P (dC, dI) vwCl (WM cI cJ cZ q u) H → va_S AS s.heap H locs → decode cX12_goesOn pc = .ok (.ireturn, 1) → W p l e (headSpec ws_mb_X12_goesOn ({ frames := 2, cells := 0, slots := 0, locals := 47 } : Room)).room s m [.ref (q 0)].toArray below meth c H locs 0 0 Q (F0 m pc ls [.int (iI z)])) (H : Heap) (locs : List Loc) (ls : Array Slot) (z1 z2 : Int) (rz1 : (0 : Int) ≤ z1 ∧ z1 ≤ 5) (rz2 : (0 : Int) ≤ z2 ∧ z2 ≤ 1) (hz1 : z1 = A 35 ((A 0 53) - 1).toNat) (hs1 : A 0 3 = 1) (hk5 : ∀ (z : Int) (u : St), (d_X12_goesOn_5 A z u z1 z2) → r_X12_goesOn A z u) (hP : va_P (dC, dI) vwCl (WM cI cJ cZ q A) H) (hS : va_S AS s.heap H locs) (hl : lv_has ls 5 [(0, .ref (q 0)), (1, .int (iI ((A 0 53) - 1))), (2, .int (iI z1)), (3, .int (iI z2))]) : W p l e (headSpec ws_mb_X12_goesOn ({ frames := 2, cells := 0, slots := 0, locals := 47 } : Room)).room s m [.ref (q 0)].toArray below meth c H locs 0 0 Q (F0 m 296 ls []) := by
  have hiX12 : ∀ w ∈ u_ws RX12 TX12 85, w ∈ ws_mb_X12_goesOn := fun w h => List.mem_cons_of_mem _ (wx_lay w h)
  have hI0 := hI
  have hdp := RI.deep hp0 hI0
  have hrm := RI.room hp0 hI0
  have r_A_0_3 : (0 : Int) ≤ (A 0 3) ∧ (A 0 3) ≤ 3 := hI 0 3
  have r_A_0_4 : (0 : Int) ≤ (A 0 4) ∧ (A 0 4) ≤ 1600 := hI 0 4
  have r_A_0_5 : (0 : Int) ≤ (A 0 5) ∧ (A 0 5) ≤ 1600 := hI 0 5
  have r_A_0_7 : (-9223372036854775808 : Int) ≤ (A 0 7) ∧ (A 0 7) ≤ 9223372036854775807 := hI 0 7
  have r_A_0_8 : (0 : Int) ≤ (A 0 8) ∧ (A 0 8) ≤ 5 := hI 0 8
  have r_A_0_46 : (0 : Int) ≤ (A 0 46) ∧ (A 0 46) ≤ 1600 := hI 0 46
  have r_A_0_47 : (0 : Int) ≤ (A 0 47) ∧ (A 0 47) ≤ 1 := hI 0 47
  have r_A_0_53 : (0 : Int) ≤ (A 0 53) ∧ (A 0 53) ≤ 20 := hI 0 53
  have r_A_0_54 : (0 : Int) ≤ (A 0 54) ∧ (A 0 54) ≤ 8 := hI 0 54
  have r_A_0_56 : (0 : Int) ≤ (A 0 56) ∧ (A 0 56) ≤ 500 := hI 0 56
  have hop := hp0.1
  refine lv_aload_n hx hb (dk_at dkX12_goesOn_9 1 rfl) rfl (lv_at hl 0 rfl) ?_
  refine va_get (D := (dC, dI)) (ci := 12) (v := .ref (q 36)) (C := RX12) (T := TX12) (N := 85) hx hb hts hiX12 hown hK hP 0 wm0 rfl 49 (by decide) (hts _ (List.mem_cons_of_mem _ (wl_in_1 _ (List.mem_of_getElem? (i := 47) rfl)))) (fun _ h9 => h9) rfl (dk_at dkX12_goesOn_9 2 rfl) ?_
  refine lv_iload_n hx hb (dk_at dkX12_goesOn_9 3 rfl) rfl (lv_at hl 1 rfl) ?_
  refine x_iald hx hb hK hP 36 1 wm36 rfl (by omega) (by decide) (dk_at dkX12_goesOn_9 4 rfl) (fun z436 hz436 => ?_)
  have rz436 : (0 : Int) ≤ z436 ∧ z436 ≤ 2 := by rw [hz436]; exact hI 36 _
  have gz436 := Hd.mk hz436
  have hz436 : z436 = A 36 ((A 0 53) - 1).toNat := hz436
  refine lv_if_ne (tgt := 314) hx hb (dk_at dkX12_goesOn_9 5 rfl) (by decide) (fun c437 => ?_) (fun c437 => ?_)
  · have c437 : ¬ z436 = 0 := mt (i_eq0 (rb rz436 (by decide) (by decide))).mpr c437
    exact mb_X12_goesOn_c314 l dC dI cB cI cJ cZ cQ q A hI0 hp0 hp1 hp2 hp3 hp4 hcCI p e s m below meth c Q AS hx hb hml hown hts hK hDD hA0 RET _ _ _ z1 z2 (by omega) (by omega) hz1 (by omega) _ hI (fr.rf) (fun zq uq hq => hk5 _ _ (u_d_X12_goesOn_5 ⟨z436, gz436.out, (Or.inl ⟨c437, hq⟩)⟩)) hP hS (lv_sub hl [0, 1, 2, 3] rfl)
  · have c437 : z436 = 0 := (i_eq0 (rb rz436 (by decide) (by decide))).mp c437
    refine lv_aload_n hx hb (dk_at dkX12_goesOn_9 6 rfl) rfl (lv_at hl 0 rfl) ?_
    refine lv_iconst (v := iI 1) hx hb (dk_at dkX12_goesOn_9 7 rfl) (by decide +kernel) ?_
    refine lv_aload_n hx hb (dk_at dkX12_goesOn_9 8 rfl) rfl (lv_at hl 0 rfl) ?_
    refine va_get (D := (dC, dI)) (ci := 12) (v := .int (iI (A 0 4))) (C := RX12) (T := TX12) (N := 85) hx hb hts hiX12 hown hK hP 0 wm0 rfl 4 (by decide) (hts _ (List.mem_cons_of_mem _ (wl_in_0 _ (List.mem_of_getElem? (i := 23) rfl)))) (fun _ h9 => h9) rfl (dk_at dkX12_goesOn_9 9 rfl) ?_
    refine x_callv (As := [.int (iI 1), .int (iI (A 0 4))]) (rest := []) ⟨hx, hb, hml, hown, hts⟩ (mc_X12_blame l dC dI cB cI cJ cZ cQ q _ 1 (A 0 4) hI ⟨by decide, by decide⟩ r_A_0_4) (cwV 2 hts (goodV (wl_in_0 _ (List.mem_of_getElem? (i := 31) rfl)) (wl_in_0 _ (List.mem_of_getElem? (i := 32) rfl)) (wl_in_0 _ (List.mem_of_getElem? (i := 33) rfl)) (wl_in_0 _ (List.mem_of_getElem? (i := 8) rfl)) (wl_in_0 _ (List.mem_of_getElem? (i := 15) rfl))) rfl rfl rfl (by decide +kernel) ⟨Nat.le_of_ble_eq_true rfl, Nat.le_of_ble_eq_true rfl⟩) hK hDD hA0 hP hS 0 12 wm0 rfl rfl hl.1 (Nat.le_of_ble_eq_true rfl) (dk_at dkX12_goesOn_9 10 rfl) (fun A439 H locs hw440 hP hS => ?_)
    have ghw440 : q_X12_blame 1 (A 0 4) A A439 := hw440
    obtain ⟨_, hI, hf441, hw440⟩ := hw440
    have r_A439_0_8 : (0 : Int) ≤ (A439 0 8) ∧ (A439 0 8) ≤ 5 := hI 0 8
    exact mb_X12_goesOn_c314 l dC dI cB cI cJ cZ cQ q A hI0 hp0 hp1 hp2 hp3 hp4 hcCI p e s m below meth c Q AS hx hb hml hown hts hK hDD hA0 RET _ _ _ z1 z2 (by omega) (by omega) hz1 (by omega) _ hI (fr.trans (fr.rf) hf441 rfl rfl) (fun zq uq hq => hk5 _ _ (u_d_X12_goesOn_5 ⟨z436, gz436.out, (Or.inr ⟨c437, ⟨A439, ghw440, hq⟩⟩)⟩)) hP hS (lv_sub hl [0, 1, 2, 3] rfl)
set_option maxHeartbeats 4000000 in
set_option maxRecDepth 100000 in
theorem mb_X12_goesOn_c511 (l : Launch) (dC : Nat → ClassId) (dI : Nat → Nat → Nat) (cB cI cJ cZ cQ : ClassId) (q : Nat → Nat) (A : St) (hI : IM A) (hp0 : RI 1 A) (hp1 : A 0 8 = 0) (hp2 : PR A) (hp3 : A 0 57 = 1) (hp4 : SP A) (hcCI : CI A) (p : Program) (e : Env) (s : State) (m : MethodId) (below : List Frame) (meth : Method) (c : Code) (Q : State → Prop) (AS : Nat → Prop) (hx : p.tables.exec = Jvm.exec) (hb : c.code = cX12_goesOn) (hml : c.maxLocals = 5) (hown : s.vm.findClass RX12 = some m.cls) (hts : ∀ w ∈ ws_mb_X12_goesOn, w.before [.ref (q 0)].toArray s = true) (hK : va_K (dC, dI) vwCl (tyA cB cI cJ cZ cQ) s) (hDD : ∀ A', va_D AS (WM cI cJ cZ q A')) (hA0 : ∀ b : Nat, s.heap.size ≤ b → AS b) (RET : ∀ (z : Int) (u : St) (H : Heap) (locs : List Loc) (pc : Nat) (ls : Array Slot), ((fun z u => r_X12_goesOn A z u ∧ IM u ∧ fr [33, 34, 35, 36, 37, 40] [3, 4, 5, 6, 7, 8, 9, 46, 53, 54, 56, 57] A u ∧ CI u ∧ ((0 ≤ z ∧ z ≤ 1) ∧ (Hd (u 0 8 = 0 → (z = 1 → RI (u 0 57) u ∧ (PR u ∧ SP u) ∧ A 0 4 + 1 ≤ u 0 4) ∧ (z = 0 → DP (u 33) (sA u) (1600 * u 0 47 + u 0 46) 1 ∧ CB u ∧ A 0 4 ≤ u 0 4))))) z u) → va_P (dC, dI) vwCl (WM cI cJ cZ q u) H → va_S AS s.heap H locs → decode cX12_goesOn pc = .ok (.ireturn, 1) → W p l e (headSpec ws_mb_X12_goesOn ({ frames := 2, cells := 0, slots := 0, locals := 47 } : Room)).room s m [.ref (q 0)].toArray below meth c H locs 0 0 Q (F0 m pc ls [.int (iI z)])) (H : Heap) (locs : List Loc) (ls : Array Slot) (z1 : Int) (rz1 : (2 : Int) ≤ z1 ∧ z1 ≤ 5) (hz1 : z1 = A 35 ((A 0 53) - 1).toNat) (A576 : St) (hIv : IM A576) (hj575 : fr [] [8, 9] A A576) (f577 : Hd ((A576 0 8) = 0 → (A576 0 3) = 3)) (hk10 : ∀ (z : Int) (u : St), (d_X12_goesOn_10 A z u z1 A576) → r_X12_goesOn A z u) (hP : va_P (dC, dI) vwCl (WM cI cJ cZ q A576) H) (hS : va_S AS s.heap H locs) (hl : lv_has ls 5 [(0, .ref (q 0)), (1, .int (iI ((A 0 53) - 1))), (2, .int (iI z1))]) : W p l e (headSpec ws_mb_X12_goesOn ({ frames := 2, cells := 0, slots := 0, locals := 47 } : Room)).room s m [.ref (q 0)].toArray below meth c H locs 0 0 Q (F0 m 511 ls []) := by
  have hiX12 : ∀ w ∈ u_ws RX12 TX12 85, w ∈ ws_mb_X12_goesOn := fun w h => List.mem_cons_of_mem _ (wx_lay w h)
  have hI0 := hI
  have hdp := RI.deep hp0 hI0
  have hrm := RI.room hp0 hI0
  have r_A_0_3 : (0 : Int) ≤ (A 0 3) ∧ (A 0 3) ≤ 3 := hI 0 3
  have r_A_0_4 : (0 : Int) ≤ (A 0 4) ∧ (A 0 4) ≤ 1600 := hI 0 4
  have r_A_0_5 : (0 : Int) ≤ (A 0 5) ∧ (A 0 5) ≤ 1600 := hI 0 5
  have r_A_0_7 : (-9223372036854775808 : Int) ≤ (A 0 7) ∧ (A 0 7) ≤ 9223372036854775807 := hI 0 7
  have r_A_0_8 : (0 : Int) ≤ (A 0 8) ∧ (A 0 8) ≤ 5 := hI 0 8
  have r_A_0_46 : (0 : Int) ≤ (A 0 46) ∧ (A 0 46) ≤ 1600 := hI 0 46
  have r_A_0_47 : (0 : Int) ≤ (A 0 47) ∧ (A 0 47) ≤ 1 := hI 0 47
  have r_A_0_53 : (0 : Int) ≤ (A 0 53) ∧ (A 0 53) ≤ 20 := hI 0 53
  have r_A_0_54 : (0 : Int) ≤ (A 0 54) ∧ (A 0 54) ≤ 8 := hI 0 54
  have r_A_0_56 : (0 : Int) ≤ (A 0 56) ∧ (A 0 56) ≤ 500 := hI 0 56
  have hop := hp0.1
  have hI := hIv
  refine lv_aload_n hx hb (dk_at dkX12_goesOn_16 8 rfl) rfl (lv_at hl 0 rfl) ?_
  refine va_get (D := (dC, dI)) (ci := 12) (v := .int (iI (A576 0 8))) (C := RX12) (T := TX12) (N := 85) hx hb hts hiX12 hown hK hP 0 wm0 rfl 8 (by decide) (hts _ (List.mem_cons_of_mem _ (wl_in_0 _ (List.mem_of_getElem? (i := 16) rfl)))) (fun _ h9 => h9) rfl (dk_at dkX12_goesOn_16 9 rfl) ?_
  have r_A576_0_8 : (0 : Int) ≤ (A576 0 8) ∧ (A576 0 8) ≤ 5 := hI 0 8
  refine lv_if_le (tgt := 520) hx hb (dk_at dkX12_goesOn_16 10 rfl) (by decide) (fun c578 => ?_) (fun c578 => ?_)
  · have c578 : (A576 0 8) ≤ 0 := (i_le0 (rb r_A576_0_8 (by decide) (by decide))).mp c578
    have hD2 := RI.two hp0 hI0 (by rw [← hz1]; omega)
    refine lv_aload_n hx hb (dk_at dkX12_goesOn_16 13 rfl) rfl (lv_at hl 0 rfl) ?_
    refine lv_iconst (v := iI 1) hx hb (dk_at dkX12_goesOn_16 14 rfl) (by decide +kernel) ?_
    refine x_callv (As := [.int (iI 1)]) (rest := []) ⟨hx, hb, hml, hown, hts⟩ (mb_X12_joins l dC dI cB cI cJ cZ cQ q _ 1 hI ⟨by decide, by decide⟩ (by exact (RI1.fr hp0 hj575 rfl rfl)) (CI.fr hcCI hj575 rfl rfl) (SP.fr hp4 hj575 rfl rfl)) (cwV 1 hts (goodV (wl_in_2 _ (List.mem_of_getElem? (i := 10) rfl)) (wl_in_2 _ (List.mem_of_getElem? (i := 11) rfl)) (wl_in_2 _ (List.mem_of_getElem? (i := 12) rfl)) (wl_in_0 _ (List.mem_of_getElem? (i := 8) rfl)) (wl_in_1 _ (List.mem_of_getElem? (i := 34) rfl))) rfl rfl rfl (by decide +kernel) ⟨Nat.le_of_ble_eq_true rfl, Nat.le_of_ble_eq_true rfl⟩) hK hDD hA0 hP hS 0 12 wm0 rfl rfl hl.1 (Nat.le_of_ble_eq_true rfl) (dk_at dkX12_goesOn_16 15 rfl) (fun A579 H locs hw580 hP hS => ?_)
    have ghw580 : q_X12_joins 1 A576 A579 := hw580
    obtain ⟨_, hI, hf581, hw580⟩ := hw580
    obtain ⟨hc582, hw580⟩ := hw580
    obtain ⟨hc583, hw580⟩ := hw580
    have e_A576_53 : A576 0 53 = (A 0 53) := (hj575.2 53 rfl)
    have e_A579_53 : A579 0 53 = (A 0 53) := (hf581.2 53 rfl).trans e_A576_53
    have r_A579_0_56 : (0 : Int) ≤ (A579 0 56) ∧ (A579 0 56) ≤ 500 := hI 0 56
    have hj1 := hw580.1
    have hj2 := Hd.mk hw580.2
    clear hw580
    have hIj := hI
    have hrj := RI.room hj1 hIj
    have e_A576_3 : A576 0 3 = (A 0 3) := (hj575.2 3 rfl)
    have e_A579_3 : A579 0 3 = (A 0 3) := (hf581.2 3 rfl).trans e_A576_3
    have e_A576_4 : A576 0 4 = (A 0 4) := (hj575.2 4 rfl)
    have e_A579_4 : A579 0 4 = (A 0 4) := (hf581.2 4 rfl).trans e_A576_4
    have e_A576_5 : A576 0 5 = (A 0 5) := (hj575.2 5 rfl)
    have e_A579_5 : A579 0 5 = (A 0 5) := (hf581.2 5 rfl).trans e_A576_5
    have e_A576_7 : A576 0 7 = (A 0 7) := (hj575.2 7 rfl)
    have e_A579_7 : A579 0 7 = (A 0 7) := (hf581.2 7 rfl).trans e_A576_7
    have e_A579_8 : A579 0 8 = (A576 0 8) := (hf581.2 8 rfl)
    have e_A576_47 : A576 0 47 = (A 0 47) := (hj575.2 47 rfl)
    have e_A579_47 : A579 0 47 = (A 0 47) := (hf581.2 47 rfl).trans e_A576_47
    have e_A576_54 : A576 0 54 = (A 0 54) := (hj575.2 54 rfl)
    have e_A579_54 : A579 0 54 = (A 0 54) := (hf581.2 54 rfl).trans e_A576_54
    have r_A579_0_46 : (0 : Int) ≤ (A579 0 46) ∧ (A579 0 46) ≤ 1600 := hI 0 46
    refine lv_aload_n hx hb (dk_at dkX12_goesOn_17 0 rfl) rfl (lv_at hl 0 rfl) ?_
    refine lv_dup hx hb (dk_at dkX12_goesOn_17 1 rfl) rfl ?_
    refine va_get (D := (dC, dI)) (ci := 12) (v := .int (iI (A579 0 53))) (C := RX12) (T := TX12) (N := 85) hx hb hts hiX12 hown hK hP 0 wm0 rfl 53 (by decide) (hts _ (List.mem_cons_of_mem _ (wl_in_1 _ (List.mem_of_getElem? (i := 37) rfl)))) (fun _ h9 => h9) rfl (dk_at dkX12_goesOn_17 2 rfl) ?_
    refine tp_i (y := iI (A 0 53)) (congrArg iI e_A579_53) ?_
    refine lv_iconst (v := iI 1) hx hb (dk_at dkX12_goesOn_17 3 rfl) (by decide +kernel) ?_
    refine x_subv (v := (A 0 53) - 1) hx hb (dk_at dkX12_goesOn_17 4 rfl) (by omega) ?_
    refine x_put (D := (dC, dI)) (ci := 12) (v := .int (iI ((A 0 53) - 1))) (ty := .int) (C := RX12) (T := TX12) (N := 85) hx hb hts hiX12 tyX12 tyX12_ok nmX12 hown hK hP hDD hS 0 wm0 rfl 53 (by decide) (hts _ (List.mem_cons_of_mem _ (wl_in_1 _ (List.mem_of_getElem? (i := 37) rfl)))) (fun _ h9 => h9) rfl (by decide +kernel) rfl rfl (Nat.le_of_ble_eq_true rfl) (dk_at dkX12_goesOn_17 5 rfl) (wf53 (v := (A 0 53) - 1)) (fun H locs hP hS => ?_)
    have hI := hI.st (j := 0) (i := 53) (v := (A 0 53) - 1) (show (0 : Int) ≤ (A 0 53) - 1 ∧ (A 0 53) - 1 ≤ 20 from (by omega))
    refine lv_aload_n hx hb (dk_at dkX12_goesOn_17 6 rfl) rfl (lv_at hl 0 rfl) ?_
    refine lv_dup hx hb (dk_at dkX12_goesOn_17 7 rfl) rfl ?_
    refine va_get (D := (dC, dI)) (ci := 12) (v := .int (iI (A579 0 54))) (C := RX12) (T := TX12) (N := 85) hx hb hts hiX12 hown hK hP 0 wm0 rfl 54 (by decide) (hts _ (List.mem_cons_of_mem _ (wl_in_1 _ (List.mem_of_getElem? (i := 50) rfl)))) (fun _ h9 => h9) rfl (dk_at dkX12_goesOn_17 8 rfl) ?_
    refine tp_i (y := iI (A 0 54)) (congrArg iI e_A579_54) ?_
    refine lv_iconst (v := iI 1) hx hb (dk_at dkX12_goesOn_17 9 rfl) (by decide +kernel) ?_
    refine x_subv (v := (A 0 54) - 1) hx hb (dk_at dkX12_goesOn_17 10 rfl) (by omega) ?_
    refine x_put (D := (dC, dI)) (ci := 12) (v := .int (iI ((A 0 54) - 1))) (ty := .int) (C := RX12) (T := TX12) (N := 85) hx hb hts hiX12 tyX12 tyX12_ok nmX12 hown hK hP hDD hS 0 wm0 rfl 54 (by decide) (hts _ (List.mem_cons_of_mem _ (wl_in_1 _ (List.mem_of_getElem? (i := 50) rfl)))) (fun _ h9 => h9) rfl (by decide +kernel) rfl rfl (Nat.le_of_ble_eq_true rfl) (dk_at dkX12_goesOn_17 11 rfl) (wf54 (v := (A 0 54) - 1)) (fun H locs hP hS => ?_)
    have hI := hI.st (j := 0) (i := 54) (v := (A 0 54) - 1) (show (0 : Int) ≤ (A 0 54) - 1 ∧ (A 0 54) - 1 ≤ 8 from (by omega))
    refine lv_iload_n hx hb (dk_at dkX12_goesOn_17 12 rfl) rfl (lv_at hl 2 rfl) ?_
    refine lv_iconst (v := iI 4) hx hb (dk_at dkX12_goesOn_17 13 rfl) (by decide +kernel) ?_
    obtain ⟨A584, hA584⟩ : ∃ A584 : St, A584 = (stA (stA A579 0 53 ((A 0 53) - 1)) 0 54 ((A 0 54) - 1)) := ⟨_, rfl⟩
    rw [← hA584] at hP hI
    refine lv_icmp_ne (tgt := 561) hx hb (dk_at dkX12_goesOn_17 14 rfl) (by decide) (fun c585 => ?_) (fun c585 => ?_)
    · have c585 : ¬ z1 = 4 := mt (i_eq (rb rz1 (by decide) (by decide)) ⟨by decide, by decide⟩).mpr c585
      refine lv_iload_n hx hb (dk_at dkX12_goesOn_18 6 rfl) rfl (lv_at hl 2 rfl) ?_
      refine lv_iconst (v := iI 5) hx hb (dk_at dkX12_goesOn_18 7 rfl) (by decide +kernel) ?_
      refine lv_icmp_ne (tgt := 578) hx hb (dk_at dkX12_goesOn_18 8 rfl) (by decide) (fun c586 => ?_) (fun c586 => ?_)
      · have c586 : ¬ z1 = 5 := mt (i_eq (rb rz1 (by decide) (by decide)) ⟨by decide, by decide⟩).mpr c586
        refine lv_aload_n hx hb (dk_at dkX12_goesOn_19 1 rfl) rfl (lv_at hl 0 rfl) ?_
        have e_A584_4 : A584 0 4 = (A 0 4) := by rw [hA584]; exact e_A579_4
        have e_A584_5 : A584 0 5 = (A 0 5) := by rw [hA584]; exact e_A579_5
        have e_A584_8 : A584 0 8 = (A576 0 8) := by rw [hA584]; exact e_A579_8
        refine x_callv (As := []) (rest := []) ⟨hx, hb, hml, hown, hts⟩ (mb_X12_ahead l dC dI cB cI cJ cZ cQ q _ hI) (cwV 0 hts (goodV (wl_in_0 _ (List.mem_of_getElem? (i := 40) rfl)) (wl_in_0 _ (List.mem_of_getElem? (i := 41) rfl)) (wl_in_0 _ (List.mem_of_getElem? (i := 42) rfl)) (wl_in_0 _ (List.mem_of_getElem? (i := 8) rfl)) (wl_in_0 _ (List.mem_of_getElem? (i := 20) rfl))) rfl rfl rfl (by decide +kernel) ⟨Nat.le_of_ble_eq_true rfl, Nat.le_of_ble_eq_true rfl⟩) hK hDD hA0 hP hS 0 12 wm0 rfl rfl hl.1 (Nat.le_of_ble_eq_true rfl) (dk_at dkX12_goesOn_19 2 rfl) (fun A587 H locs hw588 hP hS => ?_)
        have ghw588 : q_X12_ahead A584 A587 := hw588
        obtain ⟨_, hI, hf589, hw588⟩ := hw588
        have r_A587_0_3 : (0 : Int) ≤ (A587 0 3) ∧ (A587 0 3) ≤ 3 := hI 0 3
        have r_A587_0_4 : (0 : Int) ≤ (A587 0 4) ∧ (A587 0 4) ≤ 1600 := hI 0 4
        have r_A587_0_5 : (0 : Int) ≤ (A587 0 5) ∧ (A587 0 5) ≤ 1600 := hI 0 5
        have r_A587_0_8 : (0 : Int) ≤ (A587 0 8) ∧ (A587 0 8) ≤ 5 := hI 0 8
        have hw588x := hw588.1
        have hw588y := hw588.2.1
        replace hw588 := Hd.mk hw588
        refine lv_iconst (v := iI 1) hx hb (dk_at dkX12_goesOn_19 3 rfl) (by decide +kernel) ?_
        have e_A584_46 : A584 0 46 = (A579 0 46) := by rw [hA584]; exact rfl
        have e_A587_46 : A587 0 46 = (A579 0 46) := (hf589.2 46 rfl).trans e_A584_46
        have e_A584_47 : A584 0 47 = (A 0 47) := by rw [hA584]; exact e_A579_47
        have e_A587_47 : A587 0 47 = (A 0 47) := (hf589.2 47 rfl).trans e_A584_47
        have e_A576_57 : A576 0 57 = (A 0 57) := (hj575.2 57 rfl)
        have e_A579_57 : A579 0 57 = (A 0 57) := (hf581.2 57 rfl).trans e_A576_57
        have e_A584_57 : A584 0 57 = (A 0 57) := by rw [hA584]; exact e_A579_57
        have e_A587_57 : A587 0 57 = (A 0 57) := (hf589.2 57 rfl).trans e_A584_57
        have r_A_0_57 : (0 : Int) ≤ (A 0 57) ∧ (A 0 57) ≤ 1 := by rw [← e_A587_57]; exact hI 0 57
        have ca590 : A576 35 = A 35 := (hj575.1 35 (by decide) rfl)
        have ca591 : A579 35 = A 35 := (hf581.1 35 (by decide) rfl).trans ca590
        have gs := f577.out (by omega)
        have hlt := RI.lt hp0 (by omega)
        have ca592 : A584 29 = A579 29 := by rw [hA584]; exact rfl
        have ca593 : A587 29 = A579 29 := (hf589.1 29 (by decide) rfl).trans ca592
        have ca594 : A584 31 = A579 31 := by rw [hA584]; exact rfl
        have ca595 : A587 31 = A579 31 := (hf589.1 31 (by decide) rfl).trans ca594
        have ca596 : A584 33 = A579 33 := by rw [hA584]; exact rfl
        have ca597 : A587 33 = A579 33 := (hf589.1 33 (by decide) rfl).trans ca596
        have ca598 : A584 35 = A579 35 := by rw [hA584]; exact rfl
        have ca599 : A587 35 = A579 35 := (hf589.1 35 (by decide) rfl).trans ca598
        have ca600 : A584 37 = A579 37 := by rw [hA584]; exact rfl
        have ca601 : A587 37 = A579 37 := (hf589.1 37 (by decide) rfl).trans ca600
        have ca602 : A584 39 = A579 39 := by rw [hA584]; exact rfl
        have ca603 : A587 39 = A579 39 := (hf589.1 39 (by decide) rfl).trans ca602
        have ca604 : A584 40 = A579 40 := by rw [hA584]; exact rfl
        have ca605 : A587 40 = A579 40 := (hf589.1 40 (by decide) rfl).trans ca604
        have e_A584_53 : A584 0 53 = (A 0 53) - 1 := by rw [hA584]; rfl
        have e_A587_53 : A587 0 53 = (A 0 53) - 1 := (hf589.2 53 rfl).trans e_A584_53
        have e_A584_54 : A584 0 54 = (A 0 54) - 1 := by rw [hA584]; rfl
        have e_A587_54 : A587 0 54 = (A 0 54) - 1 := (hf589.2 54 rfl).trans e_A584_54
        have e_A584_56 : A584 0 56 = (A579 0 56) := by rw [hA584]; exact rfl
        have e_A587_56 : A587 0 56 = (A579 0 56) := (hf589.2 56 rfl).trans e_A584_56
        have ca606 : A584 36 = A579 36 := by rw [hA584]; exact rfl
        have ca607 : A587 36 = A579 36 := (hf589.1 36 (by decide) rfl).trans ca606
        have f53j := e_A579_53
        have ca608 : A584 39 = A579 39 := by rw [hA584]; exact rfl
        have ca609 : A587 39 = A579 39 := (hf589.1 39 (by decide) rfl).trans ca608
        have ca610 : A584 40 = A579 40 := by rw [hA584]; exact rfl
        have ca611 : A587 40 = A579 40 := (hf589.1 40 (by decide) rfl).trans ca610
        have ca612 : A584 35 = A579 35 := by rw [hA584]; exact rfl
        have ca613 : A587 35 = A579 35 := (hf589.1 35 (by decide) rfl).trans ca612
        have ca614 : A584 38 = A579 38 := by rw [hA584]; exact rfl
        have ca615 : A587 38 = A579 38 := (hf589.1 38 (by decide) rfl).trans ca614
        exact RET 1 _ _ _ _ _ ⟨hk10 _ _ (u_d_X12_goesOn_10 ⟨hIv, (Or.inl ⟨c578, ⟨A579, ghw580, ⟨A584, hA584, (Or.inl ⟨c585, (Or.inl ⟨c586, ⟨A587, ghw588, ⟨rfl, rfl⟩⟩⟩)⟩)⟩⟩⟩)⟩), hI, fr.trans (fr_def hA584 (fr.sf (fr.sf (fr.trans (fr.trans (fr.rf) hj575 rfl rfl) hf581 rfl rfl) rfl) rfl)) hf589 rfl rfl, (CI.fr (CI.fr hc582 (fr_def hA584 (fr.sf (fr.sf (fr.rf (M := []) (N := [53, 54])) rfl) rfl)) rfl rfl) hf589 rfl rfl), ⟨by decide, Hd.mk (fun h0 => ⟨fun _ => ⟨by rw [show A587 0 57 = 1 by omega]; exact RI.shut hj1 hIj (by omega) (by rw [ca591, e_A579_53, ← hz1]; omega) (RI.full hj2.out) (Or.inl ⟨by rw [ca591, e_A579_53, ← hz1]; omega, rfl, rfl⟩) ⟨ca593, ca595, ca597, ca599, ca601, ca603, ca605, e_A587_46, (e_A587_47.trans e_A579_47.symm), (by omega), (by omega), e_A587_56⟩ (by omega) (by omega) hw588.out.2.2.1, ⟨PR.pop (PR.fr (PR.fr hp2 hj575 rfl rfl) hf581 rfl rfl) ca613 (by omega) ca615, SP.close (r36 := A579 36) hc583 (by omega) (RI.full hj2.out) ca607 (fun _ _ => rfl) (Or.inl rfl) ca609 ca611 (by omega) e_A587_56⟩, by omega⟩, fun h => absurd h (by decide)⟩)⟩⟩ hP hS (dk_at dkX12_goesOn_19 4 rfl)
      · have c586 : z1 = 5 := (i_eq (rb rz1 (by decide) (by decide)) ⟨by decide, by decide⟩).mp c586
        refine lv_aload_n hx hb (dk_at dkX12_goesOn_18 9 rfl) rfl (lv_at hl 0 rfl) ?_
        refine va_get (D := (dC, dI)) (ci := 12) (v := .ref (q 36)) (C := RX12) (T := TX12) (N := 85) hx hb hts hiX12 hown hK hP 0 wm0 rfl 49 (by decide) (hts _ (List.mem_cons_of_mem _ (wl_in_1 _ (List.mem_of_getElem? (i := 47) rfl)))) (fun _ h9 => h9) rfl (dk_at dkX12_goesOn_18 10 rfl) ?_
        refine lv_aload_n hx hb (dk_at dkX12_goesOn_18 11 rfl) rfl (lv_at hl 0 rfl) ?_
        have e_A584_53 : A584 0 53 = (A 0 53) - 1 := by rw [hA584]; rfl
        refine va_get (D := (dC, dI)) (ci := 12) (v := .int (iI (A584 0 53))) (C := RX12) (T := TX12) (N := 85) hx hb hts hiX12 hown hK hP 0 wm0 rfl 53 (by decide) (hts _ (List.mem_cons_of_mem _ (wl_in_1 _ (List.mem_of_getElem? (i := 37) rfl)))) (fun _ h9 => h9) rfl (dk_at dkX12_goesOn_18 12 rfl) ?_
        refine tp_i (y := iI ((A 0 53) - 1)) (congrArg iI e_A584_53) ?_
        refine lv_iconst (v := iI 1) hx hb (dk_at dkX12_goesOn_18 13 rfl) (by decide +kernel) ?_
        refine x_subv (v := (A 0 53) - 2) hx hb (dk_at dkX12_goesOn_18 14 rfl) (by omega) ?_
        refine lv_iconst (v := iI 2) hx hb (dk_at dkX12_goesOn_18 15 rfl) (by decide +kernel) ?_
        refine x_iast hx hb hK hP hDD hS 36 1 wm36 rfl (by omega) (by decide) (dk_at dkX12_goesOn_19 0 rfl) ws36 (fun H locs hP hS => ?_)
        have hI := hI.st (j := 36) (i := ((A 0 53) - 2).toNat) (v := 2) (show (0 : Int) ≤ 2 ∧ 2 ≤ 2 from (by omega))
        refine lv_aload_n hx hb (dk_at dkX12_goesOn_19 1 rfl) rfl (lv_at hl 0 rfl) ?_
        obtain ⟨A616, hA616⟩ : ∃ A616 : St, A616 = (stA A584 36 ((A 0 53) - 2).toNat 2) := ⟨_, rfl⟩
        rw [← hA616] at hP hI
        have e_A584_4 : A584 0 4 = (A 0 4) := by rw [hA584]; exact e_A579_4
        have e_A616_4 : A616 0 4 = (A 0 4) := by rw [hA616]; exact e_A584_4
        have e_A584_5 : A584 0 5 = (A 0 5) := by rw [hA584]; exact e_A579_5
        have e_A616_5 : A616 0 5 = (A 0 5) := by rw [hA616]; exact e_A584_5
        have e_A584_8 : A584 0 8 = (A576 0 8) := by rw [hA584]; exact e_A579_8
        have e_A616_8 : A616 0 8 = (A576 0 8) := by rw [hA616]; exact e_A584_8
        refine x_callv (As := []) (rest := []) ⟨hx, hb, hml, hown, hts⟩ (mb_X12_ahead l dC dI cB cI cJ cZ cQ q _ hI) (cwV 0 hts (goodV (wl_in_0 _ (List.mem_of_getElem? (i := 40) rfl)) (wl_in_0 _ (List.mem_of_getElem? (i := 41) rfl)) (wl_in_0 _ (List.mem_of_getElem? (i := 42) rfl)) (wl_in_0 _ (List.mem_of_getElem? (i := 8) rfl)) (wl_in_0 _ (List.mem_of_getElem? (i := 20) rfl))) rfl rfl rfl (by decide +kernel) ⟨Nat.le_of_ble_eq_true rfl, Nat.le_of_ble_eq_true rfl⟩) hK hDD hA0 hP hS 0 12 wm0 rfl rfl hl.1 (Nat.le_of_ble_eq_true rfl) (dk_at dkX12_goesOn_19 2 rfl) (fun A617 H locs hw618 hP hS => ?_)
        have ghw618 : q_X12_ahead A616 A617 := hw618
        obtain ⟨_, hI, hf619, hw618⟩ := hw618
        have r_A617_0_3 : (0 : Int) ≤ (A617 0 3) ∧ (A617 0 3) ≤ 3 := hI 0 3
        have r_A617_0_4 : (0 : Int) ≤ (A617 0 4) ∧ (A617 0 4) ≤ 1600 := hI 0 4
        have r_A617_0_5 : (0 : Int) ≤ (A617 0 5) ∧ (A617 0 5) ≤ 1600 := hI 0 5
        have r_A617_0_8 : (0 : Int) ≤ (A617 0 8) ∧ (A617 0 8) ≤ 5 := hI 0 8
        have hw618x := hw618.1
        have hw618y := hw618.2.1
        replace hw618 := Hd.mk hw618
        refine lv_iconst (v := iI 1) hx hb (dk_at dkX12_goesOn_19 3 rfl) (by decide +kernel) ?_
        have e_A584_46 : A584 0 46 = (A579 0 46) := by rw [hA584]; exact rfl
        have e_A616_46 : A616 0 46 = (A579 0 46) := by rw [hA616]; exact e_A584_46
        have e_A617_46 : A617 0 46 = (A579 0 46) := (hf619.2 46 rfl).trans e_A616_46
        have e_A584_47 : A584 0 47 = (A 0 47) := by rw [hA584]; exact e_A579_47
        have e_A616_47 : A616 0 47 = (A 0 47) := by rw [hA616]; exact e_A584_47
        have e_A617_47 : A617 0 47 = (A 0 47) := (hf619.2 47 rfl).trans e_A616_47
        have e_A576_57 : A576 0 57 = (A 0 57) := (hj575.2 57 rfl)
        have e_A579_57 : A579 0 57 = (A 0 57) := (hf581.2 57 rfl).trans e_A576_57
        have e_A584_57 : A584 0 57 = (A 0 57) := by rw [hA584]; exact e_A579_57
        have e_A616_57 : A616 0 57 = (A 0 57) := by rw [hA616]; exact e_A584_57
        have e_A617_57 : A617 0 57 = (A 0 57) := (hf619.2 57 rfl).trans e_A616_57
        have r_A_0_57 : (0 : Int) ≤ (A 0 57) ∧ (A 0 57) ≤ 1 := by rw [← e_A617_57]; exact hI 0 57
        have ca620 : A576 35 = A 35 := (hj575.1 35 (by decide) rfl)
        have ca621 : A579 35 = A 35 := (hf581.1 35 (by decide) rfl).trans ca620
        have gs := f577.out (by omega)
        have hlt := RI.lt hp0 (by omega)
        have ca622 : A584 29 = A579 29 := by rw [hA584]; exact rfl
        have ca623 : A616 29 = A579 29 := by rw [hA616]; exact ca622
        have ca624 : A617 29 = A579 29 := (hf619.1 29 (by decide) rfl).trans ca623
        have ca625 : A584 31 = A579 31 := by rw [hA584]; exact rfl
        have ca626 : A616 31 = A579 31 := by rw [hA616]; exact ca625
        have ca627 : A617 31 = A579 31 := (hf619.1 31 (by decide) rfl).trans ca626
        have ca628 : A584 33 = A579 33 := by rw [hA584]; exact rfl
        have ca629 : A616 33 = A579 33 := by rw [hA616]; exact ca628
        have ca630 : A617 33 = A579 33 := (hf619.1 33 (by decide) rfl).trans ca629
        have ca631 : A584 35 = A579 35 := by rw [hA584]; exact rfl
        have ca632 : A616 35 = A579 35 := by rw [hA616]; exact ca631
        have ca633 : A617 35 = A579 35 := (hf619.1 35 (by decide) rfl).trans ca632
        have ca634 : A584 37 = A579 37 := by rw [hA584]; exact rfl
        have ca635 : A616 37 = A579 37 := by rw [hA616]; exact ca634
        have ca636 : A617 37 = A579 37 := (hf619.1 37 (by decide) rfl).trans ca635
        have ca637 : A584 39 = A579 39 := by rw [hA584]; exact rfl
        have ca638 : A616 39 = A579 39 := by rw [hA616]; exact ca637
        have ca639 : A617 39 = A579 39 := (hf619.1 39 (by decide) rfl).trans ca638
        have ca640 : A584 40 = A579 40 := by rw [hA584]; exact rfl
        have ca641 : A616 40 = A579 40 := by rw [hA616]; exact ca640
        have ca642 : A617 40 = A579 40 := (hf619.1 40 (by decide) rfl).trans ca641
        have e_A616_53 : A616 0 53 = (A 0 53) - 1 := by rw [hA616]; exact e_A584_53
        have e_A617_53 : A617 0 53 = (A 0 53) - 1 := (hf619.2 53 rfl).trans e_A616_53
        have e_A584_54 : A584 0 54 = (A 0 54) - 1 := by rw [hA584]; rfl
        have e_A616_54 : A616 0 54 = (A 0 54) - 1 := by rw [hA616]; exact e_A584_54
        have e_A617_54 : A617 0 54 = (A 0 54) - 1 := (hf619.2 54 rfl).trans e_A616_54
        have e_A584_56 : A584 0 56 = (A579 0 56) := by rw [hA584]; exact rfl
        have e_A616_56 : A616 0 56 = (A579 0 56) := by rw [hA616]; exact e_A584_56
        have e_A617_56 : A617 0 56 = (A579 0 56) := (hf619.2 56 rfl).trans e_A616_56
        have ca643 : A584 36 = A579 36 := by rw [hA584]; exact rfl
        have e36 : A616 36 = up (A579 36) (A579 0 53 - 1 - 1).toNat 2 := by rw [hA616]; show up (A584 36) _ _ = _; rw [ca643, e_A579_53, show A 0 53 - 1 - 1 = A 0 53 - 2 by omega]
        have ca644 : A617 36 = A616 36 := (hf619.1 36 (by decide) rfl)
        have f53j := e_A579_53
        have ca645 : A584 39 = A579 39 := by rw [hA584]; exact rfl
        have ca646 : A616 39 = A579 39 := by rw [hA616]; exact ca645
        have ca647 : A617 39 = A579 39 := (hf619.1 39 (by decide) rfl).trans ca646
        have ca648 : A584 40 = A579 40 := by rw [hA584]; exact rfl
        have ca649 : A616 40 = A579 40 := by rw [hA616]; exact ca648
        have ca650 : A617 40 = A579 40 := (hf619.1 40 (by decide) rfl).trans ca649
        have ca651 : A584 35 = A579 35 := by rw [hA584]; exact rfl
        have ca652 : A616 35 = A579 35 := by rw [hA616]; exact ca651
        have ca653 : A617 35 = A579 35 := (hf619.1 35 (by decide) rfl).trans ca652
        have ca654 : A584 38 = A579 38 := by rw [hA584]; exact rfl
        have ca655 : A616 38 = A579 38 := by rw [hA616]; exact ca654
        have ca656 : A617 38 = A579 38 := (hf619.1 38 (by decide) rfl).trans ca655
        exact RET 1 _ _ _ _ _ ⟨hk10 _ _ (u_d_X12_goesOn_10 ⟨hIv, (Or.inl ⟨c578, ⟨A579, ghw580, ⟨A584, hA584, (Or.inl ⟨c585, (Or.inr ⟨c586, ⟨A616, hA616, ⟨A617, ghw618, ⟨rfl, rfl⟩⟩⟩⟩)⟩)⟩⟩⟩)⟩), hI, fr.trans (fr_def hA616 (fr.st (fr_def hA584 (fr.sf (fr.sf (fr.trans (fr.trans (fr.rf) hj575 rfl rfl) hf581 rfl rfl) rfl) rfl)) (by decide) rfl)) hf619 rfl rfl, (CI.fr (CI.fr (CI.fr hc582 (fr_def hA584 (fr.sf (fr.sf (fr.rf (M := []) (N := [53, 54])) rfl) rfl)) rfl rfl) (fr_def hA616 (fr.st (fr.rf (M := [36]) (N := [])) (by decide) rfl)) rfl rfl) hf619 rfl rfl), ⟨by decide, Hd.mk (fun h0 => ⟨fun _ => ⟨by rw [show A617 0 57 = 1 by omega]; exact RI.shut hj1 hIj (by omega) (by rw [ca621, e_A579_53, ← hz1]; omega) (RI.full hj2.out) (Or.inl ⟨by rw [ca621, e_A579_53, ← hz1]; omega, rfl, rfl⟩) ⟨ca624, ca627, ca630, ca633, ca636, ca639, ca642, e_A617_46, (e_A617_47.trans e_A579_47.symm), (by omega), (by omega), e_A617_56⟩ (by omega) (by omega) hw618.out.2.2.1, ⟨PR.pop (PR.fr (PR.fr hp2 hj575 rfl rfl) hf581 rfl rfl) ca653 (by omega) ca656, SP.close (r36 := up (A579 36) (A579 0 53 - 1 - 1).toNat 2) hc583 (by omega) (RI.full hj2.out) (ca644.trans e36) (fun i hi => by rw [up_ne _ _ (by omega)]) (Or.inr (up_same _ _ _)) ca647 ca650 (by omega) e_A617_56⟩, by omega⟩, fun h => absurd h (by decide)⟩)⟩⟩ hP hS (dk_at dkX12_goesOn_19 4 rfl)
    · have c585 : z1 = 4 := (i_eq (rb rz1 (by decide) (by decide)) ⟨by decide, by decide⟩).mp c585
      have gs := f577.out (by omega)
      have hlt := RI.lt hp0 (by omega)
      refine lv_aload_n hx hb (dk_at dkX12_goesOn_17 15 rfl) rfl (lv_at hl 0 rfl) ?_
      refine lv_aload_n hx hb (dk_at dkX12_goesOn_18 0 rfl) rfl (lv_at hl 0 rfl) ?_
      refine va_get (D := (dC, dI)) (ci := 12) (v := .ref (q 38)) (C := RX12) (T := TX12) (N := 85) hx hb hts hiX12 hown hK hP 0 wm0 rfl 51 (by decide) (hts _ (List.mem_cons_of_mem _ (wl_in_1 _ (List.mem_of_getElem? (i := 56) rfl)))) (fun _ h9 => h9) rfl (dk_at dkX12_goesOn_18 1 rfl) ?_
      refine lv_iload_n hx hb (dk_at dkX12_goesOn_18 2 rfl) rfl (lv_at hl 1 rfl) ?_
      have a_A576_38 : A576 38 = A 38 := (hj575.1 38 (by decide) rfl)
      have a_A579_38 : A579 38 = A 38 := (hf581.1 38 (by decide) rfl).trans a_A576_38
      have a_A584_38 : A584 38 = A 38 := by rw [hA584]; exact a_A579_38
      refine x_iald hx hb hK hP 38 1 wm38 rfl (by omega) (by decide) (dk_at dkX12_goesOn_18 3 rfl) (fun z657 hz657 => ?_)
      have rz657 : (0 : Int) ≤ z657 ∧ z657 ≤ 16 := by rw [hz657]; exact hI 38 _
      have gz657 := Hd.mk hz657
      have hz657 : z657 = A 38 ((A 0 53) - 1).toNat := hz657.trans (congrFun a_A584_38 _)
      refine lv_iconst (v := iI 0) hx hb (dk_at dkX12_goesOn_18 4 rfl) (by decide +kernel) ?_
      have e_A584_46 : A584 0 46 = (A579 0 46) := by rw [hA584]; exact rfl
      have e_A584_47 : A584 0 47 = (A 0 47) := by rw [hA584]; exact e_A579_47
      refine x_callv (As := [.int (iI z657), .int (iI 0)]) (rest := []) ⟨hx, hb, hml, hown, hts⟩ (mb_X12_add l dC dI cB cI cJ cZ cQ q _ z657 0 hI (rb rz657 (by decide) (by decide)) ⟨by decide, by decide⟩ (by omega) (CI.fr hc582 (fr_def hA584 (fr.sf (fr.sf (fr.rf (M := []) (N := [53, 54])) rfl) rfl)) rfl rfl)) (cwV 2 hts (goodV (wl_in_1 _ (List.mem_of_getElem? (i := 41) rfl)) (wl_in_1 _ (List.mem_of_getElem? (i := 42) rfl)) (wl_in_1 _ (List.mem_of_getElem? (i := 43) rfl)) (wl_in_0 _ (List.mem_of_getElem? (i := 8) rfl)) (wl_in_1 _ (List.mem_of_getElem? (i := 29) rfl))) rfl rfl rfl (by decide +kernel) ⟨Nat.le_of_ble_eq_true rfl, Nat.le_of_ble_eq_true rfl⟩) hK hDD hA0 hP hS 0 12 wm0 rfl rfl hl.1 (Nat.le_of_ble_eq_true rfl) (dk_at dkX12_goesOn_18 5 rfl) (fun A658 H locs hw659 hP hS => ?_)
      have ghw659 : q_X12_add z657 0 A584 A658 := hw659
      obtain ⟨_, hI, hf660, hw659⟩ := hw659
      obtain ⟨hc661, hw659⟩ := hw659
      have r_A658_0_46 : (0 : Int) ≤ (A658 0 46) ∧ (A658 0 46) ≤ 1600 := hI 0 46
      refine lv_iload_n hx hb (dk_at dkX12_goesOn_18 6 rfl) rfl (lv_at hl 2 rfl) ?_
      refine lv_iconst (v := iI 5) hx hb (dk_at dkX12_goesOn_18 7 rfl) (by decide +kernel) ?_
      refine lv_icmp_ne (tgt := 578) hx hb (dk_at dkX12_goesOn_18 8 rfl) (by decide) (fun _ => ?_) (fun c662 => False.elim (by have c662 : z1 = 5 := (i_eq (rb rz1 (by decide) (by decide)) ⟨by decide, by decide⟩).mp c662; omega))
      refine lv_aload_n hx hb (dk_at dkX12_goesOn_19 1 rfl) rfl (lv_at hl 0 rfl) ?_
      have e_A584_4 : A584 0 4 = (A 0 4) := by rw [hA584]; exact e_A579_4
      have e_A658_4 : A658 0 4 = (A 0 4) := (hf660.2 4 rfl).trans e_A584_4
      have e_A584_5 : A584 0 5 = (A 0 5) := by rw [hA584]; exact e_A579_5
      have e_A658_5 : A658 0 5 = (A 0 5) := (hf660.2 5 rfl).trans e_A584_5
      have e_A584_8 : A584 0 8 = (A576 0 8) := by rw [hA584]; exact e_A579_8
      have e_A658_8 : A658 0 8 = (A576 0 8) := (hf660.2 8 rfl).trans e_A584_8
      refine x_callv (As := []) (rest := []) ⟨hx, hb, hml, hown, hts⟩ (mb_X12_ahead l dC dI cB cI cJ cZ cQ q _ hI) (cwV 0 hts (goodV (wl_in_0 _ (List.mem_of_getElem? (i := 40) rfl)) (wl_in_0 _ (List.mem_of_getElem? (i := 41) rfl)) (wl_in_0 _ (List.mem_of_getElem? (i := 42) rfl)) (wl_in_0 _ (List.mem_of_getElem? (i := 8) rfl)) (wl_in_0 _ (List.mem_of_getElem? (i := 20) rfl))) rfl rfl rfl (by decide +kernel) ⟨Nat.le_of_ble_eq_true rfl, Nat.le_of_ble_eq_true rfl⟩) hK hDD hA0 hP hS 0 12 wm0 rfl rfl hl.1 (Nat.le_of_ble_eq_true rfl) (dk_at dkX12_goesOn_19 2 rfl) (fun A663 H locs hw664 hP hS => ?_)
      have ghw664 : q_X12_ahead A658 A663 := hw664
      obtain ⟨_, hI, hf665, hw664⟩ := hw664
      have r_A663_0_3 : (0 : Int) ≤ (A663 0 3) ∧ (A663 0 3) ≤ 3 := hI 0 3
      have r_A663_0_4 : (0 : Int) ≤ (A663 0 4) ∧ (A663 0 4) ≤ 1600 := hI 0 4
      have r_A663_0_5 : (0 : Int) ≤ (A663 0 5) ∧ (A663 0 5) ≤ 1600 := hI 0 5
      have r_A663_0_8 : (0 : Int) ≤ (A663 0 8) ∧ (A663 0 8) ≤ 5 := hI 0 8
      have hw664x := hw664.1
      have hw664y := hw664.2.1
      replace hw664 := Hd.mk hw664
      refine lv_iconst (v := iI 1) hx hb (dk_at dkX12_goesOn_19 3 rfl) (by decide +kernel) ?_
      have e_A663_46 : A663 0 46 = (A658 0 46) := (hf665.2 46 rfl)
      have e_A658_47 : A658 0 47 = (A 0 47) := (hf660.2 47 rfl).trans e_A584_47
      have e_A663_47 : A663 0 47 = (A 0 47) := (hf665.2 47 rfl).trans e_A658_47
      have e_A576_57 : A576 0 57 = (A 0 57) := (hj575.2 57 rfl)
      have e_A579_57 : A579 0 57 = (A 0 57) := (hf581.2 57 rfl).trans e_A576_57
      have e_A584_57 : A584 0 57 = (A 0 57) := by rw [hA584]; exact e_A579_57
      have e_A658_57 : A658 0 57 = (A 0 57) := (hf660.2 57 rfl).trans e_A584_57
      have e_A663_57 : A663 0 57 = (A 0 57) := (hf665.2 57 rfl).trans e_A658_57
      have r_A_0_57 : (0 : Int) ≤ (A 0 57) ∧ (A 0 57) ≤ 1 := by rw [← e_A663_57]; exact hI 0 57
      have ca666 : A576 35 = A 35 := (hj575.1 35 (by decide) rfl)
      have ca667 : A579 35 = A 35 := (hf581.1 35 (by decide) rfl).trans ca666
      have ca668 : A663 33 = A658 33 := (hf665.1 33 (by decide) rfl)
      have ca669 : A584 33 = A579 33 := by rw [hA584]; exact rfl
      have gx : 10 ≤ z657 := by rw [hz657]; exact hp2 _ (by omega) (Or.inr (by rw [← hz1]; omega))
      have ca670 : A584 29 = A579 29 := by rw [hA584]; exact rfl
      have ca671 : A658 29 = A579 29 := (hf660.1 29 (by decide) rfl).trans ca670
      have ca672 : A663 29 = A579 29 := (hf665.1 29 (by decide) rfl).trans ca671
      have ca673 : A584 31 = A579 31 := by rw [hA584]; exact rfl
      have ca674 : A658 31 = A579 31 := (hf660.1 31 (by decide) rfl).trans ca673
      have ca675 : A663 31 = A579 31 := (hf665.1 31 (by decide) rfl).trans ca674
      have ca676 : A584 35 = A579 35 := by rw [hA584]; exact rfl
      have ca677 : A658 35 = A579 35 := (hf660.1 35 (by decide) rfl).trans ca676
      have ca678 : A663 35 = A579 35 := (hf665.1 35 (by decide) rfl).trans ca677
      have ca679 : A584 37 = A579 37 := by rw [hA584]; exact rfl
      have ca680 : A658 37 = A579 37 := (hf660.1 37 (by decide) rfl).trans ca679
      have ca681 : A663 37 = A579 37 := (hf665.1 37 (by decide) rfl).trans ca680
      have ca682 : A584 39 = A579 39 := by rw [hA584]; exact rfl
      have ca683 : A658 39 = A579 39 := (hf660.1 39 (by decide) rfl).trans ca682
      have ca684 : A663 39 = A579 39 := (hf665.1 39 (by decide) rfl).trans ca683
      have ca685 : A584 40 = A579 40 := by rw [hA584]; exact rfl
      have ca686 : A658 40 = A579 40 := (hf660.1 40 (by decide) rfl).trans ca685
      have ca687 : A663 40 = A579 40 := (hf665.1 40 (by decide) rfl).trans ca686
      have e_A584_53 : A584 0 53 = (A 0 53) - 1 := by rw [hA584]; rfl
      have e_A658_53 : A658 0 53 = (A 0 53) - 1 := (hf660.2 53 rfl).trans e_A584_53
      have e_A663_53 : A663 0 53 = (A 0 53) - 1 := (hf665.2 53 rfl).trans e_A658_53
      have e_A584_54 : A584 0 54 = (A 0 54) - 1 := by rw [hA584]; rfl
      have e_A658_54 : A658 0 54 = (A 0 54) - 1 := (hf660.2 54 rfl).trans e_A584_54
      have e_A663_54 : A663 0 54 = (A 0 54) - 1 := (hf665.2 54 rfl).trans e_A658_54
      have e_A584_56 : A584 0 56 = (A579 0 56) := by rw [hA584]; exact rfl
      have e_A658_56 : A658 0 56 = (A579 0 56) := (hf660.2 56 rfl).trans e_A584_56
      have e_A663_56 : A663 0 56 = (A579 0 56) := (hf665.2 56 rfl).trans e_A658_56
      have ca688 : A584 36 = A579 36 := by rw [hA584]; exact rfl
      have ca689 : A658 36 = A579 36 := (hf660.1 36 (by decide) rfl).trans ca688
      have ca690 : A663 36 = A579 36 := (hf665.1 36 (by decide) rfl).trans ca689
      have f53j := e_A579_53
      have ca691 : A584 39 = A579 39 := by rw [hA584]; exact rfl
      have ca692 : A658 39 = A579 39 := (hf660.1 39 (by decide) rfl).trans ca691
      have ca693 : A663 39 = A579 39 := (hf665.1 39 (by decide) rfl).trans ca692
      have ca694 : A584 40 = A579 40 := by rw [hA584]; exact rfl
      have ca695 : A658 40 = A579 40 := (hf660.1 40 (by decide) rfl).trans ca694
      have ca696 : A663 40 = A579 40 := (hf665.1 40 (by decide) rfl).trans ca695
      have ca697 : A584 35 = A579 35 := by rw [hA584]; exact rfl
      have ca698 : A658 35 = A579 35 := (hf660.1 35 (by decide) rfl).trans ca697
      have ca699 : A663 35 = A579 35 := (hf665.1 35 (by decide) rfl).trans ca698
      have ca700 : A584 38 = A579 38 := by rw [hA584]; exact rfl
      have ca701 : A658 38 = A579 38 := (hf660.1 38 (by decide) rfl).trans ca700
      have ca702 : A663 38 = A579 38 := (hf665.1 38 (by decide) rfl).trans ca701
      exact RET 1 _ _ _ _ _ ⟨hk10 _ _ (u_d_X12_goesOn_10 ⟨hIv, (Or.inl ⟨c578, ⟨A579, ghw580, ⟨A584, hA584, (Or.inr ⟨c585, ⟨z657, gz657.out, ⟨A658, ghw659, ⟨A663, ghw664, ⟨rfl, rfl⟩⟩⟩⟩⟩)⟩⟩⟩)⟩), hI, fr.trans (fr.trans (fr_def hA584 (fr.sf (fr.sf (fr.trans (fr.trans (fr.rf) hj575 rfl rfl) hf581 rfl rfl) rfl) rfl)) hf660 rfl rfl) hf665 rfl rfl, (CI.fr hc661 hf665 rfl rfl), ⟨by decide, Hd.mk (fun h0 => ⟨fun _ => ⟨by rw [show A663 0 57 = 1 by omega]; exact RI.shut hj1 hIj (by omega) (by rw [ca667, e_A579_53, ← hz1]; omega) (RI.full hj2.out) (Or.inr ⟨z657, (by rw [ca667, e_A579_53, ← hz1]; omega), gx, by omega, rfl, rfl⟩) ⟨ca672, ca675, (ca668.trans (hw659.2.trans (by rw [ca669, show A584 0 47 = A579 0 47 from (e_A584_47.trans e_A579_47.symm), show A584 0 46 = A579 0 46 from e_A584_46]))), ca678, ca681, ca684, ca687, (by omega), (e_A663_47.trans e_A579_47.symm), (by omega), (by omega), e_A663_56⟩ (by omega) (by omega) hw664.out.2.2.1, ⟨PR.pop (PR.fr (PR.fr hp2 hj575 rfl rfl) hf581 rfl rfl) ca699 (by omega) ca702, SP.close (r36 := A579 36) hc583 (by omega) (RI.full hj2.out) ca690 (fun _ _ => rfl) (Or.inl rfl) ca693 ca696 (by omega) e_A663_56⟩, by omega⟩, fun h => absurd h (by decide)⟩)⟩⟩ hP hS (dk_at dkX12_goesOn_19 4 rfl)
  · have c578 : ¬ (A576 0 8) ≤ 0 := mt (i_le0 (rb r_A576_0_8 (by decide) (by decide))).mpr c578
    refine lv_iconst (v := iI 0) hx hb (dk_at dkX12_goesOn_16 11 rfl) (by decide +kernel) ?_
    have e_A576_4 : A576 0 4 = (A 0 4) := (hj575.2 4 rfl)
    have e_A576_5 : A576 0 5 = (A 0 5) := (hj575.2 5 rfl)
    have e_A576_46 : A576 0 46 = (A 0 46) := (hj575.2 46 rfl)
    have e_A576_47 : A576 0 47 = (A 0 47) := (hj575.2 47 rfl)
    have e_A576_57 : A576 0 57 = (A 0 57) := (hj575.2 57 rfl)
    have r_A_0_57 : (0 : Int) ≤ (A 0 57) ∧ (A 0 57) ≤ 1 := by rw [← e_A576_57]; exact hI 0 57
    exact RET 0 _ _ _ _ _ ⟨hk10 _ _ (u_d_X12_goesOn_10 ⟨hIv, (Or.inr ⟨c578, ⟨rfl, rfl⟩⟩)⟩), hI, fr.trans (fr.rf) hj575 rfl rfl, (CI.fr hcCI hj575 rfl rfl), ⟨by decide, Hd.mk (fun h => absurd h (by omega))⟩⟩ hP hS (dk_at dkX12_goesOn_16 12 rfl)
set_option maxHeartbeats 4000000 in
set_option maxRecDepth 100000 in
theorem mb_X12_goesOn_c409 (l : Launch) (dC : Nat → ClassId) (dI : Nat → Nat → Nat) (cB cI cJ cZ cQ : ClassId) (q : Nat → Nat) (A : St) (hI : IM A) (hp0 : RI 1 A) (hp1 : A 0 8 = 0) (hp2 : PR A) (hp3 : A 0 57 = 1) (hp4 : SP A) (hcCI : CI A) (p : Program) (e : Env) (s : State) (m : MethodId) (below : List Frame) (meth : Method) (c : Code) (Q : State → Prop) (AS : Nat → Prop) (hx : p.tables.exec = Jvm.exec) (hb : c.code = cX12_goesOn) (hml : c.maxLocals = 5) (hown : s.vm.findClass RX12 = some m.cls) (hts : ∀ w ∈ ws_mb_X12_goesOn, w.before [.ref (q 0)].toArray s = true) (hK : va_K (dC, dI) vwCl (tyA cB cI cJ cZ cQ) s) (hDD : ∀ A', va_D AS (WM cI cJ cZ q A')) (hA0 : ∀ b : Nat, s.heap.size ≤ b → AS b) (RET : ∀ (z : Int) (u : St) (H : Heap) (locs : List Loc) (pc : Nat) (ls : Array Slot), ((fun z u => r_X12_goesOn A z u ∧ IM u ∧ fr [33, 34, 35, 36, 37, 40] [3, 4, 5, 6, 7, 8, 9, 46, 53, 54, 56, 57] A u ∧ CI u ∧ ((0 ≤ z ∧ z ≤ 1) ∧ (Hd (u 0 8 = 0 → (z = 1 → RI (u 0 57) u ∧ (PR u ∧ SP u) ∧ A 0 4 + 1 ≤ u 0 4) ∧ (z = 0 → DP (u 33) (sA u) (1600 * u 0 47 + u 0 46) 1 ∧ CB u ∧ A 0 4 ≤ u 0 4))))) z u) → va_P (dC, dI) vwCl (WM cI cJ cZ q u) H → va_S AS s.heap H locs → decode cX12_goesOn pc = .ok (.ireturn, 1) → W p l e (headSpec ws_mb_X12_goesOn ({ frames := 2, cells := 0, slots := 0, locals := 47 } : Room)).room s m [.ref (q 0)].toArray below meth c H locs 0 0 Q (F0 m pc ls [.int (iI z)])) (H : Heap) (locs : List Loc) (ls : Array Slot) (z1 : Int) (rz1 : (0 : Int) ≤ z1 ∧ z1 ≤ 5) (hz1 : z1 = A 35 ((A 0 53) - 1).toNat) (A558 : St) (hIv : IM A558) (hj557 : fr [] [8, 9] A A558) (hk8 : ∀ (z : Int) (u : St), (d_X12_goesOn_8 A z u z1 A558) → r_X12_goesOn A z u) (hP : va_P (dC, dI) vwCl (WM cI cJ cZ q A558) H) (hS : va_S AS s.heap H locs) (hl : lv_has ls 5 [(0, .ref (q 0)), (1, .int (iI ((A 0 53) - 1))), (2, .int (iI z1))]) : W p l e (headSpec ws_mb_X12_goesOn ({ frames := 2, cells := 0, slots := 0, locals := 47 } : Room)).room s m [.ref (q 0)].toArray below meth c H locs 0 0 Q (F0 m 409 ls []) := by
  have hiX12 : ∀ w ∈ u_ws RX12 TX12 85, w ∈ ws_mb_X12_goesOn := fun w h => List.mem_cons_of_mem _ (wx_lay w h)
  have hI0 := hI
  have hdp := RI.deep hp0 hI0
  have hrm := RI.room hp0 hI0
  have r_A_0_3 : (0 : Int) ≤ (A 0 3) ∧ (A 0 3) ≤ 3 := hI 0 3
  have r_A_0_4 : (0 : Int) ≤ (A 0 4) ∧ (A 0 4) ≤ 1600 := hI 0 4
  have r_A_0_5 : (0 : Int) ≤ (A 0 5) ∧ (A 0 5) ≤ 1600 := hI 0 5
  have r_A_0_7 : (-9223372036854775808 : Int) ≤ (A 0 7) ∧ (A 0 7) ≤ 9223372036854775807 := hI 0 7
  have r_A_0_8 : (0 : Int) ≤ (A 0 8) ∧ (A 0 8) ≤ 5 := hI 0 8
  have r_A_0_46 : (0 : Int) ≤ (A 0 46) ∧ (A 0 46) ≤ 1600 := hI 0 46
  have r_A_0_47 : (0 : Int) ≤ (A 0 47) ∧ (A 0 47) ≤ 1 := hI 0 47
  have r_A_0_53 : (0 : Int) ≤ (A 0 53) ∧ (A 0 53) ≤ 20 := hI 0 53
  have r_A_0_54 : (0 : Int) ≤ (A 0 54) ∧ (A 0 54) ≤ 8 := hI 0 54
  have r_A_0_56 : (0 : Int) ≤ (A 0 56) ∧ (A 0 56) ≤ 500 := hI 0 56
  have hop := hp0.1
  have hI := hIv
  refine lv_iload_n hx hb (dk_at dkX12_goesOn_12 15 rfl) rfl (lv_at hl 2 rfl) ?_
  refine lv_iconst (v := iI 2) hx hb (dk_at dkX12_goesOn_13 0 rfl) (by decide +kernel) ?_
  refine lv_icmp_ge (tgt := 428) hx hb (dk_at dkX12_goesOn_13 1 rfl) (by decide) (fun c559 => ?_) (fun c559 => ?_)
  · have c559 : 2 ≤ z1 := (i_le ⟨by decide, by decide⟩ (rb rz1 (by decide) (by decide))).mp c559
    refine lv_iload_n hx hb (dk_at dkX12_goesOn_13 10 rfl) rfl (lv_at hl 2 rfl) ?_
    refine lv_iconst (v := iI 3) hx hb (dk_at dkX12_goesOn_13 11 rfl) (by decide +kernel) ?_
    refine lv_icmp_ne (tgt := 483) hx hb (dk_at dkX12_goesOn_13 12 rfl) (by decide) (fun c560 => ?_) (fun c560 => ?_)
    · have c560 : ¬ z1 = 3 := mt (i_eq (rb rz1 (by decide) (by decide)) ⟨by decide, by decide⟩).mpr c560
      refine lv_aload_n hx hb (dk_at dkX12_goesOn_15 10 rfl) rfl (lv_at hl 0 rfl) ?_
      refine lv_iload_n hx hb (dk_at dkX12_goesOn_15 11 rfl) rfl (lv_at hl 2 rfl) ?_
      refine lv_iconst (v := iI 5) hx hb (dk_at dkX12_goesOn_15 12 rfl) (by decide +kernel) ?_
      have J496_562 : ∀ (z563 : Int) (H : Heap) (locs : List Loc) (ls : Array Slot), (41 ≤ z563 ∧ z563 ≤ 93) → ((z563 = 41 ∧ ¬ z1 = 5) ∨ (z563 = 93 ∧ z1 = 5)) → (∀ (z : Int) (u : St), (d_X12_goesOn_9 z1 A A558 z u z563) → r_X12_goesOn A z u) → va_P (dC, dI) vwCl (WM cI cJ cZ q A558) H → va_S AS s.heap H locs → lv_has ls 5 [(0, .ref (q 0)), (1, .int (iI ((A 0 53) - 1))), (2, .int (iI z1))] → W p l e (headSpec ws_mb_X12_goesOn ({ frames := 2, cells := 0, slots := 0, locals := 47 } : Room)).room s m [.ref (q 0)].toArray below meth c H locs 0 0 Q (F0 m 496 ls [.int (iI z563), .ref (q 0)]) := by
        intro z563 H locs ls f565 f566 hk9 hP hS hl
        have e_A558_3 : A558 0 3 = (A 0 3) := (hj557.2 3 rfl)
        have e_A558_6 : A558 0 6 = (A 0 6) := (hj557.2 6 rfl)
        have r_A_0_6 : (-2147483648 : Int) ≤ (A 0 6) ∧ (A 0 6) ≤ 2147483647 := by rw [← e_A558_6]; exact hI 0 6
        refine x_calli (As := [.int (iI z563)]) (rest := []) ⟨hx, hb, hml, hown, hts⟩ (mb_X12_isSign l dC dI cB cI cJ cZ cQ q _ z563 hI (rb f565 (by decide) (by decide))) (cwV 1 hts (goodV (wl_in_0 _ (List.mem_of_getElem? (i := 37) rfl)) (wl_in_0 _ (List.mem_of_getElem? (i := 38) rfl)) (wl_in_0 _ (List.mem_of_getElem? (i := 39) rfl)) (wl_in_0 _ (List.mem_of_getElem? (i := 8) rfl)) (wl_in_0 _ (List.mem_of_getElem? (i := 34) rfl))) rfl rfl rfl (by decide +kernel) ⟨Nat.le_of_ble_eq_true rfl, Nat.le_of_ble_eq_true rfl⟩) hK hDD hA0 hP hS 0 12 wm0 rfl rfl hl.1 (Nat.le_of_ble_eq_true rfl) (dk_at dkX12_goesOn_16 1 rfl) (fun z567 A568 H locs hw569 hP hS => ?_)
        obtain ⟨rfl, hw569⟩ := hw569
        have ghw569 : q_X12_isSign z563 A558 z567 := hw569
        have hw569 := hw569.2
        have rz567 : 0 ≤ z567 ∧ z567 ≤ 1 := hw569.1
        replace hw569 := Hd.mk hw569.2
        refine lv_if_ne (tgt := 511) hx hb (dk_at dkX12_goesOn_16 2 rfl) (by decide) (fun c570 => ?_) (fun c570 => ?_)
        · have c570 : ¬ z567 = 0 := mt (i_eq0 (rb rz567 (by decide) (by decide))).mpr c570
          have hw569b := hw569.out.mp (by omega)
          have r_A558_0_8 : (0 : Int) ≤ (A558 0 8) ∧ (A558 0 8) ≤ 5 := hI 0 8
          exact mb_X12_goesOn_c511 l dC dI cB cI cJ cZ cQ q A hI0 hp0 hp1 hp2 hp3 hp4 hcCI p e s m below meth c Q AS hx hb hml hown hts hK hDD hA0 RET _ _ _ z1 (by omega) hz1 _ hI (fr.trans (fr.rf) hj557 rfl rfl) (by exact Hd.mk (by  omega)) (fun zq uq hq => hk9 _ _ (u_d_X12_goesOn_9 ⟨f565, ⟨z567, ghw569, (Or.inl ⟨c570, hq⟩)⟩⟩)) hP hS (lv_sub hl [0, 1, 2] rfl)
        · have c570 : z567 = 0 := (i_eq0 (rb rz567 (by decide) (by decide))).mp c570
          refine lv_aload_n hx hb (dk_at dkX12_goesOn_16 3 rfl) rfl (lv_at hl 0 rfl) ?_
          refine lv_iconst (v := iI 1) hx hb (dk_at dkX12_goesOn_16 4 rfl) (by decide +kernel) ?_
          refine lv_aload_n hx hb (dk_at dkX12_goesOn_16 5 rfl) rfl (lv_at hl 0 rfl) ?_
          have e_A558_4 : A558 0 4 = (A 0 4) := (hj557.2 4 rfl)
          refine va_get (D := (dC, dI)) (ci := 12) (v := .int (iI (A558 0 4))) (C := RX12) (T := TX12) (N := 85) hx hb hts hiX12 hown hK hP 0 wm0 rfl 4 (by decide) (hts _ (List.mem_cons_of_mem _ (wl_in_0 _ (List.mem_of_getElem? (i := 23) rfl)))) (fun _ h9 => h9) rfl (dk_at dkX12_goesOn_16 6 rfl) ?_
          refine tp_i (y := iI (A 0 4)) (congrArg iI e_A558_4) ?_
          refine x_callv (As := [.int (iI 1), .int (iI (A 0 4))]) (rest := []) ⟨hx, hb, hml, hown, hts⟩ (mc_X12_blame l dC dI cB cI cJ cZ cQ q _ 1 (A 0 4) hI ⟨by decide, by decide⟩ r_A_0_4) (cwV 2 hts (goodV (wl_in_0 _ (List.mem_of_getElem? (i := 31) rfl)) (wl_in_0 _ (List.mem_of_getElem? (i := 32) rfl)) (wl_in_0 _ (List.mem_of_getElem? (i := 33) rfl)) (wl_in_0 _ (List.mem_of_getElem? (i := 8) rfl)) (wl_in_0 _ (List.mem_of_getElem? (i := 15) rfl))) rfl rfl rfl (by decide +kernel) ⟨Nat.le_of_ble_eq_true rfl, Nat.le_of_ble_eq_true rfl⟩) hK hDD hA0 hP hS 0 12 wm0 rfl rfl hl.1 (Nat.le_of_ble_eq_true rfl) (dk_at dkX12_goesOn_16 7 rfl) (fun A572 H locs hw573 hP hS => ?_)
          have ghw573 : q_X12_blame 1 (A 0 4) A558 A572 := hw573
          obtain ⟨_, hI, hf574, hw573⟩ := hw573
          have r_A572_0_8 : (0 : Int) ≤ (A572 0 8) ∧ (A572 0 8) ≤ 5 := hI 0 8
          have e_A572_3 : A572 0 3 = (A 0 3) := (hf574.2 3 rfl).trans e_A558_3
          exact mb_X12_goesOn_c511 l dC dI cB cI cJ cZ cQ q A hI0 hp0 hp1 hp2 hp3 hp4 hcCI p e s m below meth c Q AS hx hb hml hown hts hK hDD hA0 RET _ _ _ z1 (by omega) hz1 _ hI (fr.trans (fr.trans (fr.rf) hj557 rfl rfl) hf574 rfl rfl) (by exact Hd.mk (by  omega)) (fun zq uq hq => hk9 _ _ (u_d_X12_goesOn_9 ⟨f565, ⟨z567, ghw569, (Or.inr ⟨c570, ⟨A572, ghw573, hq⟩⟩)⟩⟩)) hP hS (lv_sub hl [0, 1, 2] rfl)
      refine lv_icmp_ne (tgt := 494) hx hb (dk_at dkX12_goesOn_15 13 rfl) (by decide) (fun c561 => ?_) (fun c561 => ?_)
      · have c561 : ¬ z1 = 5 := mt (i_eq (rb rz1 (by decide) (by decide)) ⟨by decide, by decide⟩).mpr c561
        refine lv_bipush (v := iI 41) hx hb (dk_at dkX12_goesOn_16 0 rfl) (by decide +kernel) ?_
        exact J496_562 41 _ _ _ (by omega) (by omega) (fun zq uq hq => hk8 _ _ (u_d_X12_goesOn_8 ⟨hIv, (Or.inl ⟨c559, (Or.inl ⟨c560, (Or.inl ⟨c561, hq⟩)⟩)⟩)⟩)) hP hS (lv_sub hl [0, 1, 2] rfl)
      · have c561 : z1 = 5 := (i_eq (rb rz1 (by decide) (by decide)) ⟨by decide, by decide⟩).mp c561
        refine lv_bipush (v := iI 93) hx hb (dk_at dkX12_goesOn_15 14 rfl) (by decide +kernel) ?_
        refine lv_goto (tgt := 496) hx hb (dk_at dkX12_goesOn_15 15 rfl) (by decide) ?_
        exact J496_562 93 _ _ _ (by omega) (by omega) (fun zq uq hq => hk8 _ _ (u_d_X12_goesOn_8 ⟨hIv, (Or.inl ⟨c559, (Or.inl ⟨c560, (Or.inr ⟨c561, hq⟩)⟩)⟩)⟩)) hP hS (lv_sub hl [0, 1, 2] rfl)
    · have c560 : z1 = 3 := (i_eq (rb rz1 (by decide) (by decide)) ⟨by decide, by decide⟩).mp c560
      refine lv_aload_n hx hb (dk_at dkX12_goesOn_13 13 rfl) rfl (lv_at hl 0 rfl) ?_
      refine lv_bipush (v := iI 44) hx hb (dk_at dkX12_goesOn_13 14 rfl) (by decide +kernel) ?_
      have e_A558_3 : A558 0 3 = (A 0 3) := (hj557.2 3 rfl)
      have e_A558_6 : A558 0 6 = (A 0 6) := (hj557.2 6 rfl)
      have r_A_0_6 : (-2147483648 : Int) ≤ (A 0 6) ∧ (A 0 6) ≤ 2147483647 := by rw [← e_A558_6]; exact hI 0 6
      refine x_calli (As := [.int (iI 44)]) (rest := []) ⟨hx, hb, hml, hown, hts⟩ (mb_X12_isSign l dC dI cB cI cJ cZ cQ q _ 44 hI ⟨by decide, by decide⟩) (cwV 1 hts (goodV (wl_in_0 _ (List.mem_of_getElem? (i := 37) rfl)) (wl_in_0 _ (List.mem_of_getElem? (i := 38) rfl)) (wl_in_0 _ (List.mem_of_getElem? (i := 39) rfl)) (wl_in_0 _ (List.mem_of_getElem? (i := 8) rfl)) (wl_in_0 _ (List.mem_of_getElem? (i := 34) rfl))) rfl rfl rfl (by decide +kernel) ⟨Nat.le_of_ble_eq_true rfl, Nat.le_of_ble_eq_true rfl⟩) hK hDD hA0 hP hS 0 12 wm0 rfl rfl hl.1 (Nat.le_of_ble_eq_true rfl) (dk_at dkX12_goesOn_13 15 rfl) (fun z703 A704 H locs hw705 hP hS => ?_)
      obtain ⟨rfl, hw705⟩ := hw705
      have ghw705 : q_X12_isSign 44 A558 z703 := hw705
      have hw705 := hw705.2
      have rz703 : 0 ≤ z703 ∧ z703 ≤ 1 := hw705.1
      replace hw705 := Hd.mk hw705.2
      have J451_707 : ∀ (A712 : St) (H : Heap) (locs : List Loc) (ls : Array Slot), (Hd ((A712 0 8) = 0 → (A712 0 3) = 3)) → (∀ (z : Int) (u : St), (d_X12_goesOn_11 A z u A712) → r_X12_goesOn A z u) → IM A712 → fr [] [8, 9] A558 A712 → va_P (dC, dI) vwCl (WM cI cJ cZ q A712) H → va_S AS s.heap H locs → lv_has ls 5 [(0, .ref (q 0)), (1, .int (iI ((A 0 53) - 1))), (2, .int (iI z1))] → W p l e (headSpec ws_mb_X12_goesOn ({ frames := 2, cells := 0, slots := 0, locals := 47 } : Room)).room s m [.ref (q 0)].toArray below meth c H locs 0 0 Q (F0 m 451 ls []) := by
        intro A712 H locs ls f713 hk11 hI hj711 hP hS hl
        have gI714 : Hd (IM A712) := Hd.mk hI
        refine lv_aload_n hx hb (dk_at dkX12_goesOn_14 6 rfl) rfl (lv_at hl 0 rfl) ?_
        refine va_get (D := (dC, dI)) (ci := 12) (v := .int (iI (A712 0 8))) (C := RX12) (T := TX12) (N := 85) hx hb hts hiX12 hown hK hP 0 wm0 rfl 8 (by decide) (hts _ (List.mem_cons_of_mem _ (wl_in_0 _ (List.mem_of_getElem? (i := 16) rfl)))) (fun _ h9 => h9) rfl (dk_at dkX12_goesOn_14 7 rfl) ?_
        have r_A712_0_8 : (0 : Int) ≤ (A712 0 8) ∧ (A712 0 8) ≤ 5 := hI 0 8
        refine lv_if_le (tgt := 460) hx hb (dk_at dkX12_goesOn_14 8 rfl) (by decide) (fun c715 => ?_) (fun c715 => ?_)
        · have c715 : (A712 0 8) ≤ 0 := (i_le0 (rb r_A712_0_8 (by decide) (by decide))).mp c715
          refine lv_aload_n hx hb (dk_at dkX12_goesOn_14 11 rfl) rfl (lv_at hl 0 rfl) ?_
          refine lv_iconst (v := iI 1) hx hb (dk_at dkX12_goesOn_14 12 rfl) (by decide +kernel) ?_
          refine x_callv (As := [.int (iI 1)]) (rest := []) ⟨hx, hb, hml, hown, hts⟩ (mb_X12_joins l dC dI cB cI cJ cZ cQ q _ 1 hI ⟨by decide, by decide⟩ (by exact (RI1.fr (RI1.fr hp0 hj557 rfl rfl) hj711 rfl rfl)) (CI.fr (CI.fr hcCI hj557 rfl rfl) hj711 rfl rfl) (SP.fr (SP.fr hp4 hj557 rfl rfl) hj711 rfl rfl)) (cwV 1 hts (goodV (wl_in_2 _ (List.mem_of_getElem? (i := 10) rfl)) (wl_in_2 _ (List.mem_of_getElem? (i := 11) rfl)) (wl_in_2 _ (List.mem_of_getElem? (i := 12) rfl)) (wl_in_0 _ (List.mem_of_getElem? (i := 8) rfl)) (wl_in_1 _ (List.mem_of_getElem? (i := 34) rfl))) rfl rfl rfl (by decide +kernel) ⟨Nat.le_of_ble_eq_true rfl, Nat.le_of_ble_eq_true rfl⟩) hK hDD hA0 hP hS 0 12 wm0 rfl rfl hl.1 (Nat.le_of_ble_eq_true rfl) (dk_at dkX12_goesOn_14 13 rfl) (fun A716 H locs hw717 hP hS => ?_)
          have ghw717 : q_X12_joins 1 A712 A716 := hw717
          obtain ⟨_, hI, hf718, hw717⟩ := hw717
          obtain ⟨hc719, hw717⟩ := hw717
          obtain ⟨hc720, hw717⟩ := hw717
          have e_A558_53 : A558 0 53 = (A 0 53) := (hj557.2 53 rfl)
          have e_A712_53 : A712 0 53 = (A 0 53) := (hj711.2 53 rfl).trans e_A558_53
          have e_A716_53 : A716 0 53 = (A 0 53) := (hf718.2 53 rfl).trans e_A712_53
          have r_A716_0_56 : (0 : Int) ≤ (A716 0 56) ∧ (A716 0 56) ≤ 500 := hI 0 56
          have hj1 := hw717.1
          have hj2 := Hd.mk hw717.2
          clear hw717
          have hIj := hI
          have hrj := RI.room hj1 hIj
          have e_A712_3 : A712 0 3 = (A 0 3) := (hj711.2 3 rfl).trans e_A558_3
          have e_A716_3 : A716 0 3 = (A 0 3) := (hf718.2 3 rfl).trans e_A712_3
          have e_A558_4 : A558 0 4 = (A 0 4) := (hj557.2 4 rfl)
          have e_A712_4 : A712 0 4 = (A 0 4) := (hj711.2 4 rfl).trans e_A558_4
          have e_A716_4 : A716 0 4 = (A 0 4) := (hf718.2 4 rfl).trans e_A712_4
          have e_A558_5 : A558 0 5 = (A 0 5) := (hj557.2 5 rfl)
          have e_A712_5 : A712 0 5 = (A 0 5) := (hj711.2 5 rfl).trans e_A558_5
          have e_A716_5 : A716 0 5 = (A 0 5) := (hf718.2 5 rfl).trans e_A712_5
          have e_A558_7 : A558 0 7 = (A 0 7) := (hj557.2 7 rfl)
          have e_A712_7 : A712 0 7 = (A 0 7) := (hj711.2 7 rfl).trans e_A558_7
          have e_A716_7 : A716 0 7 = (A 0 7) := (hf718.2 7 rfl).trans e_A712_7
          have e_A716_8 : A716 0 8 = (A712 0 8) := (hf718.2 8 rfl)
          have e_A558_47 : A558 0 47 = (A 0 47) := (hj557.2 47 rfl)
          have e_A712_47 : A712 0 47 = (A 0 47) := (hj711.2 47 rfl).trans e_A558_47
          have e_A716_47 : A716 0 47 = (A 0 47) := (hf718.2 47 rfl).trans e_A712_47
          have e_A558_54 : A558 0 54 = (A 0 54) := (hj557.2 54 rfl)
          have e_A712_54 : A712 0 54 = (A 0 54) := (hj711.2 54 rfl).trans e_A558_54
          have e_A716_54 : A716 0 54 = (A 0 54) := (hf718.2 54 rfl).trans e_A712_54
          have r_A716_0_46 : (0 : Int) ≤ (A716 0 46) ∧ (A716 0 46) ≤ 1600 := hI 0 46
          refine lv_aload_n hx hb (dk_at dkX12_goesOn_14 14 rfl) rfl (lv_at hl 0 rfl) ?_
          refine va_get (D := (dC, dI)) (ci := 12) (v := .ref (q 35)) (C := RX12) (T := TX12) (N := 85) hx hb hts hiX12 hown hK hP 0 wm0 rfl 48 (by decide) (hts _ (List.mem_cons_of_mem _ (wl_in_1 _ (List.mem_of_getElem? (i := 46) rfl)))) (fun _ h9 => h9) rfl (dk_at dkX12_goesOn_14 15 rfl) ?_
          refine lv_iload_n hx hb (dk_at dkX12_goesOn_15 0 rfl) rfl (lv_at hl 1 rfl) ?_
          refine lv_iconst (v := iI 4) hx hb (dk_at dkX12_goesOn_15 1 rfl) (by decide +kernel) ?_
          refine x_iast hx hb hK hP hDD hS 35 1 wm35 rfl (by omega) (by decide) (dk_at dkX12_goesOn_15 2 rfl) ws35 (fun H locs hP hS => ?_)
          have hI := hI.st (j := 35) (i := ((A 0 53) - 1).toNat) (v := 4) (show (0 : Int) ≤ 4 ∧ 4 ≤ 5 from (by omega))
          refine lv_aload_n hx hb (dk_at dkX12_goesOn_15 3 rfl) rfl (lv_at hl 0 rfl) ?_
          obtain ⟨A721, hA721⟩ : ∃ A721 : St, A721 = (stA A716 35 ((A 0 53) - 1).toNat 4) := ⟨_, rfl⟩
          rw [← hA721] at hP hI
          have e_A721_4 : A721 0 4 = (A 0 4) := by rw [hA721]; exact e_A716_4
          have e_A721_5 : A721 0 5 = (A 0 5) := by rw [hA721]; exact e_A716_5
          have e_A721_8 : A721 0 8 = (A712 0 8) := by rw [hA721]; exact e_A716_8
          refine x_callv (As := []) (rest := []) ⟨hx, hb, hml, hown, hts⟩ (mb_X12_ahead l dC dI cB cI cJ cZ cQ q _ hI) (cwV 0 hts (goodV (wl_in_0 _ (List.mem_of_getElem? (i := 40) rfl)) (wl_in_0 _ (List.mem_of_getElem? (i := 41) rfl)) (wl_in_0 _ (List.mem_of_getElem? (i := 42) rfl)) (wl_in_0 _ (List.mem_of_getElem? (i := 8) rfl)) (wl_in_0 _ (List.mem_of_getElem? (i := 20) rfl))) rfl rfl rfl (by decide +kernel) ⟨Nat.le_of_ble_eq_true rfl, Nat.le_of_ble_eq_true rfl⟩) hK hDD hA0 hP hS 0 12 wm0 rfl rfl hl.1 (Nat.le_of_ble_eq_true rfl) (dk_at dkX12_goesOn_15 4 rfl) (fun A722 H locs hw723 hP hS => ?_)
          have ghw723 : q_X12_ahead A721 A722 := hw723
          obtain ⟨_, hI, hf724, hw723⟩ := hw723
          have r_A722_0_3 : (0 : Int) ≤ (A722 0 3) ∧ (A722 0 3) ≤ 3 := hI 0 3
          have r_A722_0_4 : (0 : Int) ≤ (A722 0 4) ∧ (A722 0 4) ≤ 1600 := hI 0 4
          have r_A722_0_5 : (0 : Int) ≤ (A722 0 5) ∧ (A722 0 5) ≤ 1600 := hI 0 5
          have r_A722_0_8 : (0 : Int) ≤ (A722 0 8) ∧ (A722 0 8) ≤ 5 := hI 0 8
          have hw723x := hw723.1
          have hw723y := hw723.2.1
          replace hw723 := Hd.mk hw723
          refine lv_aload_n hx hb (dk_at dkX12_goesOn_15 5 rfl) rfl (lv_at hl 0 rfl) ?_
          refine lv_iconst (v := iI 0) hx hb (dk_at dkX12_goesOn_15 6 rfl) (by decide +kernel) ?_
          refine x_put (D := (dC, dI)) (ci := 12) (v := .int (iI 0)) (ty := .boolean) (C := RX12) (T := TX12) (N := 85) hx hb hts hiX12 tyX12 tyX12_ok nmX12 hown hK hP hDD hS 0 wm0 rfl 57 (by decide) (hts _ (List.mem_cons_of_mem _ (wl_in_2 _ (List.mem_of_getElem? (i := 9) rfl)))) (fun _ h9 => h9) rfl (by decide +kernel) (by decide +kernel) rfl (Nat.le_of_ble_eq_true rfl) (dk_at dkX12_goesOn_15 7 rfl) (wf57 (v := 0)) (fun H locs hP hS => ?_)
          have hI := hI.st (j := 0) (i := 57) (v := 0) (show (0 : Int) ≤ 0 ∧ 0 ≤ 1 from (by omega))
          refine lv_iconst (v := iI 1) hx hb (dk_at dkX12_goesOn_15 8 rfl) (by decide +kernel) ?_
          obtain ⟨A725, hA725⟩ : ∃ A725 : St, A725 = (stA A722 0 57 0) := ⟨_, rfl⟩
          rw [← hA725] at hP hI
          have e_A725_4 : A725 0 4 = (A722 0 4) := by rw [hA725]; exact rfl
          have e_A725_5 : A725 0 5 = (A722 0 5) := by rw [hA725]; exact rfl
          have e_A725_8 : A725 0 8 = (A722 0 8) := by rw [hA725]; exact rfl
          have e_A721_46 : A721 0 46 = (A716 0 46) := by rw [hA721]; exact rfl
          have e_A722_46 : A722 0 46 = (A716 0 46) := (hf724.2 46 rfl).trans e_A721_46
          have e_A725_46 : A725 0 46 = (A716 0 46) := by rw [hA725]; exact e_A722_46
          have e_A721_47 : A721 0 47 = (A 0 47) := by rw [hA721]; exact e_A716_47
          have e_A722_47 : A722 0 47 = (A 0 47) := (hf724.2 47 rfl).trans e_A721_47
          have e_A725_47 : A725 0 47 = (A 0 47) := by rw [hA725]; exact e_A722_47
          have e_A725_57 : A725 0 57 = 0 := by rw [hA725]; rfl
          have ca726 : A558 35 = A 35 := (hj557.1 35 (by decide) rfl)
          have ca727 : A712 35 = A 35 := (hj711.1 35 (by decide) rfl).trans ca726
          have ca728 : A716 35 = A 35 := (hf718.1 35 (by decide) rfl).trans ca727
          have ca729 : A725 1 = A722 1 := by rw [hA725]; exact rfl
          have e_A725_3 : A725 0 3 = (A722 0 3) := by rw [hA725]; exact rfl
          have e_A725_7 : A725 0 7 = (A722 0 7) := by rw [hA725]; exact rfl
          have gs := f713.out (by omega)
          have hlt := RI.lt hp0 (by omega)
          have e35 : A721 35 = up (A716 35) (A716 0 53 - 1).toNat 4 := by rw [hA721]; show up (A716 35) _ _ = _; rw [e_A716_53]
          have ca730 : A722 35 = A721 35 := (hf724.1 35 (by decide) rfl)
          have ca731 : A725 35 = A721 35 := by rw [hA725]; exact ca730
          have ca732 : A721 29 = A716 29 := by rw [hA721]; exact rfl
          have ca733 : A722 29 = A716 29 := (hf724.1 29 (by decide) rfl).trans ca732
          have ca734 : A725 29 = A716 29 := by rw [hA725]; exact ca733
          have ca735 : A721 31 = A716 31 := by rw [hA721]; exact rfl
          have ca736 : A722 31 = A716 31 := (hf724.1 31 (by decide) rfl).trans ca735
          have ca737 : A725 31 = A716 31 := by rw [hA725]; exact ca736
          have ca738 : A721 33 = A716 33 := by rw [hA721]; exact rfl
          have ca739 : A722 33 = A716 33 := (hf724.1 33 (by decide) rfl).trans ca738
          have ca740 : A725 33 = A716 33 := by rw [hA725]; exact ca739
          have ca741 : A721 37 = A716 37 := by rw [hA721]; exact rfl
          have ca742 : A722 37 = A716 37 := (hf724.1 37 (by decide) rfl).trans ca741
          have ca743 : A725 37 = A716 37 := by rw [hA725]; exact ca742
          have ca744 : A721 39 = A716 39 := by rw [hA721]; exact rfl
          have ca745 : A722 39 = A716 39 := (hf724.1 39 (by decide) rfl).trans ca744
          have ca746 : A725 39 = A716 39 := by rw [hA725]; exact ca745
          have ca747 : A721 40 = A716 40 := by rw [hA721]; exact rfl
          have ca748 : A722 40 = A716 40 := (hf724.1 40 (by decide) rfl).trans ca747
          have ca749 : A725 40 = A716 40 := by rw [hA725]; exact ca748
          have e_A721_53 : A721 0 53 = (A 0 53) := by rw [hA721]; exact e_A716_53
          have e_A722_53 : A722 0 53 = (A 0 53) := (hf724.2 53 rfl).trans e_A721_53
          have e_A725_53 : A725 0 53 = (A 0 53) := by rw [hA725]; exact e_A722_53
          have e_A721_54 : A721 0 54 = (A 0 54) := by rw [hA721]; exact e_A716_54
          have e_A722_54 : A722 0 54 = (A 0 54) := (hf724.2 54 rfl).trans e_A721_54
          have e_A725_54 : A725 0 54 = (A 0 54) := by rw [hA725]; exact e_A722_54
          have e_A721_56 : A721 0 56 = (A716 0 56) := by rw [hA721]; exact rfl
          have e_A722_56 : A722 0 56 = (A716 0 56) := (hf724.2 56 rfl).trans e_A721_56
          have e_A725_56 : A725 0 56 = (A716 0 56) := by rw [hA725]; exact e_A722_56
          have ca750 : A721 38 = A716 38 := by rw [hA721]; exact rfl
          have ca751 : A722 38 = A716 38 := (hf724.1 38 (by decide) rfl).trans ca750
          have ca752 : A725 38 = A716 38 := by rw [hA725]; exact ca751
          exact RET 1 _ _ _ _ _ ⟨hk11 _ _ (u_d_X12_goesOn_11 ⟨gI714.out, (Or.inl ⟨c715, ⟨A716, ghw717, ⟨A721, hA721, ⟨A722, ghw723, ⟨A725, hA725, ⟨rfl, rfl⟩⟩⟩⟩⟩⟩)⟩), hI, fr_def hA725 (fr.sf (fr.trans (fr_def hA721 (fr.st (fr.trans (fr.trans (fr.trans (fr.rf) hj557 rfl rfl) hj711 rfl rfl) hf718 rfl rfl) (by decide) rfl)) hf724 rfl rfl) rfl), (CI.fr (CI.fr (CI.fr hc719 (fr_def hA721 (fr.st (fr.rf (M := [35]) (N := [])) (by decide) rfl)) rfl rfl) hf724 rfl rfl) (fr_def hA725 (fr.sf (fr.rf (M := []) (N := [57])) rfl)) rfl rfl), ⟨by decide, Hd.mk (fun h0 => ⟨fun _ => ⟨by rw [e_A725_57]; exact RI.comma hj1 hIj (by omega) (by rw [ca728, e_A716_53, ← hz1]; omega) ⟨ca734, ca737, ca740, (ca731.trans e35), ca743, ca746, ca749, e_A725_46, (e_A725_47.trans e_A716_47.symm), (e_A725_53.trans e_A716_53.symm), (e_A725_54.trans e_A716_54.symm), e_A725_56⟩ (by omega) (by omega) (LX.of ca729 e_A725_3 e_A725_4 e_A725_5 e_A725_7 hw723.out.2.2.1), ⟨PR.comma (PR.fr (PR.fr (PR.fr hp2 hj557 rfl rfl) hj711 rfl rfl) hf718 rfl rfl) (by rw [ca728, e_A716_53, ← hz1]; omega) (ca731.trans e35) (e_A725_53.trans e_A716_53.symm) ca752, (SP.fr (SP.fr (SP.fr hc720 (fr_def hA721 (fr.st (fr.rf (M := [35]) (N := [])) (by decide) rfl)) rfl rfl) hf724 rfl rfl) (fr_def hA725 (fr.sf (fr.rf (M := []) (N := [57])) rfl)) rfl rfl)⟩, by omega⟩, fun h => absurd h (by decide)⟩)⟩⟩ hP hS (dk_at dkX12_goesOn_15 9 rfl)
        · have c715 : ¬ (A712 0 8) ≤ 0 := mt (i_le0 (rb r_A712_0_8 (by decide) (by decide))).mpr c715
          refine lv_iconst (v := iI 0) hx hb (dk_at dkX12_goesOn_14 9 rfl) (by decide +kernel) ?_
          have e_A558_4 : A558 0 4 = (A 0 4) := (hj557.2 4 rfl)
          have e_A712_4 : A712 0 4 = (A 0 4) := (hj711.2 4 rfl).trans e_A558_4
          have e_A558_5 : A558 0 5 = (A 0 5) := (hj557.2 5 rfl)
          have e_A712_5 : A712 0 5 = (A 0 5) := (hj711.2 5 rfl).trans e_A558_5
          have e_A558_46 : A558 0 46 = (A 0 46) := (hj557.2 46 rfl)
          have e_A712_46 : A712 0 46 = (A 0 46) := (hj711.2 46 rfl).trans e_A558_46
          have e_A558_47 : A558 0 47 = (A 0 47) := (hj557.2 47 rfl)
          have e_A712_47 : A712 0 47 = (A 0 47) := (hj711.2 47 rfl).trans e_A558_47
          have e_A558_57 : A558 0 57 = (A 0 57) := (hj557.2 57 rfl)
          have e_A712_57 : A712 0 57 = (A 0 57) := (hj711.2 57 rfl).trans e_A558_57
          have r_A_0_57 : (0 : Int) ≤ (A 0 57) ∧ (A 0 57) ≤ 1 := by rw [← e_A712_57]; exact hI 0 57
          exact RET 0 _ _ _ _ _ ⟨hk11 _ _ (u_d_X12_goesOn_11 ⟨gI714.out, (Or.inr ⟨c715, ⟨rfl, rfl⟩⟩)⟩), hI, fr.trans (fr.trans (fr.rf) hj557 rfl rfl) hj711 rfl rfl, (CI.fr (CI.fr hcCI hj557 rfl rfl) hj711 rfl rfl), ⟨by decide, Hd.mk (fun h => absurd h (by omega))⟩⟩ hP hS (dk_at dkX12_goesOn_14 10 rfl)
      refine lv_if_ne (tgt := 451) hx hb (dk_at dkX12_goesOn_14 0 rfl) (by decide) (fun c706 => ?_) (fun c706 => ?_)
      · have c706 : ¬ z703 = 0 := mt (i_eq0 (rb rz703 (by decide) (by decide))).mpr c706
        have hw705b := hw705.out.mp (by omega)
        have r_A558_0_8 : (0 : Int) ≤ (A558 0 8) ∧ (A558 0 8) ≤ 5 := hI 0 8
        exact J451_707 _ _ _ _ (by exact Hd.mk (by  omega)) (fun zq uq hq => hk8 _ _ (u_d_X12_goesOn_8 ⟨hIv, (Or.inl ⟨c559, (Or.inr ⟨c560, ⟨z703, ghw705, (Or.inl ⟨c706, hq⟩)⟩⟩)⟩)⟩)) hI (fr.rf) hP hS (lv_sub hl [0, 1, 2] rfl)
      · have c706 : z703 = 0 := (i_eq0 (rb rz703 (by decide) (by decide))).mp c706
        refine lv_aload_n hx hb (dk_at dkX12_goesOn_14 1 rfl) rfl (lv_at hl 0 rfl) ?_
        refine lv_iconst (v := iI 1) hx hb (dk_at dkX12_goesOn_14 2 rfl) (by decide +kernel) ?_
        refine lv_aload_n hx hb (dk_at dkX12_goesOn_14 3 rfl) rfl (lv_at hl 0 rfl) ?_
        have e_A558_4 : A558 0 4 = (A 0 4) := (hj557.2 4 rfl)
        refine va_get (D := (dC, dI)) (ci := 12) (v := .int (iI (A558 0 4))) (C := RX12) (T := TX12) (N := 85) hx hb hts hiX12 hown hK hP 0 wm0 rfl 4 (by decide) (hts _ (List.mem_cons_of_mem _ (wl_in_0 _ (List.mem_of_getElem? (i := 23) rfl)))) (fun _ h9 => h9) rfl (dk_at dkX12_goesOn_14 4 rfl) ?_
        refine tp_i (y := iI (A 0 4)) (congrArg iI e_A558_4) ?_
        refine x_callv (As := [.int (iI 1), .int (iI (A 0 4))]) (rest := []) ⟨hx, hb, hml, hown, hts⟩ (mc_X12_blame l dC dI cB cI cJ cZ cQ q _ 1 (A 0 4) hI ⟨by decide, by decide⟩ r_A_0_4) (cwV 2 hts (goodV (wl_in_0 _ (List.mem_of_getElem? (i := 31) rfl)) (wl_in_0 _ (List.mem_of_getElem? (i := 32) rfl)) (wl_in_0 _ (List.mem_of_getElem? (i := 33) rfl)) (wl_in_0 _ (List.mem_of_getElem? (i := 8) rfl)) (wl_in_0 _ (List.mem_of_getElem? (i := 15) rfl))) rfl rfl rfl (by decide +kernel) ⟨Nat.le_of_ble_eq_true rfl, Nat.le_of_ble_eq_true rfl⟩) hK hDD hA0 hP hS 0 12 wm0 rfl rfl hl.1 (Nat.le_of_ble_eq_true rfl) (dk_at dkX12_goesOn_14 5 rfl) (fun A708 H locs hw709 hP hS => ?_)
        have ghw709 : q_X12_blame 1 (A 0 4) A558 A708 := hw709
        obtain ⟨_, hI, hf710, hw709⟩ := hw709
        have r_A708_0_8 : (0 : Int) ≤ (A708 0 8) ∧ (A708 0 8) ≤ 5 := hI 0 8
        have e_A708_3 : A708 0 3 = (A 0 3) := (hf710.2 3 rfl).trans e_A558_3
        exact J451_707 _ _ _ _ (by exact Hd.mk (by  omega)) (fun zq uq hq => hk8 _ _ (u_d_X12_goesOn_8 ⟨hIv, (Or.inl ⟨c559, (Or.inr ⟨c560, ⟨z703, ghw705, (Or.inr ⟨c706, ⟨A708, ghw709, hq⟩⟩)⟩⟩)⟩)⟩)) hI (fr.trans (fr.rf) hf710 rfl rfl) hP hS (lv_sub hl [0, 1, 2] rfl)
  · have c559 : ¬ 2 ≤ z1 := mt (i_le ⟨by decide, by decide⟩ (rb rz1 (by decide) (by decide))).mpr c559
    refine lv_aload_n hx hb (dk_at dkX12_goesOn_13 2 rfl) rfl (lv_at hl 0 rfl) ?_
    refine va_get (D := (dC, dI)) (ci := 12) (v := .int (iI (A558 0 8))) (C := RX12) (T := TX12) (N := 85) hx hb hts hiX12 hown hK hP 0 wm0 rfl 8 (by decide) (hts _ (List.mem_cons_of_mem _ (wl_in_0 _ (List.mem_of_getElem? (i := 16) rfl)))) (fun _ h9 => h9) rfl (dk_at dkX12_goesOn_13 3 rfl) ?_
    have r_A558_0_8 : (0 : Int) ≤ (A558 0 8) ∧ (A558 0 8) ≤ 5 := hI 0 8
    refine lv_if_ne (tgt := 426) hx hb (dk_at dkX12_goesOn_13 4 rfl) (by decide) (fun c753 => ?_) (fun c753 => ?_)
    · have c753 : ¬ (A558 0 8) = 0 := mt (i_eq0 (rb r_A558_0_8 (by decide) (by decide))).mpr c753
      refine lv_iconst (v := iI 0) hx hb (dk_at dkX12_goesOn_13 8 rfl) (by decide +kernel) ?_
      have e_A558_4 : A558 0 4 = (A 0 4) := (hj557.2 4 rfl)
      have e_A558_5 : A558 0 5 = (A 0 5) := (hj557.2 5 rfl)
      have e_A558_46 : A558 0 46 = (A 0 46) := (hj557.2 46 rfl)
      have e_A558_47 : A558 0 47 = (A 0 47) := (hj557.2 47 rfl)
      have e_A558_57 : A558 0 57 = (A 0 57) := (hj557.2 57 rfl)
      have r_A_0_57 : (0 : Int) ≤ (A 0 57) ∧ (A 0 57) ≤ 1 := by rw [← e_A558_57]; exact hI 0 57
      exact RET 0 _ _ _ _ _ ⟨hk8 _ _ (u_d_X12_goesOn_8 ⟨hIv, (Or.inr ⟨c559, (Or.inl ⟨c753, ⟨rfl, rfl⟩⟩)⟩)⟩), hI, fr.trans (fr.rf) hj557 rfl rfl, (CI.fr hcCI hj557 rfl rfl), ⟨by decide, Hd.mk (fun h => absurd h (by omega))⟩⟩ hP hS (dk_at dkX12_goesOn_13 9 rfl)
    · have c753 : (A558 0 8) = 0 := (i_eq0 (rb r_A558_0_8 (by decide) (by decide))).mp c753
      refine lv_aload_n hx hb (dk_at dkX12_goesOn_13 5 rfl) rfl (lv_at hl 0 rfl) ?_
      refine lv_iconst (v := iI 1) hx hb (dk_at dkX12_goesOn_13 6 rfl) (by decide +kernel) ?_
      refine x_callv (As := [.int (iI 1)]) (rest := []) ⟨hx, hb, hml, hown, hts⟩ (mb_X12_joins l dC dI cB cI cJ cZ cQ q _ 1 hI ⟨by decide, by decide⟩ (by exact (RI1.fr hp0 hj557 rfl rfl)) (CI.fr hcCI hj557 rfl rfl) (SP.fr hp4 hj557 rfl rfl)) (cwV 1 hts (goodV (wl_in_2 _ (List.mem_of_getElem? (i := 10) rfl)) (wl_in_2 _ (List.mem_of_getElem? (i := 11) rfl)) (wl_in_2 _ (List.mem_of_getElem? (i := 12) rfl)) (wl_in_0 _ (List.mem_of_getElem? (i := 8) rfl)) (wl_in_1 _ (List.mem_of_getElem? (i := 34) rfl))) rfl rfl rfl (by decide +kernel) ⟨Nat.le_of_ble_eq_true rfl, Nat.le_of_ble_eq_true rfl⟩) hK hDD hA0 hP hS 0 12 wm0 rfl rfl hl.1 (Nat.le_of_ble_eq_true rfl) (dk_at dkX12_goesOn_13 7 rfl) (fun A754 H locs hw755 hP hS => ?_)
      have ghw755 : q_X12_joins 1 A558 A754 := hw755
      obtain ⟨_, hI, hf756, hw755⟩ := hw755
      obtain ⟨hc757, hw755⟩ := hw755
      obtain ⟨hc758, hw755⟩ := hw755
      have e_A558_53 : A558 0 53 = (A 0 53) := (hj557.2 53 rfl)
      have e_A754_53 : A754 0 53 = (A 0 53) := (hf756.2 53 rfl).trans e_A558_53
      have r_A754_0_56 : (0 : Int) ≤ (A754 0 56) ∧ (A754 0 56) ≤ 500 := hI 0 56
      have hj1 := hw755.1
      have hj2 := Hd.mk hw755.2
      clear hw755
      have hIj := hI
      have hrj := RI.room hj1 hIj
      have e_A558_3 : A558 0 3 = (A 0 3) := (hj557.2 3 rfl)
      have e_A754_3 : A754 0 3 = (A 0 3) := (hf756.2 3 rfl).trans e_A558_3
      have e_A558_4 : A558 0 4 = (A 0 4) := (hj557.2 4 rfl)
      have e_A754_4 : A754 0 4 = (A 0 4) := (hf756.2 4 rfl).trans e_A558_4
      have e_A558_5 : A558 0 5 = (A 0 5) := (hj557.2 5 rfl)
      have e_A754_5 : A754 0 5 = (A 0 5) := (hf756.2 5 rfl).trans e_A558_5
      have e_A558_7 : A558 0 7 = (A 0 7) := (hj557.2 7 rfl)
      have e_A754_7 : A754 0 7 = (A 0 7) := (hf756.2 7 rfl).trans e_A558_7
      have e_A754_8 : A754 0 8 = (A558 0 8) := (hf756.2 8 rfl)
      have e_A558_47 : A558 0 47 = (A 0 47) := (hj557.2 47 rfl)
      have e_A754_47 : A754 0 47 = (A 0 47) := (hf756.2 47 rfl).trans e_A558_47
      have e_A558_54 : A558 0 54 = (A 0 54) := (hj557.2 54 rfl)
      have e_A754_54 : A754 0 54 = (A 0 54) := (hf756.2 54 rfl).trans e_A558_54
      have r_A754_0_46 : (0 : Int) ≤ (A754 0 46) ∧ (A754 0 46) ≤ 1600 := hI 0 46
      refine lv_iconst (v := iI 0) hx hb (dk_at dkX12_goesOn_13 8 rfl) (by decide +kernel) ?_
      have e_A558_57 : A558 0 57 = (A 0 57) := (hj557.2 57 rfl)
      have e_A754_57 : A754 0 57 = (A 0 57) := (hf756.2 57 rfl).trans e_A558_57
      have r_A_0_57 : (0 : Int) ≤ (A 0 57) ∧ (A 0 57) ≤ 1 := by rw [← e_A754_57]; exact hI 0 57
      have ca759 : A558 35 = A 35 := (hj557.1 35 (by decide) rfl)
      have ca760 : A754 35 = A 35 := (hf756.1 35 (by decide) rfl).trans ca759
      exact RET 0 _ _ _ _ _ ⟨hk8 _ _ (u_d_X12_goesOn_8 ⟨hIv, (Or.inr ⟨c559, (Or.inr ⟨c753, ⟨A754, ghw755, ⟨rfl, rfl⟩⟩⟩)⟩)⟩), hI, fr.trans (fr.trans (fr.rf) hj557 rfl rfl) hf756 rfl rfl, hc757, ⟨by decide, Hd.mk (fun h0 => ⟨fun h => absurd h (by decide), fun _ => ⟨RI.done hj1 hIj (by rw [ca760, e_A754_53, ← hz1]; omega) (RI.full hj2.out), RI.cb hj1 hIj, by omega⟩⟩)⟩⟩ hP hS (dk_at dkX12_goesOn_13 9 rfl)
set_option maxHeartbeats 4000000 in
set_option maxRecDepth 100000 in
theorem mb_X12_goesOn_c387 (l : Launch) (dC : Nat → ClassId) (dI : Nat → Nat → Nat) (cB cI cJ cZ cQ : ClassId) (q : Nat → Nat) (A : St) (hI : IM A) (hp0 : RI 1 A) (hp1 : A 0 8 = 0) (hp2 : PR A) (hp3 : A 0 57 = 1) (hp4 : SP A) (hcCI : CI A) (p : Program) (e : Env) (s : State) (m : MethodId) (below : List Frame) (meth : Method) (c : Code) (Q : State → Prop) (AS : Nat → Prop) (hx : p.tables.exec = Jvm.exec) (hb : c.code = cX12_goesOn) (hml : c.maxLocals = 5) (hown : s.vm.findClass RX12 = some m.cls) (hts : ∀ w ∈ ws_mb_X12_goesOn, w.before [.ref (q 0)].toArray s = true) (hK : va_K (dC, dI) vwCl (tyA cB cI cJ cZ cQ) s) (hDD : ∀ A', va_D AS (WM cI cJ cZ q A')) (hA0 : ∀ b : Nat, s.heap.size ≤ b → AS b) (RET : ∀ (z : Int) (u : St) (H : Heap) (locs : List Loc) (pc : Nat) (ls : Array Slot), ((fun z u => r_X12_goesOn A z u ∧ IM u ∧ fr [33, 34, 35, 36, 37, 40] [3, 4, 5, 6, 7, 8, 9, 46, 53, 54, 56, 57] A u ∧ CI u ∧ ((0 ≤ z ∧ z ≤ 1) ∧ (Hd (u 0 8 = 0 → (z = 1 → RI (u 0 57) u ∧ (PR u ∧ SP u) ∧ A 0 4 + 1 ≤ u 0 4) ∧ (z = 0 → DP (u 33) (sA u) (1600 * u 0 47 + u 0 46) 1 ∧ CB u ∧ A 0 4 ≤ u 0 4))))) z u) → va_P (dC, dI) vwCl (WM cI cJ cZ q u) H → va_S AS s.heap H locs → decode cX12_goesOn pc = .ok (.ireturn, 1) → W p l e (headSpec ws_mb_X12_goesOn ({ frames := 2, cells := 0, slots := 0, locals := 47 } : Room)).room s m [.ref (q 0)].toArray below meth c H locs 0 0 Q (F0 m pc ls [.int (iI z)])) (H : Heap) (locs : List Loc) (ls : Array Slot) (z1 z2 : Int) (rz1 : (0 : Int) ≤ z1 ∧ z1 ≤ 5) (rz2 : (0 : Int) ≤ z2 ∧ z2 ≤ 1) (hz1 : z1 = A 35 ((A 0 53) - 1).toNat) (hk7 : ∀ (z : Int) (u : St), (d_X12_goesOn_7 A z u z1 z2) → r_X12_goesOn A z u) (hP : va_P (dC, dI) vwCl (WM cI cJ cZ q A) H) (hS : va_S AS s.heap H locs) (hl : lv_has ls 5 [(0, .ref (q 0)), (1, .int (iI ((A 0 53) - 1))), (2, .int (iI z1)), (3, .int (iI z2))]) : W p l e (headSpec ws_mb_X12_goesOn ({ frames := 2, cells := 0, slots := 0, locals := 47 } : Room)).room s m [.ref (q 0)].toArray below meth c H locs 0 0 Q (F0 m 387 ls []) := by
  have hiX12 : ∀ w ∈ u_ws RX12 TX12 85, w ∈ ws_mb_X12_goesOn := fun w h => List.mem_cons_of_mem _ (wx_lay w h)
  have hI0 := hI
  have hdp := RI.deep hp0 hI0
  have hrm := RI.room hp0 hI0
  have r_A_0_3 : (0 : Int) ≤ (A 0 3) ∧ (A 0 3) ≤ 3 := hI 0 3
  have r_A_0_4 : (0 : Int) ≤ (A 0 4) ∧ (A 0 4) ≤ 1600 := hI 0 4
  have r_A_0_5 : (0 : Int) ≤ (A 0 5) ∧ (A 0 5) ≤ 1600 := hI 0 5
  have r_A_0_7 : (-9223372036854775808 : Int) ≤ (A 0 7) ∧ (A 0 7) ≤ 9223372036854775807 := hI 0 7
  have r_A_0_8 : (0 : Int) ≤ (A 0 8) ∧ (A 0 8) ≤ 5 := hI 0 8
  have r_A_0_46 : (0 : Int) ≤ (A 0 46) ∧ (A 0 46) ≤ 1600 := hI 0 46
  have r_A_0_47 : (0 : Int) ≤ (A 0 47) ∧ (A 0 47) ≤ 1 := hI 0 47
  have r_A_0_53 : (0 : Int) ≤ (A 0 53) ∧ (A 0 53) ≤ 20 := hI 0 53
  have r_A_0_54 : (0 : Int) ≤ (A 0 54) ∧ (A 0 54) ≤ 8 := hI 0 54
  have r_A_0_56 : (0 : Int) ≤ (A 0 56) ∧ (A 0 56) ≤ 500 := hI 0 56
  have hop := hp0.1
  refine lv_iload_n hx hb (dk_at dkX12_goesOn_12 3 rfl) rfl (lv_at hl 3 rfl) ?_
  refine lv_if_eq (tgt := 409) hx hb (dk_at dkX12_goesOn_12 4 rfl) (by decide) (fun c550 => ?_) (fun c550 => ?_)
  · have c550 : z2 = 0 := (i_eq0 (rb rz2 (by decide) (by decide))).mp c550
    exact mb_X12_goesOn_c409 l dC dI cB cI cJ cZ cQ q A hI0 hp0 hp1 hp2 hp3 hp4 hcCI p e s m below meth c Q AS hx hb hml hown hts hK hDD hA0 RET _ _ _ z1 (by omega) hz1 _ hI (fr.rf) (fun zq uq hq => hk7 _ _ (u_d_X12_goesOn_7 (Or.inl ⟨c550, hq⟩))) hP hS (lv_sub hl [0, 1, 2] rfl)
  · have c550 : ¬ z2 = 0 := mt (i_eq0 (rb rz2 (by decide) (by decide))).mpr c550
    refine lv_aload_n hx hb (dk_at dkX12_goesOn_12 5 rfl) rfl (lv_at hl 0 rfl) ?_
    refine va_get (D := (dC, dI)) (ci := 12) (v := .ref (q 36)) (C := RX12) (T := TX12) (N := 85) hx hb hts hiX12 hown hK hP 0 wm0 rfl 49 (by decide) (hts _ (List.mem_cons_of_mem _ (wl_in_1 _ (List.mem_of_getElem? (i := 47) rfl)))) (fun _ h9 => h9) rfl (dk_at dkX12_goesOn_12 6 rfl) ?_
    refine lv_iload_n hx hb (dk_at dkX12_goesOn_12 7 rfl) rfl (lv_at hl 1 rfl) ?_
    refine x_iald hx hb hK hP 36 1 wm36 rfl (by omega) (by decide) (dk_at dkX12_goesOn_12 8 rfl) (fun z552 hz552 => ?_)
    have rz552 : (0 : Int) ≤ z552 ∧ z552 ≤ 2 := by rw [hz552]; exact hI 36 _
    have gz552 := Hd.mk hz552
    have hz552 : z552 = A 36 ((A 0 53) - 1).toNat := hz552
    refine lv_if_ne (tgt := 409) hx hb (dk_at dkX12_goesOn_12 9 rfl) (by decide) (fun c553 => ?_) (fun c553 => ?_)
    · have c553 : ¬ z552 = 0 := mt (i_eq0 (rb rz552 (by decide) (by decide))).mpr c553
      exact mb_X12_goesOn_c409 l dC dI cB cI cJ cZ cQ q A hI0 hp0 hp1 hp2 hp3 hp4 hcCI p e s m below meth c Q AS hx hb hml hown hts hK hDD hA0 RET _ _ _ z1 (by omega) hz1 _ hI (fr.rf) (fun zq uq hq => hk7 _ _ (u_d_X12_goesOn_7 (Or.inr ⟨c550, ⟨z552, gz552.out, (Or.inl ⟨c553, hq⟩)⟩⟩))) hP hS (lv_sub hl [0, 1, 2] rfl)
    · have c553 : z552 = 0 := (i_eq0 (rb rz552 (by decide) (by decide))).mp c553
      refine lv_aload_n hx hb (dk_at dkX12_goesOn_12 10 rfl) rfl (lv_at hl 0 rfl) ?_
      refine lv_iconst (v := iI 1) hx hb (dk_at dkX12_goesOn_12 11 rfl) (by decide +kernel) ?_
      refine lv_aload_n hx hb (dk_at dkX12_goesOn_12 12 rfl) rfl (lv_at hl 0 rfl) ?_
      refine va_get (D := (dC, dI)) (ci := 12) (v := .int (iI (A 0 4))) (C := RX12) (T := TX12) (N := 85) hx hb hts hiX12 hown hK hP 0 wm0 rfl 4 (by decide) (hts _ (List.mem_cons_of_mem _ (wl_in_0 _ (List.mem_of_getElem? (i := 23) rfl)))) (fun _ h9 => h9) rfl (dk_at dkX12_goesOn_12 13 rfl) ?_
      refine x_callv (As := [.int (iI 1), .int (iI (A 0 4))]) (rest := []) ⟨hx, hb, hml, hown, hts⟩ (mc_X12_blame l dC dI cB cI cJ cZ cQ q _ 1 (A 0 4) hI ⟨by decide, by decide⟩ r_A_0_4) (cwV 2 hts (goodV (wl_in_0 _ (List.mem_of_getElem? (i := 31) rfl)) (wl_in_0 _ (List.mem_of_getElem? (i := 32) rfl)) (wl_in_0 _ (List.mem_of_getElem? (i := 33) rfl)) (wl_in_0 _ (List.mem_of_getElem? (i := 8) rfl)) (wl_in_0 _ (List.mem_of_getElem? (i := 15) rfl))) rfl rfl rfl (by decide +kernel) ⟨Nat.le_of_ble_eq_true rfl, Nat.le_of_ble_eq_true rfl⟩) hK hDD hA0 hP hS 0 12 wm0 rfl rfl hl.1 (Nat.le_of_ble_eq_true rfl) (dk_at dkX12_goesOn_12 14 rfl) (fun A554 H locs hw555 hP hS => ?_)
      have ghw555 : q_X12_blame 1 (A 0 4) A A554 := hw555
      obtain ⟨_, hI, hf556, hw555⟩ := hw555
      have r_A554_0_8 : (0 : Int) ≤ (A554 0 8) ∧ (A554 0 8) ≤ 5 := hI 0 8
      exact mb_X12_goesOn_c409 l dC dI cB cI cJ cZ cQ q A hI0 hp0 hp1 hp2 hp3 hp4 hcCI p e s m below meth c Q AS hx hb hml hown hts hK hDD hA0 RET _ _ _ z1 (by omega) hz1 _ hI (fr.trans (fr.rf) hf556 rfl rfl) (fun zq uq hq => hk7 _ _ (u_d_X12_goesOn_7 (Or.inr ⟨c550, ⟨z552, gz552.out, (Or.inr ⟨c553, ⟨A554, ghw555, hq⟩⟩)⟩⟩))) hP hS (lv_sub hl [0, 1, 2] rfl)
set_option maxHeartbeats 4000000 in
set_option maxRecDepth 100000 in
theorem mb_X12_goesOn_c272 (l : Launch) (dC : Nat → ClassId) (dI : Nat → Nat → Nat) (cB cI cJ cZ cQ : ClassId) (q : Nat → Nat) (A : St) (hI : IM A) (hp0 : RI 1 A) (hp1 : A 0 8 = 0) (hp2 : PR A) (hp3 : A 0 57 = 1) (hp4 : SP A) (hcCI : CI A) (p : Program) (e : Env) (s : State) (m : MethodId) (below : List Frame) (meth : Method) (c : Code) (Q : State → Prop) (AS : Nat → Prop) (hx : p.tables.exec = Jvm.exec) (hb : c.code = cX12_goesOn) (hml : c.maxLocals = 5) (hown : s.vm.findClass RX12 = some m.cls) (hts : ∀ w ∈ ws_mb_X12_goesOn, w.before [.ref (q 0)].toArray s = true) (hK : va_K (dC, dI) vwCl (tyA cB cI cJ cZ cQ) s) (hDD : ∀ A', va_D AS (WM cI cJ cZ q A')) (hA0 : ∀ b : Nat, s.heap.size ≤ b → AS b) (RET : ∀ (z : Int) (u : St) (H : Heap) (locs : List Loc) (pc : Nat) (ls : Array Slot), ((fun z u => r_X12_goesOn A z u ∧ IM u ∧ fr [33, 34, 35, 36, 37, 40] [3, 4, 5, 6, 7, 8, 9, 46, 53, 54, 56, 57] A u ∧ CI u ∧ ((0 ≤ z ∧ z ≤ 1) ∧ (Hd (u 0 8 = 0 → (z = 1 → RI (u 0 57) u ∧ (PR u ∧ SP u) ∧ A 0 4 + 1 ≤ u 0 4) ∧ (z = 0 → DP (u 33) (sA u) (1600 * u 0 47 + u 0 46) 1 ∧ CB u ∧ A 0 4 ≤ u 0 4))))) z u) → va_P (dC, dI) vwCl (WM cI cJ cZ q u) H → va_S AS s.heap H locs → decode cX12_goesOn pc = .ok (.ireturn, 1) → W p l e (headSpec ws_mb_X12_goesOn ({ frames := 2, cells := 0, slots := 0, locals := 47 } : Room)).room s m [.ref (q 0)].toArray below meth c H locs 0 0 Q (F0 m pc ls [.int (iI z)])) (H : Heap) (locs : List Loc) (ls : Array Slot) (z1 z2 : Int) (rz1 : (0 : Int) ≤ z1 ∧ z1 ≤ 5) (rz2 : (0 : Int) ≤ z2 ∧ z2 ≤ 1) (hz1 : z1 = A 35 ((A 0 53) - 1).toNat) (hk4 : ∀ (z : Int) (u : St), (d_X12_goesOn_4 A z u z1 z2) → r_X12_goesOn A z u) (hP : va_P (dC, dI) vwCl (WM cI cJ cZ q A) H) (hS : va_S AS s.heap H locs) (hl : lv_has ls 5 [(0, .ref (q 0)), (1, .int (iI ((A 0 53) - 1))), (2, .int (iI z1)), (3, .int (iI z2))]) : W p l e (headSpec ws_mb_X12_goesOn ({ frames := 2, cells := 0, slots := 0, locals := 47 } : Room)).room s m [.ref (q 0)].toArray below meth c H locs 0 0 Q (F0 m 272 ls []) := by
  have hiX12 : ∀ w ∈ u_ws RX12 TX12 85, w ∈ ws_mb_X12_goesOn := fun w h => List.mem_cons_of_mem _ (wx_lay w h)
  have hI0 := hI
  have hdp := RI.deep hp0 hI0
  have hrm := RI.room hp0 hI0
  have r_A_0_3 : (0 : Int) ≤ (A 0 3) ∧ (A 0 3) ≤ 3 := hI 0 3
  have r_A_0_4 : (0 : Int) ≤ (A 0 4) ∧ (A 0 4) ≤ 1600 := hI 0 4
  have r_A_0_5 : (0 : Int) ≤ (A 0 5) ∧ (A 0 5) ≤ 1600 := hI 0 5
  have r_A_0_7 : (-9223372036854775808 : Int) ≤ (A 0 7) ∧ (A 0 7) ≤ 9223372036854775807 := hI 0 7
  have r_A_0_8 : (0 : Int) ≤ (A 0 8) ∧ (A 0 8) ≤ 5 := hI 0 8
  have r_A_0_46 : (0 : Int) ≤ (A 0 46) ∧ (A 0 46) ≤ 1600 := hI 0 46
  have r_A_0_47 : (0 : Int) ≤ (A 0 47) ∧ (A 0 47) ≤ 1 := hI 0 47
  have r_A_0_53 : (0 : Int) ≤ (A 0 53) ∧ (A 0 53) ≤ 20 := hI 0 53
  have r_A_0_54 : (0 : Int) ≤ (A 0 54) ∧ (A 0 54) ≤ 8 := hI 0 54
  have r_A_0_56 : (0 : Int) ≤ (A 0 56) ∧ (A 0 56) ≤ 500 := hI 0 56
  have hop := hp0.1
  refine lv_iload_n hx hb (dk_at dkX12_goesOn_8 7 rfl) rfl (lv_at hl 3 rfl) ?_
  refine lv_if_eq (tgt := 387) hx hb (dk_at dkX12_goesOn_8 8 rfl) (by decide) (fun c424 => ?_) (fun c424 => ?_)
  · have c424 : z2 = 0 := (i_eq0 (rb rz2 (by decide) (by decide))).mp c424
    exact mb_X12_goesOn_c387 l dC dI cB cI cJ cZ cQ q A hI0 hp0 hp1 hp2 hp3 hp4 hcCI p e s m below meth c Q AS hx hb hml hown hts hK hDD hA0 RET _ _ _ z1 z2 (by omega) (by omega) hz1 (fun zq uq hq => hk4 _ _ (u_d_X12_goesOn_4 (Or.inl ⟨c424, hq⟩))) hP hS (lv_sub hl [0, 1, 2, 3] rfl)
  · have c424 : ¬ z2 = 0 := mt (i_eq0 (rb rz2 (by decide) (by decide))).mpr c424
    refine lv_aload_n hx hb (dk_at dkX12_goesOn_8 9 rfl) rfl (lv_at hl 0 rfl) ?_
    refine lv_ldc2 (v := 6385252) hx hb hown (hts _ (List.mem_cons_of_mem _ (wl_in_1 _ (List.mem_of_getElem? (i := 1) rfl)))) (dk_at dkX12_goesOn_8 10 rfl) ?_
    refine tp_l (y := jI 6385252) (by decide +kernel) ?_
    refine x_calli (As := [.long (jI 6385252)]) (rest := []) ⟨hx, hb, hml, hown, hts⟩ (mb_X12_isWord l dC dI cB cI cJ cZ cQ q _ 6385252 hI ⟨by decide, by decide⟩) (cwV 1 hts (goodV (wl_in_1 _ (List.mem_of_getElem? (i := 59) rfl)) (wl_in_2 _ (List.mem_of_getElem? (i := 0) rfl)) (wl_in_2 _ (List.mem_of_getElem? (i := 1) rfl)) (wl_in_0 _ (List.mem_of_getElem? (i := 8) rfl)) (wl_in_0 _ (List.mem_of_getElem? (i := 35) rfl))) rfl rfl rfl (by decide +kernel) ⟨Nat.le_of_ble_eq_true rfl, Nat.le_of_ble_eq_true rfl⟩) hK hDD hA0 hP hS 0 12 wm0 rfl rfl hl.1 (Nat.le_of_ble_eq_true rfl) (dk_at dkX12_goesOn_8 11 rfl) (fun z426 A427 H locs hw428 hP hS => ?_)
    obtain ⟨rfl, hw428⟩ := hw428
    have ghw428 : q_X12_isWord 6385252 A z426 := hw428
    have hw428 := hw428.2
    have rz426 : 0 ≤ z426 ∧ z426 ≤ 1 := hw428.1
    replace hw428 := Hd.mk hw428.2
    refine lv_if_ne (tgt := 296) hx hb (dk_at dkX12_goesOn_8 12 rfl) (by decide) (fun c429 => ?_) (fun c429 => ?_)
    · have c429 : ¬ z426 = 0 := mt (i_eq0 (rb rz426 (by decide) (by decide))).mpr c429
      have hw428b := hw428.out.mp (by omega)
      exact mb_X12_goesOn_c296 l dC dI cB cI cJ cZ cQ q A hI0 hp0 hp1 hp2 hp3 hp4 hcCI p e s m below meth c Q AS hx hb hml hown hts hK hDD hA0 RET _ _ _ z1 z2 (by omega) (by omega) hz1 (by omega) (fun zq uq hq => hk4 _ _ (u_d_X12_goesOn_4 (Or.inr ⟨c424, ⟨z426, ghw428, (Or.inl ⟨c429, hq⟩)⟩⟩))) hP hS (lv_sub hl [0, 1, 2, 3] rfl)
    · have c429 : z426 = 0 := (i_eq0 (rb rz426 (by decide) (by decide))).mp c429
      refine lv_aload_n hx hb (dk_at dkX12_goesOn_8 13 rfl) rfl (lv_at hl 0 rfl) ?_
      refine lv_ldc2 (v := 28530) hx hb hown (hts _ (List.mem_cons_of_mem _ (wl_in_1 _ (List.mem_of_getElem? (i := 0) rfl)))) (dk_at dkX12_goesOn_8 14 rfl) ?_
      refine tp_l (y := jI 28530) (by decide +kernel) ?_
      refine x_calli (As := [.long (jI 28530)]) (rest := []) ⟨hx, hb, hml, hown, hts⟩ (mb_X12_isWord l dC dI cB cI cJ cZ cQ q _ 28530 hI ⟨by decide, by decide⟩) (cwV 1 hts (goodV (wl_in_1 _ (List.mem_of_getElem? (i := 59) rfl)) (wl_in_2 _ (List.mem_of_getElem? (i := 0) rfl)) (wl_in_2 _ (List.mem_of_getElem? (i := 1) rfl)) (wl_in_0 _ (List.mem_of_getElem? (i := 8) rfl)) (wl_in_0 _ (List.mem_of_getElem? (i := 35) rfl))) rfl rfl rfl (by decide +kernel) ⟨Nat.le_of_ble_eq_true rfl, Nat.le_of_ble_eq_true rfl⟩) hK hDD hA0 hP hS 0 12 wm0 rfl rfl hl.1 (Nat.le_of_ble_eq_true rfl) (dk_at dkX12_goesOn_8 15 rfl) (fun z431 A432 H locs hw433 hP hS => ?_)
      obtain ⟨rfl, hw433⟩ := hw433
      have ghw433 : q_X12_isWord 28530 A z431 := hw433
      have hw433 := hw433.2
      have rz431 : 0 ≤ z431 ∧ z431 ≤ 1 := hw433.1
      replace hw433 := Hd.mk hw433.2
      refine lv_if_eq (tgt := 387) hx hb (dk_at dkX12_goesOn_9 0 rfl) (by decide) (fun c434 => ?_) (fun c434 => ?_)
      · have c434 : z431 = 0 := (i_eq0 (rb rz431 (by decide) (by decide))).mp c434
        exact mb_X12_goesOn_c387 l dC dI cB cI cJ cZ cQ q A hI0 hp0 hp1 hp2 hp3 hp4 hcCI p e s m below meth c Q AS hx hb hml hown hts hK hDD hA0 RET _ _ _ z1 z2 (by omega) (by omega) hz1 (fun zq uq hq => hk4 _ _ (u_d_X12_goesOn_4 (Or.inr ⟨c424, ⟨z426, ghw428, (Or.inr ⟨c429, ⟨z431, ghw433, (Or.inl ⟨c434, hq⟩)⟩⟩)⟩⟩))) hP hS (lv_sub hl [0, 1, 2, 3] rfl)
      · have c434 : ¬ z431 = 0 := mt (i_eq0 (rb rz431 (by decide) (by decide))).mpr c434
        have hw433b := hw433.out.mp (by omega)
        exact mb_X12_goesOn_c296 l dC dI cB cI cJ cZ cQ q A hI0 hp0 hp1 hp2 hp3 hp4 hcCI p e s m below meth c Q AS hx hb hml hown hts hK hDD hA0 RET _ _ _ z1 z2 (by omega) (by omega) hz1 (by omega) (fun zq uq hq => hk4 _ _ (u_d_X12_goesOn_4 (Or.inr ⟨c424, ⟨z426, ghw428, (Or.inr ⟨c429, ⟨z431, ghw433, (Or.inr ⟨c434, hq⟩)⟩⟩)⟩⟩))) hP hS (lv_sub hl [0, 1, 2, 3] rfl)
set_option maxHeartbeats 4000000 in
set_option maxRecDepth 100000 in
theorem mb_X12_goesOn_c175 (l : Launch) (dC : Nat → ClassId) (dI : Nat → Nat → Nat) (cB cI cJ cZ cQ : ClassId) (q : Nat → Nat) (A : St) (hI : IM A) (hp0 : RI 1 A) (hp1 : A 0 8 = 0) (hp2 : PR A) (hp3 : A 0 57 = 1) (hp4 : SP A) (hcCI : CI A) (p : Program) (e : Env) (s : State) (m : MethodId) (below : List Frame) (meth : Method) (c : Code) (Q : State → Prop) (AS : Nat → Prop) (hx : p.tables.exec = Jvm.exec) (hb : c.code = cX12_goesOn) (hml : c.maxLocals = 5) (hown : s.vm.findClass RX12 = some m.cls) (hts : ∀ w ∈ ws_mb_X12_goesOn, w.before [.ref (q 0)].toArray s = true) (hK : va_K (dC, dI) vwCl (tyA cB cI cJ cZ cQ) s) (hDD : ∀ A', va_D AS (WM cI cJ cZ q A')) (hA0 : ∀ b : Nat, s.heap.size ≤ b → AS b) (RET : ∀ (z : Int) (u : St) (H : Heap) (locs : List Loc) (pc : Nat) (ls : Array Slot), ((fun z u => r_X12_goesOn A z u ∧ IM u ∧ fr [33, 34, 35, 36, 37, 40] [3, 4, 5, 6, 7, 8, 9, 46, 53, 54, 56, 57] A u ∧ CI u ∧ ((0 ≤ z ∧ z ≤ 1) ∧ (Hd (u 0 8 = 0 → (z = 1 → RI (u 0 57) u ∧ (PR u ∧ SP u) ∧ A 0 4 + 1 ≤ u 0 4) ∧ (z = 0 → DP (u 33) (sA u) (1600 * u 0 47 + u 0 46) 1 ∧ CB u ∧ A 0 4 ≤ u 0 4))))) z u) → va_P (dC, dI) vwCl (WM cI cJ cZ q u) H → va_S AS s.heap H locs → decode cX12_goesOn pc = .ok (.ireturn, 1) → W p l e (headSpec ws_mb_X12_goesOn ({ frames := 2, cells := 0, slots := 0, locals := 47 } : Room)).room s m [.ref (q 0)].toArray below meth c H locs 0 0 Q (F0 m pc ls [.int (iI z)])) (H : Heap) (locs : List Loc) (ls : Array Slot) (z1 z2 : Int) (rz1 : (0 : Int) ≤ z1 ∧ z1 ≤ 5) (rz2 : (0 : Int) ≤ z2 ∧ z2 ≤ 1) (hz1 : z1 = A 35 ((A 0 53) - 1).toNat) (hk2 : ∀ (z : Int) (u : St), (d_X12_goesOn_2 A z u z1 z2) → r_X12_goesOn A z u) (hP : va_P (dC, dI) vwCl (WM cI cJ cZ q A) H) (hS : va_S AS s.heap H locs) (hl : lv_has ls 5 [(0, .ref (q 0)), (1, .int (iI ((A 0 53) - 1))), (2, .int (iI z1)), (3, .int (iI z2))]) : W p l e (headSpec ws_mb_X12_goesOn ({ frames := 2, cells := 0, slots := 0, locals := 47 } : Room)).room s m [.ref (q 0)].toArray below meth c H locs 0 0 Q (F0 m 175 ls []) := by
  have hiX12 : ∀ w ∈ u_ws RX12 TX12 85, w ∈ ws_mb_X12_goesOn := fun w h => List.mem_cons_of_mem _ (wx_lay w h)
  have hI0 := hI
  have hdp := RI.deep hp0 hI0
  have hrm := RI.room hp0 hI0
  have r_A_0_3 : (0 : Int) ≤ (A 0 3) ∧ (A 0 3) ≤ 3 := hI 0 3
  have r_A_0_4 : (0 : Int) ≤ (A 0 4) ∧ (A 0 4) ≤ 1600 := hI 0 4
  have r_A_0_5 : (0 : Int) ≤ (A 0 5) ∧ (A 0 5) ≤ 1600 := hI 0 5
  have r_A_0_7 : (-9223372036854775808 : Int) ≤ (A 0 7) ∧ (A 0 7) ≤ 9223372036854775807 := hI 0 7
  have r_A_0_8 : (0 : Int) ≤ (A 0 8) ∧ (A 0 8) ≤ 5 := hI 0 8
  have r_A_0_46 : (0 : Int) ≤ (A 0 46) ∧ (A 0 46) ≤ 1600 := hI 0 46
  have r_A_0_47 : (0 : Int) ≤ (A 0 47) ∧ (A 0 47) ≤ 1 := hI 0 47
  have r_A_0_53 : (0 : Int) ≤ (A 0 53) ∧ (A 0 53) ≤ 20 := hI 0 53
  have r_A_0_54 : (0 : Int) ≤ (A 0 54) ∧ (A 0 54) ≤ 8 := hI 0 54
  have r_A_0_56 : (0 : Int) ≤ (A 0 56) ∧ (A 0 56) ≤ 500 := hI 0 56
  have hop := hp0.1
  refine lv_iload_n hx hb (dk_at dkX12_goesOn_5 6 rfl) rfl (lv_at hl 3 rfl) ?_
  refine lv_if_eq (tgt := 272) hx hb (dk_at dkX12_goesOn_5 7 rfl) (by decide) (fun c257 => ?_) (fun c257 => ?_)
  · have c257 : z2 = 0 := (i_eq0 (rb rz2 (by decide) (by decide))).mp c257
    exact mb_X12_goesOn_c272 l dC dI cB cI cJ cZ cQ q A hI0 hp0 hp1 hp2 hp3 hp4 hcCI p e s m below meth c Q AS hx hb hml hown hts hK hDD hA0 RET _ _ _ z1 z2 (by omega) (by omega) hz1 (fun zq uq hq => hk2 _ _ (u_d_X12_goesOn_2 (Or.inl ⟨c257, hq⟩))) hP hS (lv_sub hl [0, 1, 2, 3] rfl)
  · have c257 : ¬ z2 = 0 := mt (i_eq0 (rb rz2 (by decide) (by decide))).mpr c257
    refine lv_aload_n hx hb (dk_at dkX12_goesOn_5 8 rfl) rfl (lv_at hl 0 rfl) ?_
    refine va_get (D := (dC, dI)) (ci := 12) (v := .ref (q 36)) (C := RX12) (T := TX12) (N := 85) hx hb hts hiX12 hown hK hP 0 wm0 rfl 49 (by decide) (hts _ (List.mem_cons_of_mem _ (wl_in_1 _ (List.mem_of_getElem? (i := 47) rfl)))) (fun _ h9 => h9) rfl (dk_at dkX12_goesOn_5 9 rfl) ?_
    refine lv_iload_n hx hb (dk_at dkX12_goesOn_5 10 rfl) rfl (lv_at hl 1 rfl) ?_
    refine x_iald hx hb hK hP 36 1 wm36 rfl (by omega) (by decide) (dk_at dkX12_goesOn_5 11 rfl) (fun z259 hz259 => ?_)
    have rz259 : (0 : Int) ≤ z259 ∧ z259 ≤ 2 := by rw [hz259]; exact hI 36 _
    have gz259 := Hd.mk hz259
    have hz259 : z259 = A 36 ((A 0 53) - 1).toNat := hz259
    refine lv_if_ne (tgt := 272) hx hb (dk_at dkX12_goesOn_5 12 rfl) (by decide) (fun c260 => ?_) (fun c260 => ?_)
    · have c260 : ¬ z259 = 0 := mt (i_eq0 (rb rz259 (by decide) (by decide))).mpr c260
      exact mb_X12_goesOn_c272 l dC dI cB cI cJ cZ cQ q A hI0 hp0 hp1 hp2 hp3 hp4 hcCI p e s m below meth c Q AS hx hb hml hown hts hK hDD hA0 RET _ _ _ z1 z2 (by omega) (by omega) hz1 (fun zq uq hq => hk2 _ _ (u_d_X12_goesOn_2 (Or.inr ⟨c257, ⟨z259, gz259.out, (Or.inl ⟨c260, hq⟩)⟩⟩))) hP hS (lv_sub hl [0, 1, 2, 3] rfl)
    · have c260 : z259 = 0 := (i_eq0 (rb rz259 (by decide) (by decide))).mp c260
      refine lv_aload_n hx hb (dk_at dkX12_goesOn_5 13 rfl) rfl (lv_at hl 0 rfl) ?_
      refine lv_bipush (v := iI 60) hx hb (dk_at dkX12_goesOn_5 14 rfl) (by decide +kernel) ?_
      have r_A_0_6 : (-2147483648 : Int) ≤ (A 0 6) ∧ (A 0 6) ≤ 2147483647 := hI 0 6
      refine x_calli (As := [.int (iI 60)]) (rest := []) ⟨hx, hb, hml, hown, hts⟩ (mb_X12_isSign l dC dI cB cI cJ cZ cQ q _ 60 hI ⟨by decide, by decide⟩) (cwV 1 hts (goodV (wl_in_0 _ (List.mem_of_getElem? (i := 37) rfl)) (wl_in_0 _ (List.mem_of_getElem? (i := 38) rfl)) (wl_in_0 _ (List.mem_of_getElem? (i := 39) rfl)) (wl_in_0 _ (List.mem_of_getElem? (i := 8) rfl)) (wl_in_0 _ (List.mem_of_getElem? (i := 34) rfl))) rfl rfl rfl (by decide +kernel) ⟨Nat.le_of_ble_eq_true rfl, Nat.le_of_ble_eq_true rfl⟩) hK hDD hA0 hP hS 0 12 wm0 rfl rfl hl.1 (Nat.le_of_ble_eq_true rfl) (dk_at dkX12_goesOn_5 15 rfl) (fun z261 A262 H locs hw263 hP hS => ?_)
      obtain ⟨rfl, hw263⟩ := hw263
      have ghw263 : q_X12_isSign 60 A z261 := hw263
      have hw263 := hw263.2
      have rz261 : 0 ≤ z261 ∧ z261 ≤ 1 := hw263.1
      replace hw263 := Hd.mk hw263.2
      refine lv_if_ne (tgt := 215) hx hb (dk_at dkX12_goesOn_6 0 rfl) (by decide) (fun c264 => ?_) (fun c264 => ?_)
      · have c264 : ¬ z261 = 0 := mt (i_eq0 (rb rz261 (by decide) (by decide))).mpr c264
        have hw263b := hw263.out.mp (by omega)
        exact mb_X12_goesOn_c215 l dC dI cB cI cJ cZ cQ q A hI0 hp0 hp1 hp2 hp3 hp4 hcCI p e s m below meth c Q AS hx hb hml hown hts hK hDD hA0 RET _ _ _ z1 z2 (by omega) (by omega) hz1 (by omega) (by omega) (fun zq uq hq => hk2 _ _ (u_d_X12_goesOn_2 (Or.inr ⟨c257, ⟨z259, gz259.out, (Or.inr ⟨c260, ⟨z261, ghw263, (Or.inl ⟨c264, hq⟩)⟩⟩)⟩⟩))) hP hS (lv_sub hl [0, 1, 2, 3] rfl)
      · have c264 : z261 = 0 := (i_eq0 (rb rz261 (by decide) (by decide))).mp c264
        refine lv_aload_n hx hb (dk_at dkX12_goesOn_6 1 rfl) rfl (lv_at hl 0 rfl) ?_
        refine lv_bipush (v := iI 62) hx hb (dk_at dkX12_goesOn_6 2 rfl) (by decide +kernel) ?_
        refine x_calli (As := [.int (iI 62)]) (rest := []) ⟨hx, hb, hml, hown, hts⟩ (mb_X12_isSign l dC dI cB cI cJ cZ cQ q _ 62 hI ⟨by decide, by decide⟩) (cwV 1 hts (goodV (wl_in_0 _ (List.mem_of_getElem? (i := 37) rfl)) (wl_in_0 _ (List.mem_of_getElem? (i := 38) rfl)) (wl_in_0 _ (List.mem_of_getElem? (i := 39) rfl)) (wl_in_0 _ (List.mem_of_getElem? (i := 8) rfl)) (wl_in_0 _ (List.mem_of_getElem? (i := 34) rfl))) rfl rfl rfl (by decide +kernel) ⟨Nat.le_of_ble_eq_true rfl, Nat.le_of_ble_eq_true rfl⟩) hK hDD hA0 hP hS 0 12 wm0 rfl rfl hl.1 (Nat.le_of_ble_eq_true rfl) (dk_at dkX12_goesOn_6 3 rfl) (fun z266 A267 H locs hw268 hP hS => ?_)
        obtain ⟨rfl, hw268⟩ := hw268
        have ghw268 : q_X12_isSign 62 A z266 := hw268
        have hw268 := hw268.2
        have rz266 : 0 ≤ z266 ∧ z266 ≤ 1 := hw268.1
        replace hw268 := Hd.mk hw268.2
        refine lv_if_ne (tgt := 215) hx hb (dk_at dkX12_goesOn_6 4 rfl) (by decide) (fun c269 => ?_) (fun c269 => ?_)
        · have c269 : ¬ z266 = 0 := mt (i_eq0 (rb rz266 (by decide) (by decide))).mpr c269
          have hw268b := hw268.out.mp (by omega)
          exact mb_X12_goesOn_c215 l dC dI cB cI cJ cZ cQ q A hI0 hp0 hp1 hp2 hp3 hp4 hcCI p e s m below meth c Q AS hx hb hml hown hts hK hDD hA0 RET _ _ _ z1 z2 (by omega) (by omega) hz1 (by omega) (by omega) (fun zq uq hq => hk2 _ _ (u_d_X12_goesOn_2 (Or.inr ⟨c257, ⟨z259, gz259.out, (Or.inr ⟨c260, ⟨z261, ghw263, (Or.inr ⟨c264, ⟨z266, ghw268, (Or.inl ⟨c269, hq⟩)⟩⟩)⟩⟩)⟩⟩))) hP hS (lv_sub hl [0, 1, 2, 3] rfl)
        · have c269 : z266 = 0 := (i_eq0 (rb rz266 (by decide) (by decide))).mp c269
          refine lv_aload_n hx hb (dk_at dkX12_goesOn_6 5 rfl) rfl (lv_at hl 0 rfl) ?_
          refine lv_bipush (v := iI 61) hx hb (dk_at dkX12_goesOn_6 6 rfl) (by decide +kernel) ?_
          refine x_calli (As := [.int (iI 61)]) (rest := []) ⟨hx, hb, hml, hown, hts⟩ (mb_X12_isSign l dC dI cB cI cJ cZ cQ q _ 61 hI ⟨by decide, by decide⟩) (cwV 1 hts (goodV (wl_in_0 _ (List.mem_of_getElem? (i := 37) rfl)) (wl_in_0 _ (List.mem_of_getElem? (i := 38) rfl)) (wl_in_0 _ (List.mem_of_getElem? (i := 39) rfl)) (wl_in_0 _ (List.mem_of_getElem? (i := 8) rfl)) (wl_in_0 _ (List.mem_of_getElem? (i := 34) rfl))) rfl rfl rfl (by decide +kernel) ⟨Nat.le_of_ble_eq_true rfl, Nat.le_of_ble_eq_true rfl⟩) hK hDD hA0 hP hS 0 12 wm0 rfl rfl hl.1 (Nat.le_of_ble_eq_true rfl) (dk_at dkX12_goesOn_6 7 rfl) (fun z270 A271 H locs hw272 hP hS => ?_)
          obtain ⟨rfl, hw272⟩ := hw272
          have ghw272 : q_X12_isSign 61 A z270 := hw272
          have hw272 := hw272.2
          have rz270 : 0 ≤ z270 ∧ z270 ≤ 1 := hw272.1
          replace hw272 := Hd.mk hw272.2
          refine lv_if_eq (tgt := 272) hx hb (dk_at dkX12_goesOn_6 8 rfl) (by decide) (fun c273 => ?_) (fun c273 => ?_)
          · have c273 : z270 = 0 := (i_eq0 (rb rz270 (by decide) (by decide))).mp c273
            exact mb_X12_goesOn_c272 l dC dI cB cI cJ cZ cQ q A hI0 hp0 hp1 hp2 hp3 hp4 hcCI p e s m below meth c Q AS hx hb hml hown hts hK hDD hA0 RET _ _ _ z1 z2 (by omega) (by omega) hz1 (fun zq uq hq => hk2 _ _ (u_d_X12_goesOn_2 (Or.inr ⟨c257, ⟨z259, gz259.out, (Or.inr ⟨c260, ⟨z261, ghw263, (Or.inr ⟨c264, ⟨z266, ghw268, (Or.inr ⟨c269, ⟨z270, ghw272, (Or.inl ⟨c273, hq⟩)⟩⟩)⟩⟩)⟩⟩)⟩⟩))) hP hS (lv_sub hl [0, 1, 2, 3] rfl)
          · have c273 : ¬ z270 = 0 := mt (i_eq0 (rb rz270 (by decide) (by decide))).mpr c273
            have hw272b := hw272.out.mp (by omega)
            exact mb_X12_goesOn_c215 l dC dI cB cI cJ cZ cQ q A hI0 hp0 hp1 hp2 hp3 hp4 hcCI p e s m below meth c Q AS hx hb hml hown hts hK hDD hA0 RET _ _ _ z1 z2 (by omega) (by omega) hz1 (by omega) (by omega) (fun zq uq hq => hk2 _ _ (u_d_X12_goesOn_2 (Or.inr ⟨c257, ⟨z259, gz259.out, (Or.inr ⟨c260, ⟨z261, ghw263, (Or.inr ⟨c264, ⟨z266, ghw268, (Or.inr ⟨c269, ⟨z270, ghw272, (Or.inr ⟨c273, hq⟩)⟩⟩)⟩⟩)⟩⟩)⟩⟩))) hP hS (lv_sub hl [0, 1, 2, 3] rfl)
