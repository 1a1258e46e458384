set_option maxHeartbeats 4000000 in
set_option maxRecDepth 100000 in
theorem mb_X12_goesOn_c314 (l : Launch) (dC : Nat → ClassId) (dI : Nat → Nat → Nat) (cB cI cJ cZ cQ : ClassId) (q : Nat → Nat) (A : St) (hI : IM A) (hp0 : RI 1 A) (hp1 : A 0 8 = 0) (hp2 : PR A) (hp3 : A 0 57 = 1) (hp4 : SP A) (hcCI : CI A) (p : Program) (e : Env) (s : State) (m : MethodId) (below : List Frame) (meth : Method) (c : Code) (Q : State → Prop) (AS : Nat → Prop) (hx : p.tables.exec = Jvm.exec) (hb : c.code = cX12_goesOn) (hml : c.maxLocals = 5) (hown : s.vm.findClass RX12 = some m.cls) (hts : ∀ w ∈ ws_mb_X12_goesOn, w.before [.ref (q 0)].toArray s = true) (hK : va_K (dC, dI) vwCl (tyA cB cI cJ cZ cQ) s) (hDD : ∀ A', va_D AS (WM cI cJ cZ q A')) (hA0 : ∀ b : Nat, s.heap.size ≤ b → AS b) (RET : ∀ (z : Int) (u : St) (H : Heap) (locs : List Loc) (pc : Nat) (ls : Array Slot), ((fun z u => r_X12_goesOn A z u ∧ IM u ∧ fr [33, 34, 35, 36, 37, 40] [3, 4, 5, 6, 7, 8, 9, 46, 53, 54, 56, 57] A u ∧ CI u ∧ ((0 ≤ z ∧ z ≤ 1) ∧ (Hd (u 0 8 = 0 → (z = 1 → RI (u 0 57) u ∧ (PR u ∧ SP u) ∧ A 0 4 + 1 ≤ u 0 4) ∧ (z = 0 → DP (u 33) (sA u) (1600 * u 0 47 + u 0 46) 1 ∧ CB u ∧ A 0 4 ≤ u 0 4))))) z u) → va_P (dC, dI) vwCl (WM cI cJ cZ q u) H → va_S AS s.heap H locs → decode cX12_goesOn pc = .ok (.ireturn, 1) → W p l e (headSpec ws_mb_X12_goesOn ({ frames := 2, cells := 0, slots := 0, locals := 47 } : Room)).room s m [.ref (q 0)].toArray below meth c H locs 0 0 Q (F0 m pc ls [.int (iI z)])) (H : Heap) (locs : List Loc) (ls : Array Slot) (z1 z2 : Int) (rz1 : (0 : Int) ≤ z1 ∧ z1 ≤ 5) (rz2 : (0 : Int) ≤ z2 ∧ z2 ≤ 1) (hz1 : z1 = A 35 ((A 0 53) - 1).toNat) (hs1 : A 0 3 = 1) (A443 : St) (hIv : IM A443) (hj442 : fr [] [8, 9] A A443) (hk6 : ∀ (z : Int) (u : St), (d_X12_goesOn_6 A z u z1 z2 A443) → r_X12_goesOn A z u) (hP : va_P (dC, dI) vwCl (WM cI cJ cZ q A443) H) (hS : va_S AS s.heap H locs) (hl : lv_has ls 5 [(0, .ref (q 0)), (1, .int (iI ((A 0 53) - 1))), (2, .int (iI z1)), (3, .int (iI z2))]) : W p l e (headSpec ws_mb_X12_goesOn ({ frames := 2, cells := 0, slots := 0, locals := 47 } : Room)).room s m [.ref (q 0)].toArray below meth c H locs 0 0 Q (F0 m 314 ls []) := by
  have hiX12 : ∀ w ∈ u_ws RX12 TX12 85, w ∈ ws_mb_X12_goesOn := fun w h => List.mem_cons_of_mem _ (wx_lay w h)
  have hI0 := hI
  have hdp := RI.deep hp0 hI0
  have hrm := RI.room hp0 hI0
  have r_A_0_3 : (0 : Int) ≤ (A 0 3) ∧ (A 0 3) ≤ 3 := hI 0 3
  have r_A_0_4 : (0 : Int) ≤ (A 0 4) ∧ (A 0 4) ≤ 1600 := hI 0 4
  have r_A_0_5 : (0 : Int) ≤ (A 0 5) ∧ (A 0 5) ≤ 1600 := hI 0 5
  have r_A_0_7 : (-9223372036854775808 : Int) ≤ (A 0 7) ∧ (A 0 7) ≤ 9223372036854775807 := hI 0 7
  have r_A_0_8 : (0 : Int) ≤ (A 0 8) ∧ (A 0 8) ≤ 5 := hI 0 8
  have r_A_0_46 : (0 : Int) ≤ (A 0 46) ∧ (A 0 46) ≤ 1600 := hI 0 46
  have r_A_0_47 : (0 : Int) ≤ (A 0 47) ∧ (A 0 47) ≤ 1 := hI 0 47
  have r_A_0_53 : (0 : Int) ≤ (A 0 53) ∧ (A 0 53) ≤ 20 := hI 0 53
  have r_A_0_54 : (0 : Int) ≤ (A 0 54) ∧ (A 0 54) ≤ 8 := hI 0 54
  have r_A_0_56 : (0 : Int) ≤ (A 0 56) ∧ (A 0 56) ≤ 500 := hI 0 56
  have hop := hp0.1
  have hI := hIv
  refine lv_aload_n hx hb dX12_goesOn_314 rfl (lv_at hl 0 rfl) ?_
  refine va_get (D := (dC, dI)) (ci := 12) (v := .int (iI (A443 0 8))) (C := RX12) (T := TX12) (N := 85) hx hb hts hiX12 hown hK hP 0 wm0 rfl 8 (by decide) (hts _ (List.mem_cons_of_mem _ (wl_in_0 _ (List.mem_of_getElem? (i := 16) rfl)))) (fun _ h9 => h9) rfl dX12_goesOn_315 ?_
  have r_A443_0_8 : (0 : Int) ≤ (A443 0 8) ∧ (A443 0 8) ≤ 5 := hI 0 8
  refine lv_if_le (tgt := 323) hx hb dX12_goesOn_318 (by decide) (fun c444 => ?_) (fun c444 => ?_)
  · have c444 : (A443 0 8) ≤ 0 := (i_le0 (rb r_A443_0_8 (by decide) (by decide))).mp c444
    refine lv_aload_n hx hb dX12_goesOn_323 rfl (lv_at hl 0 rfl) ?_
    refine lv_ldc2 (v := 6385252) hx hb hown (hts _ (List.mem_cons_of_mem _ (wl_in_1 _ (List.mem_of_getElem? (i := 1) rfl)))) dX12_goesOn_324 ?_
    refine tp_l (y := jI 6385252) (by decide +kernel) ?_
    have e_A443_3 : A443 0 3 = (A 0 3) := (hj442.2 3 rfl)
    have e_A443_7 : A443 0 7 = (A 0 7) := (hj442.2 7 rfl)
    refine x_calli (As := [.long (jI 6385252)]) (rest := []) ⟨hx, hb, hml, hown, hts⟩ (mb_X12_isWord l dC dI cB cI cJ cZ cQ q _ 6385252 hI ⟨by decide, by decide⟩) (cwV 1 hts (goodV (wl_in_1 _ (List.mem_of_getElem? (i := 59) rfl)) (wl_in_2 _ (List.mem_of_getElem? (i := 0) rfl)) (wl_in_2 _ (List.mem_of_getElem? (i := 1) rfl)) (wl_in_0 _ (List.mem_of_getElem? (i := 8) rfl)) (wl_in_0 _ (List.mem_of_getElem? (i := 35) rfl))) rfl rfl rfl (by decide +kernel) ⟨Nat.le_of_ble_eq_true rfl, Nat.le_of_ble_eq_true rfl⟩) hK hDD hA0 hP hS 0 12 wm0 rfl rfl hl.1 (Nat.le_of_ble_eq_true rfl) dX12_goesOn_327 (fun z445 A446 H locs hw447 hP hS => ?_)
    obtain ⟨rfl, hw447⟩ := hw447
    have ghw447 : q_X12_isWord 6385252 A443 z445 := hw447
    have hw447 := hw447.2
    have rz445 : 0 ≤ z445 ∧ z445 ≤ 1 := hw447.1
    replace hw447 := Hd.mk hw447.2
    refine lv_istore (lv' := [(4, .int (iI z445)), (0, .ref (q 0)), (1, .int (iI ((A 0 53) - 1))), (2, .int (iI z1)), (3, .int (iI z2))]) hx hb dX12_goesOn_330 hl (by decide) rfl (fun ls hl => ?_)
    refine lv_aload_n hx hb dX12_goesOn_332 rfl (lv_at hl 1 rfl) ?_
    refine lv_iload hx hb dX12_goesOn_333 (lv_at hl 0 rfl) ?_
    refine lv_if_eq (tgt := 342) hx hb dX12_goesOn_335 (by decide) (fun c448 => ?_) (fun c448 => ?_)
    · have c448 : z445 = 0 := (i_eq0 (rb rz445 (by decide) (by decide))).mp c448
      refine lv_iconst (v := iI 1) hx hb dX12_goesOn_342 (by decide +kernel) ?_
      refine x_callv (As := [.int (iI 1)]) (rest := []) ⟨hx, hb, hml, hown, hts⟩ (mb_X12_joins l dC dI cB cI cJ cZ cQ q _ 1 hI ⟨by decide, by decide⟩ (by exact (RI1.fr hp0 hj442 rfl rfl)) (CI.fr hcCI hj442 rfl rfl) (SP.fr hp4 hj442 rfl rfl)) (cwV 1 hts (goodV (wl_in_2 _ (List.mem_of_getElem? (i := 10) rfl)) (wl_in_2 _ (List.mem_of_getElem? (i := 11) rfl)) (wl_in_2 _ (List.mem_of_getElem? (i := 12) rfl)) (wl_in_0 _ (List.mem_of_getElem? (i := 8) rfl)) (wl_in_1 _ (List.mem_of_getElem? (i := 34) rfl))) rfl rfl rfl (by decide +kernel) ⟨Nat.le_of_ble_eq_true rfl, Nat.le_of_ble_eq_true rfl⟩) hK hDD hA0 hP hS 0 12 wm0 rfl rfl hl.1 (Nat.le_of_ble_eq_true rfl) dX12_goesOn_343 (fun A449 H locs hw450 hP hS => ?_)
      have ghw450 : q_X12_joins 1 A443 A449 := hw450
      obtain ⟨_, hI, hf451, hw450⟩ := hw450
      obtain ⟨hc452, hw450⟩ := hw450
      obtain ⟨hc453, hw450⟩ := hw450
      have e_A443_53 : A443 0 53 = (A 0 53) := (hj442.2 53 rfl)
      have e_A449_53 : A449 0 53 = (A 0 53) := (hf451.2 53 rfl).trans e_A443_53
      have r_A449_0_56 : (0 : Int) ≤ (A449 0 56) ∧ (A449 0 56) ≤ 500 := hI 0 56
      have hj1 := hw450.1
      have hj2 := Hd.mk hw450.2
      clear hw450
      have hIj := hI
      have hrj := RI.room hj1 hIj
      have e_A449_3 : A449 0 3 = (A 0 3) := (hf451.2 3 rfl).trans e_A443_3
      have e_A443_4 : A443 0 4 = (A 0 4) := (hj442.2 4 rfl)
      have e_A449_4 : A449 0 4 = (A 0 4) := (hf451.2 4 rfl).trans e_A443_4
      have e_A443_5 : A443 0 5 = (A 0 5) := (hj442.2 5 rfl)
      have e_A449_5 : A449 0 5 = (A 0 5) := (hf451.2 5 rfl).trans e_A443_5
      have e_A449_7 : A449 0 7 = (A 0 7) := (hf451.2 7 rfl).trans e_A443_7
      have e_A449_8 : A449 0 8 = (A443 0 8) := (hf451.2 8 rfl)
      have e_A443_47 : A443 0 47 = (A 0 47) := (hj442.2 47 rfl)
      have e_A449_47 : A449 0 47 = (A 0 47) := (hf451.2 47 rfl).trans e_A443_47
      have e_A443_54 : A443 0 54 = (A 0 54) := (hj442.2 54 rfl)
      have e_A449_54 : A449 0 54 = (A 0 54) := (hf451.2 54 rfl).trans e_A443_54
      have r_A449_0_46 : (0 : Int) ≤ (A449 0 46) ∧ (A449 0 46) ≤ 1600 := hI 0 46
      refine lv_aload_n hx hb dX12_goesOn_346 rfl (lv_at hl 1 rfl) ?_
      refine lv_iload hx hb dX12_goesOn_347 (lv_at hl 0 rfl) ?_
      refine lv_if_eq (tgt := 357) hx hb dX12_goesOn_349 (by decide) (fun _ => ?_) (fun c454 => False.elim (by have c454 : ¬ z445 = 0 := mt (i_eq0 (rb rz445 (by decide) (by decide))).mpr c454; omega))
      refine lv_bipush (v := iI 21) hx hb dX12_goesOn_357 (by decide +kernel) ?_
      refine x_callv (As := [.int (iI 21)]) (rest := []) ⟨hx, hb, hml, hown, hts⟩ (mb_X12_holdsBack l dC dI cB cI cJ cZ cQ q _ 21 hI ⟨by decide, by decide⟩ (by omega)) (cwV 1 hts (goodV (wl_in_2 _ (List.mem_of_getElem? (i := 2) rfl)) (wl_in_2 _ (List.mem_of_getElem? (i := 3) rfl)) (wl_in_2 _ (List.mem_of_getElem? (i := 4) rfl)) (wl_in_0 _ (List.mem_of_getElem? (i := 8) rfl)) (wl_in_1 _ (List.mem_of_getElem? (i := 44) rfl))) rfl rfl rfl (by decide +kernel) ⟨Nat.le_of_ble_eq_true rfl, Nat.le_of_ble_eq_true rfl⟩) hK hDD hA0 hP hS 0 12 wm0 rfl rfl hl.1 (Nat.le_of_ble_eq_true rfl) dX12_goesOn_359 (fun A455 H locs hw456 hP hS => ?_)
      have ghw456 : q_X12_holdsBack 21 A449 A455 := hw456
      obtain ⟨_, hI, hf457, hw456⟩ := hw456
      have r_A455_0_56 : (0 : Int) ≤ (A455 0 56) ∧ (A455 0 56) ≤ 500 := hI 0 56
      refine lv_aload_n hx hb dX12_goesOn_362 rfl (lv_at hl 1 rfl) ?_
      refine va_get (D := (dC, dI)) (ci := 12) (v := .ref (q 36)) (C := RX12) (T := TX12) (N := 85) hx hb hts hiX12 hown hK hP 0 wm0 rfl 49 (by decide) (hts _ (List.mem_cons_of_mem _ (wl_in_1 _ (List.mem_of_getElem? (i := 47) rfl)))) (fun _ h9 => h9) rfl dX12_goesOn_363 ?_
      refine lv_iload_n hx hb dX12_goesOn_366 rfl (lv_at hl 2 rfl) ?_
      refine lv_iconst (v := iI 0) hx hb dX12_goesOn_367 (by decide +kernel) ?_
      refine x_iast hx hb hK hP hDD hS 36 1 wm36 rfl (by omega) (by decide) dX12_goesOn_368 ws36 (fun H locs hP hS => ?_)
      have hI := hI.st (j := 36) (i := ((A 0 53) - 1).toNat) (v := 0) (show (0 : Int) ≤ 0 ∧ 0 ≤ 2 from (by omega))
      refine lv_aload_n hx hb dX12_goesOn_369 rfl (lv_at hl 1 rfl) ?_
      refine va_get (D := (dC, dI)) (ci := 12) (v := .ref (q 37)) (C := RX12) (T := TX12) (N := 85) hx hb hts hiX12 hown hK hP 0 wm0 rfl 50 (by decide) (hts _ (List.mem_cons_of_mem _ (wl_in_1 _ (List.mem_of_getElem? (i := 48) rfl)))) (fun _ h9 => h9) rfl dX12_goesOn_370 ?_
      refine lv_iload_n hx hb dX12_goesOn_373 rfl (lv_at hl 2 rfl) ?_
      refine lv_iconst (v := iI 1) hx hb dX12_goesOn_374 (by decide +kernel) ?_
      refine x_zast hx hb hK hP hDD hS 37 3 wm37 rfl (by omega) (by decide) dX12_goesOn_375 (by omega) ws37 (fun H locs hP hS => ?_)
      have hI := hI.st (j := 37) (i := ((A 0 53) - 1).toNat) (v := 1) (show (0 : Int) ≤ 1 ∧ 1 ≤ 1 from (by omega))
      refine lv_aload_n hx hb dX12_goesOn_376 rfl (lv_at hl 1 rfl) ?_
      obtain ⟨A458, hA458⟩ : ∃ A458 : St, A458 = (stA (stA A455 36 ((A 0 53) - 1).toNat 0) 37 ((A 0 53) - 1).toNat 1) := ⟨_, rfl⟩
      rw [← hA458] at hP hI
      have e_A455_4 : A455 0 4 = (A 0 4) := (hf457.2 4 rfl).trans e_A449_4
      have e_A458_4 : A458 0 4 = (A 0 4) := by rw [hA458]; exact e_A455_4
      have e_A455_5 : A455 0 5 = (A 0 5) := (hf457.2 5 rfl).trans e_A449_5
      have e_A458_5 : A458 0 5 = (A 0 5) := by rw [hA458]; exact e_A455_5
      have e_A455_8 : A455 0 8 = (A443 0 8) := (hf457.2 8 rfl).trans e_A449_8
      have e_A458_8 : A458 0 8 = (A443 0 8) := by rw [hA458]; exact e_A455_8
      refine x_callv (As := []) (rest := []) ⟨hx, hb, hml, hown, hts⟩ (mb_X12_ahead l dC dI cB cI cJ cZ cQ q _ hI) (cwV 0 hts (goodV (wl_in_0 _ (List.mem_of_getElem? (i := 40) rfl)) (wl_in_0 _ (List.mem_of_getElem? (i := 41) rfl)) (wl_in_0 _ (List.mem_of_getElem? (i := 42) rfl)) (wl_in_0 _ (List.mem_of_getElem? (i := 8) rfl)) (wl_in_0 _ (List.mem_of_getElem? (i := 20) rfl))) rfl rfl rfl (by decide +kernel) ⟨Nat.le_of_ble_eq_true rfl, Nat.le_of_ble_eq_true rfl⟩) hK hDD hA0 hP hS 0 12 wm0 rfl rfl hl.1 (Nat.le_of_ble_eq_true rfl) dX12_goesOn_377 (fun A459 H locs hw460 hP hS => ?_)
      have ghw460 : q_X12_ahead A458 A459 := hw460
      obtain ⟨_, hI, hf461, hw460⟩ := hw460
      have r_A459_0_3 : (0 : Int) ≤ (A459 0 3) ∧ (A459 0 3) ≤ 3 := hI 0 3
      have r_A459_0_4 : (0 : Int) ≤ (A459 0 4) ∧ (A459 0 4) ≤ 1600 := hI 0 4
      have r_A459_0_5 : (0 : Int) ≤ (A459 0 5) ∧ (A459 0 5) ≤ 1600 := hI 0 5
      have r_A459_0_8 : (0 : Int) ≤ (A459 0 8) ∧ (A459 0 8) ≤ 5 := hI 0 8
      have hw460x := hw460.1
      have hw460y := hw460.2.1
      replace hw460 := Hd.mk hw460
      refine lv_aload_n hx hb dX12_goesOn_380 rfl (lv_at hl 1 rfl) ?_
      refine lv_iconst (v := iI 0) hx hb dX12_goesOn_381 (by decide +kernel) ?_
      refine x_put (D := (dC, dI)) (ci := 12) (v := .int (iI 0)) (ty := .boolean) (C := RX12) (T := TX12) (N := 85) hx hb hts hiX12 tyX12 tyX12_ok nmX12 hown hK hP hDD hS 0 wm0 rfl 57 (by decide) (hts _ (List.mem_cons_of_mem _ (wl_in_2 _ (List.mem_of_getElem? (i := 9) rfl)))) (fun _ h9 => h9) rfl (by decide +kernel) (by decide +kernel) rfl (Nat.le_of_ble_eq_true rfl) dX12_goesOn_382 (wf57 (v := 0)) (fun H locs hP hS => ?_)
      have hI := hI.st (j := 0) (i := 57) (v := 0) (show (0 : Int) ≤ 0 ∧ 0 ≤ 1 from (by omega))
      refine lv_iconst (v := iI 1) hx hb dX12_goesOn_385 (by decide +kernel) ?_
      obtain ⟨A462, hA462⟩ : ∃ A462 : St, A462 = (stA A459 0 57 0) := ⟨_, rfl⟩
      rw [← hA462] at hP hI
      have e_A462_4 : A462 0 4 = (A459 0 4) := by rw [hA462]; exact rfl
      have e_A462_5 : A462 0 5 = (A459 0 5) := by rw [hA462]; exact rfl
      have e_A462_8 : A462 0 8 = (A459 0 8) := by rw [hA462]; exact rfl
      have e_A455_46 : A455 0 46 = (A449 0 46) := (hf457.2 46 rfl)
      have e_A458_46 : A458 0 46 = (A449 0 46) := by rw [hA458]; exact e_A455_46
      have e_A459_46 : A459 0 46 = (A449 0 46) := (hf461.2 46 rfl).trans e_A458_46
      have e_A462_46 : A462 0 46 = (A449 0 46) := by rw [hA462]; exact e_A459_46
      have e_A455_47 : A455 0 47 = (A 0 47) := (hf457.2 47 rfl).trans e_A449_47
      have e_A458_47 : A458 0 47 = (A 0 47) := by rw [hA458]; exact e_A455_47
      have e_A459_47 : A459 0 47 = (A 0 47) := (hf461.2 47 rfl).trans e_A458_47
      have e_A462_47 : A462 0 47 = (A 0 47) := by rw [hA462]; exact e_A459_47
      have e_A462_57 : A462 0 57 = 0 := by rw [hA462]; rfl
      have ca463 : A443 35 = A 35 := (hj442.1 35 (by decide) rfl)
      have ca464 : A449 35 = A 35 := (hf451.1 35 (by decide) rfl).trans ca463
      have ca465 : A462 1 = A459 1 := by rw [hA462]; exact rfl
      have e_A462_3 : A462 0 3 = (A459 0 3) := by rw [hA462]; exact rfl
      have e_A462_7 : A462 0 7 = (A459 0 7) := by rw [hA462]; exact rfl
      have hlt := RI.lt hp0 (by omega)
      have ca466 : A458 40 = A455 40 := by rw [hA458]; exact rfl
      have ca467 : A459 40 = A455 40 := (hf461.1 40 (by decide) rfl).trans ca466
      have ca468 : A462 40 = A455 40 := by rw [hA462]; exact ca467
      have ca469 : A455 37 = A449 37 := (hf457.1 37 (by decide) rfl)
      have e37 : A458 37 = up (A449 37) ((A 0 53) - 1).toNat 1 := by rw [hA458]; show up (A455 37) _ _ = _; rw [ca469]
      have ca470 : A459 37 = A458 37 := (hf461.1 37 (by decide) rfl)
      have ca471 : A462 37 = A458 37 := by rw [hA462]; exact ca470
      have e_A458_56 : A458 0 56 = (A455 0 56) := by rw [hA458]; exact rfl
      have e_A459_56 : A459 0 56 = (A455 0 56) := (hf461.2 56 rfl).trans e_A458_56
      have e_A462_56 : A462 0 56 = (A455 0 56) := by rw [hA462]; exact e_A459_56
      have ca472 : A455 29 = A449 29 := (hf457.1 29 (by decide) rfl)
      have ca473 : A458 29 = A449 29 := by rw [hA458]; exact ca472
      have ca474 : A459 29 = A449 29 := (hf461.1 29 (by decide) rfl).trans ca473
      have ca475 : A462 29 = A449 29 := by rw [hA462]; exact ca474
      have ca476 : A455 31 = A449 31 := (hf457.1 31 (by decide) rfl)
      have ca477 : A458 31 = A449 31 := by rw [hA458]; exact ca476
      have ca478 : A459 31 = A449 31 := (hf461.1 31 (by decide) rfl).trans ca477
      have ca479 : A462 31 = A449 31 := by rw [hA462]; exact ca478
      have ca480 : A455 33 = A449 33 := (hf457.1 33 (by decide) rfl)
      have ca481 : A458 33 = A449 33 := by rw [hA458]; exact ca480
      have ca482 : A459 33 = A449 33 := (hf461.1 33 (by decide) rfl).trans ca481
      have ca483 : A462 33 = A449 33 := by rw [hA462]; exact ca482
      have ca484 : A455 35 = A449 35 := (hf457.1 35 (by decide) rfl)
      have ca485 : A458 35 = A449 35 := by rw [hA458]; exact ca484
      have ca486 : A459 35 = A449 35 := (hf461.1 35 (by decide) rfl).trans ca485
      have ca487 : A462 35 = A449 35 := by rw [hA462]; exact ca486
      have ca488 : A455 39 = A449 39 := (hf457.1 39 (by decide) rfl)
      have ca489 : A458 39 = A449 39 := by rw [hA458]; exact ca488
      have ca490 : A459 39 = A449 39 := (hf461.1 39 (by decide) rfl).trans ca489
      have ca491 : A462 39 = A449 39 := by rw [hA462]; exact ca490
      have e_A455_53 : A455 0 53 = (A 0 53) := (hf457.2 53 rfl).trans e_A449_53
      have e_A458_53 : A458 0 53 = (A 0 53) := by rw [hA458]; exact e_A455_53
      have e_A459_53 : A459 0 53 = (A 0 53) := (hf461.2 53 rfl).trans e_A458_53
      have e_A462_53 : A462 0 53 = (A 0 53) := by rw [hA462]; exact e_A459_53
      have e_A455_54 : A455 0 54 = (A 0 54) := (hf457.2 54 rfl).trans e_A449_54
      have e_A458_54 : A458 0 54 = (A 0 54) := by rw [hA458]; exact e_A455_54
      have e_A459_54 : A459 0 54 = (A 0 54) := (hf461.2 54 rfl).trans e_A458_54
      have e_A462_54 : A462 0 54 = (A 0 54) := by rw [hA462]; exact e_A459_54
      have ca492 : A455 36 = A449 36 := (hf457.1 36 (by decide) rfl)
      have e36 : A458 36 = up (A449 36) ((A 0 53) - 1).toNat 0 := by rw [hA458]; show up (A455 36) _ _ = _; rw [ca492]
      have ca493 : A459 36 = A458 36 := (hf461.1 36 (by decide) rfl)
      have ca494 : A462 36 = A458 36 := by rw [hA462]; exact ca493
      have ca495 : A455 39 = A449 39 := (hf457.1 39 (by decide) rfl)
      have ca496 : A458 39 = A449 39 := by rw [hA458]; exact ca495
      have ca497 : A459 39 = A449 39 := (hf461.1 39 (by decide) rfl).trans ca496
      have ca498 : A462 39 = A449 39 := by rw [hA462]; exact ca497
      exact RET 1 _ _ _ _ _ ⟨hk6 _ _ (u_d_X12_goesOn_6 ⟨hIv, (Or.inl ⟨c444, ⟨z445, ghw447, (Or.inl ⟨c448, ⟨A449, ghw450, ⟨A455, ghw456, ⟨A458, hA458, ⟨A459, ghw460, ⟨A462, hA462, ⟨rfl, rfl⟩⟩⟩⟩⟩⟩⟩)⟩⟩)⟩), hI, fr_def hA462 (fr.sf (fr.trans (fr_def hA458 (fr.st (fr.st (fr.trans (fr.trans (fr.trans (fr.rf) hj442 rfl rfl) hf451 rfl rfl) hf457 rfl rfl) (by decide) rfl) (by decide) rfl)) hf461 rfl rfl) rfl), (CI.fr (CI.fr (CI.fr (CI.fr hc452 hf457 rfl rfl) (fr_def hA458 (fr.st (fr.st (fr.rf (M := [36, 37]) (N := [])) (by decide) rfl) (by decide) rfl)) rfl rfl) hf461 rfl rfl) (fr_def hA462 (fr.sf (fr.rf (M := []) (N := [57])) rfl)) rfl rfl), ⟨by decide, Hd.mk (fun h0 => ⟨fun _ => ⟨by rw [e_A462_57]; exact RI.op (x := 21) (r37 := up (A449 37) ((A 0 53) - 1).toNat 1) hj1 hIj (by rw [e_A449_3]; rw [hs1]; decide) (by decide) (hj2.out.imp id (fun t => by rw [show rk 21 = 1 by decide]; exact t)) (fun i hi => up_lo e_A449_53 hi) (fun _ => by decide) ⟨ca475, ca479, ca483, ca487, (ca471.trans e37), ca491, (ca468.trans hw456.2), e_A462_46, (e_A462_47.trans e_A449_47.symm), (e_A462_53.trans e_A449_53.symm), (e_A462_54.trans e_A449_54.symm), (e_A462_56.trans hw456.1)⟩ (by rw [← (e_A458_5.trans e_A449_5.symm), e_A462_4]; exact hw460x) (by rw [e_A462_4, e_A462_5]; exact hw460y) (LX.of ca465 e_A462_3 e_A462_4 e_A462_5 e_A462_7 hw460.out.2.2.1), ⟨(PR.fr (PR.fr (PR.fr (PR.fr (PR.fr (PR.fr hp2 hj442 rfl rfl) hf451 rfl rfl) hf457 rfl rfl) (fr_def hA458 (fr.st (fr.st (fr.rf (M := [36, 37]) (N := [])) (by decide) rfl) (by decide) rfl)) rfl rfl) hf461 rfl rfl) (fr_def hA462 (fr.sf (fr.rf (M := []) (N := [57])) rfl)) rfl rfl), SP.push (x := 21) (ph := 0) (r36 := up (A449 36) ((A 0 53) - 1).toNat 0) hc453 hIj hj1.2.1 (RI.deep hj1 hIj).1 (ca494.trans e36) (fun i hi => up_lo e_A449_53 hi) (by rw [e_A449_53, up_same]) ca498 (ca468.trans hw456.2) (e_A462_53.trans e_A449_53.symm) (e_A462_56.trans hw456.1) ((hj2.out.imp id (fun t => by rw [show rk 21 = 1 by decide]; exact t)).imp id Int.le_of_lt) (fun _ => ⟨by decide, Or.inr (by decide)⟩)⟩, by omega⟩, fun h => absurd h (by decide)⟩)⟩⟩ hP hS dX12_goesOn_386
    · have c448 : ¬ z445 = 0 := mt (i_eq0 (rb rz445 (by decide) (by decide))).mpr c448
      have hw447b := hw447.out.mp (by omega)
      refine lv_iconst (v := iI 2) hx hb dX12_goesOn_338 (by decide +kernel) ?_
      refine lv_goto (tgt := 343) hx hb dX12_goesOn_339 (by decide) ?_
      refine x_callv (As := [.int (iI 2)]) (rest := []) ⟨hx, hb, hml, hown, hts⟩ (mb_X12_joins l dC dI cB cI cJ cZ cQ q _ 2 hI ⟨by decide, by decide⟩ (by exact (RI1.fr hp0 hj442 rfl rfl)) (CI.fr hcCI hj442 rfl rfl) (SP.fr hp4 hj442 rfl rfl)) (cwV 1 hts (goodV (wl_in_2 _ (List.mem_of_getElem? (i := 10) rfl)) (wl_in_2 _ (List.mem_of_getElem? (i := 11) rfl)) (wl_in_2 _ (List.mem_of_getElem? (i := 12) rfl)) (wl_in_0 _ (List.mem_of_getElem? (i := 8) rfl)) (wl_in_1 _ (List.mem_of_getElem? (i := 34) rfl))) rfl rfl rfl (by decide +kernel) ⟨Nat.le_of_ble_eq_true rfl, Nat.le_of_ble_eq_true rfl⟩) hK hDD hA0 hP hS 0 12 wm0 rfl rfl hl.1 (Nat.le_of_ble_eq_true rfl) dX12_goesOn_343 (fun A499 H locs hw500 hP hS => ?_)
      have ghw500 : q_X12_joins 2 A443 A499 := hw500
      obtain ⟨_, hI, hf501, hw500⟩ := hw500
      obtain ⟨hc502, hw500⟩ := hw500
      obtain ⟨hc503, hw500⟩ := hw500
      have e_A443_53 : A443 0 53 = (A 0 53) := (hj442.2 53 rfl)
      have e_A499_53 : A499 0 53 = (A 0 53) := (hf501.2 53 rfl).trans e_A443_53
      have r_A499_0_56 : (0 : Int) ≤ (A499 0 56) ∧ (A499 0 56) ≤ 500 := hI 0 56
      have hj1 := hw500.1
      have hj2 := Hd.mk hw500.2
      clear hw500
      have hIj := hI
      have hrj := RI.room hj1 hIj
      have e_A499_3 : A499 0 3 = (A 0 3) := (hf501.2 3 rfl).trans e_A443_3
      have e_A443_4 : A443 0 4 = (A 0 4) := (hj442.2 4 rfl)
      have e_A499_4 : A499 0 4 = (A 0 4) := (hf501.2 4 rfl).trans e_A443_4
      have e_A443_5 : A443 0 5 = (A 0 5) := (hj442.2 5 rfl)
      have e_A499_5 : A499 0 5 = (A 0 5) := (hf501.2 5 rfl).trans e_A443_5
      have e_A499_7 : A499 0 7 = (A 0 7) := (hf501.2 7 rfl).trans e_A443_7
      have e_A499_8 : A499 0 8 = (A443 0 8) := (hf501.2 8 rfl)
      have e_A443_47 : A443 0 47 = (A 0 47) := (hj442.2 47 rfl)
      have e_A499_47 : A499 0 47 = (A 0 47) := (hf501.2 47 rfl).trans e_A443_47
      have e_A443_54 : A443 0 54 = (A 0 54) := (hj442.2 54 rfl)
      have e_A499_54 : A499 0 54 = (A 0 54) := (hf501.2 54 rfl).trans e_A443_54
      have r_A499_0_46 : (0 : Int) ≤ (A499 0 46) ∧ (A499 0 46) ≤ 1600 := hI 0 46
      refine lv_aload_n hx hb dX12_goesOn_346 rfl (lv_at hl 1 rfl) ?_
      refine lv_iload hx hb dX12_goesOn_347 (lv_at hl 0 rfl) ?_
      refine lv_if_eq (tgt := 357) hx hb dX12_goesOn_349 (by decide) (fun c504 => False.elim (by have c504 : z445 = 0 := (i_eq0 (rb rz445 (by decide) (by decide))).mp c504; omega)) (fun _ => ?_)
      refine lv_bipush (v := iI 20) hx hb dX12_goesOn_352 (by decide +kernel) ?_
      refine lv_goto (tgt := 359) hx hb dX12_goesOn_354 (by decide) ?_
      refine x_callv (As := [.int (iI 20)]) (rest := []) ⟨hx, hb, hml, hown, hts⟩ (mb_X12_holdsBack l dC dI cB cI cJ cZ cQ q _ 20 hI ⟨by decide, by decide⟩ (by omega)) (cwV 1 hts (goodV (wl_in_2 _ (List.mem_of_getElem? (i := 2) rfl)) (wl_in_2 _ (List.mem_of_getElem? (i := 3) rfl)) (wl_in_2 _ (List.mem_of_getElem? (i := 4) rfl)) (wl_in_0 _ (List.mem_of_getElem? (i := 8) rfl)) (wl_in_1 _ (List.mem_of_getElem? (i := 44) rfl))) rfl rfl rfl (by decide +kernel) ⟨Nat.le_of_ble_eq_true rfl, Nat.le_of_ble_eq_true rfl⟩) hK hDD hA0 hP hS 0 12 wm0 rfl rfl hl.1 (Nat.le_of_ble_eq_true rfl) dX12_goesOn_359 (fun A505 H locs hw506 hP hS => ?_)
      have ghw506 : q_X12_holdsBack 20 A499 A505 := hw506
      obtain ⟨_, hI, hf507, hw506⟩ := hw506
      have r_A505_0_56 : (0 : Int) ≤ (A505 0 56) ∧ (A505 0 56) ≤ 500 := hI 0 56
      refine lv_aload_n hx hb dX12_goesOn_362 rfl (lv_at hl 1 rfl) ?_
      refine va_get (D := (dC, dI)) (ci := 12) (v := .ref (q 36)) (C := RX12) (T := TX12) (N := 85) hx hb hts hiX12 hown hK hP 0 wm0 rfl 49 (by decide) (hts _ (List.mem_cons_of_mem _ (wl_in_1 _ (List.mem_of_getElem? (i := 47) rfl)))) (fun _ h9 => h9) rfl dX12_goesOn_363 ?_
      refine lv_iload_n hx hb dX12_goesOn_366 rfl (lv_at hl 2 rfl) ?_
      refine lv_iconst (v := iI 0) hx hb dX12_goesOn_367 (by decide +kernel) ?_
      refine x_iast hx hb hK hP hDD hS 36 1 wm36 rfl (by omega) (by decide) dX12_goesOn_368 ws36 (fun H locs hP hS => ?_)
      have hI := hI.st (j := 36) (i := ((A 0 53) - 1).toNat) (v := 0) (show (0 : Int) ≤ 0 ∧ 0 ≤ 2 from (by omega))
      refine lv_aload_n hx hb dX12_goesOn_369 rfl (lv_at hl 1 rfl) ?_
      refine va_get (D := (dC, dI)) (ci := 12) (v := .ref (q 37)) (C := RX12) (T := TX12) (N := 85) hx hb hts hiX12 hown hK hP 0 wm0 rfl 50 (by decide) (hts _ (List.mem_cons_of_mem _ (wl_in_1 _ (List.mem_of_getElem? (i := 48) rfl)))) (fun _ h9 => h9) rfl dX12_goesOn_370 ?_
      refine lv_iload_n hx hb dX12_goesOn_373 rfl (lv_at hl 2 rfl) ?_
      refine lv_iconst (v := iI 1) hx hb dX12_goesOn_374 (by decide +kernel) ?_
      refine x_zast hx hb hK hP hDD hS 37 3 wm37 rfl (by omega) (by decide) dX12_goesOn_375 (by omega) ws37 (fun H locs hP hS => ?_)
      have hI := hI.st (j := 37) (i := ((A 0 53) - 1).toNat) (v := 1) (show (0 : Int) ≤ 1 ∧ 1 ≤ 1 from (by omega))
      refine lv_aload_n hx hb dX12_goesOn_376 rfl (lv_at hl 1 rfl) ?_
      obtain ⟨A508, hA508⟩ : ∃ A508 : St, A508 = (stA (stA A505 36 ((A 0 53) - 1).toNat 0) 37 ((A 0 53) - 1).toNat 1) := ⟨_, rfl⟩
      rw [← hA508] at hP hI
      have e_A505_4 : A505 0 4 = (A 0 4) := (hf507.2 4 rfl).trans e_A499_4
      have e_A508_4 : A508 0 4 = (A 0 4) := by rw [hA508]; exact e_A505_4
      have e_A505_5 : A505 0 5 = (A 0 5) := (hf507.2 5 rfl).trans e_A499_5
      have e_A508_5 : A508 0 5 = (A 0 5) := by rw [hA508]; exact e_A505_5
      have e_A505_8 : A505 0 8 = (A443 0 8) := (hf507.2 8 rfl).trans e_A499_8
      have e_A508_8 : A508 0 8 = (A443 0 8) := by rw [hA508]; exact e_A505_8
      refine x_callv (As := []) (rest := []) ⟨hx, hb, hml, hown, hts⟩ (mb_X12_ahead l dC dI cB cI cJ cZ cQ q _ hI) (cwV 0 hts (goodV (wl_in_0 _ (List.mem_of_getElem? (i := 40) rfl)) (wl_in_0 _ (List.mem_of_getElem? (i := 41) rfl)) (wl_in_0 _ (List.mem_of_getElem? (i := 42) rfl)) (wl_in_0 _ (List.mem_of_getElem? (i := 8) rfl)) (wl_in_0 _ (List.mem_of_getElem? (i := 20) rfl))) rfl rfl rfl (by decide +kernel) ⟨Nat.le_of_ble_eq_true rfl, Nat.le_of_ble_eq_true rfl⟩) hK hDD hA0 hP hS 0 12 wm0 rfl rfl hl.1 (Nat.le_of_ble_eq_true rfl) dX12_goesOn_377 (fun A509 H locs hw510 hP hS => ?_)
      have ghw510 : q_X12_ahead A508 A509 := hw510
      obtain ⟨_, hI, hf511, hw510⟩ := hw510
      have r_A509_0_3 : (0 : Int) ≤ (A509 0 3) ∧ (A509 0 3) ≤ 3 := hI 0 3
      have r_A509_0_4 : (0 : Int) ≤ (A509 0 4) ∧ (A509 0 4) ≤ 1600 := hI 0 4
      have r_A509_0_5 : (0 : Int) ≤ (A509 0 5) ∧ (A509 0 5) ≤ 1600 := hI 0 5
      have r_A509_0_8 : (0 : Int) ≤ (A509 0 8) ∧ (A509 0 8) ≤ 5 := hI 0 8
      have hw510x := hw510.1
      have hw510y := hw510.2.1
      replace hw510 := Hd.mk hw510
      refine lv_aload_n hx hb dX12_goesOn_380 rfl (lv_at hl 1 rfl) ?_
      refine lv_iconst (v := iI 0) hx hb dX12_goesOn_381 (by decide +kernel) ?_
      refine x_put (D := (dC, dI)) (ci := 12) (v := .int (iI 0)) (ty := .boolean) (C := RX12) (T := TX12) (N := 85) hx hb hts hiX12 tyX12 tyX12_ok nmX12 hown hK hP hDD hS 0 wm0 rfl 57 (by decide) (hts _ (List.mem_cons_of_mem _ (wl_in_2 _ (List.mem_of_getElem? (i := 9) rfl)))) (fun _ h9 => h9) rfl (by decide +kernel) (by decide +kernel) rfl (Nat.le_of_ble_eq_true rfl) dX12_goesOn_382 (wf57 (v := 0)) (fun H locs hP hS => ?_)
      have hI := hI.st (j := 0) (i := 57) (v := 0) (show (0 : Int) ≤ 0 ∧ 0 ≤ 1 from (by omega))
      refine lv_iconst (v := iI 1) hx hb dX12_goesOn_385 (by decide +kernel) ?_
      obtain ⟨A512, hA512⟩ : ∃ A512 : St, A512 = (stA A509 0 57 0) := ⟨_, rfl⟩
      rw [← hA512] at hP hI
      have e_A512_4 : A512 0 4 = (A509 0 4) := by rw [hA512]; exact rfl
      have e_A512_5 : A512 0 5 = (A509 0 5) := by rw [hA512]; exact rfl
      have e_A512_8 : A512 0 8 = (A509 0 8) := by rw [hA512]; exact rfl
      have e_A505_46 : A505 0 46 = (A499 0 46) := (hf507.2 46 rfl)
      have e_A508_46 : A508 0 46 = (A499 0 46) := by rw [hA508]; exact e_A505_46
      have e_A509_46 : A509 0 46 = (A499 0 46) := (hf511.2 46 rfl).trans e_A508_46
      have e_A512_46 : A512 0 46 = (A499 0 46) := by rw [hA512]; exact e_A509_46
      have e_A505_47 : A505 0 47 = (A 0 47) := (hf507.2 47 rfl).trans e_A499_47
      have e_A508_47 : A508 0 47 = (A 0 47) := by rw [hA508]; exact e_A505_47
      have e_A509_47 : A509 0 47 = (A 0 47) := (hf511.2 47 rfl).trans e_A508_47
      have e_A512_47 : A512 0 47 = (A 0 47) := by rw [hA512]; exact e_A509_47
      have e_A512_57 : A512 0 57 = 0 := by rw [hA512]; rfl
      have ca513 : A443 35 = A 35 := (hj442.1 35 (by decide) rfl)
      have ca514 : A499 35 = A 35 := (hf501.1 35 (by decide) rfl).trans ca513
      have ca515 : A512 1 = A509 1 := by rw [hA512]; exact rfl
      have e_A512_3 : A512 0 3 = (A509 0 3) := by rw [hA512]; exact rfl
      have e_A512_7 : A512 0 7 = (A509 0 7) := by rw [hA512]; exact rfl
      have hlt := RI.lt hp0 (by omega)
      have ca516 : A508 40 = A505 40 := by rw [hA508]; exact rfl
      have ca517 : A509 40 = A505 40 := (hf511.1 40 (by decide) rfl).trans ca516
      have ca518 : A512 40 = A505 40 := by rw [hA512]; exact ca517
      have ca519 : A505 37 = A499 37 := (hf507.1 37 (by decide) rfl)
      have e37 : A508 37 = up (A499 37) ((A 0 53) - 1).toNat 1 := by rw [hA508]; show up (A505 37) _ _ = _; rw [ca519]
      have ca520 : A509 37 = A508 37 := (hf511.1 37 (by decide) rfl)
      have ca521 : A512 37 = A508 37 := by rw [hA512]; exact ca520
      have e_A508_56 : A508 0 56 = (A505 0 56) := by rw [hA508]; exact rfl
      have e_A509_56 : A509 0 56 = (A505 0 56) := (hf511.2 56 rfl).trans e_A508_56
      have e_A512_56 : A512 0 56 = (A505 0 56) := by rw [hA512]; exact e_A509_56
      have ca522 : A505 29 = A499 29 := (hf507.1 29 (by decide) rfl)
      have ca523 : A508 29 = A499 29 := by rw [hA508]; exact ca522
      have ca524 : A509 29 = A499 29 := (hf511.1 29 (by decide) rfl).trans ca523
      have ca525 : A512 29 = A499 29 := by rw [hA512]; exact ca524
      have ca526 : A505 31 = A499 31 := (hf507.1 31 (by decide) rfl)
      have ca527 : A508 31 = A499 31 := by rw [hA508]; exact ca526
      have ca528 : A509 31 = A499 31 := (hf511.1 31 (by decide) rfl).trans ca527
      have ca529 : A512 31 = A499 31 := by rw [hA512]; exact ca528
      have ca530 : A505 33 = A499 33 := (hf507.1 33 (by decide) rfl)
      have ca531 : A508 33 = A499 33 := by rw [hA508]; exact ca530
      have ca532 : A509 33 = A499 33 := (hf511.1 33 (by decide) rfl).trans ca531
      have ca533 : A512 33 = A499 33 := by rw [hA512]; exact ca532
      have ca534 : A505 35 = A499 35 := (hf507.1 35 (by decide) rfl)
      have ca535 : A508 35 = A499 35 := by rw [hA508]; exact ca534
      have ca536 : A509 35 = A499 35 := (hf511.1 35 (by decide) rfl).trans ca535
      have ca537 : A512 35 = A499 35 := by rw [hA512]; exact ca536
      have ca538 : A505 39 = A499 39 := (hf507.1 39 (by decide) rfl)
      have ca539 : A508 39 = A499 39 := by rw [hA508]; exact ca538
      have ca540 : A509 39 = A499 39 := (hf511.1 39 (by decide) rfl).trans ca539
      have ca541 : A512 39 = A499 39 := by rw [hA512]; exact ca540
      have e_A505_53 : A505 0 53 = (A 0 53) := (hf507.2 53 rfl).trans e_A499_53
      have e_A508_53 : A508 0 53 = (A 0 53) := by rw [hA508]; exact e_A505_53
      have e_A509_53 : A509 0 53 = (A 0 53) := (hf511.2 53 rfl).trans e_A508_53
      have e_A512_53 : A512 0 53 = (A 0 53) := by rw [hA512]; exact e_A509_53
      have e_A505_54 : A505 0 54 = (A 0 54) := (hf507.2 54 rfl).trans e_A499_54
      have e_A508_54 : A508 0 54 = (A 0 54) := by rw [hA508]; exact e_A505_54
      have e_A509_54 : A509 0 54 = (A 0 54) := (hf511.2 54 rfl).trans e_A508_54
      have e_A512_54 : A512 0 54 = (A 0 54) := by rw [hA512]; exact e_A509_54
      have ca542 : A505 36 = A499 36 := (hf507.1 36 (by decide) rfl)
      have e36 : A508 36 = up (A499 36) ((A 0 53) - 1).toNat 0 := by rw [hA508]; show up (A505 36) _ _ = _; rw [ca542]
      have ca543 : A509 36 = A508 36 := (hf511.1 36 (by decide) rfl)
      have ca544 : A512 36 = A508 36 := by rw [hA512]; exact ca543
      have ca545 : A505 39 = A499 39 := (hf507.1 39 (by decide) rfl)
      have ca546 : A508 39 = A499 39 := by rw [hA508]; exact ca545
      have ca547 : A509 39 = A499 39 := (hf511.1 39 (by decide) rfl).trans ca546
      have ca548 : A512 39 = A499 39 := by rw [hA512]; exact ca547
      exact RET 1 _ _ _ _ _ ⟨hk6 _ _ (u_d_X12_goesOn_6 ⟨hIv, (Or.inl ⟨c444, ⟨z445, ghw447, (Or.inr ⟨c448, ⟨A499, ghw500, ⟨A505, ghw506, ⟨A508, hA508, ⟨A509, ghw510, ⟨A512, hA512, ⟨rfl, rfl⟩⟩⟩⟩⟩⟩⟩)⟩⟩)⟩), hI, fr_def hA512 (fr.sf (fr.trans (fr_def hA508 (fr.st (fr.st (fr.trans (fr.trans (fr.trans (fr.rf) hj442 rfl rfl) hf501 rfl rfl) hf507 rfl rfl) (by decide) rfl) (by decide) rfl)) hf511 rfl rfl) rfl), (CI.fr (CI.fr (CI.fr (CI.fr hc502 hf507 rfl rfl) (fr_def hA508 (fr.st (fr.st (fr.rf (M := [36, 37]) (N := [])) (by decide) rfl) (by decide) rfl)) rfl rfl) hf511 rfl rfl) (fr_def hA512 (fr.sf (fr.rf (M := []) (N := [57])) rfl)) rfl rfl), ⟨by decide, Hd.mk (fun h0 => ⟨fun _ => ⟨by rw [e_A512_57]; exact RI.op (x := 20) (r37 := up (A499 37) ((A 0 53) - 1).toNat 1) hj1 hIj (by rw [e_A499_3]; rw [hs1]; decide) (by decide) (hj2.out.imp id (fun t => by rw [show rk 20 = 2 by decide]; exact t)) (fun i hi => up_lo e_A499_53 hi) (fun _ => by decide) ⟨ca525, ca529, ca533, ca537, (ca521.trans e37), ca541, (ca518.trans hw506.2), e_A512_46, (e_A512_47.trans e_A499_47.symm), (e_A512_53.trans e_A499_53.symm), (e_A512_54.trans e_A499_54.symm), (e_A512_56.trans hw506.1)⟩ (by rw [← (e_A508_5.trans e_A499_5.symm), e_A512_4]; exact hw510x) (by rw [e_A512_4, e_A512_5]; exact hw510y) (LX.of ca515 e_A512_3 e_A512_4 e_A512_5 e_A512_7 hw510.out.2.2.1), ⟨(PR.fr (PR.fr (PR.fr (PR.fr (PR.fr (PR.fr hp2 hj442 rfl rfl) hf501 rfl rfl) hf507 rfl rfl) (fr_def hA508 (fr.st (fr.st (fr.rf (M := [36, 37]) (N := [])) (by decide) rfl) (by decide) rfl)) rfl rfl) hf511 rfl rfl) (fr_def hA512 (fr.sf (fr.rf (M := []) (N := [57])) rfl)) rfl rfl), SP.push (x := 20) (ph := 0) (r36 := up (A499 36) ((A 0 53) - 1).toNat 0) hc503 hIj hj1.2.1 (RI.deep hj1 hIj).1 (ca544.trans e36) (fun i hi => up_lo e_A499_53 hi) (by rw [e_A499_53, up_same]) ca548 (ca518.trans hw506.2) (e_A512_53.trans e_A499_53.symm) (e_A512_56.trans hw506.1) ((hj2.out.imp id (fun t => by rw [show rk 20 = 2 by decide]; exact t)).imp id Int.le_of_lt) (fun _ => ⟨by decide, Or.inr (by decide)⟩)⟩, by omega⟩, fun h => absurd h (by decide)⟩)⟩⟩ hP hS dX12_goesOn_386
  · have c444 : ¬ (A443 0 8) ≤ 0 := mt (i_le0 (rb r_A443_0_8 (by decide) (by decide))).mpr c444
    refine lv_iconst (v := iI 0) hx hb dX12_goesOn_321 (by decide +kernel) ?_
    have e_A443_4 : A443 0 4 = (A 0 4) := (hj442.2 4 rfl)
    have e_A443_5 : A443 0 5 = (A 0 5) := (hj442.2 5 rfl)
    have e_A443_46 : A443 0 46 = (A 0 46) := (hj442.2 46 rfl)
    have e_A443_47 : A443 0 47 = (A 0 47) := (hj442.2 47 rfl)
    have e_A443_57 : A443 0 57 = (A 0 57) := (hj442.2 57 rfl)
    have r_A_0_57 : (0 : Int) ≤ (A 0 57) ∧ (A 0 57) ≤ 1 := by rw [← e_A443_57]; exact hI 0 57
    exact RET 0 _ _ _ _ _ ⟨hk6 _ _ (u_d_X12_goesOn_6 ⟨hIv, (Or.inr ⟨c444, ⟨rfl, rfl⟩⟩)⟩), hI, fr.trans (fr.rf) hj442 rfl rfl, (CI.fr hcCI hj442 rfl rfl), ⟨by decide, Hd.mk (fun h => absurd h (by omega))⟩⟩ hP hS dX12_goesOn_322
