set_option maxHeartbeats 4000000 in
set_option maxRecDepth 100000 in
theorem mb_X12_goesOn_c272 (l : Launch) (dC : Nat → ClassId) (dI : Nat → Nat → Nat) (cB cI cJ cZ cQ : ClassId) (q : Nat → Nat) (A : St) (hI : IM A) (hp0 : RI 1 A) (hp1 : A 0 8 = 0) (hp2 : PR A) (hp3 : A 0 57 = 1) (hcCI : CI A) (p : Program) (e : Env) (s : State) (m : MethodId) (below : List Frame) (meth : Method) (c : Code) (Q : State → Prop) (AS : Nat → Prop) (hx : p.tables.exec = Jvm.exec) (hb : c.code = cX12_goesOn) (hml : c.maxLocals = 5) (hown : s.vm.findClass RX12 = some m.cls) (hts : ∀ w ∈ ws_mb_X12_goesOn, w.before [.ref (q 0)].toArray s = true) (hK : va_K (dC, dI) vwCl (tyA cB cI cJ cZ cQ) s) (hDD : ∀ A', va_D AS (WM cI cJ cZ q A')) (hA0 : ∀ b : Nat, s.heap.size ≤ b → AS b) (RET : ∀ (z : Int) (u : St) (H : Heap) (locs : List Loc) (pc : Nat) (ls : Array Slot), ((fun z u => IM u ∧ fr [33, 34, 35, 36, 37, 40] [3, 4, 5, 6, 7, 8, 9, 46, 53, 54, 56, 57] A u ∧ CI u ∧ ((0 ≤ z ∧ z ≤ 1) ∧ (Hd (u 0 8 = 0 → (z = 1 → RI (u 0 57) u ∧ PR u ∧ A 0 4 + 1 ≤ u 0 4) ∧ (z = 0 → DP (u 33) (sA u) (1600 * u 0 47 + u 0 46) 1 ∧ CB u ∧ A 0 4 ≤ u 0 4))))) z u) → va_P (dC, dI) vwCl (WM cI cJ cZ q u) H → va_S AS s.heap H locs → decode cX12_goesOn pc = .ok (.ireturn, 1) → W p l e (headSpec ws_mb_X12_goesOn ({ frames := 2, cells := 0, slots := 0, locals := 47 } : Room)).room s m [.ref (q 0)].toArray below meth c H locs 0 0 Q (F0 m pc ls [.int (iI z)])) (H : Heap) (locs : List Loc) (ls : Array Slot) (z1 z2 : Int) (rz1 : (0 : Int) ≤ z1 ∧ z1 ≤ 5) (rz2 : (0 : Int) ≤ z2 ∧ z2 ≤ 1) (hz1 : z1 = A 35 ((A 0 53) - 1).toNat) (hP : va_P (dC, dI) vwCl (WM cI cJ cZ q A) H) (hS : va_S AS s.heap H locs) (hl : lv_has ls 5 [(0, .ref (q 0)), (1, .int (iI ((A 0 53) - 1))), (2, .int (iI z1)), (3, .int (iI z2))]) : W p l e (headSpec ws_mb_X12_goesOn ({ frames := 2, cells := 0, slots := 0, locals := 47 } : Room)).room s m [.ref (q 0)].toArray below meth c H locs 0 0 Q (F0 m 272 ls []) := by
  have hiX12 : ∀ w ∈ u_ws RX12 TX12 85, w ∈ ws_mb_X12_goesOn := fun w h => List.mem_cons_of_mem _ (wx_lay w h)
  have hI0 := hI
  have hdp := RI.deep hp0 hI0
  have hrm := RI.room hp0 hI0
  have r_A_0_3 : (0 : Int) ≤ (A 0 3) ∧ (A 0 3) ≤ 3 := hI 0 3
  have r_A_0_4 : (0 : Int) ≤ (A 0 4) ∧ (A 0 4) ≤ 1600 := hI 0 4
  have r_A_0_5 : (0 : Int) ≤ (A 0 5) ∧ (A 0 5) ≤ 1600 := hI 0 5
  have r_A_0_7 : (-9223372036854775808 : Int) ≤ (A 0 7) ∧ (A 0 7) ≤ 9223372036854775807 := hI 0 7
  have r_A_0_8 : (0 : Int) ≤ (A 0 8) ∧ (A 0 8) ≤ 5 := hI 0 8
  have r_A_0_46 : (0 : Int) ≤ (A 0 46) ∧ (A 0 46) ≤ 1600 := hI 0 46
  have r_A_0_47 : (0 : Int) ≤ (A 0 47) ∧ (A 0 47) ≤ 1 := hI 0 47
  have r_A_0_53 : (0 : Int) ≤ (A 0 53) ∧ (A 0 53) ≤ 20 := hI 0 53
  have r_A_0_54 : (0 : Int) ≤ (A 0 54) ∧ (A 0 54) ≤ 8 := hI 0 54
  have r_A_0_56 : (0 : Int) ≤ (A 0 56) ∧ (A 0 56) ≤ 500 := hI 0 56
  have hop := hp0.1
  refine lv_iload_n hx hb dX12_goesOn_272 rfl (lv_at hl 3 rfl) ?_
  refine lv_if_eq (tgt := 387) hx hb dX12_goesOn_273 (by decide) (fun c444 => ?_) (fun c444 => ?_)
  · have c444 : z2 = 0 := (i_eq0 (rb rz2 (by decide) (by decide))).mp c444
    exact mb_X12_goesOn_c387 l dC dI cB cI cJ cZ cQ q A hI0 hp0 hp1 hp2 hp3 hcCI p e s m below meth c Q AS hx hb hml hown hts hK hDD hA0 RET _ _ _ z1 z2 (by omega) (by omega) hz1 hP hS (lv_sub hl [0, 1, 2, 3] rfl)
  · have c444 : ¬ z2 = 0 := mt (i_eq0 (rb rz2 (by decide) (by decide))).mpr c444
    refine lv_aload_n hx hb dX12_goesOn_276 rfl (lv_at hl 0 rfl) ?_
    refine lv_ldc2 (v := 6385252) hx hb hown (hts _ (List.mem_cons_of_mem _ (wl_in_1 _ (List.mem_of_getElem? (i := 1) rfl)))) dX12_goesOn_277 ?_
    refine tp_l (y := jI 6385252) (by decide +kernel) ?_
    refine x_calli (As := [.long (jI 6385252)]) (rest := []) ⟨hx, hb, hml, hown, hts⟩ (mb_X12_isWord l dC dI cB cI cJ cZ cQ q _ 6385252 hI ⟨by decide, by decide⟩) (cwV 1 hts (goodV (wl_in_1 _ (List.mem_of_getElem? (i := 59) rfl)) (wl_in_2 _ (List.mem_of_getElem? (i := 0) rfl)) (wl_in_2 _ (List.mem_of_getElem? (i := 1) rfl)) (wl_in_0 _ (List.mem_of_getElem? (i := 8) rfl)) (wl_in_0 _ (List.mem_of_getElem? (i := 35) rfl))) rfl rfl rfl (by decide +kernel) ⟨Nat.le_of_ble_eq_true rfl, Nat.le_of_ble_eq_true rfl⟩) hK hDD hA0 hP hS 0 12 wm0 rfl rfl hl.1 (Nat.le_of_ble_eq_true rfl) dX12_goesOn_280 (fun z446 A447 H locs hw448 hP hS => ?_)
    obtain ⟨rfl, hw448⟩ := hw448
    have rz446 : 0 ≤ z446 ∧ z446 ≤ 1 := hw448.1
    replace hw448 := Hd.mk hw448.2
    refine lv_if_ne (tgt := 296) hx hb dX12_goesOn_283 (by decide) (fun c449 => ?_) (fun c449 => ?_)
    · have c449 : ¬ z446 = 0 := mt (i_eq0 (rb rz446 (by decide) (by decide))).mpr c449
      have hw448b := hw448.out.mp (by omega)
      refine lv_aload_n hx hb dX12_goesOn_296 rfl (lv_at hl 0 rfl) ?_
      refine va_get (D := (dC, dI)) (ci := 12) (v := .ref (q 36)) (C := RX12) (T := TX12) (N := 85) hx hb hts hiX12 hown hK hP 0 wm0 rfl 49 (by decide) (hts _ (List.mem_cons_of_mem _ (wl_in_1 _ (List.mem_of_getElem? (i := 47) rfl)))) (fun _ h9 => h9) rfl dX12_goesOn_297 ?_
      refine lv_iload_n hx hb dX12_goesOn_300 rfl (lv_at hl 1 rfl) ?_
      refine x_iald hx hb hK hP 36 1 wm36 rfl (by omega) (by decide) dX12_goesOn_301 (fun z450 hz450 => ?_)
      have rz450 : (0 : Int) ≤ z450 ∧ z450 ≤ 2 := by rw [hz450]; exact hI 36 _
      have hz450 : z450 = A 36 ((A 0 53) - 1).toNat := hz450
      have J314_452 : ∀ (A457 : St) (H : Heap) (locs : List Loc) (ls : Array Slot), IM A457 → fr [] [8, 9] A A457 → va_P (dC, dI) vwCl (WM cI cJ cZ q A457) H → va_S AS s.heap H locs → lv_has ls 5 [(0, .ref (q 0)), (1, .int (iI ((A 0 53) - 1))), (2, .int (iI z1)), (3, .int (iI z2))] → W p l e (headSpec ws_mb_X12_goesOn ({ frames := 2, cells := 0, slots := 0, locals := 47 } : Room)).room s m [.ref (q 0)].toArray below meth c H locs 0 0 Q (F0 m 314 ls []) := by
        intro A457 H locs ls hI hj456 hP hS hl
        refine lv_aload_n hx hb dX12_goesOn_314 rfl (lv_at hl 0 rfl) ?_
        refine va_get (D := (dC, dI)) (ci := 12) (v := .int (iI (A457 0 8))) (C := RX12) (T := TX12) (N := 85) hx hb hts hiX12 hown hK hP 0 wm0 rfl 8 (by decide) (hts _ (List.mem_cons_of_mem _ (wl_in_0 _ (List.mem_of_getElem? (i := 16) rfl)))) (fun _ h9 => h9) rfl dX12_goesOn_315 ?_
        have r_A457_0_8 : (0 : Int) ≤ (A457 0 8) ∧ (A457 0 8) ≤ 5 := hI 0 8
        refine lv_if_le (tgt := 323) hx hb dX12_goesOn_318 (by decide) (fun c458 => ?_) (fun c458 => ?_)
        · have c458 : (A457 0 8) ≤ 0 := (i_le0 (rb r_A457_0_8 (by decide) (by decide))).mp c458
          refine lv_aload_n hx hb dX12_goesOn_323 rfl (lv_at hl 0 rfl) ?_
          refine lv_ldc2 (v := 6385252) hx hb hown (hts _ (List.mem_cons_of_mem _ (wl_in_1 _ (List.mem_of_getElem? (i := 1) rfl)))) dX12_goesOn_324 ?_
          refine tp_l (y := jI 6385252) (by decide +kernel) ?_
          have e_A457_3 : A457 0 3 = (A 0 3) := (hj456.2 3 rfl)
          have e_A457_7 : A457 0 7 = (A 0 7) := (hj456.2 7 rfl)
          refine x_calli (As := [.long (jI 6385252)]) (rest := []) ⟨hx, hb, hml, hown, hts⟩ (mb_X12_isWord l dC dI cB cI cJ cZ cQ q _ 6385252 hI ⟨by decide, by decide⟩) (cwV 1 hts (goodV (wl_in_1 _ (List.mem_of_getElem? (i := 59) rfl)) (wl_in_2 _ (List.mem_of_getElem? (i := 0) rfl)) (wl_in_2 _ (List.mem_of_getElem? (i := 1) rfl)) (wl_in_0 _ (List.mem_of_getElem? (i := 8) rfl)) (wl_in_0 _ (List.mem_of_getElem? (i := 35) rfl))) rfl rfl rfl (by decide +kernel) ⟨Nat.le_of_ble_eq_true rfl, Nat.le_of_ble_eq_true rfl⟩) hK hDD hA0 hP hS 0 12 wm0 rfl rfl hl.1 (Nat.le_of_ble_eq_true rfl) dX12_goesOn_327 (fun z459 A460 H locs hw461 hP hS => ?_)
          obtain ⟨rfl, hw461⟩ := hw461
          have rz459 : 0 ≤ z459 ∧ z459 ≤ 1 := hw461.1
          replace hw461 := Hd.mk hw461.2
          have ez459 : z459 = z446 := by have a := hw448.out; have b := hw461.out; omega
          refine lv_istore (lv' := [(4, .int (iI z459)), (0, .ref (q 0)), (1, .int (iI ((A 0 53) - 1))), (2, .int (iI z1)), (3, .int (iI z2))]) hx hb dX12_goesOn_330 hl (by decide) rfl (fun ls hl => ?_)
          refine lv_aload_n hx hb dX12_goesOn_332 rfl (lv_at hl 1 rfl) ?_
          refine lv_iload hx hb dX12_goesOn_333 (lv_at hl 0 rfl) ?_
          refine lv_if_eq (tgt := 342) hx hb dX12_goesOn_335 (by decide) (fun c462 => False.elim (by have c462 : z459 = 0 := (i_eq0 (rb rz459 (by decide) (by decide))).mp c462; omega)) (fun _ => ?_)
          refine lv_iconst (v := iI 2) hx hb dX12_goesOn_338 (by decide +kernel) ?_
          refine lv_goto (tgt := 343) hx hb dX12_goesOn_339 (by decide) ?_
          refine x_callv (As := [.int (iI 2)]) (rest := []) ⟨hx, hb, hml, hown, hts⟩ (mb_X12_joins l dC dI cB cI cJ cZ cQ q _ 2 hI ⟨by decide, by decide⟩ (by exact (RI1.fr hp0 hj456 rfl rfl)) (CI.fr hcCI hj456 rfl rfl)) (cwV 1 hts (goodV (wl_in_2 _ (List.mem_of_getElem? (i := 10) rfl)) (wl_in_2 _ (List.mem_of_getElem? (i := 11) rfl)) (wl_in_2 _ (List.mem_of_getElem? (i := 12) rfl)) (wl_in_0 _ (List.mem_of_getElem? (i := 8) rfl)) (wl_in_1 _ (List.mem_of_getElem? (i := 34) rfl))) rfl rfl rfl (by decide +kernel) ⟨Nat.le_of_ble_eq_true rfl, Nat.le_of_ble_eq_true rfl⟩) hK hDD hA0 hP hS 0 12 wm0 rfl rfl hl.1 (Nat.le_of_ble_eq_true rfl) dX12_goesOn_343 (fun A463 H locs hw464 hP hS => ?_)
          obtain ⟨hI, hf465, hw464⟩ := hw464
          obtain ⟨hc466, hw464⟩ := hw464
          have e_A457_53 : A457 0 53 = (A 0 53) := (hj456.2 53 rfl)
          have e_A463_53 : A463 0 53 = (A 0 53) := (hf465.2 53 rfl).trans e_A457_53
          have r_A463_0_56 : (0 : Int) ≤ (A463 0 56) ∧ (A463 0 56) ≤ 500 := hI 0 56
          have hj := hw464
          have hIj := hI
          have hrj := RI.room hj.1 hIj
          clear hw464
          have e_A463_3 : A463 0 3 = (A 0 3) := (hf465.2 3 rfl).trans e_A457_3
          have e_A457_4 : A457 0 4 = (A 0 4) := (hj456.2 4 rfl)
          have e_A463_4 : A463 0 4 = (A 0 4) := (hf465.2 4 rfl).trans e_A457_4
          have e_A457_5 : A457 0 5 = (A 0 5) := (hj456.2 5 rfl)
          have e_A463_5 : A463 0 5 = (A 0 5) := (hf465.2 5 rfl).trans e_A457_5
          have e_A463_7 : A463 0 7 = (A 0 7) := (hf465.2 7 rfl).trans e_A457_7
          have e_A463_8 : A463 0 8 = (A457 0 8) := (hf465.2 8 rfl)
          have e_A457_47 : A457 0 47 = (A 0 47) := (hj456.2 47 rfl)
          have e_A463_47 : A463 0 47 = (A 0 47) := (hf465.2 47 rfl).trans e_A457_47
          have e_A457_54 : A457 0 54 = (A 0 54) := (hj456.2 54 rfl)
          have e_A463_54 : A463 0 54 = (A 0 54) := (hf465.2 54 rfl).trans e_A457_54
          have r_A463_0_46 : (0 : Int) ≤ (A463 0 46) ∧ (A463 0 46) ≤ 1600 := hI 0 46
          refine lv_aload_n hx hb dX12_goesOn_346 rfl (lv_at hl 1 rfl) ?_
          refine lv_iload hx hb dX12_goesOn_347 (lv_at hl 0 rfl) ?_
          refine lv_if_eq (tgt := 357) hx hb dX12_goesOn_349 (by decide) (fun c467 => False.elim (by have c467 : z459 = 0 := (i_eq0 (rb rz459 (by decide) (by decide))).mp c467; omega)) (fun _ => ?_)
          refine lv_bipush (v := iI 20) hx hb dX12_goesOn_352 (by decide +kernel) ?_
          refine lv_goto (tgt := 359) hx hb dX12_goesOn_354 (by decide) ?_
          refine x_callv (As := [.int (iI 20)]) (rest := []) ⟨hx, hb, hml, hown, hts⟩ (mb_X12_holdsBack l dC dI cB cI cJ cZ cQ q _ 20 hI ⟨by decide, by decide⟩ (by omega)) (cwV 1 hts (goodV (wl_in_2 _ (List.mem_of_getElem? (i := 2) rfl)) (wl_in_2 _ (List.mem_of_getElem? (i := 3) rfl)) (wl_in_2 _ (List.mem_of_getElem? (i := 4) rfl)) (wl_in_0 _ (List.mem_of_getElem? (i := 8) rfl)) (wl_in_1 _ (List.mem_of_getElem? (i := 44) rfl))) rfl rfl rfl (by decide +kernel) ⟨Nat.le_of_ble_eq_true rfl, Nat.le_of_ble_eq_true rfl⟩) hK hDD hA0 hP hS 0 12 wm0 rfl rfl hl.1 (Nat.le_of_ble_eq_true rfl) dX12_goesOn_359 (fun A468 H locs hw469 hP hS => ?_)
          obtain ⟨hI, hf470, hw469⟩ := hw469
          have r_A468_0_56 : (0 : Int) ≤ (A468 0 56) ∧ (A468 0 56) ≤ 500 := hI 0 56
          refine lv_aload_n hx hb dX12_goesOn_362 rfl (lv_at hl 1 rfl) ?_
          refine va_get (D := (dC, dI)) (ci := 12) (v := .ref (q 36)) (C := RX12) (T := TX12) (N := 85) hx hb hts hiX12 hown hK hP 0 wm0 rfl 49 (by decide) (hts _ (List.mem_cons_of_mem _ (wl_in_1 _ (List.mem_of_getElem? (i := 47) rfl)))) (fun _ h9 => h9) rfl dX12_goesOn_363 ?_
          refine lv_iload_n hx hb dX12_goesOn_366 rfl (lv_at hl 2 rfl) ?_
          refine lv_iconst (v := iI 0) hx hb dX12_goesOn_367 (by decide +kernel) ?_
          refine x_iast hx hb hK hP hDD hS 36 1 wm36 rfl (by omega) (by decide) dX12_goesOn_368 ws36 (fun H locs hP hS => ?_)
          have hI := hI.st (j := 36) (i := ((A 0 53) - 1).toNat) (v := 0) (show (0 : Int) ≤ 0 ∧ 0 ≤ 2 from (by omega))
          refine lv_aload_n hx hb dX12_goesOn_369 rfl (lv_at hl 1 rfl) ?_
          refine va_get (D := (dC, dI)) (ci := 12) (v := .ref (q 37)) (C := RX12) (T := TX12) (N := 85) hx hb hts hiX12 hown hK hP 0 wm0 rfl 50 (by decide) (hts _ (List.mem_cons_of_mem _ (wl_in_1 _ (List.mem_of_getElem? (i := 48) rfl)))) (fun _ h9 => h9) rfl dX12_goesOn_370 ?_
          refine lv_iload_n hx hb dX12_goesOn_373 rfl (lv_at hl 2 rfl) ?_
          refine lv_iconst (v := iI 1) hx hb dX12_goesOn_374 (by decide +kernel) ?_
          refine x_zast hx hb hK hP hDD hS 37 3 wm37 rfl (by omega) (by decide) dX12_goesOn_375 (by omega) ws37 (fun H locs hP hS => ?_)
          have hI := hI.st (j := 37) (i := ((A 0 53) - 1).toNat) (v := 1) (show (0 : Int) ≤ 1 ∧ 1 ≤ 1 from (by omega))
          refine lv_aload_n hx hb dX12_goesOn_376 rfl (lv_at hl 1 rfl) ?_
          obtain ⟨A471, hA471⟩ : ∃ A471 : St, A471 = (stA (stA A468 36 ((A 0 53) - 1).toNat 0) 37 ((A 0 53) - 1).toNat 1) := ⟨_, rfl⟩
          rw [← hA471] at hP hI
          have e_A468_4 : A468 0 4 = (A 0 4) := (hf470.2 4 rfl).trans e_A463_4
          have e_A471_4 : A471 0 4 = (A 0 4) := by rw [hA471]; exact e_A468_4
          have e_A468_5 : A468 0 5 = (A 0 5) := (hf470.2 5 rfl).trans e_A463_5
          have e_A471_5 : A471 0 5 = (A 0 5) := by rw [hA471]; exact e_A468_5
          have e_A468_8 : A468 0 8 = (A457 0 8) := (hf470.2 8 rfl).trans e_A463_8
          have e_A471_8 : A471 0 8 = (A457 0 8) := by rw [hA471]; exact e_A468_8
          refine x_callv (As := []) (rest := []) ⟨hx, hb, hml, hown, hts⟩ (mb_X12_ahead l dC dI cB cI cJ cZ cQ q _ hI) (cwV 0 hts (goodV (wl_in_0 _ (List.mem_of_getElem? (i := 40) rfl)) (wl_in_0 _ (List.mem_of_getElem? (i := 41) rfl)) (wl_in_0 _ (List.mem_of_getElem? (i := 42) rfl)) (wl_in_0 _ (List.mem_of_getElem? (i := 8) rfl)) (wl_in_0 _ (List.mem_of_getElem? (i := 20) rfl))) rfl rfl rfl (by decide +kernel) ⟨Nat.le_of_ble_eq_true rfl, Nat.le_of_ble_eq_true rfl⟩) hK hDD hA0 hP hS 0 12 wm0 rfl rfl hl.1 (Nat.le_of_ble_eq_true rfl) dX12_goesOn_377 (fun A472 H locs hw473 hP hS => ?_)
          obtain ⟨hI, hf474, hw473⟩ := hw473
          have r_A472_0_3 : (0 : Int) ≤ (A472 0 3) ∧ (A472 0 3) ≤ 3 := hI 0 3
          have r_A472_0_4 : (0 : Int) ≤ (A472 0 4) ∧ (A472 0 4) ≤ 1600 := hI 0 4
          have r_A472_0_5 : (0 : Int) ≤ (A472 0 5) ∧ (A472 0 5) ≤ 1600 := hI 0 5
          have r_A472_0_8 : (0 : Int) ≤ (A472 0 8) ∧ (A472 0 8) ≤ 5 := hI 0 8
          have hw473x := hw473.1
          have hw473y := hw473.2.1
          replace hw473 := Hd.mk hw473
          refine lv_aload_n hx hb dX12_goesOn_380 rfl (lv_at hl 1 rfl) ?_
          refine lv_iconst (v := iI 0) hx hb dX12_goesOn_381 (by decide +kernel) ?_
          refine x_put (D := (dC, dI)) (ci := 12) (v := .int (iI 0)) (ty := .boolean) (C := RX12) (T := TX12) (N := 85) hx hb hts hiX12 tyX12 tyX12_ok nmX12 hown hK hP hDD hS 0 wm0 rfl 57 (by decide) (hts _ (List.mem_cons_of_mem _ (wl_in_2 _ (List.mem_of_getElem? (i := 9) rfl)))) (fun _ h9 => h9) rfl (by decide +kernel) (by decide +kernel) rfl (Nat.le_of_ble_eq_true rfl) dX12_goesOn_382 (wf57 (v := 0)) (fun H locs hP hS => ?_)
          have hI := hI.st (j := 0) (i := 57) (v := 0) (show (0 : Int) ≤ 0 ∧ 0 ≤ 1 from (by omega))
          refine lv_iconst (v := iI 1) hx hb dX12_goesOn_385 (by decide +kernel) ?_
          obtain ⟨A475, hA475⟩ : ∃ A475 : St, A475 = (stA A472 0 57 0) := ⟨_, rfl⟩
          rw [← hA475] at hP hI
          have e_A475_4 : A475 0 4 = (A472 0 4) := by rw [hA475]; exact rfl
          have e_A475_5 : A475 0 5 = (A472 0 5) := by rw [hA475]; exact rfl
          have e_A475_8 : A475 0 8 = (A472 0 8) := by rw [hA475]; exact rfl
          have e_A468_46 : A468 0 46 = (A463 0 46) := (hf470.2 46 rfl)
          have e_A471_46 : A471 0 46 = (A463 0 46) := by rw [hA471]; exact e_A468_46
          have e_A472_46 : A472 0 46 = (A463 0 46) := (hf474.2 46 rfl).trans e_A471_46
          have e_A475_46 : A475 0 46 = (A463 0 46) := by rw [hA475]; exact e_A472_46
          have e_A468_47 : A468 0 47 = (A 0 47) := (hf470.2 47 rfl).trans e_A463_47
          have e_A471_47 : A471 0 47 = (A 0 47) := by rw [hA471]; exact e_A468_47
          have e_A472_47 : A472 0 47 = (A 0 47) := (hf474.2 47 rfl).trans e_A471_47
          have e_A475_47 : A475 0 47 = (A 0 47) := by rw [hA475]; exact e_A472_47
          have e_A475_57 : A475 0 57 = 0 := by rw [hA475]; rfl
          have ca476 : A457 35 = A 35 := (hj456.1 35 (by decide) rfl)
          have ca477 : A463 35 = A 35 := (hf465.1 35 (by decide) rfl).trans ca476
          have ca478 : A475 1 = A472 1 := by rw [hA475]; exact rfl
          have e_A475_3 : A475 0 3 = (A472 0 3) := by rw [hA475]; exact rfl
          have e_A475_7 : A475 0 7 = (A472 0 7) := by rw [hA475]; exact rfl
          have hlt := RI.lt hp0 (by omega)
          have ca479 : A471 40 = A468 40 := by rw [hA471]; exact rfl
          have ca480 : A472 40 = A468 40 := (hf474.1 40 (by decide) rfl).trans ca479
          have ca481 : A475 40 = A468 40 := by rw [hA475]; exact ca480
          have ca482 : A468 37 = A463 37 := (hf470.1 37 (by decide) rfl)
          have e37 : A471 37 = up (A463 37) ((A 0 53) - 1).toNat 1 := by rw [hA471]; show up (A468 37) _ _ = _; rw [ca482]
          have ca483 : A472 37 = A471 37 := (hf474.1 37 (by decide) rfl)
          have ca484 : A475 37 = A471 37 := by rw [hA475]; exact ca483
          have ca485 : A468 29 = A463 29 := (hf470.1 29 (by decide) rfl)
          have ca486 : A471 29 = A463 29 := by rw [hA471]; exact ca485
          have ca487 : A472 29 = A463 29 := (hf474.1 29 (by decide) rfl).trans ca486
          have ca488 : A475 29 = A463 29 := by rw [hA475]; exact ca487
          have ca489 : A468 31 = A463 31 := (hf470.1 31 (by decide) rfl)
          have ca490 : A471 31 = A463 31 := by rw [hA471]; exact ca489
          have ca491 : A472 31 = A463 31 := (hf474.1 31 (by decide) rfl).trans ca490
          have ca492 : A475 31 = A463 31 := by rw [hA475]; exact ca491
          have ca493 : A468 33 = A463 33 := (hf470.1 33 (by decide) rfl)
          have ca494 : A471 33 = A463 33 := by rw [hA471]; exact ca493
          have ca495 : A472 33 = A463 33 := (hf474.1 33 (by decide) rfl).trans ca494
          have ca496 : A475 33 = A463 33 := by rw [hA475]; exact ca495
          have ca497 : A468 35 = A463 35 := (hf470.1 35 (by decide) rfl)
          have ca498 : A471 35 = A463 35 := by rw [hA471]; exact ca497
          have ca499 : A472 35 = A463 35 := (hf474.1 35 (by decide) rfl).trans ca498
          have ca500 : A475 35 = A463 35 := by rw [hA475]; exact ca499
          have ca501 : A468 39 = A463 39 := (hf470.1 39 (by decide) rfl)
          have ca502 : A471 39 = A463 39 := by rw [hA471]; exact ca501
          have ca503 : A472 39 = A463 39 := (hf474.1 39 (by decide) rfl).trans ca502
          have ca504 : A475 39 = A463 39 := by rw [hA475]; exact ca503
          have e_A468_53 : A468 0 53 = (A 0 53) := (hf470.2 53 rfl).trans e_A463_53
          have e_A471_53 : A471 0 53 = (A 0 53) := by rw [hA471]; exact e_A468_53
          have e_A472_53 : A472 0 53 = (A 0 53) := (hf474.2 53 rfl).trans e_A471_53
          have e_A475_53 : A475 0 53 = (A 0 53) := by rw [hA475]; exact e_A472_53
          have e_A468_54 : A468 0 54 = (A 0 54) := (hf470.2 54 rfl).trans e_A463_54
          have e_A471_54 : A471 0 54 = (A 0 54) := by rw [hA471]; exact e_A468_54
          have e_A472_54 : A472 0 54 = (A 0 54) := (hf474.2 54 rfl).trans e_A471_54
          have e_A475_54 : A475 0 54 = (A 0 54) := by rw [hA475]; exact e_A472_54
          have e_A471_56 : A471 0 56 = (A468 0 56) := by rw [hA471]; exact rfl
          have e_A472_56 : A472 0 56 = (A468 0 56) := (hf474.2 56 rfl).trans e_A471_56
          have e_A475_56 : A475 0 56 = (A468 0 56) := by rw [hA475]; exact e_A472_56
          exact RET 1 _ _ _ _ _ ⟨hI, fr_def hA475 (fr.sf (fr.trans (fr_def hA471 (fr.st (fr.st (fr.trans (fr.trans (fr.trans (fr.rf) hj456 rfl rfl) hf465 rfl rfl) hf470 rfl rfl) (by decide) rfl) (by decide) rfl)) hf474 rfl rfl) rfl), (CI.fr (CI.fr (CI.fr (CI.fr hc466 hf470 rfl rfl) (fr_def hA471 (fr.st (fr.st (fr.rf (M := [36, 37]) (N := [])) (by decide) rfl) (by decide) rfl)) rfl rfl) hf474 rfl rfl) (fr_def hA475 (fr.sf (fr.rf (M := []) (N := [57])) rfl)) rfl rfl), ⟨by decide, Hd.mk (fun h0 => ⟨fun _ => ⟨by rw [show A475 0 57 = 0 by omega]; exact RI.op (x := 20) (r37 := up (A463 37) ((A 0 53) - 1).toNat 1) hj.1 hIj (by omega) (by decide) (hj.2.imp id (fun t => by rw [show rk 20 = 2 by decide]; exact t)) (fun i hi => by rw [up_ne _ _ (by omega)]) (fun _ => by decide) ⟨ca488, ca492, ca496, ca500, (ca484.trans e37), ca504, (ca481.trans hw469.2), e_A475_46, (e_A475_47.trans e_A463_47.symm), (e_A475_53.trans e_A463_53.symm), (e_A475_54.trans e_A463_54.symm), (by omega)⟩ (by omega) (by omega) (LX.of ca478 e_A475_3 e_A475_4 e_A475_5 e_A475_7 hw473.out.2.2.1), (PR.fr (PR.fr (PR.fr (PR.fr (PR.fr (PR.fr hp2 hj456 rfl rfl) hf465 rfl rfl) hf470 rfl rfl) (fr_def hA471 (fr.st (fr.st (fr.rf (M := [36, 37]) (N := [])) (by decide) rfl) (by decide) rfl)) rfl rfl) hf474 rfl rfl) (fr_def hA475 (fr.sf (fr.rf (M := []) (N := [57])) rfl)) rfl rfl), by omega⟩, fun h => absurd h (by decide)⟩)⟩⟩ hP hS dX12_goesOn_386
        · have c458 : ¬ (A457 0 8) ≤ 0 := mt (i_le0 (rb r_A457_0_8 (by decide) (by decide))).mpr c458
          refine lv_iconst (v := iI 0) hx hb dX12_goesOn_321 (by decide +kernel) ?_
          have e_A457_4 : A457 0 4 = (A 0 4) := (hj456.2 4 rfl)
          have e_A457_5 : A457 0 5 = (A 0 5) := (hj456.2 5 rfl)
          have e_A457_46 : A457 0 46 = (A 0 46) := (hj456.2 46 rfl)
          have e_A457_47 : A457 0 47 = (A 0 47) := (hj456.2 47 rfl)
          have e_A457_57 : A457 0 57 = (A 0 57) := (hj456.2 57 rfl)
          have r_A_0_57 : (0 : Int) ≤ (A 0 57) ∧ (A 0 57) ≤ 1 := by rw [← e_A457_57]; exact hI 0 57
          exact RET 0 _ _ _ _ _ ⟨hI, fr.trans (fr.rf) hj456 rfl rfl, (CI.fr hcCI hj456 rfl rfl), ⟨by decide, Hd.mk (fun h => absurd h (by omega))⟩⟩ hP hS dX12_goesOn_322
      refine lv_if_ne (tgt := 314) hx hb dX12_goesOn_302 (by decide) (fun c451 => ?_) (fun c451 => ?_)
      · have c451 : ¬ z450 = 0 := mt (i_eq0 (rb rz450 (by decide) (by decide))).mpr c451
        exact J314_452 _ _ _ _ hI (fr.rf) hP hS (lv_sub hl [0, 1, 2, 3] rfl)
      · have c451 : z450 = 0 := (i_eq0 (rb rz450 (by decide) (by decide))).mp c451
        refine lv_aload_n hx hb dX12_goesOn_305 rfl (lv_at hl 0 rfl) ?_
        refine lv_iconst (v := iI 1) hx hb dX12_goesOn_306 (by decide +kernel) ?_
        refine lv_aload_n hx hb dX12_goesOn_307 rfl (lv_at hl 0 rfl) ?_
        refine va_get (D := (dC, dI)) (ci := 12) (v := .int (iI (A 0 4))) (C := RX12) (T := TX12) (N := 85) hx hb hts hiX12 hown hK hP 0 wm0 rfl 4 (by decide) (hts _ (List.mem_cons_of_mem _ (wl_in_0 _ (List.mem_of_getElem? (i := 23) rfl)))) (fun _ h9 => h9) rfl dX12_goesOn_308 ?_
        refine x_callv (As := [.int (iI 1), .int (iI (A 0 4))]) (rest := []) ⟨hx, hb, hml, hown, hts⟩ (mc_X12_blame l dC dI cB cI cJ cZ cQ q _ 1 (A 0 4) hI ⟨by decide, by decide⟩ r_A_0_4) (cwV 2 hts (goodV (wl_in_0 _ (List.mem_of_getElem? (i := 31) rfl)) (wl_in_0 _ (List.mem_of_getElem? (i := 32) rfl)) (wl_in_0 _ (List.mem_of_getElem? (i := 33) rfl)) (wl_in_0 _ (List.mem_of_getElem? (i := 8) rfl)) (wl_in_0 _ (List.mem_of_getElem? (i := 15) rfl))) rfl rfl rfl (by decide +kernel) ⟨Nat.le_of_ble_eq_true rfl, Nat.le_of_ble_eq_true rfl⟩) hK hDD hA0 hP hS 0 12 wm0 rfl rfl hl.1 (Nat.le_of_ble_eq_true rfl) dX12_goesOn_311 (fun A453 H locs hw454 hP hS => ?_)
        obtain ⟨hI, hf455, hw454⟩ := hw454
        have r_A453_0_8 : (0 : Int) ≤ (A453 0 8) ∧ (A453 0 8) ≤ 5 := hI 0 8
        exact J314_452 _ _ _ _ hI (fr.trans (fr.rf) hf455 rfl rfl) hP hS (lv_sub hl [0, 1, 2, 3] rfl)
    · have c449 : z446 = 0 := (i_eq0 (rb rz446 (by decide) (by decide))).mp c449
      refine lv_aload_n hx hb dX12_goesOn_286 rfl (lv_at hl 0 rfl) ?_
      refine lv_ldc2 (v := 28530) hx hb hown (hts _ (List.mem_cons_of_mem _ (wl_in_1 _ (List.mem_of_getElem? (i := 0) rfl)))) dX12_goesOn_287 ?_
      refine tp_l (y := jI 28530) (by decide +kernel) ?_
      refine x_calli (As := [.long (jI 28530)]) (rest := []) ⟨hx, hb, hml, hown, hts⟩ (mb_X12_isWord l dC dI cB cI cJ cZ cQ q _ 28530 hI ⟨by decide, by decide⟩) (cwV 1 hts (goodV (wl_in_1 _ (List.mem_of_getElem? (i := 59) rfl)) (wl_in_2 _ (List.mem_of_getElem? (i := 0) rfl)) (wl_in_2 _ (List.mem_of_getElem? (i := 1) rfl)) (wl_in_0 _ (List.mem_of_getElem? (i := 8) rfl)) (wl_in_0 _ (List.mem_of_getElem? (i := 35) rfl))) rfl rfl rfl (by decide +kernel) ⟨Nat.le_of_ble_eq_true rfl, Nat.le_of_ble_eq_true rfl⟩) hK hDD hA0 hP hS 0 12 wm0 rfl rfl hl.1 (Nat.le_of_ble_eq_true rfl) dX12_goesOn_290 (fun z505 A506 H locs hw507 hP hS => ?_)
      obtain ⟨rfl, hw507⟩ := hw507
      have rz505 : 0 ≤ z505 ∧ z505 ≤ 1 := hw507.1
      replace hw507 := Hd.mk hw507.2
      refine lv_if_eq (tgt := 387) hx hb dX12_goesOn_293 (by decide) (fun c508 => ?_) (fun c508 => ?_)
      · have c508 : z505 = 0 := (i_eq0 (rb rz505 (by decide) (by decide))).mp c508
        exact mb_X12_goesOn_c387 l dC dI cB cI cJ cZ cQ q A hI0 hp0 hp1 hp2 hp3 hcCI p e s m below meth c Q AS hx hb hml hown hts hK hDD hA0 RET _ _ _ z1 z2 (by omega) (by omega) hz1 hP hS (lv_sub hl [0, 1, 2, 3] rfl)
      · have c508 : ¬ z505 = 0 := mt (i_eq0 (rb rz505 (by decide) (by decide))).mpr c508
        have hw507b := hw507.out.mp (by omega)
        refine lv_aload_n hx hb dX12_goesOn_296 rfl (lv_at hl 0 rfl) ?_
        refine va_get (D := (dC, dI)) (ci := 12) (v := .ref (q 36)) (C := RX12) (T := TX12) (N := 85) hx hb hts hiX12 hown hK hP 0 wm0 rfl 49 (by decide) (hts _ (List.mem_cons_of_mem _ (wl_in_1 _ (List.mem_of_getElem? (i := 47) rfl)))) (fun _ h9 => h9) rfl dX12_goesOn_297 ?_
        refine lv_iload_n hx hb dX12_goesOn_300 rfl (lv_at hl 1 rfl) ?_
        refine x_iald hx hb hK hP 36 1 wm36 rfl (by omega) (by decide) dX12_goesOn_301 (fun z509 hz509 => ?_)
        have rz509 : (0 : Int) ≤ z509 ∧ z509 ≤ 2 := by rw [hz509]; exact hI 36 _
        have hz509 : z509 = A 36 ((A 0 53) - 1).toNat := hz509
        have J314_511 : ∀ (A516 : St) (H : Heap) (locs : List Loc) (ls : Array Slot), IM A516 → fr [] [8, 9] A A516 → va_P (dC, dI) vwCl (WM cI cJ cZ q A516) H → va_S AS s.heap H locs → lv_has ls 5 [(0, .ref (q 0)), (1, .int (iI ((A 0 53) - 1))), (2, .int (iI z1)), (3, .int (iI z2))] → W p l e (headSpec ws_mb_X12_goesOn ({ frames := 2, cells := 0, slots := 0, locals := 47 } : Room)).room s m [.ref (q 0)].toArray below meth c H locs 0 0 Q (F0 m 314 ls []) := by
          intro A516 H locs ls hI hj515 hP hS hl
          refine lv_aload_n hx hb dX12_goesOn_314 rfl (lv_at hl 0 rfl) ?_
          refine va_get (D := (dC, dI)) (ci := 12) (v := .int (iI (A516 0 8))) (C := RX12) (T := TX12) (N := 85) hx hb hts hiX12 hown hK hP 0 wm0 rfl 8 (by decide) (hts _ (List.mem_cons_of_mem _ (wl_in_0 _ (List.mem_of_getElem? (i := 16) rfl)))) (fun _ h9 => h9) rfl dX12_goesOn_315 ?_
          have r_A516_0_8 : (0 : Int) ≤ (A516 0 8) ∧ (A516 0 8) ≤ 5 := hI 0 8
          refine lv_if_le (tgt := 323) hx hb dX12_goesOn_318 (by decide) (fun c517 => ?_) (fun c517 => ?_)
          · have c517 : (A516 0 8) ≤ 0 := (i_le0 (rb r_A516_0_8 (by decide) (by decide))).mp c517
            refine lv_aload_n hx hb dX12_goesOn_323 rfl (lv_at hl 0 rfl) ?_
            refine lv_ldc2 (v := 6385252) hx hb hown (hts _ (List.mem_cons_of_mem _ (wl_in_1 _ (List.mem_of_getElem? (i := 1) rfl)))) dX12_goesOn_324 ?_
            refine tp_l (y := jI 6385252) (by decide +kernel) ?_
            have e_A516_3 : A516 0 3 = (A 0 3) := (hj515.2 3 rfl)
            have e_A516_7 : A516 0 7 = (A 0 7) := (hj515.2 7 rfl)
            refine x_calli (As := [.long (jI 6385252)]) (rest := []) ⟨hx, hb, hml, hown, hts⟩ (mb_X12_isWord l dC dI cB cI cJ cZ cQ q _ 6385252 hI ⟨by decide, by decide⟩) (cwV 1 hts (goodV (wl_in_1 _ (List.mem_of_getElem? (i := 59) rfl)) (wl_in_2 _ (List.mem_of_getElem? (i := 0) rfl)) (wl_in_2 _ (List.mem_of_getElem? (i := 1) rfl)) (wl_in_0 _ (List.mem_of_getElem? (i := 8) rfl)) (wl_in_0 _ (List.mem_of_getElem? (i := 35) rfl))) rfl rfl rfl (by decide +kernel) ⟨Nat.le_of_ble_eq_true rfl, Nat.le_of_ble_eq_true rfl⟩) hK hDD hA0 hP hS 0 12 wm0 rfl rfl hl.1 (Nat.le_of_ble_eq_true rfl) dX12_goesOn_327 (fun z518 A519 H locs hw520 hP hS => ?_)
            obtain ⟨rfl, hw520⟩ := hw520
            have rz518 : 0 ≤ z518 ∧ z518 ≤ 1 := hw520.1
            replace hw520 := Hd.mk hw520.2
            have ez518 : z518 = z446 := by have a := hw448.out; have b := hw520.out; omega
            refine lv_istore (lv' := [(4, .int (iI z518)), (0, .ref (q 0)), (1, .int (iI ((A 0 53) - 1))), (2, .int (iI z1)), (3, .int (iI z2))]) hx hb dX12_goesOn_330 hl (by decide) rfl (fun ls hl => ?_)
            refine lv_aload_n hx hb dX12_goesOn_332 rfl (lv_at hl 1 rfl) ?_
            refine lv_iload hx hb dX12_goesOn_333 (lv_at hl 0 rfl) ?_
            refine lv_if_eq (tgt := 342) hx hb dX12_goesOn_335 (by decide) (fun _ => ?_) (fun c521 => False.elim (by have c521 : ¬ z518 = 0 := mt (i_eq0 (rb rz518 (by decide) (by decide))).mpr c521; omega))
            refine lv_iconst (v := iI 1) hx hb dX12_goesOn_342 (by decide +kernel) ?_
            refine x_callv (As := [.int (iI 1)]) (rest := []) ⟨hx, hb, hml, hown, hts⟩ (mb_X12_joins l dC dI cB cI cJ cZ cQ q _ 1 hI ⟨by decide, by decide⟩ (by exact (RI1.fr hp0 hj515 rfl rfl)) (CI.fr hcCI hj515 rfl rfl)) (cwV 1 hts (goodV (wl_in_2 _ (List.mem_of_getElem? (i := 10) rfl)) (wl_in_2 _ (List.mem_of_getElem? (i := 11) rfl)) (wl_in_2 _ (List.mem_of_getElem? (i := 12) rfl)) (wl_in_0 _ (List.mem_of_getElem? (i := 8) rfl)) (wl_in_1 _ (List.mem_of_getElem? (i := 34) rfl))) rfl rfl rfl (by decide +kernel) ⟨Nat.le_of_ble_eq_true rfl, Nat.le_of_ble_eq_true rfl⟩) hK hDD hA0 hP hS 0 12 wm0 rfl rfl hl.1 (Nat.le_of_ble_eq_true rfl) dX12_goesOn_343 (fun A522 H locs hw523 hP hS => ?_)
            obtain ⟨hI, hf524, hw523⟩ := hw523
            obtain ⟨hc525, hw523⟩ := hw523
            have e_A516_53 : A516 0 53 = (A 0 53) := (hj515.2 53 rfl)
            have e_A522_53 : A522 0 53 = (A 0 53) := (hf524.2 53 rfl).trans e_A516_53
            have r_A522_0_56 : (0 : Int) ≤ (A522 0 56) ∧ (A522 0 56) ≤ 500 := hI 0 56
            have hj := hw523
            have hIj := hI
            have hrj := RI.room hj.1 hIj
            clear hw523
            have e_A522_3 : A522 0 3 = (A 0 3) := (hf524.2 3 rfl).trans e_A516_3
            have e_A516_4 : A516 0 4 = (A 0 4) := (hj515.2 4 rfl)
            have e_A522_4 : A522 0 4 = (A 0 4) := (hf524.2 4 rfl).trans e_A516_4
            have e_A516_5 : A516 0 5 = (A 0 5) := (hj515.2 5 rfl)
            have e_A522_5 : A522 0 5 = (A 0 5) := (hf524.2 5 rfl).trans e_A516_5
            have e_A522_7 : A522 0 7 = (A 0 7) := (hf524.2 7 rfl).trans e_A516_7
            have e_A522_8 : A522 0 8 = (A516 0 8) := (hf524.2 8 rfl)
            have e_A516_47 : A516 0 47 = (A 0 47) := (hj515.2 47 rfl)
            have e_A522_47 : A522 0 47 = (A 0 47) := (hf524.2 47 rfl).trans e_A516_47
            have e_A516_54 : A516 0 54 = (A 0 54) := (hj515.2 54 rfl)
            have e_A522_54 : A522 0 54 = (A 0 54) := (hf524.2 54 rfl).trans e_A516_54
            have r_A522_0_46 : (0 : Int) ≤ (A522 0 46) ∧ (A522 0 46) ≤ 1600 := hI 0 46
            refine lv_aload_n hx hb dX12_goesOn_346 rfl (lv_at hl 1 rfl) ?_
            refine lv_iload hx hb dX12_goesOn_347 (lv_at hl 0 rfl) ?_
            refine lv_if_eq (tgt := 357) hx hb dX12_goesOn_349 (by decide) (fun _ => ?_) (fun c526 => False.elim (by have c526 : ¬ z518 = 0 := mt (i_eq0 (rb rz518 (by decide) (by decide))).mpr c526; omega))
            refine lv_bipush (v := iI 21) hx hb dX12_goesOn_357 (by decide +kernel) ?_
            refine x_callv (As := [.int (iI 21)]) (rest := []) ⟨hx, hb, hml, hown, hts⟩ (mb_X12_holdsBack l dC dI cB cI cJ cZ cQ q _ 21 hI ⟨by decide, by decide⟩ (by omega)) (cwV 1 hts (goodV (wl_in_2 _ (List.mem_of_getElem? (i := 2) rfl)) (wl_in_2 _ (List.mem_of_getElem? (i := 3) rfl)) (wl_in_2 _ (List.mem_of_getElem? (i := 4) rfl)) (wl_in_0 _ (List.mem_of_getElem? (i := 8) rfl)) (wl_in_1 _ (List.mem_of_getElem? (i := 44) rfl))) rfl rfl rfl (by decide +kernel) ⟨Nat.le_of_ble_eq_true rfl, Nat.le_of_ble_eq_true rfl⟩) hK hDD hA0 hP hS 0 12 wm0 rfl rfl hl.1 (Nat.le_of_ble_eq_true rfl) dX12_goesOn_359 (fun A527 H locs hw528 hP hS => ?_)
            obtain ⟨hI, hf529, hw528⟩ := hw528
            have r_A527_0_56 : (0 : Int) ≤ (A527 0 56) ∧ (A527 0 56) ≤ 500 := hI 0 56
            refine lv_aload_n hx hb dX12_goesOn_362 rfl (lv_at hl 1 rfl) ?_
            refine va_get (D := (dC, dI)) (ci := 12) (v := .ref (q 36)) (C := RX12) (T := TX12) (N := 85) hx hb hts hiX12 hown hK hP 0 wm0 rfl 49 (by decide) (hts _ (List.mem_cons_of_mem _ (wl_in_1 _ (List.mem_of_getElem? (i := 47) rfl)))) (fun _ h9 => h9) rfl dX12_goesOn_363 ?_
            refine lv_iload_n hx hb dX12_goesOn_366 rfl (lv_at hl 2 rfl) ?_
            refine lv_iconst (v := iI 0) hx hb dX12_goesOn_367 (by decide +kernel) ?_
            refine x_iast hx hb hK hP hDD hS 36 1 wm36 rfl (by omega) (by decide) dX12_goesOn_368 ws36 (fun H locs hP hS => ?_)
            have hI := hI.st (j := 36) (i := ((A 0 53) - 1).toNat) (v := 0) (show (0 : Int) ≤ 0 ∧ 0 ≤ 2 from (by omega))
            refine lv_aload_n hx hb dX12_goesOn_369 rfl (lv_at hl 1 rfl) ?_
            refine va_get (D := (dC, dI)) (ci := 12) (v := .ref (q 37)) (C := RX12) (T := TX12) (N := 85) hx hb hts hiX12 hown hK hP 0 wm0 rfl 50 (by decide) (hts _ (List.mem_cons_of_mem _ (wl_in_1 _ (List.mem_of_getElem? (i := 48) rfl)))) (fun _ h9 => h9) rfl dX12_goesOn_370 ?_
            refine lv_iload_n hx hb dX12_goesOn_373 rfl (lv_at hl 2 rfl) ?_
            refine lv_iconst (v := iI 1) hx hb dX12_goesOn_374 (by decide +kernel) ?_
            refine x_zast hx hb hK hP hDD hS 37 3 wm37 rfl (by omega) (by decide) dX12_goesOn_375 (by omega) ws37 (fun H locs hP hS => ?_)
            have hI := hI.st (j := 37) (i := ((A 0 53) - 1).toNat) (v := 1) (show (0 : Int) ≤ 1 ∧ 1 ≤ 1 from (by omega))
            refine lv_aload_n hx hb dX12_goesOn_376 rfl (lv_at hl 1 rfl) ?_
            obtain ⟨A530, hA530⟩ : ∃ A530 : St, A530 = (stA (stA A527 36 ((A 0 53) - 1).toNat 0) 37 ((A 0 53) - 1).toNat 1) := ⟨_, rfl⟩
            rw [← hA530] at hP hI
            have e_A527_4 : A527 0 4 = (A 0 4) := (hf529.2 4 rfl).trans e_A522_4
            have e_A530_4 : A530 0 4 = (A 0 4) := by rw [hA530]; exact e_A527_4
            have e_A527_5 : A527 0 5 = (A 0 5) := (hf529.2 5 rfl).trans e_A522_5
            have e_A530_5 : A530 0 5 = (A 0 5) := by rw [hA530]; exact e_A527_5
            have e_A527_8 : A527 0 8 = (A516 0 8) := (hf529.2 8 rfl).trans e_A522_8
            have e_A530_8 : A530 0 8 = (A516 0 8) := by rw [hA530]; exact e_A527_8
            refine x_callv (As := []) (rest := []) ⟨hx, hb, hml, hown, hts⟩ (mb_X12_ahead l dC dI cB cI cJ cZ cQ q _ hI) (cwV 0 hts (goodV (wl_in_0 _ (List.mem_of_getElem? (i := 40) rfl)) (wl_in_0 _ (List.mem_of_getElem? (i := 41) rfl)) (wl_in_0 _ (List.mem_of_getElem? (i := 42) rfl)) (wl_in_0 _ (List.mem_of_getElem? (i := 8) rfl)) (wl_in_0 _ (List.mem_of_getElem? (i := 20) rfl))) rfl rfl rfl (by decide +kernel) ⟨Nat.le_of_ble_eq_true rfl, Nat.le_of_ble_eq_true rfl⟩) hK hDD hA0 hP hS 0 12 wm0 rfl rfl hl.1 (Nat.le_of_ble_eq_true rfl) dX12_goesOn_377 (fun A531 H locs hw532 hP hS => ?_)
            obtain ⟨hI, hf533, hw532⟩ := hw532
            have r_A531_0_3 : (0 : Int) ≤ (A531 0 3) ∧ (A531 0 3) ≤ 3 := hI 0 3
            have r_A531_0_4 : (0 : Int) ≤ (A531 0 4) ∧ (A531 0 4) ≤ 1600 := hI 0 4
            have r_A531_0_5 : (0 : Int) ≤ (A531 0 5) ∧ (A531 0 5) ≤ 1600 := hI 0 5
            have r_A531_0_8 : (0 : Int) ≤ (A531 0 8) ∧ (A531 0 8) ≤ 5 := hI 0 8
            have hw532x := hw532.1
            have hw532y := hw532.2.1
            replace hw532 := Hd.mk hw532
            refine lv_aload_n hx hb dX12_goesOn_380 rfl (lv_at hl 1 rfl) ?_
            refine lv_iconst (v := iI 0) hx hb dX12_goesOn_381 (by decide +kernel) ?_
            refine x_put (D := (dC, dI)) (ci := 12) (v := .int (iI 0)) (ty := .boolean) (C := RX12) (T := TX12) (N := 85) hx hb hts hiX12 tyX12 tyX12_ok nmX12 hown hK hP hDD hS 0 wm0 rfl 57 (by decide) (hts _ (List.mem_cons_of_mem _ (wl_in_2 _ (List.mem_of_getElem? (i := 9) rfl)))) (fun _ h9 => h9) rfl (by decide +kernel) (by decide +kernel) rfl (Nat.le_of_ble_eq_true rfl) dX12_goesOn_382 (wf57 (v := 0)) (fun H locs hP hS => ?_)
            have hI := hI.st (j := 0) (i := 57) (v := 0) (show (0 : Int) ≤ 0 ∧ 0 ≤ 1 from (by omega))
            refine lv_iconst (v := iI 1) hx hb dX12_goesOn_385 (by decide +kernel) ?_
            obtain ⟨A534, hA534⟩ : ∃ A534 : St, A534 = (stA A531 0 57 0) := ⟨_, rfl⟩
            rw [← hA534] at hP hI
            have e_A534_4 : A534 0 4 = (A531 0 4) := by rw [hA534]; exact rfl
            have e_A534_5 : A534 0 5 = (A531 0 5) := by rw [hA534]; exact rfl
            have e_A534_8 : A534 0 8 = (A531 0 8) := by rw [hA534]; exact rfl
            have e_A527_46 : A527 0 46 = (A522 0 46) := (hf529.2 46 rfl)
            have e_A530_46 : A530 0 46 = (A522 0 46) := by rw [hA530]; exact e_A527_46
            have e_A531_46 : A531 0 46 = (A522 0 46) := (hf533.2 46 rfl).trans e_A530_46
            have e_A534_46 : A534 0 46 = (A522 0 46) := by rw [hA534]; exact e_A531_46
            have e_A527_47 : A527 0 47 = (A 0 47) := (hf529.2 47 rfl).trans e_A522_47
            have e_A530_47 : A530 0 47 = (A 0 47) := by rw [hA530]; exact e_A527_47
            have e_A531_47 : A531 0 47 = (A 0 47) := (hf533.2 47 rfl).trans e_A530_47
            have e_A534_47 : A534 0 47 = (A 0 47) := by rw [hA534]; exact e_A531_47
            have e_A534_57 : A534 0 57 = 0 := by rw [hA534]; rfl
            have ca535 : A516 35 = A 35 := (hj515.1 35 (by decide) rfl)
            have ca536 : A522 35 = A 35 := (hf524.1 35 (by decide) rfl).trans ca535
            have ca537 : A534 1 = A531 1 := by rw [hA534]; exact rfl
            have e_A534_3 : A534 0 3 = (A531 0 3) := by rw [hA534]; exact rfl
            have e_A534_7 : A534 0 7 = (A531 0 7) := by rw [hA534]; exact rfl
            have hlt := RI.lt hp0 (by omega)
            have ca538 : A530 40 = A527 40 := by rw [hA530]; exact rfl
            have ca539 : A531 40 = A527 40 := (hf533.1 40 (by decide) rfl).trans ca538
            have ca540 : A534 40 = A527 40 := by rw [hA534]; exact ca539
            have ca541 : A527 37 = A522 37 := (hf529.1 37 (by decide) rfl)
            have e37 : A530 37 = up (A522 37) ((A 0 53) - 1).toNat 1 := by rw [hA530]; show up (A527 37) _ _ = _; rw [ca541]
            have ca542 : A531 37 = A530 37 := (hf533.1 37 (by decide) rfl)
            have ca543 : A534 37 = A530 37 := by rw [hA534]; exact ca542
            have ca544 : A527 29 = A522 29 := (hf529.1 29 (by decide) rfl)
            have ca545 : A530 29 = A522 29 := by rw [hA530]; exact ca544
            have ca546 : A531 29 = A522 29 := (hf533.1 29 (by decide) rfl).trans ca545
            have ca547 : A534 29 = A522 29 := by rw [hA534]; exact ca546
            have ca548 : A527 31 = A522 31 := (hf529.1 31 (by decide) rfl)
            have ca549 : A530 31 = A522 31 := by rw [hA530]; exact ca548
            have ca550 : A531 31 = A522 31 := (hf533.1 31 (by decide) rfl).trans ca549
            have ca551 : A534 31 = A522 31 := by rw [hA534]; exact ca550
            have ca552 : A527 33 = A522 33 := (hf529.1 33 (by decide) rfl)
            have ca553 : A530 33 = A522 33 := by rw [hA530]; exact ca552
            have ca554 : A531 33 = A522 33 := (hf533.1 33 (by decide) rfl).trans ca553
            have ca555 : A534 33 = A522 33 := by rw [hA534]; exact ca554
            have ca556 : A527 35 = A522 35 := (hf529.1 35 (by decide) rfl)
            have ca557 : A530 35 = A522 35 := by rw [hA530]; exact ca556
            have ca558 : A531 35 = A522 35 := (hf533.1 35 (by decide) rfl).trans ca557
            have ca559 : A534 35 = A522 35 := by rw [hA534]; exact ca558
            have ca560 : A527 39 = A522 39 := (hf529.1 39 (by decide) rfl)
            have ca561 : A530 39 = A522 39 := by rw [hA530]; exact ca560
            have ca562 : A531 39 = A522 39 := (hf533.1 39 (by decide) rfl).trans ca561
            have ca563 : A534 39 = A522 39 := by rw [hA534]; exact ca562
            have e_A527_53 : A527 0 53 = (A 0 53) := (hf529.2 53 rfl).trans e_A522_53
            have e_A530_53 : A530 0 53 = (A 0 53) := by rw [hA530]; exact e_A527_53
            have e_A531_53 : A531 0 53 = (A 0 53) := (hf533.2 53 rfl).trans e_A530_53
            have e_A534_53 : A534 0 53 = (A 0 53) := by rw [hA534]; exact e_A531_53
            have e_A527_54 : A527 0 54 = (A 0 54) := (hf529.2 54 rfl).trans e_A522_54
            have e_A530_54 : A530 0 54 = (A 0 54) := by rw [hA530]; exact e_A527_54
            have e_A531_54 : A531 0 54 = (A 0 54) := (hf533.2 54 rfl).trans e_A530_54
            have e_A534_54 : A534 0 54 = (A 0 54) := by rw [hA534]; exact e_A531_54
            have e_A530_56 : A530 0 56 = (A527 0 56) := by rw [hA530]; exact rfl
            have e_A531_56 : A531 0 56 = (A527 0 56) := (hf533.2 56 rfl).trans e_A530_56
            have e_A534_56 : A534 0 56 = (A527 0 56) := by rw [hA534]; exact e_A531_56
            exact RET 1 _ _ _ _ _ ⟨hI, fr_def hA534 (fr.sf (fr.trans (fr_def hA530 (fr.st (fr.st (fr.trans (fr.trans (fr.trans (fr.rf) hj515 rfl rfl) hf524 rfl rfl) hf529 rfl rfl) (by decide) rfl) (by decide) rfl)) hf533 rfl rfl) rfl), (CI.fr (CI.fr (CI.fr (CI.fr hc525 hf529 rfl rfl) (fr_def hA530 (fr.st (fr.st (fr.rf (M := [36, 37]) (N := [])) (by decide) rfl) (by decide) rfl)) rfl rfl) hf533 rfl rfl) (fr_def hA534 (fr.sf (fr.rf (M := []) (N := [57])) rfl)) rfl rfl), ⟨by decide, Hd.mk (fun h0 => ⟨fun _ => ⟨by rw [show A534 0 57 = 0 by omega]; exact RI.op (x := 21) (r37 := up (A522 37) ((A 0 53) - 1).toNat 1) hj.1 hIj (by omega) (by decide) (hj.2.imp id (fun t => by rw [show rk 21 = 1 by decide]; exact t)) (fun i hi => by rw [up_ne _ _ (by omega)]) (fun _ => by decide) ⟨ca547, ca551, ca555, ca559, (ca543.trans e37), ca563, (ca540.trans hw528.2), e_A534_46, (e_A534_47.trans e_A522_47.symm), (e_A534_53.trans e_A522_53.symm), (e_A534_54.trans e_A522_54.symm), (by omega)⟩ (by omega) (by omega) (LX.of ca537 e_A534_3 e_A534_4 e_A534_5 e_A534_7 hw532.out.2.2.1), (PR.fr (PR.fr (PR.fr (PR.fr (PR.fr (PR.fr hp2 hj515 rfl rfl) hf524 rfl rfl) hf529 rfl rfl) (fr_def hA530 (fr.st (fr.st (fr.rf (M := [36, 37]) (N := [])) (by decide) rfl) (by decide) rfl)) rfl rfl) hf533 rfl rfl) (fr_def hA534 (fr.sf (fr.rf (M := []) (N := [57])) rfl)) rfl rfl), by omega⟩, fun h => absurd h (by decide)⟩)⟩⟩ hP hS dX12_goesOn_386
          · have c517 : ¬ (A516 0 8) ≤ 0 := mt (i_le0 (rb r_A516_0_8 (by decide) (by decide))).mpr c517
            refine lv_iconst (v := iI 0) hx hb dX12_goesOn_321 (by decide +kernel) ?_
            have e_A516_4 : A516 0 4 = (A 0 4) := (hj515.2 4 rfl)
            have e_A516_5 : A516 0 5 = (A 0 5) := (hj515.2 5 rfl)
            have e_A516_46 : A516 0 46 = (A 0 46) := (hj515.2 46 rfl)
            have e_A516_47 : A516 0 47 = (A 0 47) := (hj515.2 47 rfl)
            have e_A516_57 : A516 0 57 = (A 0 57) := (hj515.2 57 rfl)
            have r_A_0_57 : (0 : Int) ≤ (A 0 57) ∧ (A 0 57) ≤ 1 := by rw [← e_A516_57]; exact hI 0 57
            exact RET 0 _ _ _ _ _ ⟨hI, fr.trans (fr.rf) hj515 rfl rfl, (CI.fr hcCI hj515 rfl rfl), ⟨by decide, Hd.mk (fun h => absurd h (by omega))⟩⟩ hP hS dX12_goesOn_322
        refine lv_if_ne (tgt := 314) hx hb dX12_goesOn_302 (by decide) (fun c510 => ?_) (fun c510 => ?_)
        · have c510 : ¬ z509 = 0 := mt (i_eq0 (rb rz509 (by decide) (by decide))).mpr c510
          exact J314_511 _ _ _ _ hI (fr.rf) hP hS (lv_sub hl [0, 1, 2, 3] rfl)
        · have c510 : z509 = 0 := (i_eq0 (rb rz509 (by decide) (by decide))).mp c510
          refine lv_aload_n hx hb dX12_goesOn_305 rfl (lv_at hl 0 rfl) ?_
          refine lv_iconst (v := iI 1) hx hb dX12_goesOn_306 (by decide +kernel) ?_
          refine lv_aload_n hx hb dX12_goesOn_307 rfl (lv_at hl 0 rfl) ?_
          refine va_get (D := (dC, dI)) (ci := 12) (v := .int (iI (A 0 4))) (C := RX12) (T := TX12) (N := 85) hx hb hts hiX12 hown hK hP 0 wm0 rfl 4 (by decide) (hts _ (List.mem_cons_of_mem _ (wl_in_0 _ (List.mem_of_getElem? (i := 23) rfl)))) (fun _ h9 => h9) rfl dX12_goesOn_308 ?_
          refine x_callv (As := [.int (iI 1), .int (iI (A 0 4))]) (rest := []) ⟨hx, hb, hml, hown, hts⟩ (mc_X12_blame l dC dI cB cI cJ cZ cQ q _ 1 (A 0 4) hI ⟨by decide, by decide⟩ r_A_0_4) (cwV 2 hts (goodV (wl_in_0 _ (List.mem_of_getElem? (i := 31) rfl)) (wl_in_0 _ (List.mem_of_getElem? (i := 32) rfl)) (wl_in_0 _ (List.mem_of_getElem? (i := 33) rfl)) (wl_in_0 _ (List.mem_of_getElem? (i := 8) rfl)) (wl_in_0 _ (List.mem_of_getElem? (i := 15) rfl))) rfl rfl rfl (by decide +kernel) ⟨Nat.le_of_ble_eq_true rfl, Nat.le_of_ble_eq_true rfl⟩) hK hDD hA0 hP hS 0 12 wm0 rfl rfl hl.1 (Nat.le_of_ble_eq_true rfl) dX12_goesOn_311 (fun A512 H locs hw513 hP hS => ?_)
          obtain ⟨hI, hf514, hw513⟩ := hw513
          have r_A512_0_8 : (0 : Int) ≤ (A512 0 8) ∧ (A512 0 8) ≤ 5 := hI 0 8
          exact J314_511 _ _ _ _ hI (fr.trans (fr.rf) hf514 rfl rfl) hP hS (lv_sub hl [0, 1, 2, 3] rfl)
