set_option maxHeartbeats 4000000 in
set_option maxRecDepth 100000 in
theorem mb_X12_goesOn_c511 (l : Launch) (dC : Nat → ClassId) (dI : Nat → Nat → Nat) (cB cI cJ cZ cQ : ClassId) (q : Nat → Nat) (A : St) (hI : IM A) (hp0 : RI 1 A) (hp1 : A 0 8 = 0) (hp2 : PR A) (hp3 : A 0 57 = 1) (hp4 : SP A) (hcCI : CI A) (p : Program) (e : Env) (s : State) (m : MethodId) (below : List Frame) (meth : Method) (c : Code) (Q : State → Prop) (AS : Nat → Prop) (hx : p.tables.exec = Jvm.exec) (hb : c.code = cX12_goesOn) (hml : c.maxLocals = 5) (hown : s.vm.findClass RX12 = some m.cls) (hts : ∀ w ∈ ws_mb_X12_goesOn, w.before [.ref (q 0)].toArray s = true) (hK : va_K (dC, dI) vwCl (tyA cB cI cJ cZ cQ) s) (hDD : ∀ A', va_D AS (WM cI cJ cZ q A')) (hA0 : ∀ b : Nat, s.heap.size ≤ b → AS b) (RET : ∀ (z : Int) (u : St) (H : Heap) (locs : List Loc) (pc : Nat) (ls : Array Slot), ((fun z u => r_X12_goesOn A z u ∧ IM u ∧ fr [33, 34, 35, 36, 37, 40] [3, 4, 5, 6, 7, 8, 9, 46, 53, 54, 56, 57] A u ∧ CI u ∧ ((0 ≤ z ∧ z ≤ 1) ∧ (Hd (u 0 8 = 0 → (z = 1 → RI (u 0 57) u ∧ (PR u ∧ SP u) ∧ A 0 4 + 1 ≤ u 0 4) ∧ (z = 0 → DP (u 33) (sA u) (1600 * u 0 47 + u 0 46) 1 ∧ CB u ∧ A 0 4 ≤ u 0 4))))) z u) → va_P (dC, dI) vwCl (WM cI cJ cZ q u) H → va_S AS s.heap H locs → decode cX12_goesOn pc = .ok (.ireturn, 1) → W p l e (headSpec ws_mb_X12_goesOn ({ frames := 2, cells := 0, slots := 0, locals := 47 } : Room)).room s m [.ref (q 0)].toArray below meth c H locs 0 0 Q (F0 m pc ls [.int (iI z)])) (H : Heap) (locs : List Loc) (ls : Array Slot) (z1 : Int) (rz1 : (2 : Int) ≤ z1 ∧ z1 ≤ 5) (hz1 : z1 = A 35 ((A 0 53) - 1).toNat) (A576 : St) (hIv : IM A576) (hj575 : fr [] [8, 9] A A576) (f577 : Hd ((A576 0 8) = 0 → (A576 0 3) = 3)) (hk10 : ∀ (z : Int) (u : St), (d_X12_goesOn_10 A z u z1 A576) → r_X12_goesOn A z u) (hP : va_P (dC, dI) vwCl (WM cI cJ cZ q A576) H) (hS : va_S AS s.heap H locs) (hl : lv_has ls 5 [(0, .ref (q 0)), (1, .int (iI ((A 0 53) - 1))), (2, .int (iI z1))]) : W p l e (headSpec ws_mb_X12_goesOn ({ frames := 2, cells := 0, slots := 0, locals := 47 } : Room)).room s m [.ref (q 0)].toArray below meth c H locs 0 0 Q (F0 m 511 ls []) := by
  have hiX12 : ∀ w ∈ u_ws RX12 TX12 85, w ∈ ws_mb_X12_goesOn := fun w h => List.mem_cons_of_mem _ (wx_lay w h)
  have hI0 := hI
  have hdp := RI.deep hp0 hI0
  have hrm := RI.room hp0 hI0
  have r_A_0_3 : (0 : Int) ≤ (A 0 3) ∧ (A 0 3) ≤ 3 := hI 0 3
  have r_A_0_4 : (0 : Int) ≤ (A 0 4) ∧ (A 0 4) ≤ 1600 := hI 0 4
  have r_A_0_5 : (0 : Int) ≤ (A 0 5) ∧ (A 0 5) ≤ 1600 := hI 0 5
  have r_A_0_7 : (-9223372036854775808 : Int) ≤ (A 0 7) ∧ (A 0 7) ≤ 9223372036854775807 := hI 0 7
  have r_A_0_8 : (0 : Int) ≤ (A 0 8) ∧ (A 0 8) ≤ 5 := hI 0 8
  have r_A_0_46 : (0 : Int) ≤ (A 0 46) ∧ (A 0 46) ≤ 1600 := hI 0 46
  have r_A_0_47 : (0 : Int) ≤ (A 0 47) ∧ (A 0 47) ≤ 1 := hI 0 47
  have r_A_0_53 : (0 : Int) ≤ (A 0 53) ∧ (A 0 53) ≤ 20 := hI 0 53
  have r_A_0_54 : (0 : Int) ≤ (A 0 54) ∧ (A 0 54) ≤ 8 := hI 0 54
  have r_A_0_56 : (0 : Int) ≤ (A 0 56) ∧ (A 0 56) ≤ 500 := hI 0 56
  have hop := hp0.1
  have hI := hIv
  refine lv_aload_n hx hb dX12_goesOn_511 rfl (lv_at hl 0 rfl) ?_
  refine va_get (D := (dC, dI)) (ci := 12) (v := .int (iI (A576 0 8))) (C := RX12) (T := TX12) (N := 85) hx hb hts hiX12 hown hK hP 0 wm0 rfl 8 (by decide) (hts _ (List.mem_cons_of_mem _ (wl_in_0 _ (List.mem_of_getElem? (i := 16) rfl)))) (fun _ h9 => h9) rfl dX12_goesOn_512 ?_
  have r_A576_0_8 : (0 : Int) ≤ (A576 0 8) ∧ (A576 0 8) ≤ 5 := hI 0 8
  refine lv_if_le (tgt := 520) hx hb dX12_goesOn_515 (by decide) (fun c578 => ?_) (fun c578 => ?_)
  · have c578 : (A576 0 8) ≤ 0 := (i_le0 (rb r_A576_0_8 (by decide) (by decide))).mp c578
    have hD2 := RI.two hp0 hI0 (by rw [← hz1]; omega)
    refine lv_aload_n hx hb dX12_goesOn_520 rfl (lv_at hl 0 rfl) ?_
    refine lv_iconst (v := iI 1) hx hb dX12_goesOn_521 (by decide +kernel) ?_
    refine x_callv (As := [.int (iI 1)]) (rest := []) ⟨hx, hb, hml, hown, hts⟩ (mb_X12_joins l dC dI cB cI cJ cZ cQ q _ 1 hI ⟨by decide, by decide⟩ (by exact (RI1.fr hp0 hj575 rfl rfl)) (CI.fr hcCI hj575 rfl rfl) (SP.fr hp4 hj575 rfl rfl)) (cwV 1 hts (goodV (wl_in_2 _ (List.mem_of_getElem? (i := 10) rfl)) (wl_in_2 _ (List.mem_of_getElem? (i := 11) rfl)) (wl_in_2 _ (List.mem_of_getElem? (i := 12) rfl)) (wl_in_0 _ (List.mem_of_getElem? (i := 8) rfl)) (wl_in_1 _ (List.mem_of_getElem? (i := 34) rfl))) rfl rfl rfl (by decide +kernel) ⟨Nat.le_of_ble_eq_true rfl, Nat.le_of_ble_eq_true rfl⟩) hK hDD hA0 hP hS 0 12 wm0 rfl rfl hl.1 (Nat.le_of_ble_eq_true rfl) dX12_goesOn_522 (fun A579 H locs hw580 hP hS => ?_)
    have ghw580 : q_X12_joins 1 A576 A579 := hw580
    obtain ⟨_, hI, hf581, hw580⟩ := hw580
    obtain ⟨hc582, hw580⟩ := hw580
    obtain ⟨hc583, hw580⟩ := hw580
    have e_A576_53 : A576 0 53 = (A 0 53) := (hj575.2 53 rfl)
    have e_A579_53 : A579 0 53 = (A 0 53) := (hf581.2 53 rfl).trans e_A576_53
    have r_A579_0_56 : (0 : Int) ≤ (A579 0 56) ∧ (A579 0 56) ≤ 500 := hI 0 56
    have hj1 := hw580.1
    have hj2 := Hd.mk hw580.2
    clear hw580
    have hIj := hI
    have hrj := RI.room hj1 hIj
    have e_A576_3 : A576 0 3 = (A 0 3) := (hj575.2 3 rfl)
    have e_A579_3 : A579 0 3 = (A 0 3) := (hf581.2 3 rfl).trans e_A576_3
    have e_A576_4 : A576 0 4 = (A 0 4) := (hj575.2 4 rfl)
    have e_A579_4 : A579 0 4 = (A 0 4) := (hf581.2 4 rfl).trans e_A576_4
    have e_A576_5 : A576 0 5 = (A 0 5) := (hj575.2 5 rfl)
    have e_A579_5 : A579 0 5 = (A 0 5) := (hf581.2 5 rfl).trans e_A576_5
    have e_A576_7 : A576 0 7 = (A 0 7) := (hj575.2 7 rfl)
    have e_A579_7 : A579 0 7 = (A 0 7) := (hf581.2 7 rfl).trans e_A576_7
    have e_A579_8 : A579 0 8 = (A576 0 8) := (hf581.2 8 rfl)
    have e_A576_47 : A576 0 47 = (A 0 47) := (hj575.2 47 rfl)
    have e_A579_47 : A579 0 47 = (A 0 47) := (hf581.2 47 rfl).trans e_A576_47
    have e_A576_54 : A576 0 54 = (A 0 54) := (hj575.2 54 rfl)
    have e_A579_54 : A579 0 54 = (A 0 54) := (hf581.2 54 rfl).trans e_A576_54
    have r_A579_0_46 : (0 : Int) ≤ (A579 0 46) ∧ (A579 0 46) ≤ 1600 := hI 0 46
    refine lv_aload_n hx hb dX12_goesOn_525 rfl (lv_at hl 0 rfl) ?_
    refine lv_dup hx hb dX12_goesOn_526 rfl ?_
    refine va_get (D := (dC, dI)) (ci := 12) (v := .int (iI (A579 0 53))) (C := RX12) (T := TX12) (N := 85) hx hb hts hiX12 hown hK hP 0 wm0 rfl 53 (by decide) (hts _ (List.mem_cons_of_mem _ (wl_in_1 _ (List.mem_of_getElem? (i := 37) rfl)))) (fun _ h9 => h9) rfl dX12_goesOn_527 ?_
    refine tp_i (y := iI (A 0 53)) (congrArg iI e_A579_53) ?_
    refine lv_iconst (v := iI 1) hx hb dX12_goesOn_530 (by decide +kernel) ?_
    refine x_subv (v := (A 0 53) - 1) hx hb dX12_goesOn_531 (by omega) ?_
    refine x_put (D := (dC, dI)) (ci := 12) (v := .int (iI ((A 0 53) - 1))) (ty := .int) (C := RX12) (T := TX12) (N := 85) hx hb hts hiX12 tyX12 tyX12_ok nmX12 hown hK hP hDD hS 0 wm0 rfl 53 (by decide) (hts _ (List.mem_cons_of_mem _ (wl_in_1 _ (List.mem_of_getElem? (i := 37) rfl)))) (fun _ h9 => h9) rfl (by decide +kernel) rfl rfl (Nat.le_of_ble_eq_true rfl) dX12_goesOn_532 (wf53 (v := (A 0 53) - 1)) (fun H locs hP hS => ?_)
    have hI := hI.st (j := 0) (i := 53) (v := (A 0 53) - 1) (show (0 : Int) ≤ (A 0 53) - 1 ∧ (A 0 53) - 1 ≤ 20 from (by omega))
    refine lv_aload_n hx hb dX12_goesOn_535 rfl (lv_at hl 0 rfl) ?_
    refine lv_dup hx hb dX12_goesOn_536 rfl ?_
    refine va_get (D := (dC, dI)) (ci := 12) (v := .int (iI (A579 0 54))) (C := RX12) (T := TX12) (N := 85) hx hb hts hiX12 hown hK hP 0 wm0 rfl 54 (by decide) (hts _ (List.mem_cons_of_mem _ (wl_in_1 _ (List.mem_of_getElem? (i := 50) rfl)))) (fun _ h9 => h9) rfl dX12_goesOn_537 ?_
    refine tp_i (y := iI (A 0 54)) (congrArg iI e_A579_54) ?_
    refine lv_iconst (v := iI 1) hx hb dX12_goesOn_540 (by decide +kernel) ?_
    refine x_subv (v := (A 0 54) - 1) hx hb dX12_goesOn_541 (by omega) ?_
    refine x_put (D := (dC, dI)) (ci := 12) (v := .int (iI ((A 0 54) - 1))) (ty := .int) (C := RX12) (T := TX12) (N := 85) hx hb hts hiX12 tyX12 tyX12_ok nmX12 hown hK hP hDD hS 0 wm0 rfl 54 (by decide) (hts _ (List.mem_cons_of_mem _ (wl_in_1 _ (List.mem_of_getElem? (i := 50) rfl)))) (fun _ h9 => h9) rfl (by decide +kernel) rfl rfl (Nat.le_of_ble_eq_true rfl) dX12_goesOn_542 (wf54 (v := (A 0 54) - 1)) (fun H locs hP hS => ?_)
    have hI := hI.st (j := 0) (i := 54) (v := (A 0 54) - 1) (show (0 : Int) ≤ (A 0 54) - 1 ∧ (A 0 54) - 1 ≤ 8 from (by omega))
    refine lv_iload_n hx hb dX12_goesOn_545 rfl (lv_at hl 2 rfl) ?_
    refine lv_iconst (v := iI 4) hx hb dX12_goesOn_546 (by decide +kernel) ?_
    obtain ⟨A584, hA584⟩ : ∃ A584 : St, A584 = (stA (stA A579 0 53 ((A 0 53) - 1)) 0 54 ((A 0 54) - 1)) := ⟨_, rfl⟩
    rw [← hA584] at hP hI
    refine lv_icmp_ne (tgt := 561) hx hb dX12_goesOn_547 (by decide) (fun c585 => ?_) (fun c585 => ?_)
    · have c585 : ¬ z1 = 4 := mt (i_eq (rb rz1 (by decide) (by decide)) ⟨by decide, by decide⟩).mpr c585
      refine lv_iload_n hx hb dX12_goesOn_561 rfl (lv_at hl 2 rfl) ?_
      refine lv_iconst (v := iI 5) hx hb dX12_goesOn_562 (by decide +kernel) ?_
      refine lv_icmp_ne (tgt := 578) hx hb dX12_goesOn_563 (by decide) (fun c586 => ?_) (fun c586 => ?_)
      · have c586 : ¬ z1 = 5 := mt (i_eq (rb rz1 (by decide) (by decide)) ⟨by decide, by decide⟩).mpr c586
        refine lv_aload_n hx hb dX12_goesOn_578 rfl (lv_at hl 0 rfl) ?_
        have e_A584_4 : A584 0 4 = (A 0 4) := by rw [hA584]; exact e_A579_4
        have e_A584_5 : A584 0 5 = (A 0 5) := by rw [hA584]; exact e_A579_5
        have e_A584_8 : A584 0 8 = (A576 0 8) := by rw [hA584]; exact e_A579_8
        refine x_callv (As := []) (rest := []) ⟨hx, hb, hml, hown, hts⟩ (mb_X12_ahead l dC dI cB cI cJ cZ cQ q _ hI) (cwV 0 hts (goodV (wl_in_0 _ (List.mem_of_getElem? (i := 40) rfl)) (wl_in_0 _ (List.mem_of_getElem? (i := 41) rfl)) (wl_in_0 _ (List.mem_of_getElem? (i := 42) rfl)) (wl_in_0 _ (List.mem_of_getElem? (i := 8) rfl)) (wl_in_0 _ (List.mem_of_getElem? (i := 20) rfl))) rfl rfl rfl (by decide +kernel) ⟨Nat.le_of_ble_eq_true rfl, Nat.le_of_ble_eq_true rfl⟩) hK hDD hA0 hP hS 0 12 wm0 rfl rfl hl.1 (Nat.le_of_ble_eq_true rfl) dX12_goesOn_579 (fun A587 H locs hw588 hP hS => ?_)
        have ghw588 : q_X12_ahead A584 A587 := hw588
        obtain ⟨_, hI, hf589, hw588⟩ := hw588
        have r_A587_0_3 : (0 : Int) ≤ (A587 0 3) ∧ (A587 0 3) ≤ 3 := hI 0 3
        have r_A587_0_4 : (0 : Int) ≤ (A587 0 4) ∧ (A587 0 4) ≤ 1600 := hI 0 4
        have r_A587_0_5 : (0 : Int) ≤ (A587 0 5) ∧ (A587 0 5) ≤ 1600 := hI 0 5
        have r_A587_0_8 : (0 : Int) ≤ (A587 0 8) ∧ (A587 0 8) ≤ 5 := hI 0 8
        have hw588x := hw588.1
        have hw588y := hw588.2.1
        replace hw588 := Hd.mk hw588
        refine lv_iconst (v := iI 1) hx hb dX12_goesOn_582 (by decide +kernel) ?_
        have e_A584_46 : A584 0 46 = (A579 0 46) := by rw [hA584]; exact rfl
        have e_A587_46 : A587 0 46 = (A579 0 46) := (hf589.2 46 rfl).trans e_A584_46
        have e_A584_47 : A584 0 47 = (A 0 47) := by rw [hA584]; exact e_A579_47
        have e_A587_47 : A587 0 47 = (A 0 47) := (hf589.2 47 rfl).trans e_A584_47
        have e_A576_57 : A576 0 57 = (A 0 57) := (hj575.2 57 rfl)
        have e_A579_57 : A579 0 57 = (A 0 57) := (hf581.2 57 rfl).trans e_A576_57
        have e_A584_57 : A584 0 57 = (A 0 57) := by rw [hA584]; exact e_A579_57
        have e_A587_57 : A587 0 57 = (A 0 57) := (hf589.2 57 rfl).trans e_A584_57
        have r_A_0_57 : (0 : Int) ≤ (A 0 57) ∧ (A 0 57) ≤ 1 := by rw [← e_A587_57]; exact hI 0 57
        have ca590 : A576 35 = A 35 := (hj575.1 35 (by decide) rfl)
        have ca591 : A579 35 = A 35 := (hf581.1 35 (by decide) rfl).trans ca590
        have gs := f577.out (by omega)
        have hlt := RI.lt hp0 (by omega)
        have ca592 : A584 29 = A579 29 := by rw [hA584]; exact rfl
        have ca593 : A587 29 = A579 29 := (hf589.1 29 (by decide) rfl).trans ca592
        have ca594 : A584 31 = A579 31 := by rw [hA584]; exact rfl
        have ca595 : A587 31 = A579 31 := (hf589.1 31 (by decide) rfl).trans ca594
        have ca596 : A584 33 = A579 33 := by rw [hA584]; exact rfl
        have ca597 : A587 33 = A579 33 := (hf589.1 33 (by decide) rfl).trans ca596
        have ca598 : A584 35 = A579 35 := by rw [hA584]; exact rfl
        have ca599 : A587 35 = A579 35 := (hf589.1 35 (by decide) rfl).trans ca598
        have ca600 : A584 37 = A579 37 := by rw [hA584]; exact rfl
        have ca601 : A587 37 = A579 37 := (hf589.1 37 (by decide) rfl).trans ca600
        have ca602 : A584 39 = A579 39 := by rw [hA584]; exact rfl
        have ca603 : A587 39 = A579 39 := (hf589.1 39 (by decide) rfl).trans ca602
        have ca604 : A584 40 = A579 40 := by rw [hA584]; exact rfl
        have ca605 : A587 40 = A579 40 := (hf589.1 40 (by decide) rfl).trans ca604
        have e_A584_53 : A584 0 53 = (A 0 53) - 1 := by rw [hA584]; rfl
        have e_A587_53 : A587 0 53 = (A 0 53) - 1 := (hf589.2 53 rfl).trans e_A584_53
        have e_A584_54 : A584 0 54 = (A 0 54) - 1 := by rw [hA584]; rfl
        have e_A587_54 : A587 0 54 = (A 0 54) - 1 := (hf589.2 54 rfl).trans e_A584_54
        have e_A584_56 : A584 0 56 = (A579 0 56) := by rw [hA584]; exact rfl
        have e_A587_56 : A587 0 56 = (A579 0 56) := (hf589.2 56 rfl).trans e_A584_56
        have ca606 : A584 36 = A579 36 := by rw [hA584]; exact rfl
        have ca607 : A587 36 = A579 36 := (hf589.1 36 (by decide) rfl).trans ca606
        have f53j := e_A579_53
        have ca608 : A584 39 = A579 39 := by rw [hA584]; exact rfl
        have ca609 : A587 39 = A579 39 := (hf589.1 39 (by decide) rfl).trans ca608
        have ca610 : A584 40 = A579 40 := by rw [hA584]; exact rfl
        have ca611 : A587 40 = A579 40 := (hf589.1 40 (by decide) rfl).trans ca610
        have ca612 : A584 35 = A579 35 := by rw [hA584]; exact rfl
        have ca613 : A587 35 = A579 35 := (hf589.1 35 (by decide) rfl).trans ca612
        have ca614 : A584 38 = A579 38 := by rw [hA584]; exact rfl
        have ca615 : A587 38 = A579 38 := (hf589.1 38 (by decide) rfl).trans ca614
        exact RET 1 _ _ _ _ _ ⟨hk10 _ _ (u_d_X12_goesOn_10 ⟨hIv, (Or.inl ⟨c578, ⟨A579, ghw580, ⟨A584, hA584, (Or.inl ⟨c585, (Or.inl ⟨c586, ⟨A587, ghw588, ⟨rfl, rfl⟩⟩⟩)⟩)⟩⟩⟩)⟩), hI, fr.trans (fr_def hA584 (fr.sf (fr.sf (fr.trans (fr.trans (fr.rf) hj575 rfl rfl) hf581 rfl rfl) rfl) rfl)) hf589 rfl rfl, (CI.fr (CI.fr hc582 (fr_def hA584 (fr.sf (fr.sf (fr.rf (M := []) (N := [53, 54])) rfl) rfl)) rfl rfl) hf589 rfl rfl), ⟨by decide, Hd.mk (fun h0 => ⟨fun _ => ⟨by rw [show A587 0 57 = 1 by omega]; exact RI.shut hj1 hIj (by omega) (by rw [ca591, e_A579_53, ← hz1]; omega) (RI.full hj2.out) (Or.inl ⟨by rw [ca591, e_A579_53, ← hz1]; omega, rfl, rfl⟩) ⟨ca593, ca595, ca597, ca599, ca601, ca603, ca605, e_A587_46, (e_A587_47.trans e_A579_47.symm), (by omega), (by omega), e_A587_56⟩ (by omega) (by omega) hw588.out.2.2.1, ⟨PR.pop (PR.fr (PR.fr hp2 hj575 rfl rfl) hf581 rfl rfl) ca613 (by omega) ca615, SP.close (r36 := A579 36) hc583 (by omega) (RI.full hj2.out) ca607 (fun _ _ => rfl) (Or.inl rfl) ca609 ca611 (by omega) e_A587_56⟩, by omega⟩, fun h => absurd h (by decide)⟩)⟩⟩ hP hS dX12_goesOn_583
      · have c586 : z1 = 5 := (i_eq (rb rz1 (by decide) (by decide)) ⟨by decide, by decide⟩).mp c586
        refine lv_aload_n hx hb dX12_goesOn_566 rfl (lv_at hl 0 rfl) ?_
        refine va_get (D := (dC, dI)) (ci := 12) (v := .ref (q 36)) (C := RX12) (T := TX12) (N := 85) hx hb hts hiX12 hown hK hP 0 wm0 rfl 49 (by decide) (hts _ (List.mem_cons_of_mem _ (wl_in_1 _ (List.mem_of_getElem? (i := 47) rfl)))) (fun _ h9 => h9) rfl dX12_goesOn_567 ?_
        refine lv_aload_n hx hb dX12_goesOn_570 rfl (lv_at hl 0 rfl) ?_
        have e_A584_53 : A584 0 53 = (A 0 53) - 1 := by rw [hA584]; rfl
        refine va_get (D := (dC, dI)) (ci := 12) (v := .int (iI (A584 0 53))) (C := RX12) (T := TX12) (N := 85) hx hb hts hiX12 hown hK hP 0 wm0 rfl 53 (by decide) (hts _ (List.mem_cons_of_mem _ (wl_in_1 _ (List.mem_of_getElem? (i := 37) rfl)))) (fun _ h9 => h9) rfl dX12_goesOn_571 ?_
        refine tp_i (y := iI ((A 0 53) - 1)) (congrArg iI e_A584_53) ?_
        refine lv_iconst (v := iI 1) hx hb dX12_goesOn_574 (by decide +kernel) ?_
        refine x_subv (v := (A 0 53) - 2) hx hb dX12_goesOn_575 (by omega) ?_
        refine lv_iconst (v := iI 2) hx hb dX12_goesOn_576 (by decide +kernel) ?_
        refine x_iast hx hb hK hP hDD hS 36 1 wm36 rfl (by omega) (by decide) dX12_goesOn_577 ws36 (fun H locs hP hS => ?_)
        have hI := hI.st (j := 36) (i := ((A 0 53) - 2).toNat) (v := 2) (show (0 : Int) ≤ 2 ∧ 2 ≤ 2 from (by omega))
        refine lv_aload_n hx hb dX12_goesOn_578 rfl (lv_at hl 0 rfl) ?_
        obtain ⟨A616, hA616⟩ : ∃ A616 : St, A616 = (stA A584 36 ((A 0 53) - 2).toNat 2) := ⟨_, rfl⟩
        rw [← hA616] at hP hI
        have e_A584_4 : A584 0 4 = (A 0 4) := by rw [hA584]; exact e_A579_4
        have e_A616_4 : A616 0 4 = (A 0 4) := by rw [hA616]; exact e_A584_4
        have e_A584_5 : A584 0 5 = (A 0 5) := by rw [hA584]; exact e_A579_5
        have e_A616_5 : A616 0 5 = (A 0 5) := by rw [hA616]; exact e_A584_5
        have e_A584_8 : A584 0 8 = (A576 0 8) := by rw [hA584]; exact e_A579_8
        have e_A616_8 : A616 0 8 = (A576 0 8) := by rw [hA616]; exact e_A584_8
        refine x_callv (As := []) (rest := []) ⟨hx, hb, hml, hown, hts⟩ (mb_X12_ahead l dC dI cB cI cJ cZ cQ q _ hI) (cwV 0 hts (goodV (wl_in_0 _ (List.mem_of_getElem? (i := 40) rfl)) (wl_in_0 _ (List.mem_of_getElem? (i := 41) rfl)) (wl_in_0 _ (List.mem_of_getElem? (i := 42) rfl)) (wl_in_0 _ (List.mem_of_getElem? (i := 8) rfl)) (wl_in_0 _ (List.mem_of_getElem? (i := 20) rfl))) rfl rfl rfl (by decide +kernel) ⟨Nat.le_of_ble_eq_true rfl, Nat.le_of_ble_eq_true rfl⟩) hK hDD hA0 hP hS 0 12 wm0 rfl rfl hl.1 (Nat.le_of_ble_eq_true rfl) dX12_goesOn_579 (fun A617 H locs hw618 hP hS => ?_)
        have ghw618 : q_X12_ahead A616 A617 := hw618
        obtain ⟨_, hI, hf619, hw618⟩ := hw618
        have r_A617_0_3 : (0 : Int) ≤ (A617 0 3) ∧ (A617 0 3) ≤ 3 := hI 0 3
        have r_A617_0_4 : (0 : Int) ≤ (A617 0 4) ∧ (A617 0 4) ≤ 1600 := hI 0 4
        have r_A617_0_5 : (0 : Int) ≤ (A617 0 5) ∧ (A617 0 5) ≤ 1600 := hI 0 5
        have r_A617_0_8 : (0 : Int) ≤ (A617 0 8) ∧ (A617 0 8) ≤ 5 := hI 0 8
        have hw618x := hw618.1
        have hw618y := hw618.2.1
        replace hw618 := Hd.mk hw618
        refine lv_iconst (v := iI 1) hx hb dX12_goesOn_582 (by decide +kernel) ?_
        have e_A584_46 : A584 0 46 = (A579 0 46) := by rw [hA584]; exact rfl
        have e_A616_46 : A616 0 46 = (A579 0 46) := by rw [hA616]; exact e_A584_46
        have e_A617_46 : A617 0 46 = (A579 0 46) := (hf619.2 46 rfl).trans e_A616_46
        have e_A584_47 : A584 0 47 = (A 0 47) := by rw [hA584]; exact e_A579_47
        have e_A616_47 : A616 0 47 = (A 0 47) := by rw [hA616]; exact e_A584_47
        have e_A617_47 : A617 0 47 = (A 0 47) := (hf619.2 47 rfl).trans e_A616_47
        have e_A576_57 : A576 0 57 = (A 0 57) := (hj575.2 57 rfl)
        have e_A579_57 : A579 0 57 = (A 0 57) := (hf581.2 57 rfl).trans e_A576_57
        have e_A584_57 : A584 0 57 = (A 0 57) := by rw [hA584]; exact e_A579_57
        have e_A616_57 : A616 0 57 = (A 0 57) := by rw [hA616]; exact e_A584_57
        have e_A617_57 : A617 0 57 = (A 0 57) := (hf619.2 57 rfl).trans e_A616_57
        have r_A_0_57 : (0 : Int) ≤ (A 0 57) ∧ (A 0 57) ≤ 1 := by rw [← e_A617_57]; exact hI 0 57
        have ca620 : A576 35 = A 35 := (hj575.1 35 (by decide) rfl)
        have ca621 : A579 35 = A 35 := (hf581.1 35 (by decide) rfl).trans ca620
        have gs := f577.out (by omega)
        have hlt := RI.lt hp0 (by omega)
        have ca622 : A584 29 = A579 29 := by rw [hA584]; exact rfl
        have ca623 : A616 29 = A579 29 := by rw [hA616]; exact ca622
        have ca624 : A617 29 = A579 29 := (hf619.1 29 (by decide) rfl).trans ca623
        have ca625 : A584 31 = A579 31 := by rw [hA584]; exact rfl
        have ca626 : A616 31 = A579 31 := by rw [hA616]; exact ca625
        have ca627 : A617 31 = A579 31 := (hf619.1 31 (by decide) rfl).trans ca626
        have ca628 : A584 33 = A579 33 := by rw [hA584]; exact rfl
        have ca629 : A616 33 = A579 33 := by rw [hA616]; exact ca628
        have ca630 : A617 33 = A579 33 := (hf619.1 33 (by decide) rfl).trans ca629
        have ca631 : A584 35 = A579 35 := by rw [hA584]; exact rfl
        have ca632 : A616 35 = A579 35 := by rw [hA616]; exact ca631
        have ca633 : A617 35 = A579 35 := (hf619.1 35 (by decide) rfl).trans ca632
        have ca634 : A584 37 = A579 37 := by rw [hA584]; exact rfl
        have ca635 : A616 37 = A579 37 := by rw [hA616]; exact ca634
        have ca636 : A617 37 = A579 37 := (hf619.1 37 (by decide) rfl).trans ca635
        have ca637 : A584 39 = A579 39 := by rw [hA584]; exact rfl
        have ca638 : A616 39 = A579 39 := by rw [hA616]; exact ca637
        have ca639 : A617 39 = A579 39 := (hf619.1 39 (by decide) rfl).trans ca638
        have ca640 : A584 40 = A579 40 := by rw [hA584]; exact rfl
        have ca641 : A616 40 = A579 40 := by rw [hA616]; exact ca640
        have ca642 : A617 40 = A579 40 := (hf619.1 40 (by decide) rfl).trans ca641
        have e_A616_53 : A616 0 53 = (A 0 53) - 1 := by rw [hA616]; exact e_A584_53
        have e_A617_53 : A617 0 53 = (A 0 53) - 1 := (hf619.2 53 rfl).trans e_A616_53
        have e_A584_54 : A584 0 54 = (A 0 54) - 1 := by rw [hA584]; rfl
        have e_A616_54 : A616 0 54 = (A 0 54) - 1 := by rw [hA616]; exact e_A584_54
        have e_A617_54 : A617 0 54 = (A 0 54) - 1 := (hf619.2 54 rfl).trans e_A616_54
        have e_A584_56 : A584 0 56 = (A579 0 56) := by rw [hA584]; exact rfl
        have e_A616_56 : A616 0 56 = (A579 0 56) := by rw [hA616]; exact e_A584_56
        have e_A617_56 : A617 0 56 = (A579 0 56) := (hf619.2 56 rfl).trans e_A616_56
        have ca643 : A584 36 = A579 36 := by rw [hA584]; exact rfl
        have e36 : A616 36 = up (A579 36) (A579 0 53 - 1 - 1).toNat 2 := by rw [hA616]; show up (A584 36) _ _ = _; rw [ca643, e_A579_53, show A 0 53 - 1 - 1 = A 0 53 - 2 by omega]
        have ca644 : A617 36 = A616 36 := (hf619.1 36 (by decide) rfl)
        have f53j := e_A579_53
        have ca645 : A584 39 = A579 39 := by rw [hA584]; exact rfl
        have ca646 : A616 39 = A579 39 := by rw [hA616]; exact ca645
        have ca647 : A617 39 = A579 39 := (hf619.1 39 (by decide) rfl).trans ca646
        have ca648 : A584 40 = A579 40 := by rw [hA584]; exact rfl
        have ca649 : A616 40 = A579 40 := by rw [hA616]; exact ca648
        have ca650 : A617 40 = A579 40 := (hf619.1 40 (by decide) rfl).trans ca649
        have ca651 : A584 35 = A579 35 := by rw [hA584]; exact rfl
        have ca652 : A616 35 = A579 35 := by rw [hA616]; exact ca651
        have ca653 : A617 35 = A579 35 := (hf619.1 35 (by decide) rfl).trans ca652
        have ca654 : A584 38 = A579 38 := by rw [hA584]; exact rfl
        have ca655 : A616 38 = A579 38 := by rw [hA616]; exact ca654
        have ca656 : A617 38 = A579 38 := (hf619.1 38 (by decide) rfl).trans ca655
        exact RET 1 _ _ _ _ _ ⟨hk10 _ _ (u_d_X12_goesOn_10 ⟨hIv, (Or.inl ⟨c578, ⟨A579, ghw580, ⟨A584, hA584, (Or.inl ⟨c585, (Or.inr ⟨c586, ⟨A616, hA616, ⟨A617, ghw618, ⟨rfl, rfl⟩⟩⟩⟩)⟩)⟩⟩⟩)⟩), hI, fr.trans (fr_def hA616 (fr.st (fr_def hA584 (fr.sf (fr.sf (fr.trans (fr.trans (fr.rf) hj575 rfl rfl) hf581 rfl rfl) rfl) rfl)) (by decide) rfl)) hf619 rfl rfl, (CI.fr (CI.fr (CI.fr hc582 (fr_def hA584 (fr.sf (fr.sf (fr.rf (M := []) (N := [53, 54])) rfl) rfl)) rfl rfl) (fr_def hA616 (fr.st (fr.rf (M := [36]) (N := [])) (by decide) rfl)) rfl rfl) hf619 rfl rfl), ⟨by decide, Hd.mk (fun h0 => ⟨fun _ => ⟨by rw [show A617 0 57 = 1 by omega]; exact RI.shut hj1 hIj (by omega) (by rw [ca621, e_A579_53, ← hz1]; omega) (RI.full hj2.out) (Or.inl ⟨by rw [ca621, e_A579_53, ← hz1]; omega, rfl, rfl⟩) ⟨ca624, ca627, ca630, ca633, ca636, ca639, ca642, e_A617_46, (e_A617_47.trans e_A579_47.symm), (by omega), (by omega), e_A617_56⟩ (by omega) (by omega) hw618.out.2.2.1, ⟨PR.pop (PR.fr (PR.fr hp2 hj575 rfl rfl) hf581 rfl rfl) ca653 (by omega) ca656, SP.close (r36 := up (A579 36) (A579 0 53 - 1 - 1).toNat 2) hc583 (by omega) (RI.full hj2.out) (ca644.trans e36) (fun i hi => by rw [up_ne _ _ (by omega)]) (Or.inr (up_same _ _ _)) ca647 ca650 (by omega) e_A617_56⟩, by omega⟩, fun h => absurd h (by decide)⟩)⟩⟩ hP hS dX12_goesOn_583
    · have c585 : z1 = 4 := (i_eq (rb rz1 (by decide) (by decide)) ⟨by decide, by decide⟩).mp c585
      have gs := f577.out (by omega)
      have hlt := RI.lt hp0 (by omega)
      refine lv_aload_n hx hb dX12_goesOn_550 rfl (lv_at hl 0 rfl) ?_
      refine lv_aload_n hx hb dX12_goesOn_551 rfl (lv_at hl 0 rfl) ?_
      refine va_get (D := (dC, dI)) (ci := 12) (v := .ref (q 38)) (C := RX12) (T := TX12) (N := 85) hx hb hts hiX12 hown hK hP 0 wm0 rfl 51 (by decide) (hts _ (List.mem_cons_of_mem _ (wl_in_1 _ (List.mem_of_getElem? (i := 56) rfl)))) (fun _ h9 => h9) rfl dX12_goesOn_552 ?_
      refine lv_iload_n hx hb dX12_goesOn_555 rfl (lv_at hl 1 rfl) ?_
      have a_A576_38 : A576 38 = A 38 := (hj575.1 38 (by decide) rfl)
      have a_A579_38 : A579 38 = A 38 := (hf581.1 38 (by decide) rfl).trans a_A576_38
      have a_A584_38 : A584 38 = A 38 := by rw [hA584]; exact a_A579_38
      refine x_iald hx hb hK hP 38 1 wm38 rfl (by omega) (by decide) dX12_goesOn_556 (fun z657 hz657 => ?_)
      have rz657 : (0 : Int) ≤ z657 ∧ z657 ≤ 16 := by rw [hz657]; exact hI 38 _
      have gz657 := Hd.mk hz657
      have hz657 : z657 = A 38 ((A 0 53) - 1).toNat := hz657.trans (congrFun a_A584_38 _)
      refine lv_iconst (v := iI 0) hx hb dX12_goesOn_557 (by decide +kernel) ?_
      have e_A584_46 : A584 0 46 = (A579 0 46) := by rw [hA584]; exact rfl
      have e_A584_47 : A584 0 47 = (A 0 47) := by rw [hA584]; exact e_A579_47
      refine x_callv (As := [.int (iI z657), .int (iI 0)]) (rest := []) ⟨hx, hb, hml, hown, hts⟩ (mb_X12_add l dC dI cB cI cJ cZ cQ q _ z657 0 hI (rb rz657 (by decide) (by decide)) ⟨by decide, by decide⟩ (by omega) (CI.fr hc582 (fr_def hA584 (fr.sf (fr.sf (fr.rf (M := []) (N := [53, 54])) rfl) rfl)) rfl rfl)) (cwV 2 hts (goodV (wl_in_1 _ (List.mem_of_getElem? (i := 41) rfl)) (wl_in_1 _ (List.mem_of_getElem? (i := 42) rfl)) (wl_in_1 _ (List.mem_of_getElem? (i := 43) rfl)) (wl_in_0 _ (List.mem_of_getElem? (i := 8) rfl)) (wl_in_1 _ (List.mem_of_getElem? (i := 29) rfl))) rfl rfl rfl (by decide +kernel) ⟨Nat.le_of_ble_eq_true rfl, Nat.le_of_ble_eq_true rfl⟩) hK hDD hA0 hP hS 0 12 wm0 rfl rfl hl.1 (Nat.le_of_ble_eq_true rfl) dX12_goesOn_558 (fun A658 H locs hw659 hP hS => ?_)
      have ghw659 : q_X12_add z657 0 A584 A658 := hw659
      obtain ⟨_, hI, hf660, hw659⟩ := hw659
      obtain ⟨hc661, hw659⟩ := hw659
      have r_A658_0_46 : (0 : Int) ≤ (A658 0 46) ∧ (A658 0 46) ≤ 1600 := hI 0 46
      refine lv_iload_n hx hb dX12_goesOn_561 rfl (lv_at hl 2 rfl) ?_
      refine lv_iconst (v := iI 5) hx hb dX12_goesOn_562 (by decide +kernel) ?_
      refine lv_icmp_ne (tgt := 578) hx hb dX12_goesOn_563 (by decide) (fun _ => ?_) (fun c662 => False.elim (by have c662 : z1 = 5 := (i_eq (rb rz1 (by decide) (by decide)) ⟨by decide, by decide⟩).mp c662; omega))
      refine lv_aload_n hx hb dX12_goesOn_578 rfl (lv_at hl 0 rfl) ?_
      have e_A584_4 : A584 0 4 = (A 0 4) := by rw [hA584]; exact e_A579_4
      have e_A658_4 : A658 0 4 = (A 0 4) := (hf660.2 4 rfl).trans e_A584_4
      have e_A584_5 : A584 0 5 = (A 0 5) := by rw [hA584]; exact e_A579_5
      have e_A658_5 : A658 0 5 = (A 0 5) := (hf660.2 5 rfl).trans e_A584_5
      have e_A584_8 : A584 0 8 = (A576 0 8) := by rw [hA584]; exact e_A579_8
      have e_A658_8 : A658 0 8 = (A576 0 8) := (hf660.2 8 rfl).trans e_A584_8
      refine x_callv (As := []) (rest := []) ⟨hx, hb, hml, hown, hts⟩ (mb_X12_ahead l dC dI cB cI cJ cZ cQ q _ hI) (cwV 0 hts (goodV (wl_in_0 _ (List.mem_of_getElem? (i := 40) rfl)) (wl_in_0 _ (List.mem_of_getElem? (i := 41) rfl)) (wl_in_0 _ (List.mem_of_getElem? (i := 42) rfl)) (wl_in_0 _ (List.mem_of_getElem? (i := 8) rfl)) (wl_in_0 _ (List.mem_of_getElem? (i := 20) rfl))) rfl rfl rfl (by decide +kernel) ⟨Nat.le_of_ble_eq_true rfl, Nat.le_of_ble_eq_true rfl⟩) hK hDD hA0 hP hS 0 12 wm0 rfl rfl hl.1 (Nat.le_of_ble_eq_true rfl) dX12_goesOn_579 (fun A663 H locs hw664 hP hS => ?_)
      have ghw664 : q_X12_ahead A658 A663 := hw664
      obtain ⟨_, hI, hf665, hw664⟩ := hw664
      have r_A663_0_3 : (0 : Int) ≤ (A663 0 3) ∧ (A663 0 3) ≤ 3 := hI 0 3
      have r_A663_0_4 : (0 : Int) ≤ (A663 0 4) ∧ (A663 0 4) ≤ 1600 := hI 0 4
      have r_A663_0_5 : (0 : Int) ≤ (A663 0 5) ∧ (A663 0 5) ≤ 1600 := hI 0 5
      have r_A663_0_8 : (0 : Int) ≤ (A663 0 8) ∧ (A663 0 8) ≤ 5 := hI 0 8
      have hw664x := hw664.1
      have hw664y := hw664.2.1
      replace hw664 := Hd.mk hw664
      refine lv_iconst (v := iI 1) hx hb dX12_goesOn_582 (by decide +kernel) ?_
      have e_A663_46 : A663 0 46 = (A658 0 46) := (hf665.2 46 rfl)
      have e_A658_47 : A658 0 47 = (A 0 47) := (hf660.2 47 rfl).trans e_A584_47
      have e_A663_47 : A663 0 47 = (A 0 47) := (hf665.2 47 rfl).trans e_A658_47
      have e_A576_57 : A576 0 57 = (A 0 57) := (hj575.2 57 rfl)
      have e_A579_57 : A579 0 57 = (A 0 57) := (hf581.2 57 rfl).trans e_A576_57
      have e_A584_57 : A584 0 57 = (A 0 57) := by rw [hA584]; exact e_A579_57
      have e_A658_57 : A658 0 57 = (A 0 57) := (hf660.2 57 rfl).trans e_A584_57
      have e_A663_57 : A663 0 57 = (A 0 57) := (hf665.2 57 rfl).trans e_A658_57
      have r_A_0_57 : (0 : Int) ≤ (A 0 57) ∧ (A 0 57) ≤ 1 := by rw [← e_A663_57]; exact hI 0 57
      have ca666 : A576 35 = A 35 := (hj575.1 35 (by decide) rfl)
      have ca667 : A579 35 = A 35 := (hf581.1 35 (by decide) rfl).trans ca666
      have ca668 : A663 33 = A658 33 := (hf665.1 33 (by decide) rfl)
      have ca669 : A584 33 = A579 33 := by rw [hA584]; exact rfl
      have gx : 10 ≤ z657 := by rw [hz657]; exact hp2 _ (by omega) (Or.inr (by rw [← hz1]; omega))
      have ca670 : A584 29 = A579 29 := by rw [hA584]; exact rfl
      have ca671 : A658 29 = A579 29 := (hf660.1 29 (by decide) rfl).trans ca670
      have ca672 : A663 29 = A579 29 := (hf665.1 29 (by decide) rfl).trans ca671
      have ca673 : A584 31 = A579 31 := by rw [hA584]; exact rfl
      have ca674 : A658 31 = A579 31 := (hf660.1 31 (by decide) rfl).trans ca673
      have ca675 : A663 31 = A579 31 := (hf665.1 31 (by decide) rfl).trans ca674
      have ca676 : A584 35 = A579 35 := by rw [hA584]; exact rfl
      have ca677 : A658 35 = A579 35 := (hf660.1 35 (by decide) rfl).trans ca676
      have ca678 : A663 35 = A579 35 := (hf665.1 35 (by decide) rfl).trans ca677
      have ca679 : A584 37 = A579 37 := by rw [hA584]; exact rfl
      have ca680 : A658 37 = A579 37 := (hf660.1 37 (by decide) rfl).trans ca679
      have ca681 : A663 37 = A579 37 := (hf665.1 37 (by decide) rfl).trans ca680
      have ca682 : A584 39 = A579 39 := by rw [hA584]; exact rfl
      have ca683 : A658 39 = A579 39 := (hf660.1 39 (by decide) rfl).trans ca682
      have ca684 : A663 39 = A579 39 := (hf665.1 39 (by decide) rfl).trans ca683
      have ca685 : A584 40 = A579 40 := by rw [hA584]; exact rfl
      have ca686 : A658 40 = A579 40 := (hf660.1 40 (by decide) rfl).trans ca685
      have ca687 : A663 40 = A579 40 := (hf665.1 40 (by decide) rfl).trans ca686
      have e_A584_53 : A584 0 53 = (A 0 53) - 1 := by rw [hA584]; rfl
      have e_A658_53 : A658 0 53 = (A 0 53) - 1 := (hf660.2 53 rfl).trans e_A584_53
      have e_A663_53 : A663 0 53 = (A 0 53) - 1 := (hf665.2 53 rfl).trans e_A658_53
      have e_A584_54 : A584 0 54 = (A 0 54) - 1 := by rw [hA584]; rfl
      have e_A658_54 : A658 0 54 = (A 0 54) - 1 := (hf660.2 54 rfl).trans e_A584_54
      have e_A663_54 : A663 0 54 = (A 0 54) - 1 := (hf665.2 54 rfl).trans e_A658_54
      have e_A584_56 : A584 0 56 = (A579 0 56) := by rw [hA584]; exact rfl
      have e_A658_56 : A658 0 56 = (A579 0 56) := (hf660.2 56 rfl).trans e_A584_56
      have e_A663_56 : A663 0 56 = (A579 0 56) := (hf665.2 56 rfl).trans e_A658_56
      have ca688 : A584 36 = A579 36 := by rw [hA584]; exact rfl
      have ca689 : A658 36 = A579 36 := (hf660.1 36 (by decide) rfl).trans ca688
      have ca690 : A663 36 = A579 36 := (hf665.1 36 (by decide) rfl).trans ca689
      have f53j := e_A579_53
      have ca691 : A584 39 = A579 39 := by rw [hA584]; exact rfl
      have ca692 : A658 39 = A579 39 := (hf660.1 39 (by decide) rfl).trans ca691
      have ca693 : A663 39 = A579 39 := (hf665.1 39 (by decide) rfl).trans ca692
      have ca694 : A584 40 = A579 40 := by rw [hA584]; exact rfl
      have ca695 : A658 40 = A579 40 := (hf660.1 40 (by decide) rfl).trans ca694
      have ca696 : A663 40 = A579 40 := (hf665.1 40 (by decide) rfl).trans ca695
      have ca697 : A584 35 = A579 35 := by rw [hA584]; exact rfl
      have ca698 : A658 35 = A579 35 := (hf660.1 35 (by decide) rfl).trans ca697
      have ca699 : A663 35 = A579 35 := (hf665.1 35 (by decide) rfl).trans ca698
      have ca700 : A584 38 = A579 38 := by rw [hA584]; exact rfl
      have ca701 : A658 38 = A579 38 := (hf660.1 38 (by decide) rfl).trans ca700
      have ca702 : A663 38 = A579 38 := (hf665.1 38 (by decide) rfl).trans ca701
      exact RET 1 _ _ _ _ _ ⟨hk10 _ _ (u_d_X12_goesOn_10 ⟨hIv, (Or.inl ⟨c578, ⟨A579, ghw580, ⟨A584, hA584, (Or.inr ⟨c585, ⟨z657, gz657.out, ⟨A658, ghw659, ⟨A663, ghw664, ⟨rfl, rfl⟩⟩⟩⟩⟩)⟩⟩⟩)⟩), hI, fr.trans (fr.trans (fr_def hA584 (fr.sf (fr.sf (fr.trans (fr.trans (fr.rf) hj575 rfl rfl) hf581 rfl rfl) rfl) rfl)) hf660 rfl rfl) hf665 rfl rfl, (CI.fr hc661 hf665 rfl rfl), ⟨by decide, Hd.mk (fun h0 => ⟨fun _ => ⟨by rw [show A663 0 57 = 1 by omega]; exact RI.shut hj1 hIj (by omega) (by rw [ca667, e_A579_53, ← hz1]; omega) (RI.full hj2.out) (Or.inr ⟨z657, (by rw [ca667, e_A579_53, ← hz1]; omega), gx, by omega, rfl, rfl⟩) ⟨ca672, ca675, (ca668.trans (hw659.2.trans (by rw [ca669, show A584 0 47 = A579 0 47 from (e_A584_47.trans e_A579_47.symm), show A584 0 46 = A579 0 46 from e_A584_46]))), ca678, ca681, ca684, ca687, (by omega), (e_A663_47.trans e_A579_47.symm), (by omega), (by omega), e_A663_56⟩ (by omega) (by omega) hw664.out.2.2.1, ⟨PR.pop (PR.fr (PR.fr hp2 hj575 rfl rfl) hf581 rfl rfl) ca699 (by omega) ca702, SP.close (r36 := A579 36) hc583 (by omega) (RI.full hj2.out) ca690 (fun _ _ => rfl) (Or.inl rfl) ca693 ca696 (by omega) e_A663_56⟩, by omega⟩, fun h => absurd h (by decide)⟩)⟩⟩ hP hS dX12_goesOn_583
  · have c578 : ¬ (A576 0 8) ≤ 0 := mt (i_le0 (rb r_A576_0_8 (by decide) (by decide))).mpr c578
    refine lv_iconst (v := iI 0) hx hb dX12_goesOn_518 (by decide +kernel) ?_
    have e_A576_4 : A576 0 4 = (A 0 4) := (hj575.2 4 rfl)
    have e_A576_5 : A576 0 5 = (A 0 5) := (hj575.2 5 rfl)
    have e_A576_46 : A576 0 46 = (A 0 46) := (hj575.2 46 rfl)
    have e_A576_47 : A576 0 47 = (A 0 47) := (hj575.2 47 rfl)
    have e_A576_57 : A576 0 57 = (A 0 57) := (hj575.2 57 rfl)
    have r_A_0_57 : (0 : Int) ≤ (A 0 57) ∧ (A 0 57) ≤ 1 := by rw [← e_A576_57]; exact hI 0 57
    exact RET 0 _ _ _ _ _ ⟨hk10 _ _ (u_d_X12_goesOn_10 ⟨hIv, (Or.inr ⟨c578, ⟨rfl, rfl⟩⟩)⟩), hI, fr.trans (fr.rf) hj575 rfl rfl, (CI.fr hcCI hj575 rfl rfl), ⟨by decide, Hd.mk (fun h => absurd h (by omega))⟩⟩ hP hS dX12_goesOn_519
