set_option maxHeartbeats 4000000 in
set_option maxRecDepth 100000 in
theorem mb_X12_goesOn_c409 (l : Launch) (dC : Nat → ClassId) (dI : Nat → Nat → Nat) (cB cI cJ cZ cQ : ClassId) (q : Nat → Nat) (A : St) (hI : IM A) (hp0 : RI 1 A) (hp1 : A 0 8 = 0) (hp2 : PR A) (hp3 : A 0 57 = 1) (hp4 : SP A) (hcCI : CI A) (p : Program) (e : Env) (s : State) (m : MethodId) (below : List Frame) (meth : Method) (c : Code) (Q : State → Prop) (AS : Nat → Prop) (hx : p.tables.exec = Jvm.exec) (hb : c.code = cX12_goesOn) (hml : c.maxLocals = 5) (hown : s.vm.findClass RX12 = some m.cls) (hts : ∀ w ∈ ws_mb_X12_goesOn, w.before [.ref (q 0)].toArray s = true) (hK : va_K (dC, dI) vwCl (tyA cB cI cJ cZ cQ) s) (hDD : ∀ A', va_D AS (WM cI cJ cZ q A')) (hA0 : ∀ b : Nat, s.heap.size ≤ b → AS b) (RET : ∀ (z : Int) (u : St) (H : Heap) (locs : List Loc) (pc : Nat) (ls : Array Slot), ((fun z u => IM u ∧ fr [33, 34, 35, 36, 37, 40] [3, 4, 5, 6, 7, 8, 9, 46, 53, 54, 56, 57] A u ∧ CI u ∧ ((0 ≤ z ∧ z ≤ 1) ∧ (Hd (u 0 8 = 0 → (z = 1 → RI (u 0 57) u ∧ (PR u ∧ SP u) ∧ A 0 4 + 1 ≤ u 0 4) ∧ (z = 0 → DP (u 33) (sA u) (1600 * u 0 47 + u 0 46) 1 ∧ CB u ∧ A 0 4 ≤ u 0 4))))) z u) → va_P (dC, dI) vwCl (WM cI cJ cZ q u) H → va_S AS s.heap H locs → decode cX12_goesOn pc = .ok (.ireturn, 1) → W p l e (headSpec ws_mb_X12_goesOn ({ frames := 2, cells := 0, slots := 0, locals := 47 } : Room)).room s m [.ref (q 0)].toArray below meth c H locs 0 0 Q (F0 m pc ls [.int (iI z)])) (H : Heap) (locs : List Loc) (ls : Array Slot) (z1 : Int) (rz1 : (0 : Int) ≤ z1 ∧ z1 ≤ 5) (hz1 : z1 = A 35 ((A 0 53) - 1).toNat) (A558 : St) (hIv : IM A558) (hj557 : fr [] [8, 9] A A558) (hP : va_P (dC, dI) vwCl (WM cI cJ cZ q A558) H) (hS : va_S AS s.heap H locs) (hl : lv_has ls 5 [(0, .ref (q 0)), (1, .int (iI ((A 0 53) - 1))), (2, .int (iI z1))]) : W p l e (headSpec ws_mb_X12_goesOn ({ frames := 2, cells := 0, slots := 0, locals := 47 } : Room)).room s m [.ref (q 0)].toArray below meth c H locs 0 0 Q (F0 m 409 ls []) := by
  have hiX12 : ∀ w ∈ u_ws RX12 TX12 85, w ∈ ws_mb_X12_goesOn := fun w h => List.mem_cons_of_mem _ (wx_lay w h)
  have hI0 := hI
  have hdp := RI.deep hp0 hI0
  have hrm := RI.room hp0 hI0
  have r_A_0_3 : (0 : Int) ≤ (A 0 3) ∧ (A 0 3) ≤ 3 := hI 0 3
  have r_A_0_4 : (0 : Int) ≤ (A 0 4) ∧ (A 0 4) ≤ 1600 := hI 0 4
  have r_A_0_5 : (0 : Int) ≤ (A 0 5) ∧ (A 0 5) ≤ 1600 := hI 0 5
  have r_A_0_7 : (-9223372036854775808 : Int) ≤ (A 0 7) ∧ (A 0 7) ≤ 9223372036854775807 := hI 0 7
  have r_A_0_8 : (0 : Int) ≤ (A 0 8) ∧ (A 0 8) ≤ 5 := hI 0 8
  have r_A_0_46 : (0 : Int) ≤ (A 0 46) ∧ (A 0 46) ≤ 1600 := hI 0 46
  have r_A_0_47 : (0 : Int) ≤ (A 0 47) ∧ (A 0 47) ≤ 1 := hI 0 47
  have r_A_0_53 : (0 : Int) ≤ (A 0 53) ∧ (A 0 53) ≤ 20 := hI 0 53
  have r_A_0_54 : (0 : Int) ≤ (A 0 54) ∧ (A 0 54) ≤ 8 := hI 0 54
  have r_A_0_56 : (0 : Int) ≤ (A 0 56) ∧ (A 0 56) ≤ 500 := hI 0 56
  have hop := hp0.1
  have hI := hIv
  refine lv_iload_n hx hb dX12_goesOn_409 rfl (lv_at hl 2 rfl) ?_
  refine lv_iconst (v := iI 2) hx hb dX12_goesOn_410 (by decide +kernel) ?_
  refine lv_icmp_ge (tgt := 428) hx hb dX12_goesOn_411 (by decide) (fun c559 => ?_) (fun c559 => ?_)
  · have c559 : 2 ≤ z1 := (i_le ⟨by decide, by decide⟩ (rb rz1 (by decide) (by decide))).mp c559
    refine lv_iload_n hx hb dX12_goesOn_428 rfl (lv_at hl 2 rfl) ?_
    refine lv_iconst (v := iI 3) hx hb dX12_goesOn_429 (by decide +kernel) ?_
    refine lv_icmp_ne (tgt := 483) hx hb dX12_goesOn_430 (by decide) (fun c560 => ?_) (fun c560 => ?_)
    · have c560 : ¬ z1 = 3 := mt (i_eq (rb rz1 (by decide) (by decide)) ⟨by decide, by decide⟩).mpr c560
      refine lv_aload_n hx hb dX12_goesOn_483 rfl (lv_at hl 0 rfl) ?_
      refine lv_iload_n hx hb dX12_goesOn_484 rfl (lv_at hl 2 rfl) ?_
      refine lv_iconst (v := iI 5) hx hb dX12_goesOn_485 (by decide +kernel) ?_
      have J496_562 : ∀ (z563 : Int) (H : Heap) (locs : List Loc) (ls : Array Slot), (41 ≤ z563 ∧ z563 ≤ 93) → ((z563 = 41 ∧ ¬ z1 = 5) ∨ (z563 = 93 ∧ z1 = 5)) → va_P (dC, dI) vwCl (WM cI cJ cZ q A558) H → va_S AS s.heap H locs → lv_has ls 5 [(0, .ref (q 0)), (1, .int (iI ((A 0 53) - 1))), (2, .int (iI z1))] → W p l e (headSpec ws_mb_X12_goesOn ({ frames := 2, cells := 0, slots := 0, locals := 47 } : Room)).room s m [.ref (q 0)].toArray below meth c H locs 0 0 Q (F0 m 496 ls [.int (iI z563), .ref (q 0)]) := by
        intro z563 H locs ls f565 f566 hP hS hl
        have e_A558_3 : A558 0 3 = (A 0 3) := (hj557.2 3 rfl)
        have e_A558_6 : A558 0 6 = (A 0 6) := (hj557.2 6 rfl)
        have r_A_0_6 : (-2147483648 : Int) ≤ (A 0 6) ∧ (A 0 6) ≤ 2147483647 := by rw [← e_A558_6]; exact hI 0 6
        refine x_calli (As := [.int (iI z563)]) (rest := []) ⟨hx, hb, hml, hown, hts⟩ (mb_X12_isSign l dC dI cB cI cJ cZ cQ q _ z563 hI (rb f565 (by decide) (by decide))) (cwV 1 hts (goodV (wl_in_0 _ (List.mem_of_getElem? (i := 37) rfl)) (wl_in_0 _ (List.mem_of_getElem? (i := 38) rfl)) (wl_in_0 _ (List.mem_of_getElem? (i := 39) rfl)) (wl_in_0 _ (List.mem_of_getElem? (i := 8) rfl)) (wl_in_0 _ (List.mem_of_getElem? (i := 34) rfl))) rfl rfl rfl (by decide +kernel) ⟨Nat.le_of_ble_eq_true rfl, Nat.le_of_ble_eq_true rfl⟩) hK hDD hA0 hP hS 0 12 wm0 rfl rfl hl.1 (Nat.le_of_ble_eq_true rfl) dX12_goesOn_496 (fun z567 A568 H locs hw569 hP hS => ?_)
        obtain ⟨rfl, hw569⟩ := hw569
        have rz567 : 0 ≤ z567 ∧ z567 ≤ 1 := hw569.1
        replace hw569 := Hd.mk hw569.2
        refine lv_if_ne (tgt := 511) hx hb dX12_goesOn_499 (by decide) (fun c570 => ?_) (fun c570 => ?_)
        · have c570 : ¬ z567 = 0 := mt (i_eq0 (rb rz567 (by decide) (by decide))).mpr c570
          have hw569b := hw569.out.mp (by omega)
          have r_A558_0_8 : (0 : Int) ≤ (A558 0 8) ∧ (A558 0 8) ≤ 5 := hI 0 8
          exact mb_X12_goesOn_c511 l dC dI cB cI cJ cZ cQ q A hI0 hp0 hp1 hp2 hp3 hp4 hcCI p e s m below meth c Q AS hx hb hml hown hts hK hDD hA0 RET _ _ _ z1 (by omega) hz1 _ hI (fr.trans (fr.rf) hj557 rfl rfl) (by exact Hd.mk (by  omega)) hP hS (lv_sub hl [0, 1, 2] rfl)
        · have c570 : z567 = 0 := (i_eq0 (rb rz567 (by decide) (by decide))).mp c570
          refine lv_aload_n hx hb dX12_goesOn_502 rfl (lv_at hl 0 rfl) ?_
          refine lv_iconst (v := iI 1) hx hb dX12_goesOn_503 (by decide +kernel) ?_
          refine lv_aload_n hx hb dX12_goesOn_504 rfl (lv_at hl 0 rfl) ?_
          have e_A558_4 : A558 0 4 = (A 0 4) := (hj557.2 4 rfl)
          refine va_get (D := (dC, dI)) (ci := 12) (v := .int (iI (A558 0 4))) (C := RX12) (T := TX12) (N := 85) hx hb hts hiX12 hown hK hP 0 wm0 rfl 4 (by decide) (hts _ (List.mem_cons_of_mem _ (wl_in_0 _ (List.mem_of_getElem? (i := 23) rfl)))) (fun _ h9 => h9) rfl dX12_goesOn_505 ?_
          refine tp_i (y := iI (A 0 4)) (congrArg iI e_A558_4) ?_
          refine x_callv (As := [.int (iI 1), .int (iI (A 0 4))]) (rest := []) ⟨hx, hb, hml, hown, hts⟩ (mc_X12_blame l dC dI cB cI cJ cZ cQ q _ 1 (A 0 4) hI ⟨by decide, by decide⟩ r_A_0_4) (cwV 2 hts (goodV (wl_in_0 _ (List.mem_of_getElem? (i := 31) rfl)) (wl_in_0 _ (List.mem_of_getElem? (i := 32) rfl)) (wl_in_0 _ (List.mem_of_getElem? (i := 33) rfl)) (wl_in_0 _ (List.mem_of_getElem? (i := 8) rfl)) (wl_in_0 _ (List.mem_of_getElem? (i := 15) rfl))) rfl rfl rfl (by decide +kernel) ⟨Nat.le_of_ble_eq_true rfl, Nat.le_of_ble_eq_true rfl⟩) hK hDD hA0 hP hS 0 12 wm0 rfl rfl hl.1 (Nat.le_of_ble_eq_true rfl) dX12_goesOn_508 (fun A572 H locs hw573 hP hS => ?_)
          obtain ⟨hI, hf574, hw573⟩ := hw573
          have r_A572_0_8 : (0 : Int) ≤ (A572 0 8) ∧ (A572 0 8) ≤ 5 := hI 0 8
          have e_A572_3 : A572 0 3 = (A 0 3) := (hf574.2 3 rfl).trans e_A558_3
          exact mb_X12_goesOn_c511 l dC dI cB cI cJ cZ cQ q A hI0 hp0 hp1 hp2 hp3 hp4 hcCI p e s m below meth c Q AS hx hb hml hown hts hK hDD hA0 RET _ _ _ z1 (by omega) hz1 _ hI (fr.trans (fr.trans (fr.rf) hj557 rfl rfl) hf574 rfl rfl) (by exact Hd.mk (by  omega)) hP hS (lv_sub hl [0, 1, 2] rfl)
      refine lv_icmp_ne (tgt := 494) hx hb dX12_goesOn_486 (by decide) (fun c561 => ?_) (fun c561 => ?_)
      · have c561 : ¬ z1 = 5 := mt (i_eq (rb rz1 (by decide) (by decide)) ⟨by decide, by decide⟩).mpr c561
        refine lv_bipush (v := iI 41) hx hb dX12_goesOn_494 (by decide +kernel) ?_
        exact J496_562 41 _ _ _ (by omega) (by omega) hP hS (lv_sub hl [0, 1, 2] rfl)
      · have c561 : z1 = 5 := (i_eq (rb rz1 (by decide) (by decide)) ⟨by decide, by decide⟩).mp c561
        refine lv_bipush (v := iI 93) hx hb dX12_goesOn_489 (by decide +kernel) ?_
        refine lv_goto (tgt := 496) hx hb dX12_goesOn_491 (by decide) ?_
        exact J496_562 93 _ _ _ (by omega) (by omega) hP hS (lv_sub hl [0, 1, 2] rfl)
    · have c560 : z1 = 3 := (i_eq (rb rz1 (by decide) (by decide)) ⟨by decide, by decide⟩).mp c560
      refine lv_aload_n hx hb dX12_goesOn_433 rfl (lv_at hl 0 rfl) ?_
      refine lv_bipush (v := iI 44) hx hb dX12_goesOn_434 (by decide +kernel) ?_
      have e_A558_3 : A558 0 3 = (A 0 3) := (hj557.2 3 rfl)
      have e_A558_6 : A558 0 6 = (A 0 6) := (hj557.2 6 rfl)
      have r_A_0_6 : (-2147483648 : Int) ≤ (A 0 6) ∧ (A 0 6) ≤ 2147483647 := by rw [← e_A558_6]; exact hI 0 6
      refine x_calli (As := [.int (iI 44)]) (rest := []) ⟨hx, hb, hml, hown, hts⟩ (mb_X12_isSign l dC dI cB cI cJ cZ cQ q _ 44 hI ⟨by decide, by decide⟩) (cwV 1 hts (goodV (wl_in_0 _ (List.mem_of_getElem? (i := 37) rfl)) (wl_in_0 _ (List.mem_of_getElem? (i := 38) rfl)) (wl_in_0 _ (List.mem_of_getElem? (i := 39) rfl)) (wl_in_0 _ (List.mem_of_getElem? (i := 8) rfl)) (wl_in_0 _ (List.mem_of_getElem? (i := 34) rfl))) rfl rfl rfl (by decide +kernel) ⟨Nat.le_of_ble_eq_true rfl, Nat.le_of_ble_eq_true rfl⟩) hK hDD hA0 hP hS 0 12 wm0 rfl rfl hl.1 (Nat.le_of_ble_eq_true rfl) dX12_goesOn_436 (fun z703 A704 H locs hw705 hP hS => ?_)
      obtain ⟨rfl, hw705⟩ := hw705
      have rz703 : 0 ≤ z703 ∧ z703 ≤ 1 := hw705.1
      replace hw705 := Hd.mk hw705.2
      have J451_707 : ∀ (A712 : St) (H : Heap) (locs : List Loc) (ls : Array Slot), (Hd ((A712 0 8) = 0 → (A712 0 3) = 3)) → IM A712 → fr [] [8, 9] A558 A712 → va_P (dC, dI) vwCl (WM cI cJ cZ q A712) H → va_S AS s.heap H locs → lv_has ls 5 [(0, .ref (q 0)), (1, .int (iI ((A 0 53) - 1))), (2, .int (iI z1))] → W p l e (headSpec ws_mb_X12_goesOn ({ frames := 2, cells := 0, slots := 0, locals := 47 } : Room)).room s m [.ref (q 0)].toArray below meth c H locs 0 0 Q (F0 m 451 ls []) := by
        intro A712 H locs ls f713 hI hj711 hP hS hl
        refine lv_aload_n hx hb dX12_goesOn_451 rfl (lv_at hl 0 rfl) ?_
        refine va_get (D := (dC, dI)) (ci := 12) (v := .int (iI (A712 0 8))) (C := RX12) (T := TX12) (N := 85) hx hb hts hiX12 hown hK hP 0 wm0 rfl 8 (by decide) (hts _ (List.mem_cons_of_mem _ (wl_in_0 _ (List.mem_of_getElem? (i := 16) rfl)))) (fun _ h9 => h9) rfl dX12_goesOn_452 ?_
        have r_A712_0_8 : (0 : Int) ≤ (A712 0 8) ∧ (A712 0 8) ≤ 5 := hI 0 8
        refine lv_if_le (tgt := 460) hx hb dX12_goesOn_455 (by decide) (fun c714 => ?_) (fun c714 => ?_)
        · have c714 : (A712 0 8) ≤ 0 := (i_le0 (rb r_A712_0_8 (by decide) (by decide))).mp c714
          refine lv_aload_n hx hb dX12_goesOn_460 rfl (lv_at hl 0 rfl) ?_
          refine lv_iconst (v := iI 1) hx hb dX12_goesOn_461 (by decide +kernel) ?_
          refine x_callv (As := [.int (iI 1)]) (rest := []) ⟨hx, hb, hml, hown, hts⟩ (mb_X12_joins l dC dI cB cI cJ cZ cQ q _ 1 hI ⟨by decide, by decide⟩ (by exact (RI1.fr (RI1.fr hp0 hj557 rfl rfl) hj711 rfl rfl)) (CI.fr (CI.fr hcCI hj557 rfl rfl) hj711 rfl rfl) (SP.fr (SP.fr hp4 hj557 rfl rfl) hj711 rfl rfl)) (cwV 1 hts (goodV (wl_in_2 _ (List.mem_of_getElem? (i := 10) rfl)) (wl_in_2 _ (List.mem_of_getElem? (i := 11) rfl)) (wl_in_2 _ (List.mem_of_getElem? (i := 12) rfl)) (wl_in_0 _ (List.mem_of_getElem? (i := 8) rfl)) (wl_in_1 _ (List.mem_of_getElem? (i := 34) rfl))) rfl rfl rfl (by decide +kernel) ⟨Nat.le_of_ble_eq_true rfl, Nat.le_of_ble_eq_true rfl⟩) hK hDD hA0 hP hS 0 12 wm0 rfl rfl hl.1 (Nat.le_of_ble_eq_true rfl) dX12_goesOn_462 (fun A715 H locs hw716 hP hS => ?_)
          obtain ⟨hI, hf717, hw716⟩ := hw716
          obtain ⟨hc718, hw716⟩ := hw716
          obtain ⟨hc719, hw716⟩ := hw716
          have e_A558_53 : A558 0 53 = (A 0 53) := (hj557.2 53 rfl)
          have e_A712_53 : A712 0 53 = (A 0 53) := (hj711.2 53 rfl).trans e_A558_53
          have e_A715_53 : A715 0 53 = (A 0 53) := (hf717.2 53 rfl).trans e_A712_53
          have r_A715_0_56 : (0 : Int) ≤ (A715 0 56) ∧ (A715 0 56) ≤ 500 := hI 0 56
          have hj1 := hw716.1
          have hj2 := Hd.mk hw716.2
          clear hw716
          have hIj := hI
          have hrj := RI.room hj1 hIj
          have e_A712_3 : A712 0 3 = (A 0 3) := (hj711.2 3 rfl).trans e_A558_3
          have e_A715_3 : A715 0 3 = (A 0 3) := (hf717.2 3 rfl).trans e_A712_3
          have e_A558_4 : A558 0 4 = (A 0 4) := (hj557.2 4 rfl)
          have e_A712_4 : A712 0 4 = (A 0 4) := (hj711.2 4 rfl).trans e_A558_4
          have e_A715_4 : A715 0 4 = (A 0 4) := (hf717.2 4 rfl).trans e_A712_4
          have e_A558_5 : A558 0 5 = (A 0 5) := (hj557.2 5 rfl)
          have e_A712_5 : A712 0 5 = (A 0 5) := (hj711.2 5 rfl).trans e_A558_5
          have e_A715_5 : A715 0 5 = (A 0 5) := (hf717.2 5 rfl).trans e_A712_5
          have e_A558_7 : A558 0 7 = (A 0 7) := (hj557.2 7 rfl)
          have e_A712_7 : A712 0 7 = (A 0 7) := (hj711.2 7 rfl).trans e_A558_7
          have e_A715_7 : A715 0 7 = (A 0 7) := (hf717.2 7 rfl).trans e_A712_7
          have e_A715_8 : A715 0 8 = (A712 0 8) := (hf717.2 8 rfl)
          have e_A558_47 : A558 0 47 = (A 0 47) := (hj557.2 47 rfl)
          have e_A712_47 : A712 0 47 = (A 0 47) := (hj711.2 47 rfl).trans e_A558_47
          have e_A715_47 : A715 0 47 = (A 0 47) := (hf717.2 47 rfl).trans e_A712_47
          have e_A558_54 : A558 0 54 = (A 0 54) := (hj557.2 54 rfl)
          have e_A712_54 : A712 0 54 = (A 0 54) := (hj711.2 54 rfl).trans e_A558_54
          have e_A715_54 : A715 0 54 = (A 0 54) := (hf717.2 54 rfl).trans e_A712_54
          have r_A715_0_46 : (0 : Int) ≤ (A715 0 46) ∧ (A715 0 46) ≤ 1600 := hI 0 46
          refine lv_aload_n hx hb dX12_goesOn_465 rfl (lv_at hl 0 rfl) ?_
          refine va_get (D := (dC, dI)) (ci := 12) (v := .ref (q 35)) (C := RX12) (T := TX12) (N := 85) hx hb hts hiX12 hown hK hP 0 wm0 rfl 48 (by decide) (hts _ (List.mem_cons_of_mem _ (wl_in_1 _ (List.mem_of_getElem? (i := 46) rfl)))) (fun _ h9 => h9) rfl dX12_goesOn_466 ?_
          refine lv_iload_n hx hb dX12_goesOn_469 rfl (lv_at hl 1 rfl) ?_
          refine lv_iconst (v := iI 4) hx hb dX12_goesOn_470 (by decide +kernel) ?_
          refine x_iast hx hb hK hP hDD hS 35 1 wm35 rfl (by omega) (by decide) dX12_goesOn_471 ws35 (fun H locs hP hS => ?_)
          have hI := hI.st (j := 35) (i := ((A 0 53) - 1).toNat) (v := 4) (show (0 : Int) ≤ 4 ∧ 4 ≤ 5 from (by omega))
          refine lv_aload_n hx hb dX12_goesOn_472 rfl (lv_at hl 0 rfl) ?_
          obtain ⟨A720, hA720⟩ : ∃ A720 : St, A720 = (stA A715 35 ((A 0 53) - 1).toNat 4) := ⟨_, rfl⟩
          rw [← hA720] at hP hI
          have e_A720_4 : A720 0 4 = (A 0 4) := by rw [hA720]; exact e_A715_4
          have e_A720_5 : A720 0 5 = (A 0 5) := by rw [hA720]; exact e_A715_5
          have e_A720_8 : A720 0 8 = (A712 0 8) := by rw [hA720]; exact e_A715_8
          refine x_callv (As := []) (rest := []) ⟨hx, hb, hml, hown, hts⟩ (mb_X12_ahead l dC dI cB cI cJ cZ cQ q _ hI) (cwV 0 hts (goodV (wl_in_0 _ (List.mem_of_getElem? (i := 40) rfl)) (wl_in_0 _ (List.mem_of_getElem? (i := 41) rfl)) (wl_in_0 _ (List.mem_of_getElem? (i := 42) rfl)) (wl_in_0 _ (List.mem_of_getElem? (i := 8) rfl)) (wl_in_0 _ (List.mem_of_getElem? (i := 20) rfl))) rfl rfl rfl (by decide +kernel) ⟨Nat.le_of_ble_eq_true rfl, Nat.le_of_ble_eq_true rfl⟩) hK hDD hA0 hP hS 0 12 wm0 rfl rfl hl.1 (Nat.le_of_ble_eq_true rfl) dX12_goesOn_473 (fun A721 H locs hw722 hP hS => ?_)
          obtain ⟨hI, hf723, hw722⟩ := hw722
          have r_A721_0_3 : (0 : Int) ≤ (A721 0 3) ∧ (A721 0 3) ≤ 3 := hI 0 3
          have r_A721_0_4 : (0 : Int) ≤ (A721 0 4) ∧ (A721 0 4) ≤ 1600 := hI 0 4
          have r_A721_0_5 : (0 : Int) ≤ (A721 0 5) ∧ (A721 0 5) ≤ 1600 := hI 0 5
          have r_A721_0_8 : (0 : Int) ≤ (A721 0 8) ∧ (A721 0 8) ≤ 5 := hI 0 8
          have hw722x := hw722.1
          have hw722y := hw722.2.1
          replace hw722 := Hd.mk hw722
          refine lv_aload_n hx hb dX12_goesOn_476 rfl (lv_at hl 0 rfl) ?_
          refine lv_iconst (v := iI 0) hx hb dX12_goesOn_477 (by decide +kernel) ?_
          refine x_put (D := (dC, dI)) (ci := 12) (v := .int (iI 0)) (ty := .boolean) (C := RX12) (T := TX12) (N := 85) hx hb hts hiX12 tyX12 tyX12_ok nmX12 hown hK hP hDD hS 0 wm0 rfl 57 (by decide) (hts _ (List.mem_cons_of_mem _ (wl_in_2 _ (List.mem_of_getElem? (i := 9) rfl)))) (fun _ h9 => h9) rfl (by decide +kernel) (by decide +kernel) rfl (Nat.le_of_ble_eq_true rfl) dX12_goesOn_478 (wf57 (v := 0)) (fun H locs hP hS => ?_)
          have hI := hI.st (j := 0) (i := 57) (v := 0) (show (0 : Int) ≤ 0 ∧ 0 ≤ 1 from (by omega))
          refine lv_iconst (v := iI 1) hx hb dX12_goesOn_481 (by decide +kernel) ?_
          obtain ⟨A724, hA724⟩ : ∃ A724 : St, A724 = (stA A721 0 57 0) := ⟨_, rfl⟩
          rw [← hA724] at hP hI
          have e_A724_4 : A724 0 4 = (A721 0 4) := by rw [hA724]; exact rfl
          have e_A724_5 : A724 0 5 = (A721 0 5) := by rw [hA724]; exact rfl
          have e_A724_8 : A724 0 8 = (A721 0 8) := by rw [hA724]; exact rfl
          have e_A720_46 : A720 0 46 = (A715 0 46) := by rw [hA720]; exact rfl
          have e_A721_46 : A721 0 46 = (A715 0 46) := (hf723.2 46 rfl).trans e_A720_46
          have e_A724_46 : A724 0 46 = (A715 0 46) := by rw [hA724]; exact e_A721_46
          have e_A720_47 : A720 0 47 = (A 0 47) := by rw [hA720]; exact e_A715_47
          have e_A721_47 : A721 0 47 = (A 0 47) := (hf723.2 47 rfl).trans e_A720_47
          have e_A724_47 : A724 0 47 = (A 0 47) := by rw [hA724]; exact e_A721_47
          have e_A724_57 : A724 0 57 = 0 := by rw [hA724]; rfl
          have ca725 : A558 35 = A 35 := (hj557.1 35 (by decide) rfl)
          have ca726 : A712 35 = A 35 := (hj711.1 35 (by decide) rfl).trans ca725
          have ca727 : A715 35 = A 35 := (hf717.1 35 (by decide) rfl).trans ca726
          have ca728 : A724 1 = A721 1 := by rw [hA724]; exact rfl
          have e_A724_3 : A724 0 3 = (A721 0 3) := by rw [hA724]; exact rfl
          have e_A724_7 : A724 0 7 = (A721 0 7) := by rw [hA724]; exact rfl
          have gs := f713.out (by omega)
          have hlt := RI.lt hp0 (by omega)
          have e35 : A720 35 = up (A715 35) (A715 0 53 - 1).toNat 4 := by rw [hA720]; show up (A715 35) _ _ = _; rw [e_A715_53]
          have ca729 : A721 35 = A720 35 := (hf723.1 35 (by decide) rfl)
          have ca730 : A724 35 = A720 35 := by rw [hA724]; exact ca729
          have ca731 : A720 29 = A715 29 := by rw [hA720]; exact rfl
          have ca732 : A721 29 = A715 29 := (hf723.1 29 (by decide) rfl).trans ca731
          have ca733 : A724 29 = A715 29 := by rw [hA724]; exact ca732
          have ca734 : A720 31 = A715 31 := by rw [hA720]; exact rfl
          have ca735 : A721 31 = A715 31 := (hf723.1 31 (by decide) rfl).trans ca734
          have ca736 : A724 31 = A715 31 := by rw [hA724]; exact ca735
          have ca737 : A720 33 = A715 33 := by rw [hA720]; exact rfl
          have ca738 : A721 33 = A715 33 := (hf723.1 33 (by decide) rfl).trans ca737
          have ca739 : A724 33 = A715 33 := by rw [hA724]; exact ca738
          have ca740 : A720 37 = A715 37 := by rw [hA720]; exact rfl
          have ca741 : A721 37 = A715 37 := (hf723.1 37 (by decide) rfl).trans ca740
          have ca742 : A724 37 = A715 37 := by rw [hA724]; exact ca741
          have ca743 : A720 39 = A715 39 := by rw [hA720]; exact rfl
          have ca744 : A721 39 = A715 39 := (hf723.1 39 (by decide) rfl).trans ca743
          have ca745 : A724 39 = A715 39 := by rw [hA724]; exact ca744
          have ca746 : A720 40 = A715 40 := by rw [hA720]; exact rfl
          have ca747 : A721 40 = A715 40 := (hf723.1 40 (by decide) rfl).trans ca746
          have ca748 : A724 40 = A715 40 := by rw [hA724]; exact ca747
          have e_A720_53 : A720 0 53 = (A 0 53) := by rw [hA720]; exact e_A715_53
          have e_A721_53 : A721 0 53 = (A 0 53) := (hf723.2 53 rfl).trans e_A720_53
          have e_A724_53 : A724 0 53 = (A 0 53) := by rw [hA724]; exact e_A721_53
          have e_A720_54 : A720 0 54 = (A 0 54) := by rw [hA720]; exact e_A715_54
          have e_A721_54 : A721 0 54 = (A 0 54) := (hf723.2 54 rfl).trans e_A720_54
          have e_A724_54 : A724 0 54 = (A 0 54) := by rw [hA724]; exact e_A721_54
          have e_A720_56 : A720 0 56 = (A715 0 56) := by rw [hA720]; exact rfl
          have e_A721_56 : A721 0 56 = (A715 0 56) := (hf723.2 56 rfl).trans e_A720_56
          have e_A724_56 : A724 0 56 = (A715 0 56) := by rw [hA724]; exact e_A721_56
          have ca749 : A720 38 = A715 38 := by rw [hA720]; exact rfl
          have ca750 : A721 38 = A715 38 := (hf723.1 38 (by decide) rfl).trans ca749
          have ca751 : A724 38 = A715 38 := by rw [hA724]; exact ca750
          exact RET 1 _ _ _ _ _ ⟨hI, fr_def hA724 (fr.sf (fr.trans (fr_def hA720 (fr.st (fr.trans (fr.trans (fr.trans (fr.rf) hj557 rfl rfl) hj711 rfl rfl) hf717 rfl rfl) (by decide) rfl)) hf723 rfl rfl) rfl), (CI.fr (CI.fr (CI.fr hc718 (fr_def hA720 (fr.st (fr.rf (M := [35]) (N := [])) (by decide) rfl)) rfl rfl) hf723 rfl rfl) (fr_def hA724 (fr.sf (fr.rf (M := []) (N := [57])) rfl)) rfl rfl), ⟨by decide, Hd.mk (fun h0 => ⟨fun _ => ⟨by rw [e_A724_57]; exact RI.comma hj1 hIj (by omega) (by rw [ca727, e_A715_53, ← hz1]; omega) ⟨ca733, ca736, ca739, (ca730.trans e35), ca742, ca745, ca748, e_A724_46, (e_A724_47.trans e_A715_47.symm), (e_A724_53.trans e_A715_53.symm), (e_A724_54.trans e_A715_54.symm), e_A724_56⟩ (by omega) (by omega) (LX.of ca728 e_A724_3 e_A724_4 e_A724_5 e_A724_7 hw722.out.2.2.1), ⟨PR.comma (PR.fr (PR.fr (PR.fr hp2 hj557 rfl rfl) hj711 rfl rfl) hf717 rfl rfl) (by rw [ca727, e_A715_53, ← hz1]; omega) (ca730.trans e35) (e_A724_53.trans e_A715_53.symm) ca751, (SP.fr (SP.fr (SP.fr hc719 (fr_def hA720 (fr.st (fr.rf (M := [35]) (N := [])) (by decide) rfl)) rfl rfl) hf723 rfl rfl) (fr_def hA724 (fr.sf (fr.rf (M := []) (N := [57])) rfl)) rfl rfl)⟩, by omega⟩, fun h => absurd h (by decide)⟩)⟩⟩ hP hS dX12_goesOn_482
        · have c714 : ¬ (A712 0 8) ≤ 0 := mt (i_le0 (rb r_A712_0_8 (by decide) (by decide))).mpr c714
          refine lv_iconst (v := iI 0) hx hb dX12_goesOn_458 (by decide +kernel) ?_
          have e_A558_4 : A558 0 4 = (A 0 4) := (hj557.2 4 rfl)
          have e_A712_4 : A712 0 4 = (A 0 4) := (hj711.2 4 rfl).trans e_A558_4
          have e_A558_5 : A558 0 5 = (A 0 5) := (hj557.2 5 rfl)
          have e_A712_5 : A712 0 5 = (A 0 5) := (hj711.2 5 rfl).trans e_A558_5
          have e_A558_46 : A558 0 46 = (A 0 46) := (hj557.2 46 rfl)
          have e_A712_46 : A712 0 46 = (A 0 46) := (hj711.2 46 rfl).trans e_A558_46
          have e_A558_47 : A558 0 47 = (A 0 47) := (hj557.2 47 rfl)
          have e_A712_47 : A712 0 47 = (A 0 47) := (hj711.2 47 rfl).trans e_A558_47
          have e_A558_57 : A558 0 57 = (A 0 57) := (hj557.2 57 rfl)
          have e_A712_57 : A712 0 57 = (A 0 57) := (hj711.2 57 rfl).trans e_A558_57
          have r_A_0_57 : (0 : Int) ≤ (A 0 57) ∧ (A 0 57) ≤ 1 := by rw [← e_A712_57]; exact hI 0 57
          exact RET 0 _ _ _ _ _ ⟨hI, fr.trans (fr.trans (fr.rf) hj557 rfl rfl) hj711 rfl rfl, (CI.fr (CI.fr hcCI hj557 rfl rfl) hj711 rfl rfl), ⟨by decide, Hd.mk (fun h => absurd h (by omega))⟩⟩ hP hS dX12_goesOn_459
      refine lv_if_ne (tgt := 451) hx hb dX12_goesOn_439 (by decide) (fun c706 => ?_) (fun c706 => ?_)
      · have c706 : ¬ z703 = 0 := mt (i_eq0 (rb rz703 (by decide) (by decide))).mpr c706
        have hw705b := hw705.out.mp (by omega)
        have r_A558_0_8 : (0 : Int) ≤ (A558 0 8) ∧ (A558 0 8) ≤ 5 := hI 0 8
        exact J451_707 _ _ _ _ (by exact Hd.mk (by  omega)) hI (fr.rf) hP hS (lv_sub hl [0, 1, 2] rfl)
      · have c706 : z703 = 0 := (i_eq0 (rb rz703 (by decide) (by decide))).mp c706
        refine lv_aload_n hx hb dX12_goesOn_442 rfl (lv_at hl 0 rfl) ?_
        refine lv_iconst (v := iI 1) hx hb dX12_goesOn_443 (by decide +kernel) ?_
        refine lv_aload_n hx hb dX12_goesOn_444 rfl (lv_at hl 0 rfl) ?_
        have e_A558_4 : A558 0 4 = (A 0 4) := (hj557.2 4 rfl)
        refine va_get (D := (dC, dI)) (ci := 12) (v := .int (iI (A558 0 4))) (C := RX12) (T := TX12) (N := 85) hx hb hts hiX12 hown hK hP 0 wm0 rfl 4 (by decide) (hts _ (List.mem_cons_of_mem _ (wl_in_0 _ (List.mem_of_getElem? (i := 23) rfl)))) (fun _ h9 => h9) rfl dX12_goesOn_445 ?_
        refine tp_i (y := iI (A 0 4)) (congrArg iI e_A558_4) ?_
        refine x_callv (As := [.int (iI 1), .int (iI (A 0 4))]) (rest := []) ⟨hx, hb, hml, hown, hts⟩ (mc_X12_blame l dC dI cB cI cJ cZ cQ q _ 1 (A 0 4) hI ⟨by decide, by decide⟩ r_A_0_4) (cwV 2 hts (goodV (wl_in_0 _ (List.mem_of_getElem? (i := 31) rfl)) (wl_in_0 _ (List.mem_of_getElem? (i := 32) rfl)) (wl_in_0 _ (List.mem_of_getElem? (i := 33) rfl)) (wl_in_0 _ (List.mem_of_getElem? (i := 8) rfl)) (wl_in_0 _ (List.mem_of_getElem? (i := 15) rfl))) rfl rfl rfl (by decide +kernel) ⟨Nat.le_of_ble_eq_true rfl, Nat.le_of_ble_eq_true rfl⟩) hK hDD hA0 hP hS 0 12 wm0 rfl rfl hl.1 (Nat.le_of_ble_eq_true rfl) dX12_goesOn_448 (fun A708 H locs hw709 hP hS => ?_)
        obtain ⟨hI, hf710, hw709⟩ := hw709
        have r_A708_0_8 : (0 : Int) ≤ (A708 0 8) ∧ (A708 0 8) ≤ 5 := hI 0 8
        have e_A708_3 : A708 0 3 = (A 0 3) := (hf710.2 3 rfl).trans e_A558_3
        exact J451_707 _ _ _ _ (by exact Hd.mk (by  omega)) hI (fr.trans (fr.rf) hf710 rfl rfl) hP hS (lv_sub hl [0, 1, 2] rfl)
  · have c559 : ¬ 2 ≤ z1 := mt (i_le ⟨by decide, by decide⟩ (rb rz1 (by decide) (by decide))).mpr c559
    refine lv_aload_n hx hb dX12_goesOn_414 rfl (lv_at hl 0 rfl) ?_
    refine va_get (D := (dC, dI)) (ci := 12) (v := .int (iI (A558 0 8))) (C := RX12) (T := TX12) (N := 85) hx hb hts hiX12 hown hK hP 0 wm0 rfl 8 (by decide) (hts _ (List.mem_cons_of_mem _ (wl_in_0 _ (List.mem_of_getElem? (i := 16) rfl)))) (fun _ h9 => h9) rfl dX12_goesOn_415 ?_
    have r_A558_0_8 : (0 : Int) ≤ (A558 0 8) ∧ (A558 0 8) ≤ 5 := hI 0 8
    refine lv_if_ne (tgt := 426) hx hb dX12_goesOn_418 (by decide) (fun c752 => ?_) (fun c752 => ?_)
    · have c752 : ¬ (A558 0 8) = 0 := mt (i_eq0 (rb r_A558_0_8 (by decide) (by decide))).mpr c752
      refine lv_iconst (v := iI 0) hx hb dX12_goesOn_426 (by decide +kernel) ?_
      have e_A558_4 : A558 0 4 = (A 0 4) := (hj557.2 4 rfl)
      have e_A558_5 : A558 0 5 = (A 0 5) := (hj557.2 5 rfl)
      have e_A558_46 : A558 0 46 = (A 0 46) := (hj557.2 46 rfl)
      have e_A558_47 : A558 0 47 = (A 0 47) := (hj557.2 47 rfl)
      have e_A558_57 : A558 0 57 = (A 0 57) := (hj557.2 57 rfl)
      have r_A_0_57 : (0 : Int) ≤ (A 0 57) ∧ (A 0 57) ≤ 1 := by rw [← e_A558_57]; exact hI 0 57
      exact RET 0 _ _ _ _ _ ⟨hI, fr.trans (fr.rf) hj557 rfl rfl, (CI.fr hcCI hj557 rfl rfl), ⟨by decide, Hd.mk (fun h => absurd h (by omega))⟩⟩ hP hS dX12_goesOn_427
    · have c752 : (A558 0 8) = 0 := (i_eq0 (rb r_A558_0_8 (by decide) (by decide))).mp c752
      refine lv_aload_n hx hb dX12_goesOn_421 rfl (lv_at hl 0 rfl) ?_
      refine lv_iconst (v := iI 1) hx hb dX12_goesOn_422 (by decide +kernel) ?_
      refine x_callv (As := [.int (iI 1)]) (rest := []) ⟨hx, hb, hml, hown, hts⟩ (mb_X12_joins l dC dI cB cI cJ cZ cQ q _ 1 hI ⟨by decide, by decide⟩ (by exact (RI1.fr hp0 hj557 rfl rfl)) (CI.fr hcCI hj557 rfl rfl) (SP.fr hp4 hj557 rfl rfl)) (cwV 1 hts (goodV (wl_in_2 _ (List.mem_of_getElem? (i := 10) rfl)) (wl_in_2 _ (List.mem_of_getElem? (i := 11) rfl)) (wl_in_2 _ (List.mem_of_getElem? (i := 12) rfl)) (wl_in_0 _ (List.mem_of_getElem? (i := 8) rfl)) (wl_in_1 _ (List.mem_of_getElem? (i := 34) rfl))) rfl rfl rfl (by decide +kernel) ⟨Nat.le_of_ble_eq_true rfl, Nat.le_of_ble_eq_true rfl⟩) hK hDD hA0 hP hS 0 12 wm0 rfl rfl hl.1 (Nat.le_of_ble_eq_true rfl) dX12_goesOn_423 (fun A753 H locs hw754 hP hS => ?_)
      obtain ⟨hI, hf755, hw754⟩ := hw754
      obtain ⟨hc756, hw754⟩ := hw754
      obtain ⟨hc757, hw754⟩ := hw754
      have e_A558_53 : A558 0 53 = (A 0 53) := (hj557.2 53 rfl)
      have e_A753_53 : A753 0 53 = (A 0 53) := (hf755.2 53 rfl).trans e_A558_53
      have r_A753_0_56 : (0 : Int) ≤ (A753 0 56) ∧ (A753 0 56) ≤ 500 := hI 0 56
      have hj1 := hw754.1
      have hj2 := Hd.mk hw754.2
      clear hw754
      have hIj := hI
      have hrj := RI.room hj1 hIj
      have e_A558_3 : A558 0 3 = (A 0 3) := (hj557.2 3 rfl)
      have e_A753_3 : A753 0 3 = (A 0 3) := (hf755.2 3 rfl).trans e_A558_3
      have e_A558_4 : A558 0 4 = (A 0 4) := (hj557.2 4 rfl)
      have e_A753_4 : A753 0 4 = (A 0 4) := (hf755.2 4 rfl).trans e_A558_4
      have e_A558_5 : A558 0 5 = (A 0 5) := (hj557.2 5 rfl)
      have e_A753_5 : A753 0 5 = (A 0 5) := (hf755.2 5 rfl).trans e_A558_5
      have e_A558_7 : A558 0 7 = (A 0 7) := (hj557.2 7 rfl)
      have e_A753_7 : A753 0 7 = (A 0 7) := (hf755.2 7 rfl).trans e_A558_7
      have e_A753_8 : A753 0 8 = (A558 0 8) := (hf755.2 8 rfl)
      have e_A558_47 : A558 0 47 = (A 0 47) := (hj557.2 47 rfl)
      have e_A753_47 : A753 0 47 = (A 0 47) := (hf755.2 47 rfl).trans e_A558_47
      have e_A558_54 : A558 0 54 = (A 0 54) := (hj557.2 54 rfl)
      have e_A753_54 : A753 0 54 = (A 0 54) := (hf755.2 54 rfl).trans e_A558_54
      have r_A753_0_46 : (0 : Int) ≤ (A753 0 46) ∧ (A753 0 46) ≤ 1600 := hI 0 46
      refine lv_iconst (v := iI 0) hx hb dX12_goesOn_426 (by decide +kernel) ?_
      have e_A558_57 : A558 0 57 = (A 0 57) := (hj557.2 57 rfl)
      have e_A753_57 : A753 0 57 = (A 0 57) := (hf755.2 57 rfl).trans e_A558_57
      have r_A_0_57 : (0 : Int) ≤ (A 0 57) ∧ (A 0 57) ≤ 1 := by rw [← e_A753_57]; exact hI 0 57
      have ca758 : A558 35 = A 35 := (hj557.1 35 (by decide) rfl)
      have ca759 : A753 35 = A 35 := (hf755.1 35 (by decide) rfl).trans ca758
      exact RET 0 _ _ _ _ _ ⟨hI, fr.trans (fr.trans (fr.rf) hj557 rfl rfl) hf755 rfl rfl, hc756, ⟨by decide, Hd.mk (fun h0 => ⟨fun h => absurd h (by decide), fun _ => ⟨RI.done hj1 hIj (by rw [ca759, e_A753_53, ← hz1]; omega) (RI.full hj2.out), RI.cb hj1 hIj, by omega⟩⟩)⟩⟩ hP hS dX12_goesOn_427
