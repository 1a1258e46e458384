set_option maxHeartbeats 4000000 in
set_option maxRecDepth 100000 in
theorem mb_X12_goesOn_c409 (l : Launch) (dC : Nat → ClassId) (dI : Nat → Nat → Nat) (cB cI cJ cZ cQ : ClassId) (q : Nat → Nat) (A : St) (hI : IM A) (hp0 : RI 1 A) (hp1 : A 0 8 = 0) (hp2 : PR A) (hp3 : A 0 57 = 1) (hp4 : SP A) (hcCI : CI A) (p : Program) (e : Env) (s : State) (m : MethodId) (below : List Frame) (meth : Method) (c : Code) (Q : State → Prop) (AS : Nat → Prop) (hx : p.tables.exec = Jvm.exec) (hb : c.code = cX12_goesOn) (hml : c.maxLocals = 5) (hown : s.vm.findClass RX12 = some m.cls) (hts : ∀ w ∈ ws_mb_X12_goesOn, w.before [.ref (q 0)].toArray s = true) (hK : va_K (dC, dI) vwCl (tyA cB cI cJ cZ cQ) s) (hDD : ∀ A', va_D AS (WM cI cJ cZ q A')) (hA0 : ∀ b : Nat, s.heap.size ≤ b → AS b) (RET : ∀ (z : Int) (u : St) (H : Heap) (locs : List Loc) (pc : Nat) (ls : Array Slot), ((fun z u => r_X12_goesOn A z u ∧ IM u ∧ fr [33, 34, 35, 36, 37, 40] [3, 4, 5, 6, 7, 8, 9, 46, 53, 54, 56, 57] A u ∧ CI u ∧ ((0 ≤ z ∧ z ≤ 1) ∧ (Hd (u 0 8 = 0 → (z = 1 → RI (u 0 57) u ∧ (PR u ∧ SP u) ∧ A 0 4 + 1 ≤ u 0 4) ∧ (z = 0 → DP (u 33) (sA u) (1600 * u 0 47 + u 0 46) 1 ∧ CB u ∧ A 0 4 ≤ u 0 4))))) z u) → va_P (dC, dI) vwCl (WM cI cJ cZ q u) H → va_S AS s.heap H locs → decode cX12_goesOn pc = .ok (.ireturn, 1) → W p l e (headSpec ws_mb_X12_goesOn ({ frames := 2, cells := 0, slots := 0, locals := 47 } : Room)).room s m [.ref (q 0)].toArray below meth c H locs 0 0 Q (F0 m pc ls [.int (iI z)])) (H : Heap) (locs : List Loc) (ls : Array Slot) (z1 : Int) (rz1 : (0 : Int) ≤ z1 ∧ z1 ≤ 5) (hz1 : z1 = A 35 ((A 0 53) - 1).toNat) (A558 : St) (hIv : IM A558) (hj557 : fr [] [8, 9] A A558) (hk8 : ∀ (z : Int) (u : St), (d_X12_goesOn_8 A z u z1 A558) → r_X12_goesOn A z u) (hP : va_P (dC, dI) vwCl (WM cI cJ cZ q A558) H) (hS : va_S AS s.heap H locs) (hl : lv_has ls 5 [(0, .ref (q 0)), (1, .int (iI ((A 0 53) - 1))), (2, .int (iI z1))]) : W p l e (headSpec ws_mb_X12_goesOn ({ frames := 2, cells := 0, slots := 0, locals := 47 } : Room)).room s m [.ref (q 0)].toArray below meth c H locs 0 0 Q (F0 m 409 ls []) := by
  have hiX12 : ∀ w ∈ u_ws RX12 TX12 85, w ∈ ws_mb_X12_goesOn := fun w h => List.mem_cons_of_mem _ (wx_lay w h)
  have hI0 := hI
  have hdp := RI.deep hp0 hI0
  have hrm := RI.room hp0 hI0
  have r_A_0_3 : (0 : Int) ≤ (A 0 3) ∧ (A 0 3) ≤ 3 := hI 0 3
  have r_A_0_4 : (0 : Int) ≤ (A 0 4) ∧ (A 0 4) ≤ 1600 := hI 0 4
  have r_A_0_5 : (0 : Int) ≤ (A 0 5) ∧ (A 0 5) ≤ 1600 := hI 0 5
  have r_A_0_7 : (-9223372036854775808 : Int) ≤ (A 0 7) ∧ (A 0 7) ≤ 9223372036854775807 := hI 0 7
  have r_A_0_8 : (0 : Int) ≤ (A 0 8) ∧ (A 0 8) ≤ 5 := hI 0 8
  have r_A_0_46 : (0 : Int) ≤ (A 0 46) ∧ (A 0 46) ≤ 1600 := hI 0 46
  have r_A_0_47 : (0 : Int) ≤ (A 0 47) ∧ (A 0 47) ≤ 1 := hI 0 47
  have r_A_0_53 : (0 : Int) ≤ (A 0 53) ∧ (A 0 53) ≤ 20 := hI 0 53
  have r_A_0_54 : (0 : Int) ≤ (A 0 54) ∧ (A 0 54) ≤ 8 := hI 0 54
  have r_A_0_56 : (0 : Int) ≤ (A 0 56) ∧ (A 0 56) ≤ 500 := hI 0 56
  have hop := hp0.1
  have hI := hIv
  refine lv_iload_n hx hb dX12_goesOn_409 rfl (lv_at hl 2 rfl) ?_
  refine lv_iconst (v := iI 2) hx hb dX12_goesOn_410 (by decide +kernel) ?_
  refine lv_icmp_ge (tgt := 428) hx hb dX12_goesOn_411 (by decide) (fun c559 => ?_) (fun c559 => ?_)
  · have c559 : 2 ≤ z1 := (i_le ⟨by decide, by decide⟩ (rb rz1 (by decide) (by decide))).mp c559
    refine lv_iload_n hx hb dX12_goesOn_428 rfl (lv_at hl 2 rfl) ?_
    refine lv_iconst (v := iI 3) hx hb dX12_goesOn_429 (by decide +kernel) ?_
    refine lv_icmp_ne (tgt := 483) hx hb dX12_goesOn_430 (by decide) (fun c560 => ?_) (fun c560 => ?_)
    · have c560 : ¬ z1 = 3 := mt (i_eq (rb rz1 (by decide) (by decide)) ⟨by decide, by decide⟩).mpr c560
      refine lv_aload_n hx hb dX12_goesOn_483 rfl (lv_at hl 0 rfl) ?_
      refine lv_iload_n hx hb dX12_goesOn_484 rfl (lv_at hl 2 rfl) ?_
      refine lv_iconst (v := iI 5) hx hb dX12_goesOn_485 (by decide +kernel) ?_
      have J496_562 : ∀ (z563 : Int) (H : Heap) (locs : List Loc) (ls : Array Slot), (41 ≤ z563 ∧ z563 ≤ 93) → ((z563 = 41 ∧ ¬ z1 = 5) ∨ (z563 = 93 ∧ z1 = 5)) → (∀ (z : Int) (u : St), (d_X12_goesOn_9 z1 A A558 z u z563) → r_X12_goesOn A z u) → va_P (dC, dI) vwCl (WM cI cJ cZ q A558) H → va_S AS s.heap H locs → lv_has ls 5 [(0, .ref (q 0)), (1, .int (iI ((A 0 53) - 1))), (2, .int (iI z1))] → W p l e (headSpec ws_mb_X12_goesOn ({ frames := 2, cells := 0, slots := 0, locals := 47 } : Room)).room s m [.ref (q 0)].toArray below meth c H locs 0 0 Q (F0 m 496 ls [.int (iI z563), .ref (q 0)]) := by
        intro z563 H locs ls f565 f566 hk9 hP hS hl
        have e_A558_3 : A558 0 3 = (A 0 3) := (hj557.2 3 rfl)
        have e_A558_6 : A558 0 6 = (A 0 6) := (hj557.2 6 rfl)
        have r_A_0_6 : (-2147483648 : Int) ≤ (A 0 6) ∧ (A 0 6) ≤ 2147483647 := by rw [← e_A558_6]; exact hI 0 6
        refine x_calli (As := [.int (iI z563)]) (rest := []) ⟨hx, hb, hml, hown, hts⟩ (mb_X12_isSign l dC dI cB cI cJ cZ cQ q _ z563 hI (rb f565 (by decide) (by decide))) (cwV 1 hts (goodV (wl_in_0 _ (List.mem_of_getElem? (i := 37) rfl)) (wl_in_0 _ (List.mem_of_getElem? (i := 38) rfl)) (wl_in_0 _ (List.mem_of_getElem? (i := 39) rfl)) (wl_in_0 _ (List.mem_of_getElem? (i := 8) rfl)) (wl_in_0 _ (List.mem_of_getElem? (i := 34) rfl))) rfl rfl rfl (by decide +kernel) ⟨Nat.le_of_ble_eq_true rfl, Nat.le_of_ble_eq_true rfl⟩) hK hDD hA0 hP hS 0 12 wm0 rfl rfl hl.1 (Nat.le_of_ble_eq_true rfl) dX12_goesOn_496 (fun z567 A568 H locs hw569 hP hS => ?_)
        obtain ⟨rfl, hw569⟩ := hw569
        have ghw569 : q_X12_isSign z563 A558 z567 := hw569
        have hw569 := hw569.2
        have rz567 : 0 ≤ z567 ∧ z567 ≤ 1 := hw569.1
        replace hw569 := Hd.mk hw569.2
        refine lv_if_ne (tgt := 511) hx hb dX12_goesOn_499 (by decide) (fun c570 => ?_) (fun c570 => ?_)
        · have c570 : ¬ z567 = 0 := mt (i_eq0 (rb rz567 (by decide) (by decide))).mpr c570
          have hw569b := hw569.out.mp (by omega)
          have r_A558_0_8 : (0 : Int) ≤ (A558 0 8) ∧ (A558 0 8) ≤ 5 := hI 0 8
          exact mb_X12_goesOn_c511 l dC dI cB cI cJ cZ cQ q A hI0 hp0 hp1 hp2 hp3 hp4 hcCI p e s m below meth c Q AS hx hb hml hown hts hK hDD hA0 RET _ _ _ z1 (by omega) hz1 _ hI (fr.trans (fr.rf) hj557 rfl rfl) (by exact Hd.mk (by  omega)) (fun zq uq hq => hk9 _ _ (u_d_X12_goesOn_9 ⟨f565, ⟨z567, ghw569, (Or.inl ⟨c570, hq⟩)⟩⟩)) hP hS (lv_sub hl [0, 1, 2] rfl)
        · have c570 : z567 = 0 := (i_eq0 (rb rz567 (by decide) (by decide))).mp c570
          refine lv_aload_n hx hb dX12_goesOn_502 rfl (lv_at hl 0 rfl) ?_
          refine lv_iconst (v := iI 1) hx hb dX12_goesOn_503 (by decide +kernel) ?_
          refine lv_aload_n hx hb dX12_goesOn_504 rfl (lv_at hl 0 rfl) ?_
          have e_A558_4 : A558 0 4 = (A 0 4) := (hj557.2 4 rfl)
          refine va_get (D := (dC, dI)) (ci := 12) (v := .int (iI (A558 0 4))) (C := RX12) (T := TX12) (N := 85) hx hb hts hiX12 hown hK hP 0 wm0 rfl 4 (by decide) (hts _ (List.mem_cons_of_mem _ (wl_in_0 _ (List.mem_of_getElem? (i := 23) rfl)))) (fun _ h9 => h9) rfl dX12_goesOn_505 ?_
          refine tp_i (y := iI (A 0 4)) (congrArg iI e_A558_4) ?_
          refine x_callv (As := [.int (iI 1), .int (iI (A 0 4))]) (rest := []) ⟨hx, hb, hml, hown, hts⟩ (mc_X12_blame l dC dI cB cI cJ cZ cQ q _ 1 (A 0 4) hI ⟨by decide, by decide⟩ r_A_0_4) (cwV 2 hts (goodV (wl_in_0 _ (List.mem_of_getElem? (i := 31) rfl)) (wl_in_0 _ (List.mem_of_getElem? (i := 32) rfl)) (wl_in_0 _ (List.mem_of_getElem? (i := 33) rfl)) (wl_in_0 _ (List.mem_of_getElem? (i := 8) rfl)) (wl_in_0 _ (List.mem_of_getElem? (i := 15) rfl))) rfl rfl rfl (by decide +kernel) ⟨Nat.le_of_ble_eq_true rfl, Nat.le_of_ble_eq_true rfl⟩) hK hDD hA0 hP hS 0 12 wm0 rfl rfl hl.1 (Nat.le_of_ble_eq_true rfl) dX12_goesOn_508 (fun A572 H locs hw573 hP hS => ?_)
          have ghw573 : q_X12_blame 1 (A 0 4) A558 A572 := hw573
          obtain ⟨_, hI, hf574, hw573⟩ := hw573
          have r_A572_0_8 : (0 : Int) ≤ (A572 0 8) ∧ (A572 0 8) ≤ 5 := hI 0 8
          have e_A572_3 : A572 0 3 = (A 0 3) := (hf574.2 3 rfl).trans e_A558_3
          exact mb_X12_goesOn_c511 l dC dI cB cI cJ cZ cQ q A hI0 hp0 hp1 hp2 hp3 hp4 hcCI p e s m below meth c Q AS hx hb hml hown hts hK hDD hA0 RET _ _ _ z1 (by omega) hz1 _ hI (fr.trans (fr.trans (fr.rf) hj557 rfl rfl) hf574 rfl rfl) (by exact Hd.mk (by  omega)) (fun zq uq hq => hk9 _ _ (u_d_X12_goesOn_9 ⟨f565, ⟨z567, ghw569, (Or.inr ⟨c570, ⟨A572, ghw573, hq⟩⟩)⟩⟩)) hP hS (lv_sub hl [0, 1, 2] rfl)
      refine lv_icmp_ne (tgt := 494) hx hb dX12_goesOn_486 (by decide) (fun c561 => ?_) (fun c561 => ?_)
      · have c561 : ¬ z1 = 5 := mt (i_eq (rb rz1 (by decide) (by decide)) ⟨by decide, by decide⟩).mpr c561
        refine lv_bipush (v := iI 41) hx hb dX12_goesOn_494 (by decide +kernel) ?_
        exact J496_562 41 _ _ _ (by omega) (by omega) (fun zq uq hq => hk8 _ _ (u_d_X12_goesOn_8 ⟨hIv, (Or.inl ⟨c559, (Or.inl ⟨c560, (Or.inl ⟨c561, hq⟩)⟩)⟩)⟩)) hP hS (lv_sub hl [0, 1, 2] rfl)
      · have c561 : z1 = 5 := (i_eq (rb rz1 (by decide) (by decide)) ⟨by decide, by decide⟩).mp c561
        refine lv_bipush (v := iI 93) hx hb dX12_goesOn_489 (by decide +kernel) ?_
        refine lv_goto (tgt := 496) hx hb dX12_goesOn_491 (by decide) ?_
        exact J496_562 93 _ _ _ (by omega) (by omega) (fun zq uq hq => hk8 _ _ (u_d_X12_goesOn_8 ⟨hIv, (Or.inl ⟨c559, (Or.inl ⟨c560, (Or.inr ⟨c561, hq⟩)⟩)⟩)⟩)) hP hS (lv_sub hl [0, 1, 2] rfl)
    · have c560 : z1 = 3 := (i_eq (rb rz1 (by decide) (by decide)) ⟨by decide, by decide⟩).mp c560
      refine lv_aload_n hx hb dX12_goesOn_433 rfl (lv_at hl 0 rfl) ?_
      refine lv_bipush (v := iI 44) hx hb dX12_goesOn_434 (by decide +kernel) ?_
      have e_A558_3 : A558 0 3 = (A 0 3) := (hj557.2 3 rfl)
      have e_A558_6 : A558 0 6 = (A 0 6) := (hj557.2 6 rfl)
      have r_A_0_6 : (-2147483648 : Int) ≤ (A 0 6) ∧ (A 0 6) ≤ 2147483647 := by rw [← e_A558_6]; exact hI 0 6
      refine x_calli (As := [.int (iI 44)]) (rest := []) ⟨hx, hb, hml, hown, hts⟩ (mb_X12_isSign l dC dI cB cI cJ cZ cQ q _ 44 hI ⟨by decide, by decide⟩) (cwV 1 hts (goodV (wl_in_0 _ (List.mem_of_getElem? (i := 37) rfl)) (wl_in_0 _ (List.mem_of_getElem? (i := 38) rfl)) (wl_in_0 _ (List.mem_of_getElem? (i := 39) rfl)) (wl_in_0 _ (List.mem_of_getElem? (i := 8) rfl)) (wl_in_0 _ (List.mem_of_getElem? (i := 34) rfl))) rfl rfl rfl (by decide +kernel) ⟨Nat.le_of_ble_eq_true rfl, Nat.le_of_ble_eq_true rfl⟩) hK hDD hA0 hP hS 0 12 wm0 rfl rfl hl.1 (Nat.le_of_ble_eq_true rfl) dX12_goesOn_436 (fun z703 A704 H locs hw705 hP hS => ?_)
      obtain ⟨rfl, hw705⟩ := hw705
      have ghw705 : q_X12_isSign 44 A558 z703 := hw705
      have hw705 := hw705.2
      have rz703 : 0 ≤ z703 ∧ z703 ≤ 1 := hw705.1
      replace hw705 := Hd.mk hw705.2
      have J451_707 : ∀ (A712 : St) (H : Heap) (locs : List Loc) (ls : Array Slot), (Hd ((A712 0 8) = 0 → (A712 0 3) = 3)) → (∀ (z : Int) (u : St), (d_X12_goesOn_11 A z u A712) → r_X12_goesOn A z u) → IM A712 → fr [] [8, 9] A558 A712 → va_P (dC, dI) vwCl (WM cI cJ cZ q A712) H → va_S AS s.heap H locs → lv_has ls 5 [(0, .ref (q 0)), (1, .int (iI ((A 0 53) - 1))), (2, .int (iI z1))] → W p l e (headSpec ws_mb_X12_goesOn ({ frames := 2, cells := 0, slots := 0, locals := 47 } : Room)).room s m [.ref (q 0)].toArray below meth c H locs 0 0 Q (F0 m 451 ls []) := by
        intro A712 H locs ls f713 hk11 hI hj711 hP hS hl
        have gI714 : Hd (IM A712) := Hd.mk hI
        refine lv_aload_n hx hb dX12_goesOn_451 rfl (lv_at hl 0 rfl) ?_
        refine va_get (D := (dC, dI)) (ci := 12) (v := .int (iI (A712 0 8))) (C := RX12) (T := TX12) (N := 85) hx hb hts hiX12 hown hK hP 0 wm0 rfl 8 (by decide) (hts _ (List.mem_cons_of_mem _ (wl_in_0 _ (List.mem_of_getElem? (i := 16) rfl)))) (fun _ h9 => h9) rfl dX12_goesOn_452 ?_
        have r_A712_0_8 : (0 : Int) ≤ (A712 0 8) ∧ (A712 0 8) ≤ 5 := hI 0 8
        refine lv_if_le (tgt := 460) hx hb dX12_goesOn_455 (by decide) (fun c715 => ?_) (fun c715 => ?_)
        · have c715 : (A712 0 8) ≤ 0 := (i_le0 (rb r_A712_0_8 (by decide) (by decide))).mp c715
          refine lv_aload_n hx hb dX12_goesOn_460 rfl (lv_at hl 0 rfl) ?_
          refine lv_iconst (v := iI 1) hx hb dX12_goesOn_461 (by decide +kernel) ?_
          refine x_callv (As := [.int (iI 1)]) (rest := []) ⟨hx, hb, hml, hown, hts⟩ (mb_X12_joins l dC dI cB cI cJ cZ cQ q _ 1 hI ⟨by decide, by decide⟩ (by exact (RI1.fr (RI1.fr hp0 hj557 rfl rfl) hj711 rfl rfl)) (CI.fr (CI.fr hcCI hj557 rfl rfl) hj711 rfl rfl) (SP.fr (SP.fr hp4 hj557 rfl rfl) hj711 rfl rfl)) (cwV 1 hts (goodV (wl_in_2 _ (List.mem_of_getElem? (i := 10) rfl)) (wl_in_2 _ (List.mem_of_getElem? (i := 11) rfl)) (wl_in_2 _ (List.mem_of_getElem? (i := 12) rfl)) (wl_in_0 _ (List.mem_of_getElem? (i := 8) rfl)) (wl_in_1 _ (List.mem_of_getElem? (i := 34) rfl))) rfl rfl rfl (by decide +kernel) ⟨Nat.le_of_ble_eq_true rfl, Nat.le_of_ble_eq_true rfl⟩) hK hDD hA0 hP hS 0 12 wm0 rfl rfl hl.1 (Nat.le_of_ble_eq_true rfl) dX12_goesOn_462 (fun A716 H locs hw717 hP hS => ?_)
          have ghw717 : q_X12_joins 1 A712 A716 := hw717
          obtain ⟨_, hI, hf718, hw717⟩ := hw717
          obtain ⟨hc719, hw717⟩ := hw717
          obtain ⟨hc720, hw717⟩ := hw717
          have e_A558_53 : A558 0 53 = (A 0 53) := (hj557.2 53 rfl)
          have e_A712_53 : A712 0 53 = (A 0 53) := (hj711.2 53 rfl).trans e_A558_53
          have e_A716_53 : A716 0 53 = (A 0 53) := (hf718.2 53 rfl).trans e_A712_53
          have r_A716_0_56 : (0 : Int) ≤ (A716 0 56) ∧ (A716 0 56) ≤ 500 := hI 0 56
          have hj1 := hw717.1
          have hj2 := Hd.mk hw717.2
          clear hw717
          have hIj := hI
          have hrj := RI.room hj1 hIj
          have e_A712_3 : A712 0 3 = (A 0 3) := (hj711.2 3 rfl).trans e_A558_3
          have e_A716_3 : A716 0 3 = (A 0 3) := (hf718.2 3 rfl).trans e_A712_3
          have e_A558_4 : A558 0 4 = (A 0 4) := (hj557.2 4 rfl)
          have e_A712_4 : A712 0 4 = (A 0 4) := (hj711.2 4 rfl).trans e_A558_4
          have e_A716_4 : A716 0 4 = (A 0 4) := (hf718.2 4 rfl).trans e_A712_4
          have e_A558_5 : A558 0 5 = (A 0 5) := (hj557.2 5 rfl)
          have e_A712_5 : A712 0 5 = (A 0 5) := (hj711.2 5 rfl).trans e_A558_5
          have e_A716_5 : A716 0 5 = (A 0 5) := (hf718.2 5 rfl).trans e_A712_5
          have e_A558_7 : A558 0 7 = (A 0 7) := (hj557.2 7 rfl)
          have e_A712_7 : A712 0 7 = (A 0 7) := (hj711.2 7 rfl).trans e_A558_7
          have e_A716_7 : A716 0 7 = (A 0 7) := (hf718.2 7 rfl).trans e_A712_7
          have e_A716_8 : A716 0 8 = (A712 0 8) := (hf718.2 8 rfl)
          have e_A558_47 : A558 0 47 = (A 0 47) := (hj557.2 47 rfl)
          have e_A712_47 : A712 0 47 = (A 0 47) := (hj711.2 47 rfl).trans e_A558_47
          have e_A716_47 : A716 0 47 = (A 0 47) := (hf718.2 47 rfl).trans e_A712_47
          have e_A558_54 : A558 0 54 = (A 0 54) := (hj557.2 54 rfl)
          have e_A712_54 : A712 0 54 = (A 0 54) := (hj711.2 54 rfl).trans e_A558_54
          have e_A716_54 : A716 0 54 = (A 0 54) := (hf718.2 54 rfl).trans e_A712_54
          have r_A716_0_46 : (0 : Int) ≤ (A716 0 46) ∧ (A716 0 46) ≤ 1600 := hI 0 46
          refine lv_aload_n hx hb dX12_goesOn_465 rfl (lv_at hl 0 rfl) ?_
          refine va_get (D := (dC, dI)) (ci := 12) (v := .ref (q 35)) (C := RX12) (T := TX12) (N := 85) hx hb hts hiX12 hown hK hP 0 wm0 rfl 48 (by decide) (hts _ (List.mem_cons_of_mem _ (wl_in_1 _ (List.mem_of_getElem? (i := 46) rfl)))) (fun _ h9 => h9) rfl dX12_goesOn_466 ?_
          refine lv_iload_n hx hb dX12_goesOn_469 rfl (lv_at hl 1 rfl) ?_
          refine lv_iconst (v := iI 4) hx hb dX12_goesOn_470 (by decide +kernel) ?_
          refine x_iast hx hb hK hP hDD hS 35 1 wm35 rfl (by omega) (by decide) dX12_goesOn_471 ws35 (fun H locs hP hS => ?_)
          have hI := hI.st (j := 35) (i := ((A 0 53) - 1).toNat) (v := 4) (show (0 : Int) ≤ 4 ∧ 4 ≤ 5 from (by omega))
          refine lv_aload_n hx hb dX12_goesOn_472 rfl (lv_at hl 0 rfl) ?_
          obtain ⟨A721, hA721⟩ : ∃ A721 : St, A721 = (stA A716 35 ((A 0 53) - 1).toNat 4) := ⟨_, rfl⟩
          rw [← hA721] at hP hI
          have e_A721_4 : A721 0 4 = (A 0 4) := by rw [hA721]; exact e_A716_4
          have e_A721_5 : A721 0 5 = (A 0 5) := by rw [hA721]; exact e_A716_5
          have e_A721_8 : A721 0 8 = (A712 0 8) := by rw [hA721]; exact e_A716_8
          refine x_callv (As := []) (rest := []) ⟨hx, hb, hml, hown, hts⟩ (mb_X12_ahead l dC dI cB cI cJ cZ cQ q _ hI) (cwV 0 hts (goodV (wl_in_0 _ (List.mem_of_getElem? (i := 40) rfl)) (wl_in_0 _ (List.mem_of_getElem? (i := 41) rfl)) (wl_in_0 _ (List.mem_of_getElem? (i := 42) rfl)) (wl_in_0 _ (List.mem_of_getElem? (i := 8) rfl)) (wl_in_0 _ (List.mem_of_getElem? (i := 20) rfl))) rfl rfl rfl (by decide +kernel) ⟨Nat.le_of_ble_eq_true rfl, Nat.le_of_ble_eq_true rfl⟩) hK hDD hA0 hP hS 0 12 wm0 rfl rfl hl.1 (Nat.le_of_ble_eq_true rfl) dX12_goesOn_473 (fun A722 H locs hw723 hP hS => ?_)
          have ghw723 : q_X12_ahead A721 A722 := hw723
          obtain ⟨_, hI, hf724, hw723⟩ := hw723
          have r_A722_0_3 : (0 : Int) ≤ (A722 0 3) ∧ (A722 0 3) ≤ 3 := hI 0 3
          have r_A722_0_4 : (0 : Int) ≤ (A722 0 4) ∧ (A722 0 4) ≤ 1600 := hI 0 4
          have r_A722_0_5 : (0 : Int) ≤ (A722 0 5) ∧ (A722 0 5) ≤ 1600 := hI 0 5
          have r_A722_0_8 : (0 : Int) ≤ (A722 0 8) ∧ (A722 0 8) ≤ 5 := hI 0 8
          have hw723x := hw723.1
          have hw723y := hw723.2.1
          replace hw723 := Hd.mk hw723
          refine lv_aload_n hx hb dX12_goesOn_476 rfl (lv_at hl 0 rfl) ?_
          refine lv_iconst (v := iI 0) hx hb dX12_goesOn_477 (by decide +kernel) ?_
          refine x_put (D := (dC, dI)) (ci := 12) (v := .int (iI 0)) (ty := .boolean) (C := RX12) (T := TX12) (N := 85) hx hb hts hiX12 tyX12 tyX12_ok nmX12 hown hK hP hDD hS 0 wm0 rfl 57 (by decide) (hts _ (List.mem_cons_of_mem _ (wl_in_2 _ (List.mem_of_getElem? (i := 9) rfl)))) (fun _ h9 => h9) rfl (by decide +kernel) (by decide +kernel) rfl (Nat.le_of_ble_eq_true rfl) dX12_goesOn_478 (wf57 (v := 0)) (fun H locs hP hS => ?_)
          have hI := hI.st (j := 0) (i := 57) (v := 0) (show (0 : Int) ≤ 0 ∧ 0 ≤ 1 from (by omega))
          refine lv_iconst (v := iI 1) hx hb dX12_goesOn_481 (by decide +kernel) ?_
          obtain ⟨A725, hA725⟩ : ∃ A725 : St, A725 = (stA A722 0 57 0) := ⟨_, rfl⟩
          rw [← hA725] at hP hI
          have e_A725_4 : A725 0 4 = (A722 0 4) := by rw [hA725]; exact rfl
          have e_A725_5 : A725 0 5 = (A722 0 5) := by rw [hA725]; exact rfl
          have e_A725_8 : A725 0 8 = (A722 0 8) := by rw [hA725]; exact rfl
          have e_A721_46 : A721 0 46 = (A716 0 46) := by rw [hA721]; exact rfl
          have e_A722_46 : A722 0 46 = (A716 0 46) := (hf724.2 46 rfl).trans e_A721_46
          have e_A725_46 : A725 0 46 = (A716 0 46) := by rw [hA725]; exact e_A722_46
          have e_A721_47 : A721 0 47 = (A 0 47) := by rw [hA721]; exact e_A716_47
          have e_A722_47 : A722 0 47 = (A 0 47) := (hf724.2 47 rfl).trans e_A721_47
          have e_A725_47 : A725 0 47 = (A 0 47) := by rw [hA725]; exact e_A722_47
          have e_A725_57 : A725 0 57 = 0 := by rw [hA725]; rfl
          have ca726 : A558 35 = A 35 := (hj557.1 35 (by decide) rfl)
          have ca727 : A712 35 = A 35 := (hj711.1 35 (by decide) rfl).trans ca726
          have ca728 : A716 35 = A 35 := (hf718.1 35 (by decide) rfl).trans ca727
          have ca729 : A725 1 = A722 1 := by rw [hA725]; exact rfl
          have e_A725_3 : A725 0 3 = (A722 0 3) := by rw [hA725]; exact rfl
          have e_A725_7 : A725 0 7 = (A722 0 7) := by rw [hA725]; exact rfl
          have gs := f713.out (by omega)
          have hlt := RI.lt hp0 (by omega)
          have e35 : A721 35 = up (A716 35) (A716 0 53 - 1).toNat 4 := by rw [hA721]; show up (A716 35) _ _ = _; rw [e_A716_53]
          have ca730 : A722 35 = A721 35 := (hf724.1 35 (by decide) rfl)
          have ca731 : A725 35 = A721 35 := by rw [hA725]; exact ca730
          have ca732 : A721 29 = A716 29 := by rw [hA721]; exact rfl
          have ca733 : A722 29 = A716 29 := (hf724.1 29 (by decide) rfl).trans ca732
          have ca734 : A725 29 = A716 29 := by rw [hA725]; exact ca733
          have ca735 : A721 31 = A716 31 := by rw [hA721]; exact rfl
          have ca736 : A722 31 = A716 31 := (hf724.1 31 (by decide) rfl).trans ca735
          have ca737 : A725 31 = A716 31 := by rw [hA725]; exact ca736
          have ca738 : A721 33 = A716 33 := by rw [hA721]; exact rfl
          have ca739 : A722 33 = A716 33 := (hf724.1 33 (by decide) rfl).trans ca738
          have ca740 : A725 33 = A716 33 := by rw [hA725]; exact ca739
          have ca741 : A721 37 = A716 37 := by rw [hA721]; exact rfl
          have ca742 : A722 37 = A716 37 := (hf724.1 37 (by decide) rfl).trans ca741
          have ca743 : A725 37 = A716 37 := by rw [hA725]; exact ca742
          have ca744 : A721 39 = A716 39 := by rw [hA721]; exact rfl
          have ca745 : A722 39 = A716 39 := (hf724.1 39 (by decide) rfl).trans ca744
          have ca746 : A725 39 = A716 39 := by rw [hA725]; exact ca745
          have ca747 : A721 40 = A716 40 := by rw [hA721]; exact rfl
          have ca748 : A722 40 = A716 40 := (hf724.1 40 (by decide) rfl).trans ca747
          have ca749 : A725 40 = A716 40 := by rw [hA725]; exact ca748
          have e_A721_53 : A721 0 53 = (A 0 53) := by rw [hA721]; exact e_A716_53
          have e_A722_53 : A722 0 53 = (A 0 53) := (hf724.2 53 rfl).trans e_A721_53
          have e_A725_53 : A725 0 53 = (A 0 53) := by rw [hA725]; exact e_A722_53
          have e_A721_54 : A721 0 54 = (A 0 54) := by rw [hA721]; exact e_A716_54
          have e_A722_54 : A722 0 54 = (A 0 54) := (hf724.2 54 rfl).trans e_A721_54
          have e_A725_54 : A725 0 54 = (A 0 54) := by rw [hA725]; exact e_A722_54
          have e_A721_56 : A721 0 56 = (A716 0 56) := by rw [hA721]; exact rfl
          have e_A722_56 : A722 0 56 = (A716 0 56) := (hf724.2 56 rfl).trans e_A721_56
          have e_A725_56 : A725 0 56 = (A716 0 56) := by rw [hA725]; exact e_A722_56
          have ca750 : A721 38 = A716 38 := by rw [hA721]; exact rfl
          have ca751 : A722 38 = A716 38 := (hf724.1 38 (by decide) rfl).trans ca750
          have ca752 : A725 38 = A716 38 := by rw [hA725]; exact ca751
          exact RET 1 _ _ _ _ _ ⟨hk11 _ _ (u_d_X12_goesOn_11 ⟨gI714.out, (Or.inl ⟨c715, ⟨A716, ghw717, ⟨A721, hA721, ⟨A722, ghw723, ⟨A725, hA725, ⟨rfl, rfl⟩⟩⟩⟩⟩⟩)⟩), hI, fr_def hA725 (fr.sf (fr.trans (fr_def hA721 (fr.st (fr.trans (fr.trans (fr.trans (fr.rf) hj557 rfl rfl) hj711 rfl rfl) hf718 rfl rfl) (by decide) rfl)) hf724 rfl rfl) rfl), (CI.fr (CI.fr (CI.fr hc719 (fr_def hA721 (fr.st (fr.rf (M := [35]) (N := [])) (by decide) rfl)) rfl rfl) hf724 rfl rfl) (fr_def hA725 (fr.sf (fr.rf (M := []) (N := [57])) rfl)) rfl rfl), ⟨by decide, Hd.mk (fun h0 => ⟨fun _ => ⟨by rw [e_A725_57]; exact RI.comma hj1 hIj (by omega) (by rw [ca728, e_A716_53, ← hz1]; omega) ⟨ca734, ca737, ca740, (ca731.trans e35), ca743, ca746, ca749, e_A725_46, (e_A725_47.trans e_A716_47.symm), (e_A725_53.trans e_A716_53.symm), (e_A725_54.trans e_A716_54.symm), e_A725_56⟩ (by omega) (by omega) (LX.of ca729 e_A725_3 e_A725_4 e_A725_5 e_A725_7 hw723.out.2.2.1), ⟨PR.comma (PR.fr (PR.fr (PR.fr hp2 hj557 rfl rfl) hj711 rfl rfl) hf718 rfl rfl) (by rw [ca728, e_A716_53, ← hz1]; omega) (ca731.trans e35) (e_A725_53.trans e_A716_53.symm) ca752, (SP.fr (SP.fr (SP.fr hc720 (fr_def hA721 (fr.st (fr.rf (M := [35]) (N := [])) (by decide) rfl)) rfl rfl) hf724 rfl rfl) (fr_def hA725 (fr.sf (fr.rf (M := []) (N := [57])) rfl)) rfl rfl)⟩, by omega⟩, fun h => absurd h (by decide)⟩)⟩⟩ hP hS dX12_goesOn_482
        · have c715 : ¬ (A712 0 8) ≤ 0 := mt (i_le0 (rb r_A712_0_8 (by decide) (by decide))).mpr c715
          refine lv_iconst (v := iI 0) hx hb dX12_goesOn_458 (by decide +kernel) ?_
          have e_A558_4 : A558 0 4 = (A 0 4) := (hj557.2 4 rfl)
          have e_A712_4 : A712 0 4 = (A 0 4) := (hj711.2 4 rfl).trans e_A558_4
          have e_A558_5 : A558 0 5 = (A 0 5) := (hj557.2 5 rfl)
          have e_A712_5 : A712 0 5 = (A 0 5) := (hj711.2 5 rfl).trans e_A558_5
          have e_A558_46 : A558 0 46 = (A 0 46) := (hj557.2 46 rfl)
          have e_A712_46 : A712 0 46 = (A 0 46) := (hj711.2 46 rfl).trans e_A558_46
          have e_A558_47 : A558 0 47 = (A 0 47) := (hj557.2 47 rfl)
          have e_A712_47 : A712 0 47 = (A 0 47) := (hj711.2 47 rfl).trans e_A558_47
          have e_A558_57 : A558 0 57 = (A 0 57) := (hj557.2 57 rfl)
          have e_A712_57 : A712 0 57 = (A 0 57) := (hj711.2 57 rfl).trans e_A558_57
          have r_A_0_57 : (0 : Int) ≤ (A 0 57) ∧ (A 0 57) ≤ 1 := by rw [← e_A712_57]; exact hI 0 57
          exact RET 0 _ _ _ _ _ ⟨hk11 _ _ (u_d_X12_goesOn_11 ⟨gI714.out, (Or.inr ⟨c715, ⟨rfl, rfl⟩⟩)⟩), hI, fr.trans (fr.trans (fr.rf) hj557 rfl rfl) hj711 rfl rfl, (CI.fr (CI.fr hcCI hj557 rfl rfl) hj711 rfl rfl), ⟨by decide, Hd.mk (fun h => absurd h (by omega))⟩⟩ hP hS dX12_goesOn_459
      refine lv_if_ne (tgt := 451) hx hb dX12_goesOn_439 (by decide) (fun c706 => ?_) (fun c706 => ?_)
      · have c706 : ¬ z703 = 0 := mt (i_eq0 (rb rz703 (by decide) (by decide))).mpr c706
        have hw705b := hw705.out.mp (by omega)
        have r_A558_0_8 : (0 : Int) ≤ (A558 0 8) ∧ (A558 0 8) ≤ 5 := hI 0 8
        exact J451_707 _ _ _ _ (by exact Hd.mk (by  omega)) (fun zq uq hq => hk8 _ _ (u_d_X12_goesOn_8 ⟨hIv, (Or.inl ⟨c559, (Or.inr ⟨c560, ⟨z703, ghw705, (Or.inl ⟨c706, hq⟩)⟩⟩)⟩)⟩)) hI (fr.rf) hP hS (lv_sub hl [0, 1, 2] rfl)
      · have c706 : z703 = 0 := (i_eq0 (rb rz703 (by decide) (by decide))).mp c706
        refine lv_aload_n hx hb dX12_goesOn_442 rfl (lv_at hl 0 rfl) ?_
        refine lv_iconst (v := iI 1) hx hb dX12_goesOn_443 (by decide +kernel) ?_
        refine lv_aload_n hx hb dX12_goesOn_444 rfl (lv_at hl 0 rfl) ?_
        have e_A558_4 : A558 0 4 = (A 0 4) := (hj557.2 4 rfl)
        refine va_get (D := (dC, dI)) (ci := 12) (v := .int (iI (A558 0 4))) (C := RX12) (T := TX12) (N := 85) hx hb hts hiX12 hown hK hP 0 wm0 rfl 4 (by decide) (hts _ (List.mem_cons_of_mem _ (wl_in_0 _ (List.mem_of_getElem? (i := 23) rfl)))) (fun _ h9 => h9) rfl dX12_goesOn_445 ?_
        refine tp_i (y := iI (A 0 4)) (congrArg iI e_A558_4) ?_
        refine x_callv (As := [.int (iI 1), .int (iI (A 0 4))]) (rest := []) ⟨hx, hb, hml, hown, hts⟩ (mc_X12_blame l dC dI cB cI cJ cZ cQ q _ 1 (A 0 4) hI ⟨by decide, by decide⟩ r_A_0_4) (cwV 2 hts (goodV (wl_in_0 _ (List.mem_of_getElem? (i := 31) rfl)) (wl_in_0 _ (List.mem_of_getElem? (i := 32) rfl)) (wl_in_0 _ (List.mem_of_getElem? (i := 33) rfl)) (wl_in_0 _ (List.mem_of_getElem? (i := 8) rfl)) (wl_in_0 _ (List.mem_of_getElem? (i := 15) rfl))) rfl rfl rfl (by decide +kernel) ⟨Nat.le_of_ble_eq_true rfl, Nat.le_of_ble_eq_true rfl⟩) hK hDD hA0 hP hS 0 12 wm0 rfl rfl hl.1 (Nat.le_of_ble_eq_true rfl) dX12_goesOn_448 (fun A708 H locs hw709 hP hS => ?_)
        have ghw709 : q_X12_blame 1 (A 0 4) A558 A708 := hw709
        obtain ⟨_, hI, hf710, hw709⟩ := hw709
        have r_A708_0_8 : (0 : Int) ≤ (A708 0 8) ∧ (A708 0 8) ≤ 5 := hI 0 8
        have e_A708_3 : A708 0 3 = (A 0 3) := (hf710.2 3 rfl).trans e_A558_3
        exact J451_707 _ _ _ _ (by exact Hd.mk (by  omega)) (fun zq uq hq => hk8 _ _ (u_d_X12_goesOn_8 ⟨hIv, (Or.inl ⟨c559, (Or.inr ⟨c560, ⟨z703, ghw705, (Or.inr ⟨c706, ⟨A708, ghw709, hq⟩⟩)⟩⟩)⟩)⟩)) hI (fr.trans (fr.rf) hf710 rfl rfl) hP hS (lv_sub hl [0, 1, 2] rfl)
  · have c559 : ¬ 2 ≤ z1 := mt (i_le ⟨by decide, by decide⟩ (rb rz1 (by decide) (by decide))).mpr c559
    refine lv_aload_n hx hb dX12_goesOn_414 rfl (lv_at hl 0 rfl) ?_
    refine va_get (D := (dC, dI)) (ci := 12) (v := .int (iI (A558 0 8))) (C := RX12) (T := TX12) (N := 85) hx hb hts hiX12 hown hK hP 0 wm0 rfl 8 (by decide) (hts _ (List.mem_cons_of_mem _ (wl_in_0 _ (List.mem_of_getElem? (i := 16) rfl)))) (fun _ h9 => h9) rfl dX12_goesOn_415 ?_
    have r_A558_0_8 : (0 : Int) ≤ (A558 0 8) ∧ (A558 0 8) ≤ 5 := hI 0 8
    refine lv_if_ne (tgt := 426) hx hb dX12_goesOn_418 (by decide) (fun c753 => ?_) (fun c753 => ?_)
    · have c753 : ¬ (A558 0 8) = 0 := mt (i_eq0 (rb r_A558_0_8 (by decide) (by decide))).mpr c753
      refine lv_iconst (v := iI 0) hx hb dX12_goesOn_426 (by decide +kernel) ?_
      have e_A558_4 : A558 0 4 = (A 0 4) := (hj557.2 4 rfl)
      have e_A558_5 : A558 0 5 = (A 0 5) := (hj557.2 5 rfl)
      have e_A558_46 : A558 0 46 = (A 0 46) := (hj557.2 46 rfl)
      have e_A558_47 : A558 0 47 = (A 0 47) := (hj557.2 47 rfl)
      have e_A558_57 : A558 0 57 = (A 0 57) := (hj557.2 57 rfl)
      have r_A_0_57 : (0 : Int) ≤ (A 0 57) ∧ (A 0 57) ≤ 1 := by rw [← e_A558_57]; exact hI 0 57
      exact RET 0 _ _ _ _ _ ⟨hk8 _ _ (u_d_X12_goesOn_8 ⟨hIv, (Or.inr ⟨c559, (Or.inl ⟨c753, ⟨rfl, rfl⟩⟩)⟩)⟩), hI, fr.trans (fr.rf) hj557 rfl rfl, (CI.fr hcCI hj557 rfl rfl), ⟨by decide, Hd.mk (fun h => absurd h (by omega))⟩⟩ hP hS dX12_goesOn_427
    · have c753 : (A558 0 8) = 0 := (i_eq0 (rb r_A558_0_8 (by decide) (by decide))).mp c753
      refine lv_aload_n hx hb dX12_goesOn_421 rfl (lv_at hl 0 rfl) ?_
      refine lv_iconst (v := iI 1) hx hb dX12_goesOn_422 (by decide +kernel) ?_
      refine x_callv (As := [.int (iI 1)]) (rest := []) ⟨hx, hb, hml, hown, hts⟩ (mb_X12_joins l dC dI cB cI cJ cZ cQ q _ 1 hI ⟨by decide, by decide⟩ (by exact (RI1.fr hp0 hj557 rfl rfl)) (CI.fr hcCI hj557 rfl rfl) (SP.fr hp4 hj557 rfl rfl)) (cwV 1 hts (goodV (wl_in_2 _ (List.mem_of_getElem? (i := 10) rfl)) (wl_in_2 _ (List.mem_of_getElem? (i := 11) rfl)) (wl_in_2 _ (List.mem_of_getElem? (i := 12) rfl)) (wl_in_0 _ (List.mem_of_getElem? (i := 8) rfl)) (wl_in_1 _ (List.mem_of_getElem? (i := 34) rfl))) rfl rfl rfl (by decide +kernel) ⟨Nat.le_of_ble_eq_true rfl, Nat.le_of_ble_eq_true rfl⟩) hK hDD hA0 hP hS 0 12 wm0 rfl rfl hl.1 (Nat.le_of_ble_eq_true rfl) dX12_goesOn_423 (fun A754 H locs hw755 hP hS => ?_)
      have ghw755 : q_X12_joins 1 A558 A754 := hw755
      obtain ⟨_, hI, hf756, hw755⟩ := hw755
      obtain ⟨hc757, hw755⟩ := hw755
      obtain ⟨hc758, hw755⟩ := hw755
      have e_A558_53 : A558 0 53 = (A 0 53) := (hj557.2 53 rfl)
      have e_A754_53 : A754 0 53 = (A 0 53) := (hf756.2 53 rfl).trans e_A558_53
      have r_A754_0_56 : (0 : Int) ≤ (A754 0 56) ∧ (A754 0 56) ≤ 500 := hI 0 56
      have hj1 := hw755.1
      have hj2 := Hd.mk hw755.2
      clear hw755
      have hIj := hI
      have hrj := RI.room hj1 hIj
      have e_A558_3 : A558 0 3 = (A 0 3) := (hj557.2 3 rfl)
      have e_A754_3 : A754 0 3 = (A 0 3) := (hf756.2 3 rfl).trans e_A558_3
      have e_A558_4 : A558 0 4 = (A 0 4) := (hj557.2 4 rfl)
      have e_A754_4 : A754 0 4 = (A 0 4) := (hf756.2 4 rfl).trans e_A558_4
      have e_A558_5 : A558 0 5 = (A 0 5) := (hj557.2 5 rfl)
      have e_A754_5 : A754 0 5 = (A 0 5) := (hf756.2 5 rfl).trans e_A558_5
      have e_A558_7 : A558 0 7 = (A 0 7) := (hj557.2 7 rfl)
      have e_A754_7 : A754 0 7 = (A 0 7) := (hf756.2 7 rfl).trans e_A558_7
      have e_A754_8 : A754 0 8 = (A558 0 8) := (hf756.2 8 rfl)
      have e_A558_47 : A558 0 47 = (A 0 47) := (hj557.2 47 rfl)
      have e_A754_47 : A754 0 47 = (A 0 47) := (hf756.2 47 rfl).trans e_A558_47
      have e_A558_54 : A558 0 54 = (A 0 54) := (hj557.2 54 rfl)
      have e_A754_54 : A754 0 54 = (A 0 54) := (hf756.2 54 rfl).trans e_A558_54
      have r_A754_0_46 : (0 : Int) ≤ (A754 0 46) ∧ (A754 0 46) ≤ 1600 := hI 0 46
      refine lv_iconst (v := iI 0) hx hb dX12_goesOn_426 (by decide +kernel) ?_
      have e_A558_57 : A558 0 57 = (A 0 57) := (hj557.2 57 rfl)
      have e_A754_57 : A754 0 57 = (A 0 57) := (hf756.2 57 rfl).trans e_A558_57
      have r_A_0_57 : (0 : Int) ≤ (A 0 57) ∧ (A 0 57) ≤ 1 := by rw [← e_A754_57]; exact hI 0 57
      have ca759 : A558 35 = A 35 := (hj557.1 35 (by decide) rfl)
      have ca760 : A754 35 = A 35 := (hf756.1 35 (by decide) rfl).trans ca759
      exact RET 0 _ _ _ _ _ ⟨hk8 _ _ (u_d_X12_goesOn_8 ⟨hIv, (Or.inr ⟨c559, (Or.inr ⟨c753, ⟨A754, ghw755, ⟨rfl, rfl⟩⟩⟩)⟩)⟩), hI, fr.trans (fr.trans (fr.rf) hj557 rfl rfl) hf756 rfl rfl, hc757, ⟨by decide, Hd.mk (fun h0 => ⟨fun h => absurd h (by decide), fun _ => ⟨RI.done hj1 hIj (by rw [ca760, e_A754_53, ← hz1]; omega) (RI.full hj2.out), RI.cb hj1 hIj, by omega⟩⟩)⟩⟩ hP hS dX12_goesOn_427
