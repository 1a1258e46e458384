set_option maxHeartbeats 4000000 in
set_option maxRecDepth 100000 in
theorem mb_X12_goesOn_c409 (l : Launch) (dC : Nat → ClassId) (dI : Nat → Nat → Nat) (cB cI cJ cZ cQ : ClassId) (q : Nat → Nat) (A : St) (hI : IM A) (hp0 : RI 1 A) (hp1 : A 0 8 = 0) (hp2 : PR A) (hp3 : A 0 57 = 1) (hp4 : SP A) (hcCI : CI A) (p : Program) (e : Env) (s : State) (m : MethodId) (below : List Frame) (meth : Method) (c : Code) (Q : State → Prop) (AS : Nat → Prop) (hx : p.tables.exec = Jvm.exec) (hb : c.code = cX12_goesOn) (hml : c.maxLocals = 5) (hown : s.vm.findClass RX12 = some m.cls) (hts : ∀ w ∈ ws_mb_X12_goesOn, w.before [.ref (q 0)].toArray s = true) (hK : va_K (dC, dI) vwCl (tyA cB cI cJ cZ cQ) s) (hDD : ∀ A', va_D AS (WM cI cJ cZ q A')) (hA0 : ∀ b : Nat, s.heap.size ≤ b → AS b) (RET : ∀ (z : Int) (u : St) (H : Heap) (locs : List Loc) (pc : Nat) (ls : Array Slot), ((fun z u => r_X12_goesOn A z u ∧ IM u ∧ fr [33, 34, 35, 36, 37, 40] [3, 4, 5, 6, 7, 8, 9, 46, 53, 54, 56, 57] A u ∧ CI u ∧ ((0 ≤ z ∧ z ≤ 1) ∧ (Hd (u 0 8 = 0 → (z = 1 → RI (u 0 57) u ∧ (PR u ∧ SP u) ∧ A 0 4 + 1 ≤ u 0 4) ∧ (z = 0 → DP (u 33) (sA u) (1600 * u 0 47 + u 0 46) 1 ∧ CB u ∧ A 0 4 ≤ u 0 4))))) z u) → va_P (dC, dI) vwCl (WM cI cJ cZ q u) H → va_S AS s.heap H locs → decode cX12_goesOn pc = .ok (.ireturn, 1) → W p l e (headSpec ws_mb_X12_goesOn ({ frames := 2, cells := 0, slots := 0, locals := 47 } : Room)).room s m [.ref (q 0)].toArray below meth c H locs 0 0 Q (F0 m pc ls [.int (iI z)])) (H : Heap) (locs : List Loc) (ls : Array Slot) (z1 : Int) (rz1 : (0 : Int) ≤ z1 ∧ z1 ≤ 5) (hz1 : z1 = A 35 ((A 0 53) - 1).toNat) (A558 : St) (hIv : IM A558) (hj557 : fr [] [8, 9] A A558) (hk8 : ∀ (z : Int) (u : St), (d_X12_goesOn_8 A z u z1 A558) → r_X12_goesOn A z u) (hP : va_P (dC, dI) vwCl (WM cI cJ cZ q A558) H) (hS : va_S AS s.heap H locs) (hl : lv_has ls 5 [(0, .ref (q 0)), (1, .int (iI ((A 0 53) - 1))), (2, .int (iI z1))]) : W p l e (headSpec ws_mb_X12_goesOn ({ frames := 2, cells := 0, slots := 0, locals := 47 } : Room)).room s m [.ref (q 0)].toArray below meth c H locs 0 0 Q (F0 m 409 ls []) := by
  have hiX12 : ∀ w ∈ u_ws RX12 TX12 85, w ∈ ws_mb_X12_goesOn := fun w h => List.mem_cons_of_mem _ (wx_lay w h)
  have hI0 := hI
  have hdp := RI.deep hp0 hI0
  have hrm := RI.room hp0 hI0
  have r_A_0_3 : (0 : Int) ≤ (A 0 3) ∧ (A 0 3) ≤ 3 := hI 0 3
  have r_A_0_4 : (0 : Int) ≤ (A 0 4) ∧ (A 0 4) ≤ 1600 := hI 0 4
  have r_A_0_5 : (0 : Int) ≤ (A 0 5) ∧ (A 0 5) ≤ 1600 := hI 0 5
  have r_A_0_7 : (-9223372036854775808 : Int) ≤ (A 0 7) ∧ (A 0 7) ≤ 9223372036854775807 := hI 0 7
  have r_A_0_8 : (0 : Int) ≤ (A 0 8) ∧ (A 0 8) ≤ 5 := hI 0 8
  have r_A_0_46 : (0 : Int) ≤ (A 0 46) ∧ (A 0 46) ≤ 1600 := hI 0 46
  have r_A_0_47 : (0 : Int) ≤ (A 0 47) ∧ (A 0 47) ≤ 1 := hI 0 47
  have r_A_0_53 : (0 : Int) ≤ (A 0 53) ∧ (A 0 53) ≤ 20 := hI 0 53
  have r_A_0_54 : (0 : Int) ≤ (A 0 54) ∧ (A 0 54) ≤ 8 := hI 0 54
  have r_A_0_56 : (0 : Int) ≤ (A 0 56) ∧ (A 0 56) ≤ 500 := hI 0 56
  have hop := hp0.1
  have hI := hIv
  refine lv_iload_n hx hb dX12_goesOn_409 rfl (lv_at hl 2 rfl) ?_
  refine lv_iconst (v := iI 2) hx hb dX12_goesOn_410 (by decide +kernel) ?_
  refine lv_icmp_ge (tgt := 428) hx hb dX12_goesOn_411 (by decide) (fun c559 => ?_) (fun c559 => ?_)
  · have c559 : 2 ≤ z1 := (i_le ⟨by decide, by decide⟩ (rb rz1 (by decide) (by decide))).mp c559
    refine lv_iload_n hx hb dX12_goesOn_428 rfl (lv_at hl 2 rfl) ?_
    refine lv_iconst (v := iI 3) hx hb dX12_goesOn_429 (by decide +kernel) ?_
    refine lv_icmp_ne (tgt := 483) hx hb dX12_goesOn_430 (by decide) (fun c560 => ?_) (fun c560 => ?_)
    · have c560 : ¬ z1 = 3 := mt (i_eq (rb rz1 (by decide) (by decide)) ⟨by decide, by decide⟩).mpr c560
      refine lv_aload_n hx hb dX12_goesOn_483 rfl (lv_at hl 0 rfl) ?_
      refine lv_iload_n hx hb dX12_goesOn_484 rfl (lv_at hl 2 rfl) ?_
      refine lv_iconst (v := iI 5) hx hb dX12_goesOn_485 (by decide +kernel) ?_
      have J496_562 : ∀ (z563 : Int) (H : Heap) (locs : List Loc) (ls : Array Slot), (41 ≤ z563 ∧ z563 ≤ 93) → ((z563 = 41 ∧ ¬ z1 = 5) ∨ (z563 = 93 ∧ z1 = 5)) → (∀ (z : Int) (u : St), (d_X12_goesOn_9 z1 A A558 z u z563) → r_X12_goesOn A z u) → va_P (dC, dI) vwCl (WM cI cJ cZ q A558) H → va_S AS s.heap H locs → lv_has ls 5 [(0, .ref (q 0)), (1, .int (iI ((A 0 53) - 1))), (2, .int (iI z1))] → W p l e (headSpec ws_mb_X12_goesOn ({ frames := 2, cells := 0, slots := 0, locals := 47 } : Room)).room s m [.ref (q 0)].toArray below meth c H locs 0 0 Q (F0 m 496 ls [.int (iI z563), .ref (q 0)]) := by
        intro z563 H locs ls f565 f566 hk9 hP hS hl
        have e_A558_3 : A558 0 3 = (A 0 3) := (hj557.2 3 rfl)
        have e_A558_6 : A558 0 6 = (A 0 6) := (hj557.2 6 rfl)
        have r_A_0_6 : (-2147483648 : Int) ≤ (A 0 6) ∧ (A 0 6) ≤ 2147483647 := by rw [← e_A558_6]; exact hI 0 6
        refine x_calli (As := [.int (iI z563)]) (rest := []) ⟨hx, hb, hml, hown, hts⟩ (mb_X12_isSign l dC dI cB cI cJ cZ cQ q _ z563 hI (rb f565 (by decide) (by decide))) (cwV 1 hts (goodV (wl_in_0 _ (List.mem_of_getElem? (i := 37) rfl)) (wl_in_0 _ (List.mem_of_getElem? (i := 38) rfl)) (wl_in_0 _ (List.mem_of_getElem? (i := 39) rfl)) (wl_in_0 _ (List.mem_of_getElem? (i := 8) rfl)) (wl_in_0 _ (List.mem_of_getElem? (i := 34) rfl))) rfl rfl rfl (by decide +kernel) ⟨Nat.le_of_ble_eq_true rfl, Nat.le_of_ble_eq_true rfl⟩) hK hDD hA0 hP hS 0 12 wm0 rfl rfl hl.1 (Nat.le_of_ble_eq_true rfl) dX12_goesOn_496 (fun z567 A568 H locs hw569 hP hS => ?_)
        obtain ⟨rfl, hw569⟩ := hw569
        have ghw569 : q_X12_isSign z563 A558 z567 := hw569
        have hw569 := hw569.2
        have rz567 : 0 ≤ z567 ∧ z567 ≤ 1 := hw569.1
        replace hw569 := Hd.mk hw569.2
        refine lv_if_ne (tgt := 511) hx hb dX12_goesOn_499 (by decide) (fun c570 => ?_) (fun c570 => ?_)
        · have c570 : ¬ z567 = 0 := mt (i_eq0 (rb rz567 (by decide) (by decide))).mpr c570
          have hw569b := hw569.out.mp (by omega)
          have r_A558_0_8 : (0 : Int) ≤ (A558 0 8) ∧ (A558 0 8) ≤ 5 := hI 0 8
          exact mb_X12_goesOn_c511 l dC dI cB cI cJ cZ cQ q A hI0 hp0 hp1 hp2 hp3 hp4 hcCI p e s m below meth c Q AS hx hb hml hown hts hK hDD hA0 RET _ _ _ z1 (by omega) hz1 _ hI (fr.trans (fr.rf) hj557 rfl rfl) (by exact Hd.mk (by  omega)) (fun zq uq hq => hk9 _ _ (u_d_X12_goesOn_9 ⟨f565, ⟨z567, ghw569, (Or.inl ⟨c570, hq⟩)⟩⟩)) hP hS (lv_sub hl [0, 1, 2] rfl)
        · have c570 : z567 = 0 := (i_eq0 (rb rz567 (by decide) (by decide))).mp c570
          refine lv_aload_n hx hb dX12_goesOn_502 rfl (lv_at hl 0 rfl) ?_
          refine lv_iconst (v := iI 1) hx hb dX12_goesOn_503 (by decide +kernel) ?_
          refine lv_aload_n hx hb dX12_goesOn_504 rfl (lv_at hl 0 rfl) ?_
          have e_A558_4 : A558 0 4 = (A 0 4) := (hj557.2 4 rfl)
          refine va_get (D := (dC, dI)) (ci := 12) (v := .int (iI (A558 0 4))) (C := RX12) (T := TX12) (N := 85) hx hb hts hiX12 hown hK hP 0 wm0 rfl 4 (by decide) (hts _ (List.mem_cons_of_mem _ (wl_in_0 _ (List.mem_of_getElem? (i := 23) rfl)))) (fun _ h9 => h9) rfl dX12_goesOn_505 ?_
          refine tp_i (y := iI (A 0 4)) (congrArg iI e_A558_4) ?_
          refine x_callv (As := [.int (iI 1), .int (iI (A 0 4))]) (rest := []) ⟨hx, hb, hml, hown, hts⟩ (mc_X12_blame l dC dI cB cI cJ cZ cQ q _ 1 (A 0 4) hI ⟨by decide, by decide⟩ r_A_0_4) (cwV 2 hts (goodV (wl_in_0 _ (List.mem_of_getElem? (i := 31) rfl)) (wl_in_0 _ (List.mem_of_getElem? (i := 32) rfl)) (wl_in_0 _ (List.mem_of_getElem? (i := 33) rfl)) (wl_in_0 _ (List.mem_of_getElem? (i := 8) rfl)) (wl_in_0 _ (List.mem_of_getElem? (i := 15) rfl))) rfl rfl rfl (by decide +kernel) ⟨Nat.le_of_ble_eq_true rfl, Nat.le_of_ble_eq_true rfl⟩) hK hDD hA0 hP hS 0 12 wm0 rfl rfl hl.1 (Nat.le_of_ble_eq_true rfl) dX12_goesOn_508 (fun A572 H locs hw573 hP hS => ?_)
          have ghw573 : q_X12_blame 1 (A 0 4) A558 A572 := hw573
          obtain ⟨_, hI, hf574, hw573⟩ := hw573
          have r_A572_0_8 : (0 : Int) ≤ (A572 0 8) ∧ (A572 0 8) ≤ 5 := hI 0 8
          have e_A572_3 : A572 0 3 = (A 0 3) := (hf574.2 3 rfl).trans e_A558_3
          exact mb_X12_goesOn_c511 l dC dI cB cI cJ cZ cQ q A hI0 hp0 hp1 hp2 hp3 hp4 hcCI p e s m below meth c Q AS hx hb hml hown hts hK hDD hA0 RET _ _ _ z1 (by omega) hz1 _ hI (fr.trans (fr.trans (fr.rf) hj557 rfl rfl) hf574 rfl rfl) (by exact Hd.mk (by  omega)) (fun zq uq hq => hk9 _ _ (u_d_X12_goesOn_9 ⟨f565, ⟨z567, ghw569, (Or.inr ⟨c570, ⟨A572, ghw573, hq⟩⟩)⟩⟩)) hP hS (lv_sub hl [0, 1, 2] rfl)
      refine lv_icmp_ne (tgt := 494) hx hb dX12_goesOn_486 (by decide) (fun c561 => ?_) (fun c561 => ?_)
      · have c561 : ¬ z1 = 5 := mt (i_eq (rb rz1 (by decide) (by decide)) ⟨by decide, by decide⟩).mpr c561
        refine lv_bipush (v := iI 41) hx hb dX12_goesOn_494 (by decide +kernel) ?_
        exact J496_562 41 _ _ _ (by omega) (by omega) (fun zq uq hq => hk8 _ _ (u_d_X12_goesOn_8 ⟨hIv, (Or.inl ⟨c559, (Or.inl ⟨c560, (Or.inl ⟨c561, hq⟩)⟩)⟩)⟩)) hP hS (lv_sub hl [0, 1, 2] rfl)
      · have c561 : z1 = 5 := (i_eq (rb rz1 (by decide) (by decide)) ⟨by decide, by decide⟩).mp c561
        refine lv_bipush (v := iI 93) hx hb dX12_goesOn_489 (by decide +kernel) ?_
        refine lv_goto (tgt := 496) hx hb dX12_goesOn_491 (by decide) ?_
        exact J496_562 93 _ _ _ (by omega) (by omega) (fun zq uq hq => hk8 _ _ (u_d_X12_goesOn_8 ⟨hIv, (Or.inl ⟨c559, (Or.inl ⟨c560, (Or.inr ⟨c561, hq⟩)⟩)⟩)⟩)) hP hS (lv_sub hl [0, 1, 2] rfl)
    · have c560 : z1 = 3 := (i_eq (rb rz1 (by decide) (by decide)) ⟨by decide, by decide⟩).mp c560
      refine lv_aload_n hx hb dX12_goesOn_433 rfl (lv_at hl 0 rfl) ?_
      refine lv_bipush (v := iI 44) hx hb dX12_goesOn_434 (by decide +kernel) ?_
      have e_A558_3 : A558 0 3 = (A 0 3) := (hj557.2 3 rfl)
      have e_A558_6 : A558 0 6 = (A 0 6) := (hj557.2 6 rfl)
      have r_A_0_6 : (-2147483648 : Int) ≤ (A 0 6) ∧ (A 0 6) ≤ 2147483647 := by rw [← e_A558_6]; exact hI 0 6
      refine x_calli (As := [.int (iI 44)]) (rest := []) ⟨hx, hb, hml, hown, hts⟩ (mb_X12_isSign l dC dI cB cI cJ cZ cQ q _ 44 hI ⟨by decide, by decide⟩) (cwV 1 hts (goodV (wl_in_0 _ (List.mem_of_getElem? (i := 37) rfl)) (wl_in_0 _ (List.mem_of_getElem? (i := 38) rfl)) (wl_in_0 _ (List.mem_of_getElem? (i := 39) rfl)) (wl_in_0 _ (List.mem_of_getElem? (i := 8) rfl)) (wl_in_0 _ (List.mem_of_getElem? (i := 34) rfl))) rfl rfl rfl (by decide +kernel) ⟨Nat.le_of_ble_eq_true rfl, Nat.le_of_ble_eq_true rfl⟩) hK hDD hA0 hP hS 0 12 wm0 rfl rfl hl.1 (Nat.le_of_ble_eq_true rfl) dX12_goesOn_436 (fun z703 A704 H locs hw705 hP hS => ?_)
      obtain ⟨rfl, hw705⟩ := hw705
      have ghw705 : q_X12_isSign 44 A558 z703 := hw705
      have hw705 := hw705.2
      have rz703 : 0 ≤ z703 ∧ z703 ≤ 1 := hw705.1
      replace hw705 := Hd.mk hw705.2
      have J451_707 : ∀ (A712 : St) (H : Heap) (locs : List Loc) (ls : Array Slot), (Hd ((A712 0 8) = 0 → (A712 0 3) = 3)) → (∀ (z : Int) (u : St), (d_X12_goesOn_11 A z u A712) → r_X12_goesOn A z u) → IM A712 → fr [] [8, 9] A558 A712 → va_P (dC, dI) vwCl (WM cI cJ cZ q A712) H → va_S AS s.heap H locs → lv_has ls 5 [(0, .ref (q 0)), (1, .int (iI ((A 0 53) - 1))), (2, .int (iI z1))] → W p l e (headSpec ws_mb_X12_goesOn ({ frames := 2, cells := 0, slots := 0, locals := 47 } : Room)).room s m [.ref (q 0)].toArray below meth c H locs 0 0 Q (F0 m 451 ls []) := by
        intro A712 H locs ls f713 hk11 hI hj711 hP hS hl
        have gI714 : Hd (IM A712) := Hd.mk hI
        refine lv_aload_n hx hb dX12_goesOn_451 rfl (lv_at hl 0 rfl) ?_
        refine va_get (D := (dC, dI)) (ci := 12) (v := .int (iI (A712 0 8))) (C := RX12) (T := TX12) (N := 85) hx hb hts hiX12 hown hK hP 0 wm0 rfl 8 (by decide) (hts _ (List.mem_cons_of_mem _ (wl_in_0 _ (List.mem_of_getElem? (i := 16) rfl)))) (fun _ h9 => h9) rfl dX12_goesOn_452 ?_
        have r_A712_0_8 : (0 : Int) ≤ (A712 0 8) ∧ (A712 0 8) ≤ 5 := hI 0 8
        refine lv_if_le (tgt := 460) hx hb dX12_goesOn_455 (by decide) (fun c715 => ?_) (fun c715 => ?_)
        · have c715 : (A712 0 8) ≤ 0 := (i_le0 (rb r_A712_0_8 (by decide) (by decide))).mp c715
          refine lv_aload_n hx hb dX12_goesOn_460 rfl (lv_at hl 0 rfl) ?_
          refine lv_iconst (v := iI 1) hx hb dX12_goesOn_461 (by decide +kernel) ?_
          refine x_callv (As := [.int (iI 1)]) (rest := []) ⟨hx, hb, hml, hown, hts⟩ (mb_X12_joins l dC dI cB cI cJ cZ cQ q _ 1 hI ⟨by decide, by decide⟩ (by exact (RI1.fr (RI1.fr hp0 hj557 rfl rfl) hj711 rfl rfl)) (CI.fr (CI.fr hcCI hj557 rfl rfl) hj711 rfl rfl) (SP.fr (SP.fr hp4 hj557 rfl rfl) hj711 rfl rfl)) (cwV 1 hts (goodV (wl_in_2 _ (List.mem_of_getElem? (i := 10) rfl)) (wl_in_2 _ (List.mem_of_getElem? (i := 11) rfl)) (wl_in_2 _ (List.mem_of_getElem? (i := 12) rfl)) (wl_in_0 _ (List.mem_of_getElem? (i := 8) rfl)) (wl_in_1 _ (List.mem_of_getElem? (i := 34) rfl))) rfl rfl rfl (by decide +kernel) ⟨Nat.le_of_ble_eq_true rfl, Nat.le_of_ble_eq_true rfl⟩) hK hDD hA0 hP hS 0 12 wm0 rfl rfl hl.1 (Nat.le_of_ble_eq_true rfl) dX12_goesOn_462 (fun A716 H locs hw717 hP hS => ?_)
          have ghw717 : q_X12_joins 1 A712 A716 := hw717
          obtain ⟨_, hI, hf718, hw717⟩ := hw717
          obtain ⟨hc719, hw717⟩ := hw717
          obtain ⟨hc720, hw717⟩ := hw717
          have e_A558_53 : A558 0 53 = (A 0 53) := (hj557.2 53 rfl)
          have e_A712_53 : A712 0 53 = (A 0 53) := (hj711.2 53 rfl).trans e_A558_53
          have e_A716_53 : A716 0 53 = (A 0 53) := (hf718.2 53 rfl).trans e_A712_53
          have r_A716_0_56 : (0 : Int) ≤ (A716 0 56) ∧ (A716 0 56) ≤ 500 := hI 0 56
          have hj1 := hw717.1
          have hj2 := Hd.mk hw717.2
          clear hw717
          have hIj := hI
          have hrj := RI.room hj1 hIj
          have e_A712_3 : A712 0 3 = (A 0 3) := (hj711.2 3 rfl).trans e_A558_3
          have e_A716_3 : A716 0 3 = (A 0 3) := (hf718.2 3 rfl).trans e_A712_3
          have e_A558_4 : A558 0 4 = (A 0 4) := (hj557.2 4 rfl)
          have e_A712_4 : A712 0 4 = (A 0 4) := (hj711.2 4 rfl).trans e_A558_4
          have e_A716_4 : A716 0 4 = (A 0 4) := (hf718.2 4 rfl).trans e_A712_4
          have e_A558_5 : A558 0 5 = (A 0 5) := (hj557.2 5 rfl)
          have e_A712_5 : A712 0 5 = (A 0 5) := (hj711.2 5 rfl).trans e_A558_5
          have e_A716_5 : A716 0 5 = (A 0 5) := (hf718.2 5 rfl).trans e_A712_5
          have e_A558_7 : A558 0 7 = (A 0 7) := (hj557.2 7 rfl)
          have e_A712_7 : A712 0 7 = (A 0 7) := (hj711.2 7 rfl).trans e_A558_7
          have e_A716_7 : A716 0 7 = (A 0 7) := (hf718.2 7 rfl).trans e_A712_7
          have e_A716_8 : A716 0 8 = (A712 0 8) := (hf718.2 8 rfl)
          have e_A558_47 : A558 0 47 = (A 0 47) := (hj557.2 47 rfl)
          have e_A712_47 : A712 0 47 = (A 0 47) := (hj711.2 47 rfl).trans e_A558_47
          have e_A716_47 : A716 0 47 = (A 0 47) := (hf718.2 47 rfl).trans e_A712_47
          have e_A558_54 : A558 0 54 = (A 0 54) := (hj557.2 54 rfl)
          have e_A712_54 : A712 0 54 = (A 0 54) := (hj711.2 54 rfl).trans e_A558_54
          have e_A716_54 : A716 0 54 = (A 0 54) := (hf718.2 54 rfl).trans e_A712_54
          have r_A716_0_46 : (0 : Int) ≤ (A716 0 46) ∧ (A716 0 46) ≤ 1600 := hI 0 46
          refine lv_aload_n hx hb dX12_goesOn_465 rfl (lv_at hl 0 rfl) ?_
          refine va_get (D := (dC, dI)) (ci := 12) (v := .ref (q 35)) (C := RX12) (T := TX12) (N := 85) hx hb hts hiX12 hown hK hP 0 wm0 rfl 48 (by decide) (hts _ (List.mem_cons_of_mem _ (wl_in_1 _ (List.mem_of_getElem? (i := 46) rfl)))) (fun _ h9 => h9) rfl dX12_goesOn_466 ?_
          refine lv_iload_n hx hb dX12_goesOn_469 rfl (lv_at hl 1 rfl) ?_
          refine lv_iconst (v := iI 4) hx hb dX12_goesOn_470 (by decide +kernel) ?_
          refine x_iast hx hb hK hP hDD hS 35 1 wm35 rfl (by omega) (by decide) dX12_goesOn_471 ws35 (fun H locs hP hS => ?_)
          have hI := hI.st (j := 35) (i := ((A 0 53) - 1).toNat) (v := 4) (show (0 : Int) ≤ 4 ∧ 4 ≤ 5 from (by omega))
          refine lv_aload_n hx hb dX12_goesOn_472 rfl (lv_at hl 0 rfl) ?_
          obtain ⟨A721, hA721⟩ : ∃ A721 : St, A721 = (stA A716 35 ((A 0 53) - 1).toNat 4) := ⟨_, rfl⟩
          rw [← hA721] at hP hI
          have e_A721_4 : A721 0 4 = (A 0 4) := by rw [hA721]; exact e_A716_4
          have e_A721_5 : A721 0 5 = (A 0 5) := by rw [hA721]; exact e_A716_5
          have e_A721_8 : A721 0 8 = (A712 0 8) := by rw [hA721]; exact e_A716_8
          refine x_callv (As := []) (rest := []) ⟨hx, hb, hml, hown, hts⟩ (mb_X12_ahead l dC dI cB cI cJ cZ cQ q _ hI) (cwV 0 hts (goodV (wl_in_0 _ (List.mem_of_getElem? (i := 40) rfl)) (wl_in_0 _ (List.mem_of_getElem? (i := 41) rfl)) (wl_in_0 _ (List.mem_of_getElem? (i := 42) rfl)) (wl_in_0 _ (List.mem_of_getElem? (i := 8) rfl)) (wl_in_0 _ (List.mem_of_getElem? (i := 20) rfl))) rfl rfl rfl (by decide +kernel) ⟨Nat.le_of_ble_eq_true rfl, Nat.le_of_ble_eq_true rfl⟩) hK hDD hA0 hP hS 0 12 wm0 rfl rfl hl.1 (Nat.le_of_ble_eq_true rfl) dX12_goesOn_473 (fun A722 H locs hw723 hP hS => ?_)
          have ghw723 : q_X12_ahead A721 A722 := hw723
          obtain ⟨_, hI, hf724, hw723⟩ := hw723
          have r_A722_0_3 : (0 : Int) ≤ (A722 0 3) ∧ (A722 0 3) ≤ 3 := hI 0 3
          have r_A722_0_4 : (0 : Int) ≤ (A722 0 4) ∧ (A722 0 4) ≤ 1600 := hI 0 4
          have r_A722_0_5 : (0 : Int) ≤ (A722 0 5) ∧ (A722 0 5) ≤ 1600 := hI 0 5
          have r_A722_0_8 : (0 : Int) ≤ (A722 0 8) ∧ (A722 0 8) ≤ 5 := hI 0 8
          have hw723x := hw723.1
          have hw723y := hw723.2.1
          replace hw723 := Hd.mk hw723
          refine lv_aload_n hx hb dX12_goesOn_476 rfl (lv_at hl 0 rfl) ?_
          refine lv_iconst (v := iI 0) hx hb dX12_goesOn_477 (by decide +kernel) ?_
          refine x_put (D := (dC, dI)) (ci := 12) (v := .int (iI 0)) (ty := .boolean) (C := RX12) (T := TX12) (N := 85) hx hb hts hiX12 tyX12 tyX12_ok nmX12 hown hK hP hDD hS 0 wm0 rfl 57 (by decide) (hts _ (List.mem_cons_of_mem _ (wl_in_2 _ (List.mem_of_getElem? (i := 9) rfl)))) (fun _ h9 => h9) rfl (by decide +kernel) (by decide +kernel) rfl (Nat.le_of_ble_eq_true rfl) dX12_goesOn_478 (wf57 (v := 0)) (fun H locs hP hS => ?_)
          have hI := hI.st (j := 0) (i := 57) (v := 0) (show (0 : Int) ≤ 0 ∧ 0 ≤ 1 from (by omega))
          refine lv_iconst (v := iI 1) hx hb dX12_goesOn_481 (by decide +kernel) ?_
          obtain ⟨A725, hA725⟩ : ∃ A725 : St, A725 = (stA A722 0 57 0) := ⟨_, rfl⟩
          rw [← hA725] at hP hI
          have e_A725_4 : A725 0 4 = (A722 0 4) := by rw [hA725]; exact rfl
          have e_A725_5 : A725 0 5 = (A722 0 5) := by rw [hA725]; exact rfl
          have e_A725_8 : A725 0 8 = (A722 0 8) := by rw [hA725]; exact rfl
          have e_A721_46 : A721 0 46 = (A716 0 46) := by rw [hA721]; exact rfl
          have e_A722_46 : A722 0 46 = (A716 0 46) := (hf724.2 46 rfl).trans e_A721_46
          have e_A725_46 : A725 0 46 = (A716 0 46) := by rw [hA725]; exact e_A722_46
          have e_A721_47 : A721 0 47 = (A 0 47) := by rw [hA721]; exact e_A716_47
          have e_A722_47 : A722 0 47 = (A 0 47) := (hf724.2 47 rfl).trans e_A721_47
          have e_A725_47 : A725 0 47 = (A 0 47) := by rw [hA725]; exact e_A722_47
          have e_A725_57 : A725 0 57 = 0 := by rw [hA725]; rfl
          have ca726 : A558 35 = A 35 := (hj557.1 35 (by decide) rfl)
          have ca727 : A712 35 = A 35 := (hj711.1 35 (by decide) rfl).trans ca726
          have ca728 : A716 35 = A 35 := (hf718.1 35 (by decide) rfl).trans ca727
          have ca729 : A725 1 = A722 1 := by rw [hA725]; exact rfl
          have e_A725_3 : A725 0 3 = (A722 0 3) := by rw [hA725]; exact rfl
          have e_A725_7 : A725 0 7 = (A722 0 7) := by rw [hA725]; exact rfl
          have gs := f713.out (by omega)
          have hlt := RI.lt hp0 (by omega)
          have e35 : A721 35 = up (A716 35) (A716 0 53 - 1).toNat 4 := by rw [hA721]; show up (A716 35) _ _ = _; rw [e_A716_53]
          have ca730 : A722 35 = A721 35 := (hf724.1 35 (by decide) rfl)
          have ca731 : A725 35 = A721 35 := by rw [hA725]; exact ca730
          have ca732 : A721 29 = A716 29 := by rw [hA721]; exact rfl
          have ca733 : A722 29 = A716 29 := (hf724.1 29 (by decide) rfl).trans ca732
          have ca734 : A725 29 = A716 29 := by rw [hA725]; exact ca733
          have ca735 : A721 31 = A716 31 := by rw [hA721]; exact rfl
          have ca736 : A722 31 = A716 31 := (hf724.1 31 (by decide) rfl).trans ca735
          have ca737 : A725 31 = A716 31 := by rw [hA725]; exact ca736
          have ca738 : A721 33 = A716 33 := by rw [hA721]; exact rfl
          have ca739 : A722 33 = A716 33 := (hf724.1 33 (by decide) rfl).trans ca738
          have ca740 : A725 33 = A716 33 := by rw [hA725]; exact ca739
          have ca741 : A721 37 = A716 37 := by rw [hA721]; exact rfl
          have ca742 : A722 37 = A716 37 := (hf724.1 37 (by decide) rfl).trans ca741
          have ca743 : A725 37 = A716 37 := by rw [hA725]; exact ca742
          have ca744 : A721 39 = A716 39 := by rw [hA721]; exact rfl
          have ca745 : A722 39 = A716 39 := (hf724.1 39 (by decide) rfl).trans ca744
          have ca746 : A725 39 = A716 39 := by rw [hA725]; exact ca745
          have ca747 : A721 40 = A716 40 := by rw [hA721]; exact rfl
          have ca748 : A722 40 = A716 40 := (hf724.1 40 (by decide) rfl).trans ca747
          have ca749 : A725 40 = A716 40 := by rw [hA725]; exact ca748
          have e_A721_53 : A721 0 53 = (A 0 53) := by rw [hA721]; exact e_A716_53
          have e_A722_53 : A722 0 53 = (A 0 53) := (hf724.2 53 rfl).trans e_A721_53
          have e_A725_53 : A725 0 53 = (A 0 53) := by rw [hA725]; exact e_A722_53
          have e_A721_54 : A721 0 54 = (A 0 54) := by rw [hA721]; exact e_A716_54
          have e_A722_54 : A722 0 54 = (A 0 54) := (hf724.2 54 rfl).trans e_A721_54
          have e_A725_54 : A725 0 54 = (A 0 54) := by rw [hA725]; exact e_A722_54
          have e_A721_56 : A721 0 56 = (A716 0 56) := by rw [hA721]; exact rfl
          have e_A722_56 : A722 0 56 = (A716 0 56) := (hf724.2 56 rfl).trans e_A721_56
          have e_A725_56 : A725 0 56 = (A716 0 56) := by rw [hA725]; exact e_A722_56
          have ca750 : A721 38 = A716 38 := by rw [hA721]; exact rfl
          have ca751 : A722 38 = A716 38 := (hf724.1 38 (by decide) rfl).trans ca750
          have ca752 : A725 38 = A716 38 := by rw [hA725]; exact ca751
          exact RET 1 _ _ _ _ _ ⟨hk11 _ _ (u_d_X12_goesOn_11 ⟨gI714.out, (Or.inl ⟨c715, ⟨A716, ghw717, ⟨A721, hA721, ⟨A722, ghw723, ⟨A725, hA725, ⟨rfl, rfl⟩⟩⟩⟩⟩⟩)⟩), hI, fr_def hA725 (fr.sf (fr.trans (fr_def hA721 (fr.st (fr.trans (fr.trans (fr.trans (fr.rf) hj557 rfl rfl) hj711 rfl rfl) hf718 rfl rfl) (by decide) rfl)) hf724 rfl rfl) rfl), (CI.fr (CI.fr (CI.fr hc719 (fr_def hA721 (fr.st (fr.rf (M := [35]) (N := [])) (by decide) rfl)) rfl rfl) hf724 rfl rfl) (fr_def hA725 (fr.sf (fr.rf (M := []) (N := [57])) rfl)) rfl rfl), ⟨by decide, Hd.mk (fun h0 => ⟨fun _ => ⟨by rw [e_A725_57]; exact RI.comma hj1 hIj (by omega) (by rw [ca728, e_A716_53, ← hz1]; omega) ⟨ca734, ca737, ca740, (ca731.trans e35), ca743, ca746, ca749, e_A725_46, (e_A725_47.trans e_A716_47.symm), (e_A725_53.trans e_A716_53.symm), (e_A725_54.trans e_A716_54.symm), e_A725_56⟩ (by omega) (by omega) (LX.of ca729 e_A725_3 e_A725_4 e_A725_5 e_A725_7 hw723.out.2.2.1), ⟨PR.comma (PR.fr (PR.fr (PR.fr hp2 hj557 rfl rfl) hj711 rfl rfl) hf718 rfl rfl) (by rw [ca728, e_A716_53, ← hz1]; omega) (ca731.trans e35) (e_A725_53.trans e_A716_53.symm) ca752, (SP.fr (SP.fr (SP.fr hc720 (fr_def hA721 (fr.st (fr.rf (M := [35]) (N := [])) (by decide) rfl)) rfl rfl) hf724 rfl rfl) (fr_def hA725 (fr.sf (fr.rf (M := []) (N := [57])) rfl)) rfl rfl)⟩, by omega⟩, fun h => absurd h (by decide)⟩)⟩⟩ hP hS dX12_goesOn_482
        · have c715 : ¬ (A712 0 8) ≤ 0 := mt (i_le0 (rb r_A712_0_8 (by decide) (by decide))).mpr c715
          refine lv_iconst (v := iI 0) hx hb dX12_goesOn_458 (by decide +kernel) ?_
          have e_A558_4 : A558 0 4 = (A 0 4) := (hj557.2 4 rfl)
          have e_A712_4 : A712 0 4 = (A 0 4) := (hj711.2 4 rfl).trans e_A558_4
          have e_A558_5 : A558 0 5 = (A 0 5) := (hj557.2 5 rfl)
          have e_A712_5 : A712 0 5 = (A 0 5) := (hj711.2 5 rfl).trans e_A558_5
          have e_A558_46 : A558 0 46 = (A 0 46) := (hj557.2 46 rfl)
          have e_A712_46 : A712 0 46 = (A 0 46) := (hj711.2 46 rfl).trans e_A558_46
          have e_A558_47 : A558 0 47 = (A 0 47) := (hj557.2 47 rfl)
          have e_A712_47 : A712 0 47 = (A 0 47) := (hj711.2 47 rfl).trans e_A558_47
          have e_A558_57 : A558 0 57 = (A 0 57) := (hj557.2 57 rfl)
          have e_A712_57 : A712 0 57 = (A 0 57) := (hj711.2 57 rfl).trans e_A558_57
          have r_A_0_57 : (0 : Int) ≤ (A 0 57) ∧ (A 0 57) ≤ 1 := by rw [← e_A712_57]; exact hI 0 57
          exact RET 0 _ _ _ _ _ ⟨hk11 _ _ (u_d_X12_goesOn_11 ⟨gI714.out, (Or.inr ⟨c715, ⟨rfl, rfl⟩⟩)⟩), hI, fr.trans (fr.trans (fr.rf) hj557 rfl rfl) hj711 rfl rfl, (CI.fr (CI.fr hcCI hj557 rfl rfl) hj711 rfl rfl), ⟨by decide, Hd.mk (fun h => absurd h (by omega))⟩⟩ hP hS dX12_goesOn_459
      refine lv_if_ne (tgt := 451) hx hb dX12_goesOn_439 (by decide) (fun c706 => ?_) (fun c706 => ?_)
      · have c706 : ¬ z703 = 0 := mt (i_eq0 (rb rz703 (by decide) (by decide))).mpr c706
        have hw705b := hw705.out.mp (by omega)
        have r_A558_0_8 : (0 : Int) ≤ (A558 0 8) ∧ (A558 0 8) ≤ 5 := hI 0 8
        exact J451_707 _ _ _ _ (by exact Hd.mk (by  omega)) (fun zq uq hq => hk8 _ _ (u_d_X12_goesOn_8 ⟨hIv, (Or.inl ⟨c559, (Or.inr ⟨c560, ⟨z703, ghw705, (Or.inl ⟨c706, hq⟩)⟩⟩)⟩)⟩)) hI (fr.rf) hP hS (lv_sub hl [0, 1, 2] rfl)
      · have c706 : z703 = 0 := (i_eq0 (rb rz703 (by decide) (by decide))).mp c706
        refine lv_aload_n hx hb dX12_goesOn_442 rfl (lv_at hl 0 rfl) ?_
        refine lv_iconst (v := iI 1) hx hb dX12_goesOn_443 (by decide +kernel) ?_
        refine lv_aload_n hx hb dX12_goesOn_444 rfl (lv_at hl 0 rfl) ?_
        have e_A558_4 : A558 0 4 = (A 0 4) := (hj557.2 4 rfl)
        refine va_get (D := (dC, dI)) (ci := 12) (v := .int (iI (A558 0 4))) (C := RX12) (T := TX12) (N := 85) hx hb hts hiX12 hown hK hP 0 wm0 rfl 4 (by decide) (hts _ (List.mem_cons_of_mem _ (wl_in_0 _ (List.mem_of_getElem? (i := 23) rfl)))) (fun _ h9 => h9) rfl dX12_goesOn_445 ?_
        refine tp_i (y := iI (A 0 4)) (congrArg iI e_A558_4) ?_
        refine x_callv (As := [.int (iI 1), .int (iI (A 0 4))]) (rest := []) ⟨hx, hb, hml, hown, hts⟩ (mc_X12_blame l dC dI cB cI cJ cZ cQ q _ 1 (A 0 4) hI ⟨by decide, by decide⟩ r_A_0_4) (cwV 2 hts (goodV (wl_in_0 _ (List.mem_of_getElem? (i := 31) rfl)) (wl_in_0 _ (List.mem_of_getElem? (i := 32) rfl)) (wl_in_0 _ (List.mem_of_getElem? (i := 33) rfl)) (wl_in_0 _ (List.mem_of_getElem? (i := 8) rfl)) (wl_in_0 _ (List.mem_of_getElem? (i := 15) rfl))) rfl rfl rfl (by decide +kernel) ⟨Nat.le_of_ble_eq_true rfl, Nat.le_of_ble_eq_true rfl⟩) hK hDD hA0 hP hS 0 12 wm0 rfl rfl hl.1 (Nat.le_of_ble_eq_true rfl) dX12_goesOn_448 (fun A708 H locs hw709 hP hS => ?_)
        have ghw709 : q_X12_blame 1 (A 0 4) A558 A708 := hw709
        obtain ⟨_, hI, hf710, hw709⟩ := hw709
        have r_A708_0_8 : (0 : Int) ≤ (A708 0 8) ∧ (A708 0 8) ≤ 5 := hI 0 8
        have e_A708_3 : A708 0 3 = (A 0 3) := (hf710.2 3 rfl).trans e_A558_3
        exact J451_707 _ _ _ _ (by exact Hd.mk (by  omega)) (fun zq uq hq => hk8 _ _ (u_d_X12_goesOn_8 ⟨hIv, (Or.inl ⟨c559, (Or.inr ⟨c560, ⟨z703, ghw705, (Or.inr ⟨c706, ⟨A708, ghw709, hq⟩⟩)⟩⟩)⟩)⟩)) hI (fr.trans (fr.rf) hf710 rfl rfl) hP hS (lv_sub hl [0, 1, 2] rfl)
  · have c559 : ¬ 2 ≤ z1 := mt (i_le ⟨by decide, by decide⟩ (rb rz1 (by decide) (by decide))).mpr c559
    refine lv_aload_n hx hb dX12_goesOn_414 rfl (lv_at hl 0 rfl) ?_
    refine va_get (D := (dC, dI)) (ci := 12) (v := .int (iI (A558 0 8))) (C := RX12) (T := TX12) (N := 85) hx hb hts hiX12 hown hK hP 0 wm0 rfl 8 (by decide) (hts _ (List.mem_cons_of_mem _ (wl_in_0 _ (List.mem_of_getElem? (i := 16) rfl)))) (fun _ h9 => h9) rfl dX12_goesOn_415 ?_
    have r_A558_0_8 : (0 : Int) ≤ (A558 0 8) ∧ (A558 0 8) ≤ 5 := hI 0 8
    refine lv_if_ne (tgt := 426) hx hb dX12_goesOn_418 (by decide) (fun c753 => ?_) (fun c753 => ?_)
    · have c753 : ¬ (A558 0 8) = 0 := mt (i_eq0 (rb r_A558_0_8 (by decide) (by decide))).mpr c753
      refine lv_iconst (v := iI 0) hx hb dX12_goesOn_426 (by decide +kernel) ?_
      have e_A558_4 : A558 0 4 = (A 0 4) := (hj557.2 4 rfl)
      have e_A558_5 : A558 0 5 = (A 0 5) := (hj557.2 5 rfl)
      have e_A558_46 : A558 0 46 = (A 0 46) := (hj557.2 46 rfl)
      have e_A558_47 : A558 0 47 = (A 0 47) := (hj557.2 47 rfl)
      have e_A558_57 : A558 0 57 = (A 0 57) := (hj557.2 57 rfl)
      have r_A_0_57 : (0 : Int) ≤ (A 0 57) ∧ (A 0 57) ≤ 1 := by rw [← e_A558_57]; exact hI 0 57
      exact RET 0 _ _ _ _ _ ⟨hk8 _ _ (u_d_X12_goesOn_8 ⟨hIv, (Or.inr ⟨c559, (Or.inl ⟨c753, ⟨rfl, rfl⟩⟩)⟩)⟩), hI, fr.trans (fr.rf) hj557 rfl rfl, (CI.fr hcCI hj557 rfl rfl), ⟨by decide, Hd.mk (fun h => absurd h (by omega))⟩⟩ hP hS dX12_goesOn_427
    · have c753 : (A558 0 8) = 0 := (i_eq0 (rb r_A558_0_8 (by decide) (by decide))).mp c753
      refine lv_aload_n hx hb dX12_goesOn_421 rfl (lv_at hl 0 rfl) ?_
      refine lv_iconst (v := iI 1) hx hb dX12_goesOn_422 (by decide +kernel) ?_
      refine x_callv (As := [.int (iI 1)]) (rest := []) ⟨hx, hb, hml, hown, hts⟩ (mb_X12_joins l dC dI cB cI cJ cZ cQ q _ 1 hI ⟨by decide, by decide⟩ (by exact (RI1.fr hp0 hj557 rfl rfl)) (CI.fr hcCI hj557 rfl rfl) (SP.fr hp4 hj557 rfl rfl)) (cwV 1 hts (goodV (wl_in_2 _ (List.mem_of_getElem? (i := 10) rfl)) (wl_in_2 _ (List.mem_of_getElem? (i := 11) rfl)) (wl_in_2 _ (List.mem_of_getElem? (i := 12) rfl)) (wl_in_0 _ (List.mem_of_getElem? (i := 8) rfl)) (wl_in_1 _ (List.mem_of_getElem? (i := 34) rfl))) rfl rfl rfl (by decide +kernel) ⟨Nat.le_of_ble_eq_true rfl, Nat.le_of_ble_eq_true rfl⟩) hK hDD hA0 hP hS 0 12 wm0 rfl rfl hl.1 (Nat.le_of_ble_eq_true rfl) dX12_goesOn_423 (fun A754 H locs hw755 hP hS => ?_)
      have ghw755 : q_X12_joins 1 A558 A754 := hw755
      obtain ⟨_, hI, hf756, hw755⟩ := hw755
      obtain ⟨hc757, hw755⟩ := hw755
      obtain ⟨hc758, hw755⟩ := hw755
      have e_A558_53 : A558 0 53 = (A 0 53) := (hj557.2 53 rfl)
      have e_A754_53 : A754 0 53 = (A 0 53) := (hf756.2 53 rfl).trans e_A558_53
      have r_A754_0_56 : (0 : Int) ≤ (A754 0 56) ∧ (A754 0 56) ≤ 500 := hI 0 56
      have hj1 := hw755.1
      have hj2 := Hd.mk hw755.2
      clear hw755
      have hIj := hI
      have hrj := RI.room hj1 hIj
      have e_A558_3 : A558 0 3 = (A 0 3) := (hj557.2 3 rfl)
      have e_A754_3 : A754 0 3 = (A 0 3) := (hf756.2 3 rfl).trans e_A558_3
      have e_A558_4 : A558 0 4 = (A 0 4) := (hj557.2 4 rfl)
      have e_A754_4 : A754 0 4 = (A 0 4) := (hf756.2 4 rfl).trans e_A558_4
      have e_A558_5 : A558 0 5 = (A 0 5) := (hj557.2 5 rfl)
      have e_A754_5 : A754 0 5 = (A 0 5) := (hf756.2 5 rfl).trans e_A558_5
      have e_A558_7 : A558 0 7 = (A 0 7) := (hj557.2 7 rfl)
      have e_A754_7 : A754 0 7 = (A 0 7) := (hf756.2 7 rfl).trans e_A558_7
      have e_A754_8 : A754 0 8 = (A558 0 8) := (hf756.2 8 rfl)
      have e_A558_47 : A558 0 47 = (A 0 47) := (hj557.2 47 rfl)
      have e_A754_47 : A754 0 47 = (A 0 47) := (hf756.2 47 rfl).trans e_A558_47
      have e_A558_54 : A558 0 54 = (A 0 54) := (hj557.2 54 rfl)
      have e_A754_54 : A754 0 54 = (A 0 54) := (hf756.2 54 rfl).trans e_A558_54
      have r_A754_0_46 : (0 : Int) ≤ (A754 0 46) ∧ (A754 0 46) ≤ 1600 := hI 0 46
      refine lv_iconst (v := iI 0) hx hb dX12_goesOn_426 (by decide +kernel) ?_
      have e_A558_57 : A558 0 57 = (A 0 57) := (hj557.2 57 rfl)
      have e_A754_57 : A754 0 57 = (A 0 57) := (hf756.2 57 rfl).trans e_A558_57
      have r_A_0_57 : (0 : Int) ≤ (A 0 57) ∧ (A 0 57) ≤ 1 := by rw [← e_A754_57]; exact hI 0 57
      have ca759 : A558 35 = A 35 := (hj557.1 35 (by decide) rfl)
      have ca760 : A754 35 = A 35 := (hf756.1 35 (by decide) rfl).trans ca759
      exact RET 0 _ _ _ _ _ ⟨hk8 _ _ (u_d_X12_goesOn_8 ⟨hIv, (Or.inr ⟨c559, (Or.inr ⟨c753, ⟨A754, ghw755, ⟨rfl, rfl⟩⟩⟩)⟩)⟩), hI, fr.trans (fr.trans (fr.rf) hj557 rfl rfl) hf756 rfl rfl, hc757, ⟨by decide, Hd.mk (fun h0 => ⟨fun h => absurd h (by decide), fun _ => ⟨RI.done hj1 hIj (by rw [ca760, e_A754_53, ← hz1]; omega) (RI.full hj2.out), RI.cb hj1 hIj, by omega⟩⟩)⟩⟩ hP hS dX12_goesOn_427
set_option maxHeartbeats 4000000 in
set_option maxRecDepth 100000 in
theorem mb_X12_goesOn_c387 (l : Launch) (dC : Nat → ClassId) (dI : Nat → Nat → Nat) (cB cI cJ cZ cQ : ClassId) (q : Nat → Nat) (A : St) (hI : IM A) (hp0 : RI 1 A) (hp1 : A 0 8 = 0) (hp2 : PR A) (hp3 : A 0 57 = 1) (hp4 : SP A) (hcCI : CI A) (p : Program) (e : Env) (s : State) (m : MethodId) (below : List Frame) (meth : Method) (c : Code) (Q : State → Prop) (AS : Nat → Prop) (hx : p.tables.exec = Jvm.exec) (hb : c.code = cX12_goesOn) (hml : c.maxLocals = 5) (hown : s.vm.findClass RX12 = some m.cls) (hts : ∀ w ∈ ws_mb_X12_goesOn, w.before [.ref (q 0)].toArray s = true) (hK : va_K (dC, dI) vwCl (tyA cB cI cJ cZ cQ) s) (hDD : ∀ A', va_D AS (WM cI cJ cZ q A')) (hA0 : ∀ b : Nat, s.heap.size ≤ b → AS b) (RET : ∀ (z : Int) (u : St) (H : Heap) (locs : List Loc) (pc : Nat) (ls : Array Slot), ((fun z u => r_X12_goesOn A z u ∧ IM u ∧ fr [33, 34, 35, 36, 37, 40] [3, 4, 5, 6, 7, 8, 9, 46, 53, 54, 56, 57] A u ∧ CI u ∧ ((0 ≤ z ∧ z ≤ 1) ∧ (Hd (u 0 8 = 0 → (z = 1 → RI (u 0 57) u ∧ (PR u ∧ SP u) ∧ A 0 4 + 1 ≤ u 0 4) ∧ (z = 0 → DP (u 33) (sA u) (1600 * u 0 47 + u 0 46) 1 ∧ CB u ∧ A 0 4 ≤ u 0 4))))) z u) → va_P (dC, dI) vwCl (WM cI cJ cZ q u) H → va_S AS s.heap H locs → decode cX12_goesOn pc = .ok (.ireturn, 1) → W p l e (headSpec ws_mb_X12_goesOn ({ frames := 2, cells := 0, slots := 0, locals := 47 } : Room)).room s m [.ref (q 0)].toArray below meth c H locs 0 0 Q (F0 m pc ls [.int (iI z)])) (H : Heap) (locs : List Loc) (ls : Array Slot) (z1 z2 : Int) (rz1 : (0 : Int) ≤ z1 ∧ z1 ≤ 5) (rz2 : (0 : Int) ≤ z2 ∧ z2 ≤ 1) (hz1 : z1 = A 35 ((A 0 53) - 1).toNat) (hk7 : ∀ (z : Int) (u : St), (d_X12_goesOn_7 A z u z1 z2) → r_X12_goesOn A z u) (hP : va_P (dC, dI) vwCl (WM cI cJ cZ q A) H) (hS : va_S AS s.heap H locs) (hl : lv_has ls 5 [(0, .ref (q 0)), (1, .int (iI ((A 0 53) - 1))), (2, .int (iI z1)), (3, .int (iI z2))]) : W p l e (headSpec ws_mb_X12_goesOn ({ frames := 2, cells := 0, slots := 0, locals := 47 } : Room)).room s m [.ref (q 0)].toArray below meth c H locs 0 0 Q (F0 m 387 ls []) := by
  have hiX12 : ∀ w ∈ u_ws RX12 TX12 85, w ∈ ws_mb_X12_goesOn := fun w h => List.mem_cons_of_mem _ (wx_lay w h)
  have hI0 := hI
  have hdp := RI.deep hp0 hI0
  have hrm := RI.room hp0 hI0
  have r_A_0_3 : (0 : Int) ≤ (A 0 3) ∧ (A 0 3) ≤ 3 := hI 0 3
  have r_A_0_4 : (0 : Int) ≤ (A 0 4) ∧ (A 0 4) ≤ 1600 := hI 0 4
  have r_A_0_5 : (0 : Int) ≤ (A 0 5) ∧ (A 0 5) ≤ 1600 := hI 0 5
  have r_A_0_7 : (-9223372036854775808 : Int) ≤ (A 0 7) ∧ (A 0 7) ≤ 9223372036854775807 := hI 0 7
  have r_A_0_8 : (0 : Int) ≤ (A 0 8) ∧ (A 0 8) ≤ 5 := hI 0 8
  have r_A_0_46 : (0 : Int) ≤ (A 0 46) ∧ (A 0 46) ≤ 1600 := hI 0 46
  have r_A_0_47 : (0 : Int) ≤ (A 0 47) ∧ (A 0 47) ≤ 1 := hI 0 47
  have r_A_0_53 : (0 : Int) ≤ (A 0 53) ∧ (A 0 53) ≤ 20 := hI 0 53
  have r_A_0_54 : (0 : Int) ≤ (A 0 54) ∧ (A 0 54) ≤ 8 := hI 0 54
  have r_A_0_56 : (0 : Int) ≤ (A 0 56) ∧ (A 0 56) ≤ 500 := hI 0 56
  have hop := hp0.1
  refine lv_iload_n hx hb dX12_goesOn_387 rfl (lv_at hl 3 rfl) ?_
  refine lv_if_eq (tgt := 409) hx hb dX12_goesOn_388 (by decide) (fun c550 => ?_) (fun c550 => ?_)
  · have c550 : z2 = 0 := (i_eq0 (rb rz2 (by decide) (by decide))).mp c550
    exact mb_X12_goesOn_c409 l dC dI cB cI cJ cZ cQ q A hI0 hp0 hp1 hp2 hp3 hp4 hcCI p e s m below meth c Q AS hx hb hml hown hts hK hDD hA0 RET _ _ _ z1 (by omega) hz1 _ hI (fr.rf) (fun zq uq hq => hk7 _ _ (u_d_X12_goesOn_7 (Or.inl ⟨c550, hq⟩))) hP hS (lv_sub hl [0, 1, 2] rfl)
  · have c550 : ¬ z2 = 0 := mt (i_eq0 (rb rz2 (by decide) (by decide))).mpr c550
    refine lv_aload_n hx hb dX12_goesOn_391 rfl (lv_at hl 0 rfl) ?_
    refine va_get (D := (dC, dI)) (ci := 12) (v := .ref (q 36)) (C := RX12) (T := TX12) (N := 85) hx hb hts hiX12 hown hK hP 0 wm0 rfl 49 (by decide) (hts _ (List.mem_cons_of_mem _ (wl_in_1 _ (List.mem_of_getElem? (i := 47) rfl)))) (fun _ h9 => h9) rfl dX12_goesOn_392 ?_
    refine lv_iload_n hx hb dX12_goesOn_395 rfl (lv_at hl 1 rfl) ?_
    refine x_iald hx hb hK hP 36 1 wm36 rfl (by omega) (by decide) dX12_goesOn_396 (fun z552 hz552 => ?_)
    have rz552 : (0 : Int) ≤ z552 ∧ z552 ≤ 2 := by rw [hz552]; exact hI 36 _
    have gz552 := Hd.mk hz552
    have hz552 : z552 = A 36 ((A 0 53) - 1).toNat := hz552
    refine lv_if_ne (tgt := 409) hx hb dX12_goesOn_397 (by decide) (fun c553 => ?_) (fun c553 => ?_)
    · have c553 : ¬ z552 = 0 := mt (i_eq0 (rb rz552 (by decide) (by decide))).mpr c553
      exact mb_X12_goesOn_c409 l dC dI cB cI cJ cZ cQ q A hI0 hp0 hp1 hp2 hp3 hp4 hcCI p e s m below meth c Q AS hx hb hml hown hts hK hDD hA0 RET _ _ _ z1 (by omega) hz1 _ hI (fr.rf) (fun zq uq hq => hk7 _ _ (u_d_X12_goesOn_7 (Or.inr ⟨c550, ⟨z552, gz552.out, (Or.inl ⟨c553, hq⟩)⟩⟩))) hP hS (lv_sub hl [0, 1, 2] rfl)
    · have c553 : z552 = 0 := (i_eq0 (rb rz552 (by decide) (by decide))).mp c553
      refine lv_aload_n hx hb dX12_goesOn_400 rfl (lv_at hl 0 rfl) ?_
      refine lv_iconst (v := iI 1) hx hb dX12_goesOn_401 (by decide +kernel) ?_
      refine lv_aload_n hx hb dX12_goesOn_402 rfl (lv_at hl 0 rfl) ?_
      refine va_get (D := (dC, dI)) (ci := 12) (v := .int (iI (A 0 4))) (C := RX12) (T := TX12) (N := 85) hx hb hts hiX12 hown hK hP 0 wm0 rfl 4 (by decide) (hts _ (List.mem_cons_of_mem _ (wl_in_0 _ (List.mem_of_getElem? (i := 23) rfl)))) (fun _ h9 => h9) rfl dX12_goesOn_403 ?_
      refine x_callv (As := [.int (iI 1), .int (iI (A 0 4))]) (rest := []) ⟨hx, hb, hml, hown, hts⟩ (mc_X12_blame l dC dI cB cI cJ cZ cQ q _ 1 (A 0 4) hI ⟨by decide, by decide⟩ r_A_0_4) (cwV 2 hts (goodV (wl_in_0 _ (List.mem_of_getElem? (i := 31) rfl)) (wl_in_0 _ (List.mem_of_getElem? (i := 32) rfl)) (wl_in_0 _ (List.mem_of_getElem? (i := 33) rfl)) (wl_in_0 _ (List.mem_of_getElem? (i := 8) rfl)) (wl_in_0 _ (List.mem_of_getElem? (i := 15) rfl))) rfl rfl rfl (by decide +kernel) ⟨Nat.le_of_ble_eq_true rfl, Nat.le_of_ble_eq_true rfl⟩) hK hDD hA0 hP hS 0 12 wm0 rfl rfl hl.1 (Nat.le_of_ble_eq_true rfl) dX12_goesOn_406 (fun A554 H locs hw555 hP hS => ?_)
      have ghw555 : q_X12_blame 1 (A 0 4) A A554 := hw555
      obtain ⟨_, hI, hf556, hw555⟩ := hw555
      have r_A554_0_8 : (0 : Int) ≤ (A554 0 8) ∧ (A554 0 8) ≤ 5 := hI 0 8
      exact mb_X12_goesOn_c409 l dC dI cB cI cJ cZ cQ q A hI0 hp0 hp1 hp2 hp3 hp4 hcCI p e s m below meth c Q AS hx hb hml hown hts hK hDD hA0 RET _ _ _ z1 (by omega) hz1 _ hI (fr.trans (fr.rf) hf556 rfl rfl) (fun zq uq hq => hk7 _ _ (u_d_X12_goesOn_7 (Or.inr ⟨c550, ⟨z552, gz552.out, (Or.inr ⟨c553, ⟨A554, ghw555, hq⟩⟩)⟩⟩))) hP hS (lv_sub hl [0, 1, 2] rfl)
set_option maxHeartbeats 4000000 in
set_option maxRecDepth 100000 in
theorem mb_X12_goesOn_c272 (l : Launch) (dC : Nat → ClassId) (dI : Nat → Nat → Nat) (cB cI cJ cZ cQ : ClassId) (q : Nat → Nat) (A : St) (hI : IM A) (hp0 : RI 1 A) (hp1 : A 0 8 = 0) (hp2 : PR A) (hp3 : A 0 57 = 1) (hp4 : SP A) (hcCI : CI A) (p : Program) (e : Env) (s : State) (m : MethodId) (below : List Frame) (meth : Method) (c : Code) (Q : State → Prop) (AS : Nat → Prop) (hx : p.tables.exec = Jvm.exec) (hb : c.code = cX12_goesOn) (hml : c.maxLocals = 5) (hown : s.vm.findClass RX12 = some m.cls) (hts : ∀ w ∈ ws_mb_X12_goesOn, w.before [.ref (q 0)].toArray s = true) (hK : va_K (dC, dI) vwCl (tyA cB cI cJ cZ cQ) s) (hDD : ∀ A', va_D AS (WM cI cJ cZ q A')) (hA0 : ∀ b : Nat, s.heap.size ≤ b → AS b) (RET : ∀ (z : Int) (u : St) (H : Heap) (locs : List Loc) (pc : Nat) (ls : Array Slot), ((fun z u => r_X12_goesOn A z u ∧ IM u ∧ fr [33, 34, 35, 36, 37, 40] [3, 4, 5, 6, 7, 8, 9, 46, 53, 54, 56, 57] A u ∧ CI u ∧ ((0 ≤ z ∧ z ≤ 1) ∧ (Hd (u 0 8 = 0 → (z = 1 → RI (u 0 57) u ∧ (PR u ∧ SP u) ∧ A 0 4 + 1 ≤ u 0 4) ∧ (z = 0 → DP (u 33) (sA u) (1600 * u 0 47 + u 0 46) 1 ∧ CB u ∧ A 0 4 ≤ u 0 4))))) z u) → va_P (dC, dI) vwCl (WM cI cJ cZ q u) H → va_S AS s.heap H locs → decode cX12_goesOn pc = .ok (.ireturn, 1) → W p l e (headSpec ws_mb_X12_goesOn ({ frames := 2, cells := 0, slots := 0, locals := 47 } : Room)).room s m [.ref (q 0)].toArray below meth c H locs 0 0 Q (F0 m pc ls [.int (iI z)])) (H : Heap) (locs : List Loc) (ls : Array Slot) (z1 z2 : Int) (rz1 : (0 : Int) ≤ z1 ∧ z1 ≤ 5) (rz2 : (0 : Int) ≤ z2 ∧ z2 ≤ 1) (hz1 : z1 = A 35 ((A 0 53) - 1).toNat) (hk4 : ∀ (z : Int) (u : St), (d_X12_goesOn_4 A z u z1 z2) → r_X12_goesOn A z u) (hP : va_P (dC, dI) vwCl (WM cI cJ cZ q A) H) (hS : va_S AS s.heap H locs) (hl : lv_has ls 5 [(0, .ref (q 0)), (1, .int (iI ((A 0 53) - 1))), (2, .int (iI z1)), (3, .int (iI z2))]) : W p l e (headSpec ws_mb_X12_goesOn ({ frames := 2, cells := 0, slots := 0, locals := 47 } : Room)).room s m [.ref (q 0)].toArray below meth c H locs 0 0 Q (F0 m 272 ls []) := by
  have hiX12 : ∀ w ∈ u_ws RX12 TX12 85, w ∈ ws_mb_X12_goesOn := fun w h => List.mem_cons_of_mem _ (wx_lay w h)
  have hI0 := hI
  have hdp := RI.deep hp0 hI0
  have hrm := RI.room hp0 hI0
  have r_A_0_3 : (0 : Int) ≤ (A 0 3) ∧ (A 0 3) ≤ 3 := hI 0 3
  have r_A_0_4 : (0 : Int) ≤ (A 0 4) ∧ (A 0 4) ≤ 1600 := hI 0 4
  have r_A_0_5 : (0 : Int) ≤ (A 0 5) ∧ (A 0 5) ≤ 1600 := hI 0 5
  have r_A_0_7 : (-9223372036854775808 : Int) ≤ (A 0 7) ∧ (A 0 7) ≤ 9223372036854775807 := hI 0 7
  have r_A_0_8 : (0 : Int) ≤ (A 0 8) ∧ (A 0 8) ≤ 5 := hI 0 8
  have r_A_0_46 : (0 : Int) ≤ (A 0 46) ∧ (A 0 46) ≤ 1600 := hI 0 46
  have r_A_0_47 : (0 : Int) ≤ (A 0 47) ∧ (A 0 47) ≤ 1 := hI 0 47
  have r_A_0_53 : (0 : Int) ≤ (A 0 53) ∧ (A 0 53) ≤ 20 := hI 0 53
  have r_A_0_54 : (0 : Int) ≤ (A 0 54) ∧ (A 0 54) ≤ 8 := hI 0 54
  have r_A_0_56 : (0 : Int) ≤ (A 0 56) ∧ (A 0 56) ≤ 500 := hI 0 56
  have hop := hp0.1
  refine lv_iload_n hx hb dX12_goesOn_272 rfl (lv_at hl 3 rfl) ?_
  refine lv_if_eq (tgt := 387) hx hb dX12_goesOn_273 (by decide) (fun c424 => ?_) (fun c424 => ?_)
  · have c424 : z2 = 0 := (i_eq0 (rb rz2 (by decide) (by decide))).mp c424
    exact mb_X12_goesOn_c387 l dC dI cB cI cJ cZ cQ q A hI0 hp0 hp1 hp2 hp3 hp4 hcCI p e s m below meth c Q AS hx hb hml hown hts hK hDD hA0 RET _ _ _ z1 z2 (by omega) (by omega) hz1 (fun zq uq hq => hk4 _ _ (u_d_X12_goesOn_4 (Or.inl ⟨c424, hq⟩))) hP hS (lv_sub hl [0, 1, 2, 3] rfl)
  · have c424 : ¬ z2 = 0 := mt (i_eq0 (rb rz2 (by decide) (by decide))).mpr c424
    refine lv_aload_n hx hb dX12_goesOn_276 rfl (lv_at hl 0 rfl) ?_
    refine lv_ldc2 (v := 6385252) hx hb hown (hts _ (List.mem_cons_of_mem _ (wl_in_1 _ (List.mem_of_getElem? (i := 1) rfl)))) dX12_goesOn_277 ?_
    refine tp_l (y := jI 6385252) (by decide +kernel) ?_
    refine x_calli (As := [.long (jI 6385252)]) (rest := []) ⟨hx, hb, hml, hown, hts⟩ (mb_X12_isWord l dC dI cB cI cJ cZ cQ q _ 6385252 hI ⟨by decide, by decide⟩) (cwV 1 hts (goodV (wl_in_1 _ (List.mem_of_getElem? (i := 59) rfl)) (wl_in_2 _ (List.mem_of_getElem? (i := 0) rfl)) (wl_in_2 _ (List.mem_of_getElem? (i := 1) rfl)) (wl_in_0 _ (List.mem_of_getElem? (i := 8) rfl)) (wl_in_0 _ (List.mem_of_getElem? (i := 35) rfl))) rfl rfl rfl (by decide +kernel) ⟨Nat.le_of_ble_eq_true rfl, Nat.le_of_ble_eq_true rfl⟩) hK hDD hA0 hP hS 0 12 wm0 rfl rfl hl.1 (Nat.le_of_ble_eq_true rfl) dX12_goesOn_280 (fun z426 A427 H locs hw428 hP hS => ?_)
    obtain ⟨rfl, hw428⟩ := hw428
    have ghw428 : q_X12_isWord 6385252 A z426 := hw428
    have hw428 := hw428.2
    have rz426 : 0 ≤ z426 ∧ z426 ≤ 1 := hw428.1
    replace hw428 := Hd.mk hw428.2
    refine lv_if_ne (tgt := 296) hx hb dX12_goesOn_283 (by decide) (fun c429 => ?_) (fun c429 => ?_)
    · have c429 : ¬ z426 = 0 := mt (i_eq0 (rb rz426 (by decide) (by decide))).mpr c429
      have hw428b := hw428.out.mp (by omega)
      exact mb_X12_goesOn_c296 l dC dI cB cI cJ cZ cQ q A hI0 hp0 hp1 hp2 hp3 hp4 hcCI p e s m below meth c Q AS hx hb hml hown hts hK hDD hA0 RET _ _ _ z1 z2 (by omega) (by omega) hz1 (by omega) (fun zq uq hq => hk4 _ _ (u_d_X12_goesOn_4 (Or.inr ⟨c424, ⟨z426, ghw428, (Or.inl ⟨c429, hq⟩)⟩⟩))) hP hS (lv_sub hl [0, 1, 2, 3] rfl)
    · have c429 : z426 = 0 := (i_eq0 (rb rz426 (by decide) (by decide))).mp c429
      refine lv_aload_n hx hb dX12_goesOn_286 rfl (lv_at hl 0 rfl) ?_
      refine lv_ldc2 (v := 28530) hx hb hown (hts _ (List.mem_cons_of_mem _ (wl_in_1 _ (List.mem_of_getElem? (i := 0) rfl)))) dX12_goesOn_287 ?_
      refine tp_l (y := jI 28530) (by decide +kernel) ?_
      refine x_calli (As := [.long (jI 28530)]) (rest := []) ⟨hx, hb, hml, hown, hts⟩ (mb_X12_isWord l dC dI cB cI cJ cZ cQ q _ 28530 hI ⟨by decide, by decide⟩) (cwV 1 hts (goodV (wl_in_1 _ (List.mem_of_getElem? (i := 59) rfl)) (wl_in_2 _ (List.mem_of_getElem? (i := 0) rfl)) (wl_in_2 _ (List.mem_of_getElem? (i := 1) rfl)) (wl_in_0 _ (List.mem_of_getElem? (i := 8) rfl)) (wl_in_0 _ (List.mem_of_getElem? (i := 35) rfl))) rfl rfl rfl (by decide +kernel) ⟨Nat.le_of_ble_eq_true rfl, Nat.le_of_ble_eq_true rfl⟩) hK hDD hA0 hP hS 0 12 wm0 rfl rfl hl.1 (Nat.le_of_ble_eq_true rfl) dX12_goesOn_290 (fun z431 A432 H locs hw433 hP hS => ?_)
      obtain ⟨rfl, hw433⟩ := hw433
      have ghw433 : q_X12_isWord 28530 A z431 := hw433
      have hw433 := hw433.2
      have rz431 : 0 ≤ z431 ∧ z431 ≤ 1 := hw433.1
      replace hw433 := Hd.mk hw433.2
      refine lv_if_eq (tgt := 387) hx hb dX12_goesOn_293 (by decide) (fun c434 => ?_) (fun c434 => ?_)
      · have c434 : z431 = 0 := (i_eq0 (rb rz431 (by decide) (by decide))).mp c434
        exact mb_X12_goesOn_c387 l dC dI cB cI cJ cZ cQ q A hI0 hp0 hp1 hp2 hp3 hp4 hcCI p e s m below meth c Q AS hx hb hml hown hts hK hDD hA0 RET _ _ _ z1 z2 (by omega) (by omega) hz1 (fun zq uq hq => hk4 _ _ (u_d_X12_goesOn_4 (Or.inr ⟨c424, ⟨z426, ghw428, (Or.inr ⟨c429, ⟨z431, ghw433, (Or.inl ⟨c434, hq⟩)⟩⟩)⟩⟩))) hP hS (lv_sub hl [0, 1, 2, 3] rfl)
      · have c434 : ¬ z431 = 0 := mt (i_eq0 (rb rz431 (by decide) (by decide))).mpr c434
        have hw433b := hw433.out.mp (by omega)
        exact mb_X12_goesOn_c296 l dC dI cB cI cJ cZ cQ q A hI0 hp0 hp1 hp2 hp3 hp4 hcCI p e s m below meth c Q AS hx hb hml hown hts hK hDD hA0 RET _ _ _ z1 z2 (by omega) (by omega) hz1 (by omega) (fun zq uq hq => hk4 _ _ (u_d_X12_goesOn_4 (Or.inr ⟨c424, ⟨z426, ghw428, (Or.inr ⟨c429, ⟨z431, ghw433, (Or.inr ⟨c434, hq⟩)⟩⟩)⟩⟩))) hP hS (lv_sub hl [0, 1, 2, 3] rfl)
set_option maxHeartbeats 4000000 in
set_option maxRecDepth 100000 in
theorem mb_X12_goesOn_c175 (l : Launch) (dC : Nat → ClassId) (dI : Nat → Nat → Nat) (cB cI cJ cZ cQ : ClassId) (q : Nat → Nat) (A : St) (hI : IM A) (hp0 : RI 1 A) (hp1 : A 0 8 = 0) (hp2 : PR A) (hp3 : A 0 57 = 1) (hp4 : SP A) (hcCI : CI A) (p : Program) (e : Env) (s : State) (m : MethodId) (below : List Frame) (meth : Method) (c : Code) (Q : State → Prop) (AS : Nat → Prop) (hx : p.tables.exec = Jvm.exec) (hb : c.code = cX12_goesOn) (hml : c.maxLocals = 5) (hown : s.vm.findClass RX12 = some m.cls) (hts : ∀ w ∈ ws_mb_X12_goesOn, w.before [.ref (q 0)].toArray s = true) (hK : va_K (dC, dI) vwCl (tyA cB cI cJ cZ cQ) s) (hDD : ∀ A', va_D AS (WM cI cJ cZ q A')) (hA0 : ∀ b : Nat, s.heap.size ≤ b → AS b) (RET : ∀ (z : Int) (u : St) (H : Heap) (locs : List Loc) (pc : Nat) (ls : Array Slot), ((fun z u => r_X12_goesOn A z u ∧ IM u ∧ fr [33, 34, 35, 36, 37, 40] [3, 4, 5, 6, 7, 8, 9, 46, 53, 54, 56, 57] A u ∧ CI u ∧ ((0 ≤ z ∧ z ≤ 1) ∧ (Hd (u 0 8 = 0 → (z = 1 → RI (u 0 57) u ∧ (PR u ∧ SP u) ∧ A 0 4 + 1 ≤ u 0 4) ∧ (z = 0 → DP (u 33) (sA u) (1600 * u 0 47 + u 0 46) 1 ∧ CB u ∧ A 0 4 ≤ u 0 4))))) z u) → va_P (dC, dI) vwCl (WM cI cJ cZ q u) H → va_S AS s.heap H locs → decode cX12_goesOn pc = .ok (.ireturn, 1) → W p l e (headSpec ws_mb_X12_goesOn ({ frames := 2, cells := 0, slots := 0, locals := 47 } : Room)).room s m [.ref (q 0)].toArray below meth c H locs 0 0 Q (F0 m pc ls [.int (iI z)])) (H : Heap) (locs : List Loc) (ls : Array Slot) (z1 z2 : Int) (rz1 : (0 : Int) ≤ z1 ∧ z1 ≤ 5) (rz2 : (0 : Int) ≤ z2 ∧ z2 ≤ 1) (hz1 : z1 = A 35 ((A 0 53) - 1).toNat) (hk2 : ∀ (z : Int) (u : St), (d_X12_goesOn_2 A z u z1 z2) → r_X12_goesOn A z u) (hP : va_P (dC, dI) vwCl (WM cI cJ cZ q A) H) (hS : va_S AS s.heap H locs) (hl : lv_has ls 5 [(0, .ref (q 0)), (1, .int (iI ((A 0 53) - 1))), (2, .int (iI z1)), (3, .int (iI z2))]) : W p l e (headSpec ws_mb_X12_goesOn ({ frames := 2, cells := 0, slots := 0, locals := 47 } : Room)).room s m [.ref (q 0)].toArray below meth c H locs 0 0 Q (F0 m 175 ls []) := by
  have hiX12 : ∀ w ∈ u_ws RX12 TX12 85, w ∈ ws_mb_X12_goesOn := fun w h => List.mem_cons_of_mem _ (wx_lay w h)
  have hI0 := hI
  have hdp := RI.deep hp0 hI0
  have hrm := RI.room hp0 hI0
  have r_A_0_3 : (0 : Int) ≤ (A 0 3) ∧ (A 0 3) ≤ 3 := hI 0 3
  have r_A_0_4 : (0 : Int) ≤ (A 0 4) ∧ (A 0 4) ≤ 1600 := hI 0 4
  have r_A_0_5 : (0 : Int) ≤ (A 0 5) ∧ (A 0 5) ≤ 1600 := hI 0 5
  have r_A_0_7 : (-9223372036854775808 : Int) ≤ (A 0 7) ∧ (A 0 7) ≤ 9223372036854775807 := hI 0 7
  have r_A_0_8 : (0 : Int) ≤ (A 0 8) ∧ (A 0 8) ≤ 5 := hI 0 8
  have r_A_0_46 : (0 : Int) ≤ (A 0 46) ∧ (A 0 46) ≤ 1600 := hI 0 46
  have r_A_0_47 : (0 : Int) ≤ (A 0 47) ∧ (A 0 47) ≤ 1 := hI 0 47
  have r_A_0_53 : (0 : Int) ≤ (A 0 53) ∧ (A 0 53) ≤ 20 := hI 0 53
  have r_A_0_54 : (0 : Int) ≤ (A 0 54) ∧ (A 0 54) ≤ 8 := hI 0 54
  have r_A_0_56 : (0 : Int) ≤ (A 0 56) ∧ (A 0 56) ≤ 500 := hI 0 56
  have hop := hp0.1
  refine lv_iload_n hx hb dX12_goesOn_175 rfl (lv_at hl 3 rfl) ?_
  refine lv_if_eq (tgt := 272) hx hb dX12_goesOn_176 (by decide) (fun c257 => ?_) (fun c257 => ?_)
  · have c257 : z2 = 0 := (i_eq0 (rb rz2 (by decide) (by decide))).mp c257
    exact mb_X12_goesOn_c272 l dC dI cB cI cJ cZ cQ q A hI0 hp0 hp1 hp2 hp3 hp4 hcCI p e s m below meth c Q AS hx hb hml hown hts hK hDD hA0 RET _ _ _ z1 z2 (by omega) (by omega) hz1 (fun zq uq hq => hk2 _ _ (u_d_X12_goesOn_2 (Or.inl ⟨c257, hq⟩))) hP hS (lv_sub hl [0, 1, 2, 3] rfl)
  · have c257 : ¬ z2 = 0 := mt (i_eq0 (rb rz2 (by decide) (by decide))).mpr c257
    refine lv_aload_n hx hb dX12_goesOn_179 rfl (lv_at hl 0 rfl) ?_
    refine va_get (D := (dC, dI)) (ci := 12) (v := .ref (q 36)) (C := RX12) (T := TX12) (N := 85) hx hb hts hiX12 hown hK hP 0 wm0 rfl 49 (by decide) (hts _ (List.mem_cons_of_mem _ (wl_in_1 _ (List.mem_of_getElem? (i := 47) rfl)))) (fun _ h9 => h9) rfl dX12_goesOn_180 ?_
    refine lv_iload_n hx hb dX12_goesOn_183 rfl (lv_at hl 1 rfl) ?_
    refine x_iald hx hb hK hP 36 1 wm36 rfl (by omega) (by decide) dX12_goesOn_184 (fun z259 hz259 => ?_)
    have rz259 : (0 : Int) ≤ z259 ∧ z259 ≤ 2 := by rw [hz259]; exact hI 36 _
    have gz259 := Hd.mk hz259
    have hz259 : z259 = A 36 ((A 0 53) - 1).toNat := hz259
    refine lv_if_ne (tgt := 272) hx hb dX12_goesOn_185 (by decide) (fun c260 => ?_) (fun c260 => ?_)
    · have c260 : ¬ z259 = 0 := mt (i_eq0 (rb rz259 (by decide) (by decide))).mpr c260
      exact mb_X12_goesOn_c272 l dC dI cB cI cJ cZ cQ q A hI0 hp0 hp1 hp2 hp3 hp4 hcCI p e s m below meth c Q AS hx hb hml hown hts hK hDD hA0 RET _ _ _ z1 z2 (by omega) (by omega) hz1 (fun zq uq hq => hk2 _ _ (u_d_X12_goesOn_2 (Or.inr ⟨c257, ⟨z259, gz259.out, (Or.inl ⟨c260, hq⟩)⟩⟩))) hP hS (lv_sub hl [0, 1, 2, 3] rfl)
    · have c260 : z259 = 0 := (i_eq0 (rb rz259 (by decide) (by decide))).mp c260
      refine lv_aload_n hx hb dX12_goesOn_188 rfl (lv_at hl 0 rfl) ?_
      refine lv_bipush (v := iI 60) hx hb dX12_goesOn_189 (by decide +kernel) ?_
      have r_A_0_6 : (-2147483648 : Int) ≤ (A 0 6) ∧ (A 0 6) ≤ 2147483647 := hI 0 6
      refine x_calli (As := [.int (iI 60)]) (rest := []) ⟨hx, hb, hml, hown, hts⟩ (mb_X12_isSign l dC dI cB cI cJ cZ cQ q _ 60 hI ⟨by decide, by decide⟩) (cwV 1 hts (goodV (wl_in_0 _ (List.mem_of_getElem? (i := 37) rfl)) (wl_in_0 _ (List.mem_of_getElem? (i := 38) rfl)) (wl_in_0 _ (List.mem_of_getElem? (i := 39) rfl)) (wl_in_0 _ (List.mem_of_getElem? (i := 8) rfl)) (wl_in_0 _ (List.mem_of_getElem? (i := 34) rfl))) rfl rfl rfl (by decide +kernel) ⟨Nat.le_of_ble_eq_true rfl, Nat.le_of_ble_eq_true rfl⟩) hK hDD hA0 hP hS 0 12 wm0 rfl rfl hl.1 (Nat.le_of_ble_eq_true rfl) dX12_goesOn_191 (fun z261 A262 H locs hw263 hP hS => ?_)
      obtain ⟨rfl, hw263⟩ := hw263
      have ghw263 : q_X12_isSign 60 A z261 := hw263
      have hw263 := hw263.2
      have rz261 : 0 ≤ z261 ∧ z261 ≤ 1 := hw263.1
      replace hw263 := Hd.mk hw263.2
      refine lv_if_ne (tgt := 215) hx hb dX12_goesOn_194 (by decide) (fun c264 => ?_) (fun c264 => ?_)
      · have c264 : ¬ z261 = 0 := mt (i_eq0 (rb rz261 (by decide) (by decide))).mpr c264
        have hw263b := hw263.out.mp (by omega)
        exact mb_X12_goesOn_c215 l dC dI cB cI cJ cZ cQ q A hI0 hp0 hp1 hp2 hp3 hp4 hcCI p e s m below meth c Q AS hx hb hml hown hts hK hDD hA0 RET _ _ _ z1 z2 (by omega) (by omega) hz1 (by omega) (by omega) (fun zq uq hq => hk2 _ _ (u_d_X12_goesOn_2 (Or.inr ⟨c257, ⟨z259, gz259.out, (Or.inr ⟨c260, ⟨z261, ghw263, (Or.inl ⟨c264, hq⟩)⟩⟩)⟩⟩))) hP hS (lv_sub hl [0, 1, 2, 3] rfl)
      · have c264 : z261 = 0 := (i_eq0 (rb rz261 (by decide) (by decide))).mp c264
        refine lv_aload_n hx hb dX12_goesOn_197 rfl (lv_at hl 0 rfl) ?_
        refine lv_bipush (v := iI 62) hx hb dX12_goesOn_198 (by decide +kernel) ?_
        refine x_calli (As := [.int (iI 62)]) (rest := []) ⟨hx, hb, hml, hown, hts⟩ (mb_X12_isSign l dC dI cB cI cJ cZ cQ q _ 62 hI ⟨by decide, by decide⟩) (cwV 1 hts (goodV (wl_in_0 _ (List.mem_of_getElem? (i := 37) rfl)) (wl_in_0 _ (List.mem_of_getElem? (i := 38) rfl)) (wl_in_0 _ (List.mem_of_getElem? (i := 39) rfl)) (wl_in_0 _ (List.mem_of_getElem? (i := 8) rfl)) (wl_in_0 _ (List.mem_of_getElem? (i := 34) rfl))) rfl rfl rfl (by decide +kernel) ⟨Nat.le_of_ble_eq_true rfl, Nat.le_of_ble_eq_true rfl⟩) hK hDD hA0 hP hS 0 12 wm0 rfl rfl hl.1 (Nat.le_of_ble_eq_true rfl) dX12_goesOn_200 (fun z266 A267 H locs hw268 hP hS => ?_)
        obtain ⟨rfl, hw268⟩ := hw268
        have ghw268 : q_X12_isSign 62 A z266 := hw268
        have hw268 := hw268.2
        have rz266 : 0 ≤ z266 ∧ z266 ≤ 1 := hw268.1
        replace hw268 := Hd.mk hw268.2
        refine lv_if_ne (tgt := 215) hx hb dX12_goesOn_203 (by decide) (fun c269 => ?_) (fun c269 => ?_)
        · have c269 : ¬ z266 = 0 := mt (i_eq0 (rb rz266 (by decide) (by decide))).mpr c269
          have hw268b := hw268.out.mp (by omega)
          exact mb_X12_goesOn_c215 l dC dI cB cI cJ cZ cQ q A hI0 hp0 hp1 hp2 hp3 hp4 hcCI p e s m below meth c Q AS hx hb hml hown hts hK hDD hA0 RET _ _ _ z1 z2 (by omega) (by omega) hz1 (by omega) (by omega) (fun zq uq hq => hk2 _ _ (u_d_X12_goesOn_2 (Or.inr ⟨c257, ⟨z259, gz259.out, (Or.inr ⟨c260, ⟨z261, ghw263, (Or.inr ⟨c264, ⟨z266, ghw268, (Or.inl ⟨c269, hq⟩)⟩⟩)⟩⟩)⟩⟩))) hP hS (lv_sub hl [0, 1, 2, 3] rfl)
        · have c269 : z266 = 0 := (i_eq0 (rb rz266 (by decide) (by decide))).mp c269
          refine lv_aload_n hx hb dX12_goesOn_206 rfl (lv_at hl 0 rfl) ?_
          refine lv_bipush (v := iI 61) hx hb dX12_goesOn_207 (by decide +kernel) ?_
          refine x_calli (As := [.int (iI 61)]) (rest := []) ⟨hx, hb, hml, hown, hts⟩ (mb_X12_isSign l dC dI cB cI cJ cZ cQ q _ 61 hI ⟨by decide, by decide⟩) (cwV 1 hts (goodV (wl_in_0 _ (List.mem_of_getElem? (i := 37) rfl)) (wl_in_0 _ (List.mem_of_getElem? (i := 38) rfl)) (wl_in_0 _ (List.mem_of_getElem? (i := 39) rfl)) (wl_in_0 _ (List.mem_of_getElem? (i := 8) rfl)) (wl_in_0 _ (List.mem_of_getElem? (i := 34) rfl))) rfl rfl rfl (by decide +kernel) ⟨Nat.le_of_ble_eq_true rfl, Nat.le_of_ble_eq_true rfl⟩) hK hDD hA0 hP hS 0 12 wm0 rfl rfl hl.1 (Nat.le_of_ble_eq_true rfl) dX12_goesOn_209 (fun z270 A271 H locs hw272 hP hS => ?_)
          obtain ⟨rfl, hw272⟩ := hw272
          have ghw272 : q_X12_isSign 61 A z270 := hw272
          have hw272 := hw272.2
          have rz270 : 0 ≤ z270 ∧ z270 ≤ 1 := hw272.1
          replace hw272 := Hd.mk hw272.2
          refine lv_if_eq (tgt := 272) hx hb dX12_goesOn_212 (by decide) (fun c273 => ?_) (fun c273 => ?_)
          · have c273 : z270 = 0 := (i_eq0 (rb rz270 (by decide) (by decide))).mp c273
            exact mb_X12_goesOn_c272 l dC dI cB cI cJ cZ cQ q A hI0 hp0 hp1 hp2 hp3 hp4 hcCI p e s m below meth c Q AS hx hb hml hown hts hK hDD hA0 RET _ _ _ z1 z2 (by omega) (by omega) hz1 (fun zq uq hq => hk2 _ _ (u_d_X12_goesOn_2 (Or.inr ⟨c257, ⟨z259, gz259.out, (Or.inr ⟨c260, ⟨z261, ghw263, (Or.inr ⟨c264, ⟨z266, ghw268, (Or.inr ⟨c269, ⟨z270, ghw272, (Or.inl ⟨c273, hq⟩)⟩⟩)⟩⟩)⟩⟩)⟩⟩))) hP hS (lv_sub hl [0, 1, 2, 3] rfl)
          · have c273 : ¬ z270 = 0 := mt (i_eq0 (rb rz270 (by decide) (by decide))).mpr c273
            have hw272b := hw272.out.mp (by omega)
            exact mb_X12_goesOn_c215 l dC dI cB cI cJ cZ cQ q A hI0 hp0 hp1 hp2 hp3 hp4 hcCI p e s m below meth c Q AS hx hb hml hown hts hK hDD hA0 RET _ _ _ z1 z2 (by omega) (by omega) hz1 (by omega) (by omega) (fun zq uq hq => hk2 _ _ (u_d_X12_goesOn_2 (Or.inr ⟨c257, ⟨z259, gz259.out, (Or.inr ⟨c260, ⟨z261, ghw263, (Or.inr ⟨c264, ⟨z266, ghw268, (Or.inr ⟨c269, ⟨z270, ghw272, (Or.inr ⟨c273, hq⟩)⟩⟩)⟩⟩)⟩⟩)⟩⟩))) hP hS (lv_sub hl [0, 1, 2, 3] rfl)
set_option maxHeartbeats 4000000 in
set_option maxRecDepth 100000 in
theorem mb_X12_goesOn (l : Launch) (dC : Nat → ClassId) (dI : Nat → Nat → Nat) (cB cI cJ cZ cQ : ClassId) (q : Nat → Nat) (A : St) (hI : IM A) (hp0 : RI 1 A) (hp1 : A 0 8 = 0) (hp2 : PR A) (hp3 : A 0 57 = 1) (hp4 : SP A) (hcCI : CI A) : XMi l yX12_goesOn ws_mb_X12_goesOn ({ frames := 2, cells := 0, slots := 0, locals := 47 } : Room) (dC, dI) (tyA cB cI cJ cZ cQ) (WM cI cJ cZ q) A [.ref (q 0)] (fun z u => r_X12_goesOn A z u ∧ IM u ∧ fr [33, 34, 35, 36, 37, 40] [3, 4, 5, 6, 7, 8, 9, 46, 53, 54, 56, 57] A u ∧ CI u ∧ ((0 ≤ z ∧ z ≤ 1) ∧ (Hd (u 0 8 = 0 → (z = 1 → RI (u 0 57) u ∧ (PR u ∧ SP u) ∧ A 0 4 + 1 ≤ u 0 4) ∧ (z = 0 → DP (u 33) (sA u) (1600 * u 0 47 + u 0 46) 1 ∧ CB u ∧ A 0 4 ≤ u 0 4))))) := by
  refine x_metz (cc := cX12_goesOn) (maxL := 5) WM_adr (by decide +kernel) rfl (Nat.le_of_ble_eq_true rfl) (fun z u h => h.2.2.2.2.1) (fun p e s m below meth c Q AS ls hx hb hml hown hts hK hDD hA0 hP hS hl RET => ?_)
  have hown : s.vm.findClass RX12 = some m.cls := hown
  have hl : lv_has ls 5 [(0, .ref (q 0))] := hl
  have hiX12 : ∀ w ∈ u_ws RX12 TX12 85, w ∈ ws_mb_X12_goesOn := fun w h => List.mem_cons_of_mem _ (wx_lay w h)
  obtain ⟨H, hHe⟩ : ∃ H : Heap, H = s.heap := ⟨_, rfl⟩
  rw [← hHe] at hP
  have hS : va_S AS s.heap H [] := by rw [hHe]; exact hS
  suffices hgo : ∀ locs : List Loc, va_S AS s.heap H locs → W p l e (headSpec ws_mb_X12_goesOn ({ frames := 2, cells := 0, slots := 0, locals := 47 } : Room)).room s m [.ref (q 0)].toArray below meth c H locs 0 0 Q (F0 m 0 ls []) by
    have := hgo [] hS
    rw [hHe] at this
    exact this
  clear hS hHe
  intro locs hS
  have hI0 := hI
  have hdp := RI.deep hp0 hI0
  have hrm := RI.room hp0 hI0
  have r_A_0_3 : (0 : Int) ≤ (A 0 3) ∧ (A 0 3) ≤ 3 := hI 0 3
  have r_A_0_4 : (0 : Int) ≤ (A 0 4) ∧ (A 0 4) ≤ 1600 := hI 0 4
  have r_A_0_5 : (0 : Int) ≤ (A 0 5) ∧ (A 0 5) ≤ 1600 := hI 0 5
  have r_A_0_7 : (-9223372036854775808 : Int) ≤ (A 0 7) ∧ (A 0 7) ≤ 9223372036854775807 := hI 0 7
  have r_A_0_8 : (0 : Int) ≤ (A 0 8) ∧ (A 0 8) ≤ 5 := hI 0 8
  have r_A_0_46 : (0 : Int) ≤ (A 0 46) ∧ (A 0 46) ≤ 1600 := hI 0 46
  have r_A_0_47 : (0 : Int) ≤ (A 0 47) ∧ (A 0 47) ≤ 1 := hI 0 47
  have r_A_0_53 : (0 : Int) ≤ (A 0 53) ∧ (A 0 53) ≤ 20 := hI 0 53
  have r_A_0_54 : (0 : Int) ≤ (A 0 54) ∧ (A 0 54) ≤ 8 := hI 0 54
  have r_A_0_56 : (0 : Int) ≤ (A 0 56) ∧ (A 0 56) ≤ 500 := hI 0 56
  have hop := hp0.1
  refine lv_aload_n hx hb dX12_goesOn_0 rfl (lv_at hl 0 rfl) ?_
  refine va_get (D := (dC, dI)) (ci := 12) (v := .int (iI (A 0 53))) (C := RX12) (T := TX12) (N := 85) hx hb hts hiX12 hown hK hP 0 wm0 rfl 53 (by decide) (hts _ (List.mem_cons_of_mem _ (wl_in_1 _ (List.mem_of_getElem? (i := 37) rfl)))) (fun _ h9 => h9) rfl dX12_goesOn_1 ?_
  refine lv_iconst (v := iI 1) hx hb dX12_goesOn_4 (by decide +kernel) ?_
  refine x_subv (v := (A 0 53) - 1) hx hb dX12_goesOn_5 (by omega) ?_
  refine lv_istore_n (lv' := [(1, .int (iI ((A 0 53) - 1))), (0, .ref (q 0))]) hx hb dX12_goesOn_6 rfl hl (by decide) rfl (fun ls hl => ?_)
  refine lv_aload_n hx hb dX12_goesOn_7 rfl (lv_at hl 1 rfl) ?_
  refine va_get (D := (dC, dI)) (ci := 12) (v := .ref (q 35)) (C := RX12) (T := TX12) (N := 85) hx hb hts hiX12 hown hK hP 0 wm0 rfl 48 (by decide) (hts _ (List.mem_cons_of_mem _ (wl_in_1 _ (List.mem_of_getElem? (i := 46) rfl)))) (fun _ h9 => h9) rfl dX12_goesOn_8 ?_
  refine lv_iload_n hx hb dX12_goesOn_11 rfl (lv_at hl 0 rfl) ?_
  refine x_iald hx hb hK hP 35 1 wm35 rfl (by omega) (by decide) dX12_goesOn_12 (fun z1 hz1 => ?_)
  have rz1 : (0 : Int) ≤ z1 ∧ z1 ≤ 5 := by rw [hz1]; exact hI 35 _
  have gz1 := Hd.mk hz1
  have hz1 : z1 = A 35 ((A 0 53) - 1).toNat := hz1
  refine lv_istore_n (lv' := [(2, .int (iI z1)), (1, .int (iI ((A 0 53) - 1))), (0, .ref (q 0))]) hx hb dX12_goesOn_13 rfl hl (by decide) rfl (fun ls hl => ?_)
  refine lv_iload_n hx hb dX12_goesOn_14 rfl (lv_at hl 0 rfl) ?_
  refine x_callSi (As := [.int (iI z1)]) (rest := []) ⟨hx, hb, hml, hown, hts⟩ (mc_X12_isTest l dC dI cB cI cJ cZ cQ q _ z1 hI (rb rz1 (by decide) (by decide))) (va_cwS 1 hts (goodS (wl_in_1 _ (List.mem_of_getElem? (i := 57) rfl)) (wl_in_1 _ (List.mem_of_getElem? (i := 58) rfl)) (wl_in_0 _ (List.mem_of_getElem? (i := 8) rfl)) (wl_in_1 _ (List.mem_of_getElem? (i := 54) rfl))) rfl rfl rfl (by decide +kernel) ⟨Nat.le_of_ble_eq_true rfl, Nat.le_of_ble_eq_true rfl⟩) hK hDD hA0 hP hS rfl hl.1 (Nat.le_of_ble_eq_true rfl) dX12_goesOn_15 (fun z2 A3 H locs hw4 hP hS => ?_)
  obtain ⟨rfl, hw4⟩ := hw4
  have ghw4 : q_X12_isTest z1 A z2 := hw4
  have hw4 := hw4.2
  refine lv_istore_n (lv' := [(3, .int (iI z2)), (2, .int (iI z1)), (1, .int (iI ((A 0 53) - 1))), (0, .ref (q 0))]) hx hb dX12_goesOn_18 rfl hl (by decide) rfl (fun ls hl => ?_)
  refine lv_aload_n hx hb dX12_goesOn_19 rfl (lv_at hl 3 rfl) ?_
  refine va_get (D := (dC, dI)) (ci := 12) (v := .ref (q 36)) (C := RX12) (T := TX12) (N := 85) hx hb hts hiX12 hown hK hP 0 wm0 rfl 49 (by decide) (hts _ (List.mem_cons_of_mem _ (wl_in_1 _ (List.mem_of_getElem? (i := 47) rfl)))) (fun _ h9 => h9) rfl dX12_goesOn_20 ?_
  refine lv_iload_n hx hb dX12_goesOn_23 rfl (lv_at hl 2 rfl) ?_
  refine x_iald hx hb hK hP 36 1 wm36 rfl (by omega) (by decide) dX12_goesOn_24 (fun z5 hz5 => ?_)
  have rz5 : (0 : Int) ≤ z5 ∧ z5 ≤ 2 := by rw [hz5]; exact hI 36 _
  have gz5 := Hd.mk hz5
  have hz5 : z5 = A 36 ((A 0 53) - 1).toNat := hz5
  refine lv_iconst (v := iI 2) hx hb dX12_goesOn_25 (by decide +kernel) ?_
  refine lv_icmp_ge (tgt := 175) hx hb dX12_goesOn_26 (by decide) (fun c6 => ?_) (fun c6 => ?_)
  · have c6 : 2 ≤ z5 := (i_le ⟨by decide, by decide⟩ (rb rz5 (by decide) (by decide))).mp c6
    exact mb_X12_goesOn_c175 l dC dI cB cI cJ cZ cQ q A hI0 hp0 hp1 hp2 hp3 hp4 hcCI p e s m below meth c Q AS hx hb hml hown hts hK hDD hA0 RET _ _ _ z1 z2 (by omega) (by omega) hz1 (fun zq uq hq => (u_r_X12_goesOn ⟨z1, gz1.out, ⟨z2, ghw4, ⟨z5, gz5.out, (Or.inl ⟨c6, hq⟩)⟩⟩⟩)) hP hS (lv_sub hl [3, 2, 1, 0] rfl)
  · have c6 : ¬ 2 ≤ z5 := mt (i_le ⟨by decide, by decide⟩ (rb rz5 (by decide) (by decide))).mpr c6
    refine lv_aload_n hx hb dX12_goesOn_29 rfl (lv_at hl 3 rfl) ?_
    refine lv_bipush (v := iI 43) hx hb dX12_goesOn_30 (by decide +kernel) ?_
    have r_A_0_6 : (-2147483648 : Int) ≤ (A 0 6) ∧ (A 0 6) ≤ 2147483647 := hI 0 6
    refine x_calli (As := [.int (iI 43)]) (rest := []) ⟨hx, hb, hml, hown, hts⟩ (mb_X12_isSign l dC dI cB cI cJ cZ cQ q _ 43 hI ⟨by decide, by decide⟩) (cwV 1 hts (goodV (wl_in_0 _ (List.mem_of_getElem? (i := 37) rfl)) (wl_in_0 _ (List.mem_of_getElem? (i := 38) rfl)) (wl_in_0 _ (List.mem_of_getElem? (i := 39) rfl)) (wl_in_0 _ (List.mem_of_getElem? (i := 8) rfl)) (wl_in_0 _ (List.mem_of_getElem? (i := 34) rfl))) rfl rfl rfl (by decide +kernel) ⟨Nat.le_of_ble_eq_true rfl, Nat.le_of_ble_eq_true rfl⟩) hK hDD hA0 hP hS 0 12 wm0 rfl rfl hl.1 (Nat.le_of_ble_eq_true rfl) dX12_goesOn_32 (fun z8 A9 H locs hw10 hP hS => ?_)
    obtain ⟨rfl, hw10⟩ := hw10
    have ghw10 : q_X12_isSign 43 A z8 := hw10
    have hw10 := hw10.2
    have rz8 : 0 ≤ z8 ∧ z8 ≤ 1 := hw10.1
    replace hw10 := Hd.mk hw10.2
    refine lv_if_ne (tgt := 74) hx hb dX12_goesOn_35 (by decide) (fun c11 => ?_) (fun c11 => ?_)
    · have c11 : ¬ z8 = 0 := mt (i_eq0 (rb rz8 (by decide) (by decide))).mpr c11
      have hw10b := hw10.out.mp (by omega)
      exact mb_X12_goesOn_c74 l dC dI cB cI cJ cZ cQ q A hI0 hp0 hp1 hp2 hp3 hp4 hcCI p e s m below meth c Q AS hx hb hml hown hts hK hDD hA0 RET _ _ _ z1 z2 (by omega) (by omega) hz1 (by omega) (fun zq uq hq => (u_r_X12_goesOn ⟨z1, gz1.out, ⟨z2, ghw4, ⟨z5, gz5.out, (Or.inr ⟨c6, ⟨z8, ghw10, (Or.inl ⟨c11, hq⟩)⟩⟩)⟩⟩⟩)) hP hS (lv_sub hl [3, 2, 1, 0] rfl)
    · have c11 : z8 = 0 := (i_eq0 (rb rz8 (by decide) (by decide))).mp c11
      refine lv_aload_n hx hb dX12_goesOn_38 rfl (lv_at hl 3 rfl) ?_
      refine lv_bipush (v := iI 45) hx hb dX12_goesOn_39 (by decide +kernel) ?_
      refine x_calli (As := [.int (iI 45)]) (rest := []) ⟨hx, hb, hml, hown, hts⟩ (mb_X12_isSign l dC dI cB cI cJ cZ cQ q _ 45 hI ⟨by decide, by decide⟩) (cwV 1 hts (goodV (wl_in_0 _ (List.mem_of_getElem? (i := 37) rfl)) (wl_in_0 _ (List.mem_of_getElem? (i := 38) rfl)) (wl_in_0 _ (List.mem_of_getElem? (i := 39) rfl)) (wl_in_0 _ (List.mem_of_getElem? (i := 8) rfl)) (wl_in_0 _ (List.mem_of_getElem? (i := 34) rfl))) rfl rfl rfl (by decide +kernel) ⟨Nat.le_of_ble_eq_true rfl, Nat.le_of_ble_eq_true rfl⟩) hK hDD hA0 hP hS 0 12 wm0 rfl rfl hl.1 (Nat.le_of_ble_eq_true rfl) dX12_goesOn_41 (fun z13 A14 H locs hw15 hP hS => ?_)
      obtain ⟨rfl, hw15⟩ := hw15
      have ghw15 : q_X12_isSign 45 A z13 := hw15
      have hw15 := hw15.2
      have rz13 : 0 ≤ z13 ∧ z13 ≤ 1 := hw15.1
      replace hw15 := Hd.mk hw15.2
      refine lv_if_ne (tgt := 74) hx hb dX12_goesOn_44 (by decide) (fun c16 => ?_) (fun c16 => ?_)
      · have c16 : ¬ z13 = 0 := mt (i_eq0 (rb rz13 (by decide) (by decide))).mpr c16
        have hw15b := hw15.out.mp (by omega)
        exact mb_X12_goesOn_c74 l dC dI cB cI cJ cZ cQ q A hI0 hp0 hp1 hp2 hp3 hp4 hcCI p e s m below meth c Q AS hx hb hml hown hts hK hDD hA0 RET _ _ _ z1 z2 (by omega) (by omega) hz1 (by omega) (fun zq uq hq => (u_r_X12_goesOn ⟨z1, gz1.out, ⟨z2, ghw4, ⟨z5, gz5.out, (Or.inr ⟨c6, ⟨z8, ghw10, (Or.inr ⟨c11, ⟨z13, ghw15, (Or.inl ⟨c16, hq⟩)⟩⟩)⟩⟩)⟩⟩⟩)) hP hS (lv_sub hl [3, 2, 1, 0] rfl)
      · have c16 : z13 = 0 := (i_eq0 (rb rz13 (by decide) (by decide))).mp c16
        refine lv_aload_n hx hb dX12_goesOn_47 rfl (lv_at hl 3 rfl) ?_
        refine lv_bipush (v := iI 42) hx hb dX12_goesOn_48 (by decide +kernel) ?_
        refine x_calli (As := [.int (iI 42)]) (rest := []) ⟨hx, hb, hml, hown, hts⟩ (mb_X12_isSign l dC dI cB cI cJ cZ cQ q _ 42 hI ⟨by decide, by decide⟩) (cwV 1 hts (goodV (wl_in_0 _ (List.mem_of_getElem? (i := 37) rfl)) (wl_in_0 _ (List.mem_of_getElem? (i := 38) rfl)) (wl_in_0 _ (List.mem_of_getElem? (i := 39) rfl)) (wl_in_0 _ (List.mem_of_getElem? (i := 8) rfl)) (wl_in_0 _ (List.mem_of_getElem? (i := 34) rfl))) rfl rfl rfl (by decide +kernel) ⟨Nat.le_of_ble_eq_true rfl, Nat.le_of_ble_eq_true rfl⟩) hK hDD hA0 hP hS 0 12 wm0 rfl rfl hl.1 (Nat.le_of_ble_eq_true rfl) dX12_goesOn_50 (fun z17 A18 H locs hw19 hP hS => ?_)
        obtain ⟨rfl, hw19⟩ := hw19
        have ghw19 : q_X12_isSign 42 A z17 := hw19
        have hw19 := hw19.2
        have rz17 : 0 ≤ z17 ∧ z17 ≤ 1 := hw19.1
        replace hw19 := Hd.mk hw19.2
        refine lv_if_ne (tgt := 74) hx hb dX12_goesOn_53 (by decide) (fun c20 => ?_) (fun c20 => ?_)
        · have c20 : ¬ z17 = 0 := mt (i_eq0 (rb rz17 (by decide) (by decide))).mpr c20
          have hw19b := hw19.out.mp (by omega)
          exact mb_X12_goesOn_c74 l dC dI cB cI cJ cZ cQ q A hI0 hp0 hp1 hp2 hp3 hp4 hcCI p e s m below meth c Q AS hx hb hml hown hts hK hDD hA0 RET _ _ _ z1 z2 (by omega) (by omega) hz1 (by omega) (fun zq uq hq => (u_r_X12_goesOn ⟨z1, gz1.out, ⟨z2, ghw4, ⟨z5, gz5.out, (Or.inr ⟨c6, ⟨z8, ghw10, (Or.inr ⟨c11, ⟨z13, ghw15, (Or.inr ⟨c16, ⟨z17, ghw19, (Or.inl ⟨c20, hq⟩)⟩⟩)⟩⟩)⟩⟩)⟩⟩⟩)) hP hS (lv_sub hl [3, 2, 1, 0] rfl)
        · have c20 : z17 = 0 := (i_eq0 (rb rz17 (by decide) (by decide))).mp c20
          refine lv_aload_n hx hb dX12_goesOn_56 rfl (lv_at hl 3 rfl) ?_
          refine lv_bipush (v := iI 47) hx hb dX12_goesOn_57 (by decide +kernel) ?_
          refine x_calli (As := [.int (iI 47)]) (rest := []) ⟨hx, hb, hml, hown, hts⟩ (mb_X12_isSign l dC dI cB cI cJ cZ cQ q _ 47 hI ⟨by decide, by decide⟩) (cwV 1 hts (goodV (wl_in_0 _ (List.mem_of_getElem? (i := 37) rfl)) (wl_in_0 _ (List.mem_of_getElem? (i := 38) rfl)) (wl_in_0 _ (List.mem_of_getElem? (i := 39) rfl)) (wl_in_0 _ (List.mem_of_getElem? (i := 8) rfl)) (wl_in_0 _ (List.mem_of_getElem? (i := 34) rfl))) rfl rfl rfl (by decide +kernel) ⟨Nat.le_of_ble_eq_true rfl, Nat.le_of_ble_eq_true rfl⟩) hK hDD hA0 hP hS 0 12 wm0 rfl rfl hl.1 (Nat.le_of_ble_eq_true rfl) dX12_goesOn_59 (fun z21 A22 H locs hw23 hP hS => ?_)
          obtain ⟨rfl, hw23⟩ := hw23
          have ghw23 : q_X12_isSign 47 A z21 := hw23
          have hw23 := hw23.2
          have rz21 : 0 ≤ z21 ∧ z21 ≤ 1 := hw23.1
          replace hw23 := Hd.mk hw23.2
          refine lv_if_ne (tgt := 74) hx hb dX12_goesOn_62 (by decide) (fun c24 => ?_) (fun c24 => ?_)
          · have c24 : ¬ z21 = 0 := mt (i_eq0 (rb rz21 (by decide) (by decide))).mpr c24
            have hw23b := hw23.out.mp (by omega)
            exact mb_X12_goesOn_c74 l dC dI cB cI cJ cZ cQ q A hI0 hp0 hp1 hp2 hp3 hp4 hcCI p e s m below meth c Q AS hx hb hml hown hts hK hDD hA0 RET _ _ _ z1 z2 (by omega) (by omega) hz1 (by omega) (fun zq uq hq => (u_r_X12_goesOn ⟨z1, gz1.out, ⟨z2, ghw4, ⟨z5, gz5.out, (Or.inr ⟨c6, ⟨z8, ghw10, (Or.inr ⟨c11, ⟨z13, ghw15, (Or.inr ⟨c16, ⟨z17, ghw19, (Or.inr ⟨c20, ⟨z21, ghw23, (Or.inl ⟨c24, hq⟩)⟩⟩)⟩⟩)⟩⟩)⟩⟩)⟩⟩⟩)) hP hS (lv_sub hl [3, 2, 1, 0] rfl)
          · have c24 : z21 = 0 := (i_eq0 (rb rz21 (by decide) (by decide))).mp c24
            refine lv_aload_n hx hb dX12_goesOn_65 rfl (lv_at hl 3 rfl) ?_
            refine lv_bipush (v := iI 37) hx hb dX12_goesOn_66 (by decide +kernel) ?_
            refine x_calli (As := [.int (iI 37)]) (rest := []) ⟨hx, hb, hml, hown, hts⟩ (mb_X12_isSign l dC dI cB cI cJ cZ cQ q _ 37 hI ⟨by decide, by decide⟩) (cwV 1 hts (goodV (wl_in_0 _ (List.mem_of_getElem? (i := 37) rfl)) (wl_in_0 _ (List.mem_of_getElem? (i := 38) rfl)) (wl_in_0 _ (List.mem_of_getElem? (i := 39) rfl)) (wl_in_0 _ (List.mem_of_getElem? (i := 8) rfl)) (wl_in_0 _ (List.mem_of_getElem? (i := 34) rfl))) rfl rfl rfl (by decide +kernel) ⟨Nat.le_of_ble_eq_true rfl, Nat.le_of_ble_eq_true rfl⟩) hK hDD hA0 hP hS 0 12 wm0 rfl rfl hl.1 (Nat.le_of_ble_eq_true rfl) dX12_goesOn_68 (fun z25 A26 H locs hw27 hP hS => ?_)
            obtain ⟨rfl, hw27⟩ := hw27
            have ghw27 : q_X12_isSign 37 A z25 := hw27
            have hw27 := hw27.2
            have rz25 : 0 ≤ z25 ∧ z25 ≤ 1 := hw27.1
            replace hw27 := Hd.mk hw27.2
            refine lv_if_eq (tgt := 175) hx hb dX12_goesOn_71 (by decide) (fun c28 => ?_) (fun c28 => ?_)
            · have c28 : z25 = 0 := (i_eq0 (rb rz25 (by decide) (by decide))).mp c28
              exact mb_X12_goesOn_c175 l dC dI cB cI cJ cZ cQ q A hI0 hp0 hp1 hp2 hp3 hp4 hcCI p e s m below meth c Q AS hx hb hml hown hts hK hDD hA0 RET _ _ _ z1 z2 (by omega) (by omega) hz1 (fun zq uq hq => (u_r_X12_goesOn ⟨z1, gz1.out, ⟨z2, ghw4, ⟨z5, gz5.out, (Or.inr ⟨c6, ⟨z8, ghw10, (Or.inr ⟨c11, ⟨z13, ghw15, (Or.inr ⟨c16, ⟨z17, ghw19, (Or.inr ⟨c20, ⟨z21, ghw23, (Or.inr ⟨c24, ⟨z25, ghw27, (Or.inl ⟨c28, hq⟩)⟩⟩)⟩⟩)⟩⟩)⟩⟩)⟩⟩)⟩⟩⟩)) hP hS (lv_sub hl [3, 2, 1, 0] rfl)
            · have c28 : ¬ z25 = 0 := mt (i_eq0 (rb rz25 (by decide) (by decide))).mpr c28
              have hw27b := hw27.out.mp (by omega)
              exact mb_X12_goesOn_c74 l dC dI cB cI cJ cZ cQ q A hI0 hp0 hp1 hp2 hp3 hp4 hcCI p e s m below meth c Q AS hx hb hml hown hts hK hDD hA0 RET _ _ _ z1 z2 (by omega) (by omega) hz1 (by omega) (fun zq uq hq => (u_r_X12_goesOn ⟨z1, gz1.out, ⟨z2, ghw4, ⟨z5, gz5.out, (Or.inr ⟨c6, ⟨z8, ghw10, (Or.inr ⟨c11, ⟨z13, ghw15, (Or.inr ⟨c16, ⟨z17, ghw19, (Or.inr ⟨c20, ⟨z21, ghw23, (Or.inr ⟨c24, ⟨z25, ghw27, (Or.inr ⟨c28, hq⟩)⟩⟩)⟩⟩)⟩⟩)⟩⟩)⟩⟩)⟩⟩⟩)) hP hS (lv_sub hl [3, 2, 1, 0] rfl)
theorem PR.one {V : St} (h53 : V 0 53 = 1) (h : V 35 0 ≤ 1) : PR V := by
  intro i hi hk
  have : i = 0 := by omega
  subst this
  omega
theorem SP.one {V : St} (h53 : V 0 53 = 1) (h56 : V 0 56 = 0) : SP V := by
  unfold SP
  rw [h53, h56]
  exact ⟨fun i hi => by omega, fun j a b => absurd b (by simp), fun p j a b => absurd b (by simp)⟩
theorem DP.wfc {c : Nat → Int} {s e : Int} (h : DP c s e 1) : wfc c s.toNat (e - s).toNat := ⟨by rw [h.2.1]; exact Int.le_refl 1, h.2.2⟩
/-- a place behind the bars that are told -/
theorem bar_ne {A : St} (hI : IM A) {b i : Nat} (hb : b < 2) (hi : (i : Int) < A 29 b) (h5 : A 29 (A 0 47).toNat ≤ 5) : 6 * b + i ≠ (6 * A 0 47 + A 29 (A 0 47).toNat).toNat := by
  have r1 : (0 : Int) ≤ A 0 47 := (hI 0 47).1
  have r2 : A 0 47 ≤ 1 := (hI 0 47).2
  have r3 : (0 : Int) ≤ A 29 (A 0 47).toNat := (hI 29 _).1
  have r4 : A 29 b ≤ 6 := (hI 29 _).2
  by_cases e : (b : Int) = A 0 47
  · have e2 : (A 0 47).toNat = b := by omega
    rw [e2] at r3 h5 ⊢
    omega
  · omega
theorem CI.s31 {A B : St} {v : Int} (h : CI A) (hI : IM A) (h5 : A 29 (A 0 47).toNat ≤ 5) (e29 : B 29 = A 29) (e31 : B 31 = up (A 31) (6 * A 0 47 + A 29 (A 0 47).toNat).toNat v) (e32 : B 32 = A 32) (e33 : B 33 = A 33) (e46 : B 0 46 = A 0 46) (e47 : B 0 47 = A 0 47) : CI B := by
  unfold CI
  rw [e29, e31, e32, e33, e46, e47]
  intro b i hb hi
  rw [up_ne _ _ (bar_ne hI hb hi h5)]
  exact h b i hb hi
theorem CI.s32 {A B : St} {v : Int} (h : CI A) (hI : IM A) (h5 : A 29 (A 0 47).toNat ≤ 5) (e29 : B 29 = A 29) (e31 : B 31 = A 31) (e32 : B 32 = up (A 32) (6 * A 0 47 + A 29 (A 0 47).toNat).toNat v) (e33 : B 33 = A 33) (e46 : B 0 46 = A 0 46) (e47 : B 0 47 = A 0 47) : CI B := by
  unfold CI
  rw [e29, e31, e32, e33, e46, e47]
  intro b i hb hi
  rw [up_ne _ _ (bar_ne hI hb hi h5)]
  exact h b i hb hi
theorem CI.inc {A B : St} (h : CI A) (hI : IM A) (e29 : B 29 = up (A 29) (A 0 47).toNat (A 29 (A 0 47).toNat + 1)) (e31 : B 31 = A 31) (e32 : B 32 = A 32) (e33 : B 33 = A 33) (e46 : B 0 46 = A 0 46) (e47 : B 0 47 = A 0 47) (ht : A 32 (6 * A 0 47 + A 29 (A 0 47).toNat).toNat = A 0 46) (hd : DP (A 33) (sA A) (1600 * A 0 47 + A 0 46) 1) : CI B := by
  unfold CI
  rw [e29, e31, e32, e33, e46, e47]
  intro b i hb hi
  have r1 : (0 : Int) ≤ A 0 47 := (hI 0 47).1
  have r3 : (0 : Int) ≤ A 29 (A 0 47).toNat := (hI 29 _).1
  by_cases e : b = (A 0 47).toNat
  · subst e
    rw [up_same] at hi
    by_cases e2 : (i : Int) < A 29 (A 0 47).toNat
    · exact h _ i hb e2
    · have ei : 6 * (A 0 47).toNat + i = (6 * A 0 47 + A 29 (A 0 47).toNat).toNat := by omega
      rw [ei, ht]
      have hle := hd.1
      have hw := DP.wfc hd
      have r4 : (0 : Int) ≤ A 31 (6 * A 0 47 + A 29 (A 0 47).toNat).toNat := (hI 31 _).1
      unfold sA at hle hw
      have e5 : (1600 * A 0 47 + A 31 (6 * A 0 47 + A 29 (A 0 47).toNat).toNat).toNat = 1600 * (A 0 47).toNat + (A 31 (6 * A 0 47 + A 29 (A 0 47).toNat).toNat).toNat := by omega
      have e6 : (1600 * A 0 47 + A 0 46 - (1600 * A 0 47 + A 31 (6 * A 0 47 + A 29 (A 0 47).toNat).toNat)).toNat = (A 0 46 - A 31 (6 * A 0 47 + A 29 (A 0 47).toNat).toNat).toNat := by omega
      rw [e5, e6] at hw
      exact ⟨by omega, fun _ => Int.le_refl _, hw⟩
  · rw [up_ne _ _ e] at hi
    exact h b i hb hi
theorem CI.zero {A B : St} {n : Int} (h : CI A) (hn : 0 ≤ n ∧ n ≤ 1) (e29 : B 29 = up (A 29) n.toNat 0) (e31 : B 31 = A 31) (e32 : B 32 = A 32) (e33 : B 33 = A 33) (e47 : B 0 47 = n) : CI B := by
  unfold CI
  rw [e29, e31, e32, e33, e47]
  intro b i hb hi
  by_cases e : b = n.toNat
  · subst e
    rw [up_same] at hi
    omega
  · rw [up_ne _ _ e] at hi
    have := h b i hb hi
    exact ⟨this.1, fun e2 => absurd e2 (by omega), this.2.2⟩
theorem WI.zero {A B : St} {n : Int} (h : WI A) (hn : 0 ≤ n ∧ n ≤ 1) (e22 : B 22 = up (A 22) n.toNat 0) (e23 : B 23 = A 23) : WI B := by
  intro p
  rw [e22, e23]
  rcases (show n = 0 ∨ n = 1 by omega) with rfl | rfl
  · refine ⟨?_, ?_⟩
    · show ct (A 23) 0 p (up (A 22) 0 0 0).toNat ≤ 2
      rw [up_same]
      show (0 : Int) ≤ 2
      decide
    · show ct (A 23) 6 p (up (A 22) 0 0 1).toNat ≤ 2
      rw [up_ne _ _ (by decide)]
      exact (h p).2
  · refine ⟨?_, ?_⟩
    · show ct (A 23) 0 p (up (A 22) 1 0 0).toNat ≤ 2
      rw [up_ne _ _ (by decide)]
      exact (h p).1
    · show ct (A 23) 6 p (up (A 22) 1 0 1).toNat ≤ 2
      rw [up_same]
      show (0 : Int) ≤ 2
      decide
theorem DPt {A B : St} (e29 : B 29 = A 29) (e31 : B 31 = A 31) (e33 : B 33 = A 33) (e46 : B 0 46 = A 0 46) (e47 : B 0 47 = A 0 47) (h : DP (A 33) (sA A) (1600 * A 0 47 + A 0 46) 1) : DP (B 33) (sA B) (1600 * B 0 47 + B 0 46) 1 := by
  unfold sA
  rw [e29, e31, e33, e46, e47]
  exact h
theorem dX12_reads_0 : decode cX12_reads 0 = .ok (.aload_n 0, 1) := by decide +kernel
theorem dX12_reads_1 : decode cX12_reads 1 = .ok (.getfield 36, 3) := by decide +kernel
theorem dX12_reads_4 : decode cX12_reads 4 = .ok (.ifCond .le 4, 3) := by decide +kernel
theorem dX12_reads_7 : decode cX12_reads 7 = .ok (.return_, 1) := by decide +kernel
theorem dX12_reads_8 : decode cX12_reads 8 = .ok (.aload_n 0, 1) := by decide +kernel
theorem dX12_reads_9 : decode cX12_reads 9 = .ok (.iconst 0, 1) := by decide +kernel
theorem dX12_reads_10 : decode cX12_reads 10 = .ok (.putfield 173, 3) := by decide +kernel
theorem dX12_reads_13 : decode cX12_reads 13 = .ok (.aload_n 0, 1) := by decide +kernel
theorem dX12_reads_14 : decode cX12_reads 14 = .ok (.iconst 0, 1) := by decide +kernel
theorem dX12_reads_15 : decode cX12_reads 15 = .ok (.putfield 176, 3) := by decide +kernel
theorem dX12_reads_18 : decode cX12_reads 18 = .ok (.aload_n 0, 1) := by decide +kernel
theorem dX12_reads_19 : decode cX12_reads 19 = .ok (.iconst 0, 1) := by decide +kernel
theorem dX12_reads_20 : decode cX12_reads 20 = .ok (.putfield 182, 3) := by decide +kernel
theorem dX12_reads_23 : decode cX12_reads 23 = .ok (.aload_n 0, 1) := by decide +kernel
theorem dX12_reads_24 : decode cX12_reads 24 = .ok (.iconst 0, 1) := by decide +kernel
theorem dX12_reads_25 : decode cX12_reads 25 = .ok (.putfield 185, 3) := by decide +kernel
theorem dX12_reads_28 : decode cX12_reads 28 = .ok (.aload_n 0, 1) := by decide +kernel
theorem dX12_reads_29 : decode cX12_reads 29 = .ok (.iload_n 1, 1) := by decide +kernel
theorem dX12_reads_30 : decode cX12_reads 30 = .ok (.ifCond .eq 7, 3) := by decide +kernel
theorem dX12_reads_33 : decode cX12_reads 33 = .ok (.iconst 1, 1) := by decide +kernel
theorem dX12_reads_34 : decode cX12_reads 34 = .ok (.goto 4, 3) := by decide +kernel
theorem dX12_reads_37 : decode cX12_reads 37 = .ok (.iconst 0, 1) := by decide +kernel
theorem dX12_reads_38 : decode cX12_reads 38 = .ok (.invokevirtual 362, 3) := by decide +kernel
theorem dX12_reads_41 : decode cX12_reads 41 = .ok (.iconst 1, 1) := by decide +kernel
theorem dX12_reads_42 : decode cX12_reads 42 = .ok (.istore_n 2, 1) := by decide +kernel
theorem dX12_reads_43 : decode cX12_reads 43 = .ok (.iload_n 2, 1) := by decide +kernel
theorem dX12_reads_44 : decode cX12_reads 44 = .ok (.ifCond .eq 46, 3) := by decide +kernel
theorem dX12_reads_47 : decode cX12_reads 47 = .ok (.aload_n 0, 1) := by decide +kernel
theorem dX12_reads_48 : decode cX12_reads 48 = .ok (.getfield 185, 3) := by decide +kernel
theorem dX12_reads_51 : decode cX12_reads 51 = .ok (.ifCond .ne 14, 3) := by decide +kernel
theorem dX12_reads_54 : decode cX12_reads 54 = .ok (.aload_n 0, 1) := by decide +kernel
theorem dX12_reads_55 : decode cX12_reads 55 = .ok (.aload_n 0, 1) := by decide +kernel
theorem dX12_reads_56 : decode cX12_reads 56 = .ok (.invokevirtual 381, 3) := by decide +kernel
theorem dX12_reads_59 : decode cX12_reads 59 = .ok (.putfield 185, 3) := by decide +kernel
theorem dX12_reads_62 : decode cX12_reads 62 = .ok (.goto 8, 3) := by decide +kernel
theorem dX12_reads_65 : decode cX12_reads 65 = .ok (.aload_n 0, 1) := by decide +kernel
theorem dX12_reads_66 : decode cX12_reads 66 = .ok (.invokevirtual 384, 3) := by decide +kernel
theorem dX12_reads_69 : decode cX12_reads 69 = .ok (.istore_n 2, 1) := by decide +kernel
theorem dX12_reads_70 : decode cX12_reads 70 = .ok (.iload_n 2, 1) := by decide +kernel
theorem dX12_reads_71 : decode cX12_reads 71 = .ok (.ifCond .eq 14, 3) := by decide +kernel
theorem dX12_reads_74 : decode cX12_reads 74 = .ok (.aload_n 0, 1) := by decide +kernel
theorem dX12_reads_75 : decode cX12_reads 75 = .ok (.getfield 36, 3) := by decide +kernel
theorem dX12_reads_78 : decode cX12_reads 78 = .ok (.ifCond .ne 7, 3) := by decide +kernel
theorem dX12_reads_81 : decode cX12_reads 81 = .ok (.iconst 1, 1) := by decide +kernel
theorem dX12_reads_82 : decode cX12_reads 82 = .ok (.goto 4, 3) := by decide +kernel
theorem dX12_reads_85 : decode cX12_reads 85 = .ok (.iconst 0, 1) := by decide +kernel
theorem dX12_reads_86 : decode cX12_reads 86 = .ok (.istore_n 2, 1) := by decide +kernel
theorem dX12_reads_87 : decode cX12_reads 87 = .ok (.goto (-44), 3) := by decide +kernel
theorem dX12_reads_90 : decode cX12_reads 90 = .ok (.return_, 1) := by decide +kernel
abbrev tr_d_X12_reads_2 (u : St) (K2 : Int → St → Prop) (z12 : Int) (A14 : St) : Prop := ((IM A14) ∧ ((0 ≤ z12 ∧ z12 ≤ 1) ∧ (((z12 = 0) ∧ (u = A14)) ∨ ((¬ z12 = 0) ∧ (((¬ (A14 0 57) = 0) ∧ (∃ z24 : Int, ∃ A25 : St, q_X12_goesOn A14 z24 A25 ∧ (((z24 = 0) ∧ (K2 0 A25)) ∨ ((¬ z24 = 0) ∧ (((¬ (A25 0 8) = 0) ∧ (K2 0 A25)) ∨ (((A25 0 8) = 0) ∧ (K2 1 A25))))))) ∨ (((A14 0 57) = 0) ∧ (∃ z31 : Int, ∃ A32 : St, q_X12_operand A14 z31 A32 ∧ (∃ A36 : St, A36 = (stA A32 0 57 z31) ∧ (((¬ (A32 0 8) = 0) ∧ (K2 0 A36)) ∨ (((A32 0 8) = 0) ∧ (K2 1 A36)))))))))))
def d_X12_reads_2 (u : St) : Nat → Int → St → Prop
  | 0, _, _ => False
  | nn9 + 1, z12, A14 => tr_d_X12_reads_2 u (fun z12 A14 => d_X12_reads_2 u nn9 z12 A14) z12 A14
theorem u_d_X12_reads_2 {u : St} {nn9 : Nat} {z12 : Int} {A14 : St} (h : tr_d_X12_reads_2 u (fun z12 A14 => d_X12_reads_2 u nn9 z12 A14) z12 A14) : d_X12_reads_2 u (nn9 + 1) z12 A14 := h
abbrev tr_d_X12_reads_1 (A2 : St) (u : St) (z5 : Int) : Prop := ((0 ≤ z5 ∧ z5 ≤ 1) ∧ (∃ A9 : St, q_X12_pushes z5 A2 A9 ∧ (∃ nn9 : Nat, d_X12_reads_2 u nn9 1 A9)))
def d_X12_reads_1 (A2 : St) (u : St) (z5 : Int) : Prop := tr_d_X12_reads_1 A2 u z5
theorem u_d_X12_reads_1 {A2 : St} {u : St} {z5 : Int} (h : tr_d_X12_reads_1 A2 u z5) : d_X12_reads_1 A2 u z5 := h
abbrev tr_r_X12_reads (x1 : Int) (A : St) (u : St) : Prop := ((((A 0 8) ≤ 0) ∧ (∃ A2 : St, A2 = (stA (stA (stA (stA A 0 53 0) 0 54 0) 0 56 0) 0 57 0) ∧ (((x1 = 0) ∧ (d_X12_reads_1 A2 u 0)) ∨ ((¬ x1 = 0) ∧ (d_X12_reads_1 A2 u 1))))) ∨ ((¬ (A 0 8) ≤ 0) ∧ (u = A)))
def r_X12_reads (x1 : Int) (A : St) (u : St) : Prop := tr_r_X12_reads x1 A u
theorem u_r_X12_reads {x1 : Int} {A : St} {u : St} (h : tr_r_X12_reads x1 A u) : r_X12_reads x1 A u := h
def q_X12_reads (x1 : Int) (A : St) (u : St) : Prop := r_X12_reads x1 A u ∧ IM u ∧ fr [33, 34, 35, 36, 37, 38, 39, 40] [3, 4, 5, 6, 7, 8, 9, 46, 53, 54, 56, 57] A u ∧ CI u ∧ (Hd (u 0 8 = 0 → DP (u 33) (sA u) (1600 * u 0 47 + u 0 46) 1 ∧ CB u ∧ A 0 4 ≤ u 0 4))
def ws_mb_X12_reads : List Cond := .code yX12_reads cX12_reads 3 none :: WX
set_option maxHeartbeats 4000000 in
set_option maxRecDepth 100000 in
theorem mb_X12_reads (l : Launch) (dC : Nat → ClassId) (dI : Nat → Nat → Nat) (cB cI cJ cZ cQ : ClassId) (q : Nat → Nat) (A : St) (x1 : Int) (hI : IM A) (hx1 : (0 : Int) ≤ x1 ∧ x1 ≤ 1) (hp0 : CB A) (hp1 : A 31 (6 * A 0 47 + A 29 (A 0 47).toNat).toNat = A 0 46) (hcCI : CI A) : XMv l yX12_reads ws_mb_X12_reads ({ frames := 4, cells := 0, slots := 0, locals := 91 } : Room) (dC, dI) (tyA cB cI cJ cZ cQ) (WM cI cJ cZ q) A [.ref (q 0), .int (iI x1)] (fun u => r_X12_reads x1 A u ∧ IM u ∧ fr [33, 34, 35, 36, 37, 38, 39, 40] [3, 4, 5, 6, 7, 8, 9, 46, 53, 54, 56, 57] A u ∧ CI u ∧ (Hd (u 0 8 = 0 → DP (u 33) (sA u) (1600 * u 0 47 + u 0 46) 1 ∧ CB u ∧ A 0 4 ≤ u 0 4))) := by
  refine x_metv (cc := cX12_reads) (maxL := 3) WM_adr (by decide +kernel) rfl (Nat.le_of_ble_eq_true rfl) (fun p e s m below meth c Q AS ls hx hb hml hown hts hK hDD hA0 hP hS hl RET => ?_)
  have hown : s.vm.findClass RX12 = some m.cls := hown
  have hl : lv_has ls 3 [(0, .ref (q 0)), (1, .int (iI x1))] := hl
  have hiX12 : ∀ w ∈ u_ws RX12 TX12 85, w ∈ ws_mb_X12_reads := fun w h => List.mem_cons_of_mem _ (wx_lay w h)
  obtain ⟨H, hHe⟩ : ∃ H : Heap, H = s.heap := ⟨_, rfl⟩
  rw [← hHe] at hP
  have hS : va_S AS s.heap H [] := by rw [hHe]; exact hS
  suffices hgo : ∀ locs : List Loc, va_S AS s.heap H locs → W p l e (headSpec ws_mb_X12_reads ({ frames := 4, cells := 0, slots := 0, locals := 91 } : Room)).room s m [.ref (q 0), .int (iI x1)].toArray below meth c H locs 0 0 Q (F0 m 0 ls []) by
    have := hgo [] hS
    rw [hHe] at this
    exact this
  clear hS hHe
  intro locs hS
  refine lv_aload_n hx hb dX12_reads_0 rfl (lv_at hl 0 rfl) ?_
  refine va_get (D := (dC, dI)) (ci := 12) (v := .int (iI (A 0 8))) (C := RX12) (T := TX12) (N := 85) hx hb hts hiX12 hown hK hP 0 wm0 rfl 8 (by decide) (hts _ (List.mem_cons_of_mem _ (wl_in_0 _ (List.mem_of_getElem? (i := 16) rfl)))) (fun _ h9 => h9) rfl dX12_reads_1 ?_
  have r_A_0_8 : (0 : Int) ≤ (A 0 8) ∧ (A 0 8) ≤ 5 := hI 0 8
  refine lv_if_le (tgt := 8) hx hb dX12_reads_4 (by decide) (fun c1 => ?_) (fun c1 => ?_)
  · have c1 : (A 0 8) ≤ 0 := (i_le0 (rb r_A_0_8 (by decide) (by decide))).mp c1
    refine lv_aload_n hx hb dX12_reads_8 rfl (lv_at hl 0 rfl) ?_
    refine lv_iconst (v := iI 0) hx hb dX12_reads_9 (by decide +kernel) ?_
    refine x_put (D := (dC, dI)) (ci := 12) (v := .int (iI 0)) (ty := .int) (C := RX12) (T := TX12) (N := 85) hx hb hts hiX12 tyX12 tyX12_ok nmX12 hown hK hP hDD hS 0 wm0 rfl 53 (by decide) (hts _ (List.mem_cons_of_mem _ (wl_in_1 _ (List.mem_of_getElem? (i := 37) rfl)))) (fun _ h9 => h9) rfl (by decide +kernel) rfl rfl (Nat.le_of_ble_eq_true rfl) dX12_reads_10 (wf53 (v := 0)) (fun H locs hP hS => ?_)
    have hI := hI.st (j := 0) (i := 53) (v := 0) (show (0 : Int) ≤ 0 ∧ 0 ≤ 20 from (by omega))
    refine lv_aload_n hx hb dX12_reads_13 rfl (lv_at hl 0 rfl) ?_
    refine lv_iconst (v := iI 0) hx hb dX12_reads_14 (by decide +kernel) ?_
    refine x_put (D := (dC, dI)) (ci := 12) (v := .int (iI 0)) (ty := .int) (C := RX12) (T := TX12) (N := 85) hx hb hts hiX12 tyX12 tyX12_ok nmX12 hown hK hP hDD hS 0 wm0 rfl 54 (by decide) (hts _ (List.mem_cons_of_mem _ (wl_in_1 _ (List.mem_of_getElem? (i := 50) rfl)))) (fun _ h9 => h9) rfl (by decide +kernel) rfl rfl (Nat.le_of_ble_eq_true rfl) dX12_reads_15 (wf54 (v := 0)) (fun H locs hP hS => ?_)
    have hI := hI.st (j := 0) (i := 54) (v := 0) (show (0 : Int) ≤ 0 ∧ 0 ≤ 8 from (by omega))
    refine lv_aload_n hx hb dX12_reads_18 rfl (lv_at hl 0 rfl) ?_
    refine lv_iconst (v := iI 0) hx hb dX12_reads_19 (by decide +kernel) ?_
    refine x_put (D := (dC, dI)) (ci := 12) (v := .int (iI 0)) (ty := .int) (C := RX12) (T := TX12) (N := 85) hx hb hts hiX12 tyX12 tyX12_ok nmX12 hown hK hP hDD hS 0 wm0 rfl 56 (by decide) (hts _ (List.mem_cons_of_mem _ (wl_in_1 _ (List.mem_of_getElem? (i := 35) rfl)))) (fun _ h9 => h9) rfl (by decide +kernel) rfl rfl (Nat.le_of_ble_eq_true rfl) dX12_reads_20 (wf56 (v := 0)) (fun H locs hP hS => ?_)
    have hI := hI.st (j := 0) (i := 56) (v := 0) (show (0 : Int) ≤ 0 ∧ 0 ≤ 500 from (by omega))
    refine lv_aload_n hx hb dX12_reads_23 rfl (lv_at hl 0 rfl) ?_
    refine lv_iconst (v := iI 0) hx hb dX12_reads_24 (by decide +kernel) ?_
    refine x_put (D := (dC, dI)) (ci := 12) (v := .int (iI 0)) (ty := .boolean) (C := RX12) (T := TX12) (N := 85) hx hb hts hiX12 tyX12 tyX12_ok nmX12 hown hK hP hDD hS 0 wm0 rfl 57 (by decide) (hts _ (List.mem_cons_of_mem _ (wl_in_2 _ (List.mem_of_getElem? (i := 9) rfl)))) (fun _ h9 => h9) rfl (by decide +kernel) (by decide +kernel) rfl (Nat.le_of_ble_eq_true rfl) dX12_reads_25 (wf57 (v := 0)) (fun H locs hP hS => ?_)
    have hI := hI.st (j := 0) (i := 57) (v := 0) (show (0 : Int) ≤ 0 ∧ 0 ≤ 1 from (by omega))
    refine lv_aload_n hx hb dX12_reads_28 rfl (lv_at hl 0 rfl) ?_
    refine lv_iload_n hx hb dX12_reads_29 rfl (lv_at hl 1 rfl) ?_
    obtain ⟨A2, hA2⟩ : ∃ A2 : St, A2 = (stA (stA (stA (stA A 0 53 0) 0 54 0) 0 56 0) 0 57 0) := ⟨_, rfl⟩
    rw [← hA2] at hP hI
    have J38_4 : ∀ (z5 : Int) (H : Heap) (locs : List Loc) (ls : Array Slot), (0 ≤ z5 ∧ z5 ≤ 1) → ((z5 = 0 ∧ x1 = 0) ∨ (z5 = 1 ∧ ¬ x1 = 0)) → (∀ (u : St), (d_X12_reads_1 A2 u z5) → r_X12_reads x1 A u) → va_P (dC, dI) vwCl (WM cI cJ cZ q A2) H → va_S AS s.heap H locs → lv_has ls 3 [(0, .ref (q 0)), (1, .int (iI x1))] → W p l e (headSpec ws_mb_X12_reads ({ frames := 4, cells := 0, slots := 0, locals := 91 } : Room)).room s m [.ref (q 0), .int (iI x1)].toArray below meth c H locs 0 0 Q (F0 m 38 ls [.int (iI z5), .ref (q 0)]) := by
      intro z5 H locs ls f7 f8 hk1 hP hS hl
      have e_A2_53 : A2 0 53 = 0 := by rw [hA2]; rfl
      have e_A2_56 : A2 0 56 = 0 := by rw [hA2]; rfl
      refine x_callv (As := [.int (iI z5)]) (rest := []) ⟨hx, hb, hml, hown, hts⟩ (mb_X12_pushes l dC dI cB cI cJ cZ cQ q _ z5 hI (rb f7 (by decide) (by decide)) (by omega)) (cwV 1 hts (goodV (wl_in_1 _ (List.mem_of_getElem? (i := 51) rfl)) (wl_in_1 _ (List.mem_of_getElem? (i := 52) rfl)) (wl_in_1 _ (List.mem_of_getElem? (i := 53) rfl)) (wl_in_0 _ (List.mem_of_getElem? (i := 8) rfl)) (wl_in_1 _ (List.mem_of_getElem? (i := 45) rfl))) rfl rfl rfl (by decide +kernel) ⟨Nat.le_of_ble_eq_true rfl, Nat.le_of_ble_eq_true rfl⟩) hK hDD hA0 hP hS 0 12 wm0 rfl rfl hl.1 (Nat.le_of_ble_eq_true rfl) dX12_reads_38 (fun A9 H locs hw10 hP hS => ?_)
      have ghw10 : q_X12_pushes z5 A2 A9 := hw10
      obtain ⟨_, hI, hf11, hw10⟩ := hw10
      have r_A9_0_53 : (0 : Int) ≤ (A9 0 53) ∧ (A9 0 53) ≤ 20 := hI 0 53
      refine lv_iconst (v := iI 1) hx hb dX12_reads_41 (by decide +kernel) ?_
      refine lv_istore_n (lv' := [(2, .int (iI 1)), (0, .ref (q 0)), (1, .int (iI x1))]) hx hb dX12_reads_42 rfl hl (by decide) rfl (fun ls hl => ?_)
      have e_A2_4 : A2 0 4 = (A 0 4) := by rw [hA2]; exact rfl
      have e_A9_4 : A9 0 4 = (A 0 4) := (hf11.2 4 rfl).trans e_A2_4
      have r_A_0_4 : (0 : Int) ≤ (A 0 4) ∧ (A 0 4) ≤ 1600 := by rw [← e_A9_4]; exact hI 0 4
      have e_A2_8 : A2 0 8 = (A 0 8) := by rw [hA2]; exact rfl
      have e_A9_8 : A9 0 8 = (A 0 8) := (hf11.2 8 rfl).trans e_A2_8
      have e_A2_57 : A2 0 57 = 0 := by rw [hA2]; rfl
      have e_A9_57 : A9 0 57 = 0 := (hf11.2 57 rfl).trans e_A2_57
      have L43_15 : ∀ (n17 : Nat) (z12 : Int) (A14 : St) (H : Heap) (locs : List Loc) (ls : Array Slot), (0 ≤ z12 ∧ z12 ≤ 1) → (Hd ((z12 = 1 → (A14 0 8) = 0 ∧ RI (A14 0 57) A14 ∧ (PR A14 ∧ SP A14) ∧ A 0 4 ≤ (A14 0 4)) ∧ (z12 = 0 → (A14 0 8) = 0 → DP (A14 33) (sA A14) (1600 * A14 0 47 + A14 0 46) 1 ∧ CB A14 ∧ A 0 4 ≤ (A14 0 4)))) → (CI A14) → (∀ (u : St), (∃ mm2 : Nat, (d_X12_reads_2 u mm2 z12 A14)) → r_X12_reads x1 A u) → ((1601 * z12 + 1601 - (A14 0 4)).toNat = n17) → IM A14 → fr [33, 34, 35, 36, 37, 38, 39, 40] [3, 4, 5, 6, 7, 8, 9, 46, 53, 54, 56, 57] A9 A14 → va_P (dC, dI) vwCl (WM cI cJ cZ q A14) H → va_S AS s.heap H locs → lv_has ls 3 [(2, .int (iI z12)), (0, .ref (q 0)), (1, .int (iI x1))] → W p l e (headSpec ws_mb_X12_reads ({ frames := 4, cells := 0, slots := 0, locals := 91 } : Room)).room s m [.ref (q 0), .int (iI x1)].toArray below meth c H locs 0 0 Q (F0 m 43 ls []) := by
        intro n17
        induction n17 using Nat.strongRecOn with
        | ind n17 ih16 =>
          intro z12 A14 H locs ls f18 f19 hc20 hk2 hn17 hI hj13 hP hS hl
          have gI21 : Hd (IM A14) := Hd.mk hI
          have r_A14_0_4 : (0 : Int) ≤ (A14 0 4) ∧ (A14 0 4) ≤ 1600 := hI 0 4
          have r_A14_0_8 : (0 : Int) ≤ (A14 0 8) ∧ (A14 0 8) ≤ 5 := hI 0 8
          have r_A14_0_57 : (0 : Int) ≤ (A14 0 57) ∧ (A14 0 57) ≤ 1 := hI 0 57
          have e_A2_47 : A2 0 47 = (A 0 47) := by rw [hA2]; exact rfl
          have e_A9_47 : A9 0 47 = (A 0 47) := (hf11.2 47 rfl).trans e_A2_47
          have e_A14_47 : A14 0 47 = (A 0 47) := (hj13.2 47 rfl).trans e_A9_47
          have r_A14_0_3 : (0 : Int) ≤ (A14 0 3) ∧ (A14 0 3) ≤ 3 := hI 0 3
          have r_A14_0_5 : (0 : Int) ≤ (A14 0 5) ∧ (A14 0 5) ≤ 1600 := hI 0 5
          have r_A14_0_7 : (-9223372036854775808 : Int) ≤ (A14 0 7) ∧ (A14 0 7) ≤ 9223372036854775807 := hI 0 7
          have r_A14_0_46 : (0 : Int) ≤ (A14 0 46) ∧ (A14 0 46) ≤ 1600 := hI 0 46
          have r_A_0_47 : (0 : Int) ≤ (A 0 47) ∧ (A 0 47) ≤ 1 := by rw [← e_A14_47]; exact hI 0 47
          have r_A14_0_53 : (0 : Int) ≤ (A14 0 53) ∧ (A14 0 53) ≤ 20 := hI 0 53
          have r_A14_0_54 : (0 : Int) ≤ (A14 0 54) ∧ (A14 0 54) ≤ 8 := hI 0 54
          have r_A14_0_56 : (0 : Int) ≤ (A14 0 56) ∧ (A14 0 56) ≤ 500 := hI 0 56
          refine lv_iload_n hx hb dX12_reads_43 rfl (lv_at hl 0 rfl) ?_
          refine lv_if_eq (tgt := 90) hx hb dX12_reads_44 (by decide) (fun c22 => ?_) (fun c22 => ?_)
          · have c22 : z12 = 0 := (i_eq0 (rb f18 (by decide) (by decide))).mp c22
            exact RET _ _ _ _ _ ⟨hk2 _ ⟨0 + 1, (u_d_X12_reads_2 ⟨gI21.out, ⟨f18, (Or.inl ⟨c22, rfl⟩)⟩⟩)⟩, hI, fr.trans (fr.trans (fr_def hA2 (fr.sf (fr.sf (fr.sf (fr.sf (fr.rf) rfl) rfl) rfl) rfl)) hf11 rfl rfl) hj13 rfl rfl, hc20, Hd.mk (fun h0 => f19.out.2 (by omega) (by omega))⟩ hP hS dX12_reads_90
          · have c22 : ¬ z12 = 0 := mt (i_eq0 (rb f18 (by decide) (by decide))).mpr c22
            have g := f19.out.1 (by omega)
            refine lv_aload_n hx hb dX12_reads_47 rfl (lv_at hl 1 rfl) ?_
            refine va_get (D := (dC, dI)) (ci := 12) (v := .int (iI (A14 0 57))) (C := RX12) (T := TX12) (N := 85) hx hb hts hiX12 hown hK hP 0 wm0 rfl 57 (by decide) (hts _ (List.mem_cons_of_mem _ (wl_in_2 _ (List.mem_of_getElem? (i := 9) rfl)))) (fun _ h9 => h9) rfl dX12_reads_48 ?_
            refine lv_if_ne (tgt := 65) hx hb dX12_reads_51 (by decide) (fun c23 => ?_) (fun c23 => ?_)
            · have c23 : ¬ (A14 0 57) = 0 := mt (i_eq0 (rb r_A14_0_57 (by decide) (by decide))).mpr c23
              refine lv_aload_n hx hb dX12_reads_65 rfl (lv_at hl 1 rfl) ?_
              refine x_calli (As := []) (rest := []) ⟨hx, hb, hml, hown, hts⟩ (mb_X12_goesOn l dC dI cB cI cJ cZ cQ q _ hI (by have t := g.2.1; rw [show A14 0 57 = 1 by omega] at t; exact t) (by exact g.1) (by exact g.2.2.1.1) (by omega) (by exact g.2.2.1.2) hc20) (cwV 0 hts (goodV (wl_in_2 _ (List.mem_of_getElem? (i := 17) rfl)) (wl_in_2 _ (List.mem_of_getElem? (i := 18) rfl)) (wl_in_2 _ (List.mem_of_getElem? (i := 19) rfl)) (wl_in_0 _ (List.mem_of_getElem? (i := 8) rfl)) (wl_in_2 _ (List.mem_of_getElem? (i := 8) rfl))) rfl rfl rfl (by decide +kernel) ⟨Nat.le_of_ble_eq_true rfl, Nat.le_of_ble_eq_true rfl⟩) hK hDD hA0 hP hS 0 12 wm0 rfl rfl hl.1 (Nat.le_of_ble_eq_true rfl) dX12_reads_66 (fun z24 A25 H locs hw26 hP hS => ?_)
              have ghw26 : q_X12_goesOn A14 z24 A25 := hw26
              obtain ⟨_, hI, hf27, hw26⟩ := hw26
              obtain ⟨hc28, hw26⟩ := hw26
              have r_A25_0_4 : (0 : Int) ≤ (A25 0 4) ∧ (A25 0 4) ≤ 1600 := hI 0 4
              have r_A25_0_8 : (0 : Int) ≤ (A25 0 8) ∧ (A25 0 8) ≤ 5 := hI 0 8
              have r_A25_0_46 : (0 : Int) ≤ (A25 0 46) ∧ (A25 0 46) ≤ 1600 := hI 0 46
              have e_A25_47 : A25 0 47 = (A 0 47) := (hf27.2 47 rfl).trans e_A14_47
              have r_A25_0_57 : (0 : Int) ≤ (A25 0 57) ∧ (A25 0 57) ≤ 1 := hI 0 57
              have rz24 : 0 ≤ z24 ∧ z24 ≤ 1 := hw26.1
              refine lv_istore_n (lv' := [(2, .int (iI z24)), (0, .ref (q 0)), (1, .int (iI x1))]) hx hb dX12_reads_69 rfl hl (by decide) rfl (fun ls hl => ?_)
              refine lv_iload_n hx hb dX12_reads_70 rfl (lv_at hl 0 rfl) ?_
              refine lv_if_eq (tgt := 85) hx hb dX12_reads_71 (by decide) (fun c29 => ?_) (fun c29 => ?_)
              · have c29 : z24 = 0 := (i_eq0 (rb rz24 (by decide) (by decide))).mp c29
                refine lv_iconst (v := iI 0) hx hb dX12_reads_85 (by decide +kernel) ?_
                refine lv_istore_n (lv' := [(2, .int (iI 0)), (0, .ref (q 0)), (1, .int (iI x1))]) hx hb dX12_reads_86 rfl hl (by decide) rfl (fun ls hl => ?_)
                refine lv_goto (tgt := 43) hx hb dX12_reads_87 (by decide) ?_
                have r_A25_0_3 : (0 : Int) ≤ (A25 0 3) ∧ (A25 0 3) ≤ 3 := hI 0 3
                have r_A25_0_5 : (0 : Int) ≤ (A25 0 5) ∧ (A25 0 5) ≤ 1600 := hI 0 5
                have r_A25_0_7 : (-9223372036854775808 : Int) ≤ (A25 0 7) ∧ (A25 0 7) ≤ 9223372036854775807 := hI 0 7
                have r_A25_0_53 : (0 : Int) ≤ (A25 0 53) ∧ (A25 0 53) ≤ 20 := hI 0 53
                have r_A25_0_54 : (0 : Int) ≤ (A25 0 54) ∧ (A25 0 54) ≤ 8 := hI 0 54
                have r_A25_0_56 : (0 : Int) ≤ (A25 0 56) ∧ (A25 0 56) ≤ 500 := hI 0 56
                exact ih16 _ (by omega) 0 _ _ _ _ (by omega) (by exact Hd.mk ⟨fun h => absurd h (by decide), fun _ h8 => by have kk := (hw26.2.out (by omega)).2 (by omega); have kl := kk.2.2; exact ⟨kk.1, kk.2.1, by omega⟩⟩) hc28 (fun uq ⟨mm2, hq⟩ => hk2 _ ⟨mm2 + 1, (u_d_X12_reads_2 ⟨gI21.out, ⟨f18, (Or.inr ⟨c22, (Or.inl ⟨c23, ⟨z24, A25, ghw26, (Or.inl ⟨c29, hq⟩)⟩⟩)⟩)⟩⟩)⟩) rfl hI (fr.trans (fr.trans (fr.rf) hj13 rfl rfl) hf27 rfl rfl) hP hS (lv_sub hl [0, 1, 2] rfl)
              · have c29 : ¬ z24 = 0 := mt (i_eq0 (rb rz24 (by decide) (by decide))).mpr c29
                refine lv_aload_n hx hb dX12_reads_74 rfl (lv_at hl 1 rfl) ?_
                refine va_get (D := (dC, dI)) (ci := 12) (v := .int (iI (A25 0 8))) (C := RX12) (T := TX12) (N := 85) hx hb hts hiX12 hown hK hP 0 wm0 rfl 8 (by decide) (hts _ (List.mem_cons_of_mem _ (wl_in_0 _ (List.mem_of_getElem? (i := 16) rfl)))) (fun _ h9 => h9) rfl dX12_reads_75 ?_
                refine lv_if_ne (tgt := 85) hx hb dX12_reads_78 (by decide) (fun c30 => ?_) (fun c30 => ?_)
                · have c30 : ¬ (A25 0 8) = 0 := mt (i_eq0 (rb r_A25_0_8 (by decide) (by decide))).mpr c30
                  refine lv_iconst (v := iI 0) hx hb dX12_reads_85 (by decide +kernel) ?_
                  refine lv_istore_n (lv' := [(2, .int (iI 0)), (0, .ref (q 0)), (1, .int (iI x1))]) hx hb dX12_reads_86 rfl hl (by decide) rfl (fun ls hl => ?_)
                  refine lv_goto (tgt := 43) hx hb dX12_reads_87 (by decide) ?_
                  have r_A25_0_3 : (0 : Int) ≤ (A25 0 3) ∧ (A25 0 3) ≤ 3 := hI 0 3
                  have r_A25_0_5 : (0 : Int) ≤ (A25 0 5) ∧ (A25 0 5) ≤ 1600 := hI 0 5
                  have r_A25_0_7 : (-9223372036854775808 : Int) ≤ (A25 0 7) ∧ (A25 0 7) ≤ 9223372036854775807 := hI 0 7
                  have r_A25_0_53 : (0 : Int) ≤ (A25 0 53) ∧ (A25 0 53) ≤ 20 := hI 0 53
                  have r_A25_0_54 : (0 : Int) ≤ (A25 0 54) ∧ (A25 0 54) ≤ 8 := hI 0 54
                  have r_A25_0_56 : (0 : Int) ≤ (A25 0 56) ∧ (A25 0 56) ≤ 500 := hI 0 56
                  exact ih16 _ (by omega) 0 _ _ _ _ (by omega) (by exact Hd.mk ⟨fun h => absurd h (by decide), fun _ h8 => absurd h8 (by omega)⟩) hc28 (fun uq ⟨mm2, hq⟩ => hk2 _ ⟨mm2 + 1, (u_d_X12_reads_2 ⟨gI21.out, ⟨f18, (Or.inr ⟨c22, (Or.inl ⟨c23, ⟨z24, A25, ghw26, (Or.inr ⟨c29, (Or.inl ⟨c30, hq⟩)⟩)⟩⟩)⟩)⟩⟩)⟩) rfl hI (fr.trans (fr.trans (fr.rf) hj13 rfl rfl) hf27 rfl rfl) hP hS (lv_sub hl [0, 1, 2] rfl)
                · have c30 : (A25 0 8) = 0 := (i_eq0 (rb r_A25_0_8 (by decide) (by decide))).mp c30
                  refine lv_iconst (v := iI 1) hx hb dX12_reads_81 (by decide +kernel) ?_
                  refine lv_goto (tgt := 86) hx hb dX12_reads_82 (by decide) ?_
                  refine lv_istore_n (lv' := [(2, .int (iI 1)), (0, .ref (q 0)), (1, .int (iI x1))]) hx hb dX12_reads_86 rfl hl (by decide) rfl (fun ls hl => ?_)
                  refine lv_goto (tgt := 43) hx hb dX12_reads_87 (by decide) ?_
                  have r_A25_0_3 : (0 : Int) ≤ (A25 0 3) ∧ (A25 0 3) ≤ 3 := hI 0 3
                  have r_A25_0_5 : (0 : Int) ≤ (A25 0 5) ∧ (A25 0 5) ≤ 1600 := hI 0 5
                  have r_A25_0_7 : (-9223372036854775808 : Int) ≤ (A25 0 7) ∧ (A25 0 7) ≤ 9223372036854775807 := hI 0 7
                  have r_A25_0_53 : (0 : Int) ≤ (A25 0 53) ∧ (A25 0 53) ≤ 20 := hI 0 53
                  have r_A25_0_54 : (0 : Int) ≤ (A25 0 54) ∧ (A25 0 54) ≤ 8 := hI 0 54
                  have r_A25_0_56 : (0 : Int) ≤ (A25 0 56) ∧ (A25 0 56) ≤ 500 := hI 0 56
                  have kk := (hw26.2.out (by omega)).1 (by omega)
                  have kl := kk.2.2
                  exact ih16 _ (by omega) 1 _ _ _ _ (by omega) (by exact Hd.mk ⟨fun _ => ⟨by omega, by skip; exact kk.1, ⟨kk.2.1.1, kk.2.1.2⟩, by omega⟩, fun h => absurd h (by decide)⟩) hc28 (fun uq ⟨mm2, hq⟩ => hk2 _ ⟨mm2 + 1, (u_d_X12_reads_2 ⟨gI21.out, ⟨f18, (Or.inr ⟨c22, (Or.inl ⟨c23, ⟨z24, A25, ghw26, (Or.inr ⟨c29, (Or.inr ⟨c30, hq⟩)⟩)⟩⟩)⟩)⟩⟩)⟩) rfl hI (fr.trans (fr.trans (fr.rf) hj13 rfl rfl) hf27 rfl rfl) hP hS (lv_sub hl [0, 1, 2] rfl)
            · have c23 : (A14 0 57) = 0 := (i_eq0 (rb r_A14_0_57 (by decide) (by decide))).mp c23
              refine lv_aload_n hx hb dX12_reads_54 rfl (lv_at hl 1 rfl) ?_
              refine lv_aload_n hx hb dX12_reads_55 rfl (lv_at hl 1 rfl) ?_
              refine x_calli (As := []) (rest := [.ref (q 0)]) ⟨hx, hb, hml, hown, hts⟩ (mb_X12_operand l dC dI cB cI cJ cZ cQ q _ hI (by have t := g.2.1; rw [show A14 0 57 = 0 by omega] at t; exact t) (by exact g.1) (by exact g.2.2.1.1) (by exact g.2.2.1.2) hc20) (cwV 0 hts (goodV (wl_in_2 _ (List.mem_of_getElem? (i := 14) rfl)) (wl_in_2 _ (List.mem_of_getElem? (i := 15) rfl)) (wl_in_2 _ (List.mem_of_getElem? (i := 16) rfl)) (wl_in_0 _ (List.mem_of_getElem? (i := 8) rfl)) (wl_in_1 _ (List.mem_of_getElem? (i := 55) rfl))) rfl rfl rfl (by decide +kernel) ⟨Nat.le_of_ble_eq_true rfl, Nat.le_of_ble_eq_true rfl⟩) hK hDD hA0 hP hS 0 12 wm0 rfl rfl hl.1 (Nat.le_of_ble_eq_true rfl) dX12_reads_56 (fun z31 A32 H locs hw33 hP hS => ?_)
              have ghw33 : q_X12_operand A14 z31 A32 := hw33
              obtain ⟨_, hI, hf34, hw33⟩ := hw33
              obtain ⟨hc35, hw33⟩ := hw33
              have r_A32_0_4 : (0 : Int) ≤ (A32 0 4) ∧ (A32 0 4) ≤ 1600 := hI 0 4
              have r_A32_0_8 : (0 : Int) ≤ (A32 0 8) ∧ (A32 0 8) ≤ 5 := hI 0 8
              have rz31 : 0 ≤ z31 ∧ z31 ≤ 1 := hw33.1
              refine x_put (D := (dC, dI)) (ci := 12) (v := .int (iI z31)) (ty := .boolean) (C := RX12) (T := TX12) (N := 85) hx hb hts hiX12 tyX12 tyX12_ok nmX12 hown hK hP hDD hS 0 wm0 rfl 57 (by decide) (hts _ (List.mem_cons_of_mem _ (wl_in_2 _ (List.mem_of_getElem? (i := 9) rfl)))) (fun _ h9 => h9) rfl (by decide +kernel) (by rcases (show z31 = 0 ∨ z31 = 1 by omega) with h | h <;> rw [h] <;> decide +kernel) (by rcases (show z31 = 0 ∨ z31 = 1 by omega) with h | h <;> rw [h] <;> decide +kernel) (Nat.le_of_ble_eq_true rfl) dX12_reads_59 (wf57 (v := z31)) (fun H locs hP hS => ?_)
              have hI := hI.st (j := 0) (i := 57) (v := z31) (show (0 : Int) ≤ z31 ∧ z31 ≤ 1 from (by omega))
              refine lv_goto (tgt := 70) hx hb dX12_reads_62 (by decide) ?_
              refine lv_iload_n hx hb dX12_reads_70 rfl (lv_at hl 0 rfl) ?_
              obtain ⟨A36, hA36⟩ : ∃ A36 : St, A36 = (stA A32 0 57 z31) := ⟨_, rfl⟩
              rw [← hA36] at hP hI
              refine lv_if_eq (tgt := 85) hx hb dX12_reads_71 (by decide) (fun c37 => False.elim (by have c37 : z12 = 0 := (i_eq0 (rb f18 (by decide) (by decide))).mp c37; omega)) (fun _ => ?_)
              refine lv_aload_n hx hb dX12_reads_74 rfl (lv_at hl 1 rfl) ?_
              have e_A36_8 : A36 0 8 = (A32 0 8) := by rw [hA36]; exact rfl
              refine va_get (D := (dC, dI)) (ci := 12) (v := .int (iI (A36 0 8))) (C := RX12) (T := TX12) (N := 85) hx hb hts hiX12 hown hK hP 0 wm0 rfl 8 (by decide) (hts _ (List.mem_cons_of_mem _ (wl_in_0 _ (List.mem_of_getElem? (i := 16) rfl)))) (fun _ h9 => h9) rfl dX12_reads_75 ?_
              refine tp_i (y := iI (A32 0 8)) (congrArg iI e_A36_8) ?_
              refine lv_if_ne (tgt := 85) hx hb dX12_reads_78 (by decide) (fun c38 => ?_) (fun c38 => ?_)
              · have c38 : ¬ (A32 0 8) = 0 := mt (i_eq0 (rb r_A32_0_8 (by decide) (by decide))).mpr c38
                refine lv_iconst (v := iI 0) hx hb dX12_reads_85 (by decide +kernel) ?_
                refine lv_istore_n (lv' := [(2, .int (iI 0)), (0, .ref (q 0)), (1, .int (iI x1))]) hx hb dX12_reads_86 rfl hl (by decide) rfl (fun ls hl => ?_)
                refine lv_goto (tgt := 43) hx hb dX12_reads_87 (by decide) ?_
                have e_A36_4 : A36 0 4 = (A32 0 4) := by rw [hA36]; exact rfl
                have e_A36_57 : A36 0 57 = z31 := by rw [hA36]; rfl
                have e_A36_3 : A36 0 3 = (A32 0 3) := by rw [hA36]; exact rfl
                have e_A36_5 : A36 0 5 = (A32 0 5) := by rw [hA36]; exact rfl
                have e_A36_7 : A36 0 7 = (A32 0 7) := by rw [hA36]; exact rfl
                have e_A36_46 : A36 0 46 = (A32 0 46) := by rw [hA36]; exact rfl
                have e_A32_47 : A32 0 47 = (A 0 47) := (hf34.2 47 rfl).trans e_A14_47
                have e_A36_47 : A36 0 47 = (A 0 47) := by rw [hA36]; exact e_A32_47
                have e_A36_53 : A36 0 53 = (A32 0 53) := by rw [hA36]; exact rfl
                have e_A36_54 : A36 0 54 = (A32 0 54) := by rw [hA36]; exact rfl
                have e_A36_56 : A36 0 56 = (A32 0 56) := by rw [hA36]; exact rfl
                have r_A32_0_3 : (0 : Int) ≤ (A32 0 3) ∧ (A32 0 3) ≤ 3 := by rw [← e_A36_3]; exact hI 0 3
                have r_A32_0_5 : (0 : Int) ≤ (A32 0 5) ∧ (A32 0 5) ≤ 1600 := by rw [← e_A36_5]; exact hI 0 5
                have r_A32_0_7 : (-9223372036854775808 : Int) ≤ (A32 0 7) ∧ (A32 0 7) ≤ 9223372036854775807 := by rw [← e_A36_7]; exact hI 0 7
                have r_A32_0_46 : (0 : Int) ≤ (A32 0 46) ∧ (A32 0 46) ≤ 1600 := by rw [← e_A36_46]; exact hI 0 46
                have r_A32_0_53 : (0 : Int) ≤ (A32 0 53) ∧ (A32 0 53) ≤ 20 := by rw [← e_A36_53]; exact hI 0 53
                have r_A32_0_54 : (0 : Int) ≤ (A32 0 54) ∧ (A32 0 54) ≤ 8 := by rw [← e_A36_54]; exact hI 0 54
                have r_A32_0_56 : (0 : Int) ≤ (A32 0 56) ∧ (A32 0 56) ≤ 500 := by rw [← e_A36_56]; exact hI 0 56
                exact ih16 _ (by omega) 0 _ _ _ _ (by omega) (by exact Hd.mk ⟨fun h => absurd h (by decide), fun _ h8 => absurd h8 (by omega)⟩) (CI.fr hc35 (fr_def hA36 (fr.sf (fr.rf (M := []) (N := [57])) rfl)) rfl rfl) (fun uq ⟨mm2, hq⟩ => hk2 _ ⟨mm2 + 1, (u_d_X12_reads_2 ⟨gI21.out, ⟨f18, (Or.inr ⟨c22, (Or.inr ⟨c23, ⟨z31, A32, ghw33, ⟨A36, hA36, (Or.inl ⟨c38, hq⟩)⟩⟩⟩)⟩)⟩⟩)⟩) rfl hI (fr_def hA36 (fr.sf (fr.trans (fr.trans (fr.rf) hj13 rfl rfl) hf34 rfl rfl) rfl)) hP hS (lv_sub hl [0, 1, 2] rfl)
              · have c38 : (A32 0 8) = 0 := (i_eq0 (rb r_A32_0_8 (by decide) (by decide))).mp c38
                refine lv_iconst (v := iI 1) hx hb dX12_reads_81 (by decide +kernel) ?_
                refine lv_goto (tgt := 86) hx hb dX12_reads_82 (by decide) ?_
                refine lv_istore_n (lv' := [(2, .int (iI 1)), (0, .ref (q 0)), (1, .int (iI x1))]) hx hb dX12_reads_86 rfl hl (by decide) rfl (fun ls hl => ?_)
                refine lv_goto (tgt := 43) hx hb dX12_reads_87 (by decide) ?_
                have e_A36_4 : A36 0 4 = (A32 0 4) := by rw [hA36]; exact rfl
                have e_A36_57 : A36 0 57 = z31 := by rw [hA36]; rfl
                have e_A36_3 : A36 0 3 = (A32 0 3) := by rw [hA36]; exact rfl
                have e_A36_5 : A36 0 5 = (A32 0 5) := by rw [hA36]; exact rfl
                have e_A36_7 : A36 0 7 = (A32 0 7) := by rw [hA36]; exact rfl
                have e_A36_46 : A36 0 46 = (A32 0 46) := by rw [hA36]; exact rfl
                have e_A32_47 : A32 0 47 = (A 0 47) := (hf34.2 47 rfl).trans e_A14_47
                have e_A36_47 : A36 0 47 = (A 0 47) := by rw [hA36]; exact e_A32_47
                have e_A36_53 : A36 0 53 = (A32 0 53) := by rw [hA36]; exact rfl
                have e_A36_54 : A36 0 54 = (A32 0 54) := by rw [hA36]; exact rfl
                have e_A36_56 : A36 0 56 = (A32 0 56) := by rw [hA36]; exact rfl
                have r_A32_0_3 : (0 : Int) ≤ (A32 0 3) ∧ (A32 0 3) ≤ 3 := by rw [← e_A36_3]; exact hI 0 3
                have r_A32_0_5 : (0 : Int) ≤ (A32 0 5) ∧ (A32 0 5) ≤ 1600 := by rw [← e_A36_5]; exact hI 0 5
                have r_A32_0_7 : (-9223372036854775808 : Int) ≤ (A32 0 7) ∧ (A32 0 7) ≤ 9223372036854775807 := by rw [← e_A36_7]; exact hI 0 7
                have r_A32_0_46 : (0 : Int) ≤ (A32 0 46) ∧ (A32 0 46) ≤ 1600 := by rw [← e_A36_46]; exact hI 0 46
                have r_A32_0_53 : (0 : Int) ≤ (A32 0 53) ∧ (A32 0 53) ≤ 20 := by rw [← e_A36_53]; exact hI 0 53
                have r_A32_0_54 : (0 : Int) ≤ (A32 0 54) ∧ (A32 0 54) ≤ 8 := by rw [← e_A36_54]; exact hI 0 54
                have r_A32_0_56 : (0 : Int) ≤ (A32 0 56) ∧ (A32 0 56) ≤ 500 := by rw [← e_A36_56]; exact hI 0 56
                have kk := hw33.2.out (by omega)
                have kl := kk.2.2
                exact ih16 _ (by omega) 1 _ _ _ _ (by omega) (by exact Hd.mk ⟨fun _ => ⟨by omega, by rw [show A36 0 57 = z31 by omega]; exact RI.fr kk.1 (fr_def hA36 (fr.sf (fr.rf (M := []) (N := [57])) rfl)) rfl rfl, ⟨PR.fr kk.2.1.1 (fr_def hA36 (fr.sf (fr.rf (M := []) (N := [57])) rfl)) rfl rfl, SP.fr kk.2.1.2 (fr_def hA36 (fr.sf (fr.rf (M := []) (N := [57])) rfl)) rfl rfl⟩, by omega⟩, fun h => absurd h (by decide)⟩) (CI.fr hc35 (fr_def hA36 (fr.sf (fr.rf (M := []) (N := [57])) rfl)) rfl rfl) (fun uq ⟨mm2, hq⟩ => hk2 _ ⟨mm2 + 1, (u_d_X12_reads_2 ⟨gI21.out, ⟨f18, (Or.inr ⟨c22, (Or.inr ⟨c23, ⟨z31, A32, ghw33, ⟨A36, hA36, (Or.inr ⟨c38, hq⟩)⟩⟩⟩)⟩)⟩⟩)⟩) rfl hI (fr_def hA36 (fr.sf (fr.trans (fr.trans (fr.rf) hj13 rfl rfl) hf34 rfl rfl) rfl)) hP hS (lv_sub hl [0, 1, 2] rfl)
      have e_A2_3 : A2 0 3 = (A 0 3) := by rw [hA2]; exact rfl
      have e_A2_5 : A2 0 5 = (A 0 5) := by rw [hA2]; exact rfl
      have e_A2_7 : A2 0 7 = (A 0 7) := by rw [hA2]; exact rfl
      have e_A2_46 : A2 0 46 = (A 0 46) := by rw [hA2]; exact rfl
      have e_A2_47 : A2 0 47 = (A 0 47) := by rw [hA2]; exact rfl
      have e_A2_54 : A2 0 54 = 0 := by rw [hA2]; rfl
      have e_A9_3 : A9 0 3 = (A 0 3) := (hf11.2 3 rfl).trans e_A2_3
      have e_A9_5 : A9 0 5 = (A 0 5) := (hf11.2 5 rfl).trans e_A2_5
      have e_A9_7 : A9 0 7 = (A 0 7) := (hf11.2 7 rfl).trans e_A2_7
      have e_A9_46 : A9 0 46 = (A 0 46) := (hf11.2 46 rfl).trans e_A2_46
      have e_A9_47 : A9 0 47 = (A 0 47) := (hf11.2 47 rfl).trans e_A2_47
      have e_A9_54 : A9 0 54 = 0 := (hf11.2 54 rfl).trans e_A2_54
      have e_A9_56 : A9 0 56 = 0 := (hf11.2 56 rfl).trans e_A2_56
      have r_A_0_3 : (0 : Int) ≤ (A 0 3) ∧ (A 0 3) ≤ 3 := by rw [← e_A9_3]; exact hI 0 3
      have r_A_0_5 : (0 : Int) ≤ (A 0 5) ∧ (A 0 5) ≤ 1600 := by rw [← e_A9_5]; exact hI 0 5
      have r_A_0_7 : (-9223372036854775808 : Int) ≤ (A 0 7) ∧ (A 0 7) ≤ 9223372036854775807 := by rw [← e_A9_7]; exact hI 0 7
      have r_A_0_46 : (0 : Int) ≤ (A 0 46) ∧ (A 0 46) ≤ 1600 := by rw [← e_A9_46]; exact hI 0 46
      have r_A_0_47 : (0 : Int) ≤ (A 0 47) ∧ (A 0 47) ≤ 1 := by rw [← e_A9_47]; exact hI 0 47
      have g35 : A9 35 0 = z5 := by rw [hw10.2.1, show A2 0 53 = 0 by omega]; exact up_same _ _ _
      have g39 : A9 39 0 = 0 := by rw [hw10.2.2.2.1, show A2 0 53 = 0 by omega, show A2 0 56 = 0 by omega]; exact up_same _ _ _
      have ca39 : A2 29 = A 29 := by rw [hA2]; exact rfl
      have ca40 : A9 29 = A 29 := (hf11.1 29 (by decide) rfl).trans ca39
      have ca41 : A2 31 = A 31 := by rw [hA2]; exact rfl
      have ca42 : A9 31 = A 31 := (hf11.1 31 (by decide) rfl).trans ca41
      have gs : 1600 * A9 0 47 + A9 0 46 = sA A9 := by unfold sA; rw [ca40, ca42, show A9 0 47 = A 0 47 by omega, hp1]; omega
      have gR : RI 0 A9 := RI.start (k := z5) hI (by omega) (by omega) (by omega) (by omega) g35 g39 gs (CB.fr (CB.fr hp0 (fr_def hA2 (fr.sf (fr.sf (fr.sf (fr.sf (fr.rf (M := []) (N := [53, 54, 56, 57])) rfl) rfl) rfl) rfl)) rfl rfl) hf11 rfl rfl)
      exact L43_15 _ 1 _ _ _ _ (by omega) (by exact Hd.mk ⟨fun _ => ⟨by omega, by rw [show A9 0 57 = 0 by omega]; exact gR, ⟨PR.one (by omega) (by rw [g35]; omega), SP.one (by omega) (by omega)⟩, by omega⟩, fun h => absurd h (by decide)⟩) (CI.fr (CI.fr hcCI (fr_def hA2 (fr.sf (fr.sf (fr.sf (fr.sf (fr.rf (M := []) (N := [53, 54, 56, 57])) rfl) rfl) rfl) rfl)) rfl rfl) hf11 rfl rfl) (fun uq ⟨mm2, hq⟩ => hk1 _ (u_d_X12_reads_1 ⟨f7, ⟨A9, ghw10, ⟨mm2, hq⟩⟩⟩)) rfl hI (fr.rf) hP hS (lv_sub hl [0, 1, 2] rfl)
    refine lv_if_eq (tgt := 37) hx hb dX12_reads_30 (by decide) (fun c3 => ?_) (fun c3 => ?_)
    · have c3 : x1 = 0 := (i_eq0 (rb hx1 (by decide) (by decide))).mp c3
      refine lv_iconst (v := iI 0) hx hb dX12_reads_37 (by decide +kernel) ?_
      exact J38_4 0 _ _ _ (by omega) (by omega) (fun uq hq => (u_r_X12_reads (Or.inl ⟨c1, ⟨A2, hA2, (Or.inl ⟨c3, hq⟩)⟩⟩))) hP hS (lv_sub hl [0, 1] rfl)
    · have c3 : ¬ x1 = 0 := mt (i_eq0 (rb hx1 (by decide) (by decide))).mpr c3
      refine lv_iconst (v := iI 1) hx hb dX12_reads_33 (by decide +kernel) ?_
      refine lv_goto (tgt := 38) hx hb dX12_reads_34 (by decide) ?_
      exact J38_4 1 _ _ _ (by omega) (by omega) (fun uq hq => (u_r_X12_reads (Or.inl ⟨c1, ⟨A2, hA2, (Or.inr ⟨c3, hq⟩)⟩⟩))) hP hS (lv_sub hl [0, 1] rfl)
  · have c1 : ¬ (A 0 8) ≤ 0 := mt (i_le0 (rb r_A_0_8 (by decide) (by decide))).mpr c1
    have r_A_0_4 : (0 : Int) ≤ (A 0 4) ∧ (A 0 4) ≤ 1600 := hI 0 4
    have r_A_0_46 : (0 : Int) ≤ (A 0 46) ∧ (A 0 46) ≤ 1600 := hI 0 46
    have r_A_0_47 : (0 : Int) ≤ (A 0 47) ∧ (A 0 47) ≤ 1 := hI 0 47
    exact RET _ _ _ _ _ ⟨(u_r_X12_reads (Or.inr ⟨c1, rfl⟩)), hI, fr.rf, hcCI, Hd.mk (fun h => absurd h (by omega))⟩ hP hS dX12_reads_7
