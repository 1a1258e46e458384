def ws_mb_X12_goesOn : List Cond := .code yX12_goesOn cX12_goesOn 5 (some .boolean) :: WX
set_option maxHeartbeats 4000000 in
set_option maxRecDepth 100000 in
theorem mb_X12_goesOn_c387 (l : Launch) (dC : Nat → ClassId) (dI : Nat → Nat → Nat) (cB cI cJ cZ cQ : ClassId) (q : Nat → Nat) (A : St) (hI : IM A) (hp0 : RI 1 A) (hp1 : A 0 8 = 0) (hp2 : PR A) (hp3 : A 0 57 = 1) (hcCI : CI A) (p : Program) (e : Env) (s : State) (m : MethodId) (below : List Frame) (meth : Method) (c : Code) (Q : State → Prop) (AS : Nat → Prop) (hx : p.tables.exec = Jvm.exec) (hb : c.code = cX12_goesOn) (hml : c.maxLocals = 5) (hown : s.vm.findClass RX12 = some m.cls) (hts : ∀ w ∈ ws_mb_X12_goesOn, w.before [.ref (q 0)].toArray s = true) (hK : va_K (dC, dI) vwCl (tyA cB cI cJ cZ cQ) s) (hDD : ∀ A', va_D AS (WM cI cJ cZ q A')) (hA0 : ∀ b : Nat, s.heap.size ≤ b → AS b) (RET : ∀ (z : Int) (u : St) (H : Heap) (locs : List Loc) (pc : Nat) (ls : Array Slot), ((fun z u => IM u ∧ fr [33, 34, 35, 36, 37, 40] [3, 4, 5, 6, 7, 8, 9, 46, 53, 54, 56, 57] A u ∧ CI u ∧ ((0 ≤ z ∧ z ≤ 1) ∧ (Hd (u 0 8 = 0 → (z = 1 → RI (u 0 57) u ∧ PR u ∧ A 0 4 + 1 ≤ u 0 4) ∧ (z = 0 → DP (u 33) (sA u) (1600 * u 0 47 + u 0 46) 1 ∧ CB u ∧ A 0 4 ≤ u 0 4))))) z u) → va_P (dC, dI) vwCl (WM cI cJ cZ q u) H → va_S AS s.heap H locs → decode cX12_goesOn pc = .ok (.ireturn, 1) → W p l e (headSpec ws_mb_X12_goesOn ({ frames := 2, cells := 0, slots := 0, locals := 47 } : Room)).room s m [.ref (q 0)].toArray below meth c H locs 0 0 Q (F0 m pc ls [.int (iI z)])) (H : Heap) (locs : List Loc) (ls : Array Slot) (z1 z2 : Int) (rz1 : (0 : Int) ≤ z1 ∧ z1 ≤ 5) (rz2 : (0 : Int) ≤ z2 ∧ z2 ≤ 1) (hz1 : z1 = A 35 ((A 0 53) - 1).toNat) (hP : va_P (dC, dI) vwCl (WM cI cJ cZ q A) H) (hS : va_S AS s.heap H locs) (hl : lv_has ls 5 [(0, .ref (q 0)), (1, .int (iI ((A 0 53) - 1))), (2, .int (iI z1)), (3, .int (iI z2))]) : W p l e (headSpec ws_mb_X12_goesOn ({ frames := 2, cells := 0, slots := 0, locals := 47 } : Room)).room s m [.ref (q 0)].toArray below meth c H locs 0 0 Q (F0 m 387 ls []) := by
  have hiX12 : ∀ w ∈ u_ws RX12 TX12 85, w ∈ ws_mb_X12_goesOn := fun w h => List.mem_cons_of_mem _ (wx_lay w h)
  have hI0 := hI
  have hdp := RI.deep hp0 hI0
  have hrm := RI.room hp0 hI0
  have r_A_0_3 : (0 : Int) ≤ (A 0 3) ∧ (A 0 3) ≤ 3 := hI 0 3
  have r_A_0_4 : (0 : Int) ≤ (A 0 4) ∧ (A 0 4) ≤ 1600 := hI 0 4
  have r_A_0_5 : (0 : Int) ≤ (A 0 5) ∧ (A 0 5) ≤ 1600 := hI 0 5
  have r_A_0_7 : (-9223372036854775808 : Int) ≤ (A 0 7) ∧ (A 0 7) ≤ 9223372036854775807 := hI 0 7
  have r_A_0_8 : (0 : Int) ≤ (A 0 8) ∧ (A 0 8) ≤ 5 := hI 0 8
  have r_A_0_46 : (0 : Int) ≤ (A 0 46) ∧ (A 0 46) ≤ 1600 := hI 0 46
  have r_A_0_47 : (0 : Int) ≤ (A 0 47) ∧ (A 0 47) ≤ 1 := hI 0 47
  have r_A_0_53 : (0 : Int) ≤ (A 0 53) ∧ (A 0 53) ≤ 20 := hI 0 53
  have r_A_0_54 : (0 : Int) ≤ (A 0 54) ∧ (A 0 54) ≤ 8 := hI 0 54
  have r_A_0_56 : (0 : Int) ≤ (A 0 56) ∧ (A 0 56) ≤ 500 := hI 0 56
  have hop := hp0.1
  refine lv_iload_n hx hb dX12_goesOn_387 rfl (lv_at hl 3 rfl) ?_
  have J409_565 : ∀ (A572 : St) (H : Heap) (locs : List Loc) (ls : Array Slot), IM A572 → fr [] [8, 9] A A572 → va_P (dC, dI) vwCl (WM cI cJ cZ q A572) H → va_S AS s.heap H locs → lv_has ls 5 [(0, .ref (q 0)), (1, .int (iI ((A 0 53) - 1))), (2, .int (iI z1)), (3, .int (iI z2))] → W p l e (headSpec ws_mb_X12_goesOn ({ frames := 2, cells := 0, slots := 0, locals := 47 } : Room)).room s m [.ref (q 0)].toArray below meth c H locs 0 0 Q (F0 m 409 ls []) := by
    intro A572 H locs ls hI hj571 hP hS hl
    refine lv_iload_n hx hb dX12_goesOn_409 rfl (lv_at hl 2 rfl) ?_
    refine lv_iconst (v := iI 2) hx hb dX12_goesOn_410 (by decide +kernel) ?_
    refine lv_icmp_ge (tgt := 428) hx hb dX12_goesOn_411 (by decide) (fun c573 => ?_) (fun c573 => ?_)
    · have c573 : 2 ≤ z1 := (i_le ⟨by decide, by decide⟩ (rb rz1 (by decide) (by decide))).mp c573
      refine lv_iload_n hx hb dX12_goesOn_428 rfl (lv_at hl 2 rfl) ?_
      refine lv_iconst (v := iI 3) hx hb dX12_goesOn_429 (by decide +kernel) ?_
      refine lv_icmp_ne (tgt := 483) hx hb dX12_goesOn_430 (by decide) (fun c574 => ?_) (fun c574 => ?_)
      · have c574 : ¬ z1 = 3 := mt (i_eq (rb rz1 (by decide) (by decide)) ⟨by decide, by decide⟩).mpr c574
        refine lv_aload_n hx hb dX12_goesOn_483 rfl (lv_at hl 0 rfl) ?_
        refine lv_iload_n hx hb dX12_goesOn_484 rfl (lv_at hl 2 rfl) ?_
        refine lv_iconst (v := iI 5) hx hb dX12_goesOn_485 (by decide +kernel) ?_
        have J496_576 : ∀ (z577 : Int) (H : Heap) (locs : List Loc) (ls : Array Slot), (41 ≤ z577 ∧ z577 ≤ 93) → ((z577 = 41 ∧ ¬ z1 = 5) ∨ (z577 = 93 ∧ z1 = 5)) → va_P (dC, dI) vwCl (WM cI cJ cZ q A572) H → va_S AS s.heap H locs → lv_has ls 5 [(0, .ref (q 0)), (1, .int (iI ((A 0 53) - 1))), (2, .int (iI z1)), (3, .int (iI z2))] → W p l e (headSpec ws_mb_X12_goesOn ({ frames := 2, cells := 0, slots := 0, locals := 47 } : Room)).room s m [.ref (q 0)].toArray below meth c H locs 0 0 Q (F0 m 496 ls [.int (iI z577), .ref (q 0)]) := by
          intro z577 H locs ls f579 f580 hP hS hl
          have e_A572_3 : A572 0 3 = (A 0 3) := (hj571.2 3 rfl)
          have e_A572_6 : A572 0 6 = (A 0 6) := (hj571.2 6 rfl)
          have r_A_0_6 : (-2147483648 : Int) ≤ (A 0 6) ∧ (A 0 6) ≤ 2147483647 := by rw [← e_A572_6]; exact hI 0 6
          refine x_calli (As := [.int (iI z577)]) (rest := []) ⟨hx, hb, hml, hown, hts⟩ (mb_X12_isSign l dC dI cB cI cJ cZ cQ q _ z577 hI (rb f579 (by decide) (by decide))) (cwV 1 hts (goodV (wl_in_0 _ (List.mem_of_getElem? (i := 37) rfl)) (wl_in_0 _ (List.mem_of_getElem? (i := 38) rfl)) (wl_in_0 _ (List.mem_of_getElem? (i := 39) rfl)) (wl_in_0 _ (List.mem_of_getElem? (i := 8) rfl)) (wl_in_0 _ (List.mem_of_getElem? (i := 34) rfl))) rfl rfl rfl (by decide +kernel) ⟨Nat.le_of_ble_eq_true rfl, Nat.le_of_ble_eq_true rfl⟩) hK hDD hA0 hP hS 0 12 wm0 rfl rfl hl.1 (Nat.le_of_ble_eq_true rfl) dX12_goesOn_496 (fun z581 A582 H locs hw583 hP hS => ?_)
          obtain ⟨rfl, hw583⟩ := hw583
          have rz581 : 0 ≤ z581 ∧ z581 ≤ 1 := hw583.1
          replace hw583 := Hd.mk hw583.2
          have J511_585 : ∀ (A590 : St) (H : Heap) (locs : List Loc) (ls : Array Slot), (Hd ((A590 0 8) = 0 → (A590 0 3) = 3)) → IM A590 → fr [] [8, 9] A572 A590 → va_P (dC, dI) vwCl (WM cI cJ cZ q A590) H → va_S AS s.heap H locs → lv_has ls 5 [(0, .ref (q 0)), (1, .int (iI ((A 0 53) - 1))), (2, .int (iI z1)), (3, .int (iI z2))] → W p l e (headSpec ws_mb_X12_goesOn ({ frames := 2, cells := 0, slots := 0, locals := 47 } : Room)).room s m [.ref (q 0)].toArray below meth c H locs 0 0 Q (F0 m 511 ls []) := by
            intro A590 H locs ls f591 hI hj589 hP hS hl
            refine lv_aload_n hx hb dX12_goesOn_511 rfl (lv_at hl 0 rfl) ?_
            refine va_get (D := (dC, dI)) (ci := 12) (v := .int (iI (A590 0 8))) (C := RX12) (T := TX12) (N := 85) hx hb hts hiX12 hown hK hP 0 wm0 rfl 8 (by decide) (hts _ (List.mem_cons_of_mem _ (wl_in_0 _ (List.mem_of_getElem? (i := 16) rfl)))) (fun _ h9 => h9) rfl dX12_goesOn_512 ?_
            have r_A590_0_8 : (0 : Int) ≤ (A590 0 8) ∧ (A590 0 8) ≤ 5 := hI 0 8
            refine lv_if_le (tgt := 520) hx hb dX12_goesOn_515 (by decide) (fun c592 => ?_) (fun c592 => ?_)
            · have c592 : (A590 0 8) ≤ 0 := (i_le0 (rb r_A590_0_8 (by decide) (by decide))).mp c592
              have hD2 := RI.two hp0 hI0 (by rw [← hz1]; omega)
              refine lv_aload_n hx hb dX12_goesOn_520 rfl (lv_at hl 0 rfl) ?_
              refine lv_iconst (v := iI 1) hx hb dX12_goesOn_521 (by decide +kernel) ?_
              refine x_callv (As := [.int (iI 1)]) (rest := []) ⟨hx, hb, hml, hown, hts⟩ (mb_X12_joins l dC dI cB cI cJ cZ cQ q _ 1 hI ⟨by decide, by decide⟩ (by exact (RI1.fr (RI1.fr hp0 hj571 rfl rfl) hj589 rfl rfl)) (CI.fr (CI.fr hcCI hj571 rfl rfl) hj589 rfl rfl)) (cwV 1 hts (goodV (wl_in_2 _ (List.mem_of_getElem? (i := 10) rfl)) (wl_in_2 _ (List.mem_of_getElem? (i := 11) rfl)) (wl_in_2 _ (List.mem_of_getElem? (i := 12) rfl)) (wl_in_0 _ (List.mem_of_getElem? (i := 8) rfl)) (wl_in_1 _ (List.mem_of_getElem? (i := 34) rfl))) rfl rfl rfl (by decide +kernel) ⟨Nat.le_of_ble_eq_true rfl, Nat.le_of_ble_eq_true rfl⟩) hK hDD hA0 hP hS 0 12 wm0 rfl rfl hl.1 (Nat.le_of_ble_eq_true rfl) dX12_goesOn_522 (fun A593 H locs hw594 hP hS => ?_)
              obtain ⟨hI, hf595, hw594⟩ := hw594
              obtain ⟨hc596, hw594⟩ := hw594
              have e_A572_53 : A572 0 53 = (A 0 53) := (hj571.2 53 rfl)
              have e_A590_53 : A590 0 53 = (A 0 53) := (hj589.2 53 rfl).trans e_A572_53
              have e_A593_53 : A593 0 53 = (A 0 53) := (hf595.2 53 rfl).trans e_A590_53
              have r_A593_0_56 : (0 : Int) ≤ (A593 0 56) ∧ (A593 0 56) ≤ 500 := hI 0 56
              have hj := hw594
              have hIj := hI
              have hrj := RI.room hj.1 hIj
              clear hw594
              have e_A590_3 : A590 0 3 = (A 0 3) := (hj589.2 3 rfl).trans e_A572_3
              have e_A593_3 : A593 0 3 = (A 0 3) := (hf595.2 3 rfl).trans e_A590_3
              have e_A572_4 : A572 0 4 = (A 0 4) := (hj571.2 4 rfl)
              have e_A590_4 : A590 0 4 = (A 0 4) := (hj589.2 4 rfl).trans e_A572_4
              have e_A593_4 : A593 0 4 = (A 0 4) := (hf595.2 4 rfl).trans e_A590_4
              have e_A572_5 : A572 0 5 = (A 0 5) := (hj571.2 5 rfl)
              have e_A590_5 : A590 0 5 = (A 0 5) := (hj589.2 5 rfl).trans e_A572_5
              have e_A593_5 : A593 0 5 = (A 0 5) := (hf595.2 5 rfl).trans e_A590_5
              have e_A572_7 : A572 0 7 = (A 0 7) := (hj571.2 7 rfl)
              have e_A590_7 : A590 0 7 = (A 0 7) := (hj589.2 7 rfl).trans e_A572_7
              have e_A593_7 : A593 0 7 = (A 0 7) := (hf595.2 7 rfl).trans e_A590_7
              have e_A593_8 : A593 0 8 = (A590 0 8) := (hf595.2 8 rfl)
              have e_A572_47 : A572 0 47 = (A 0 47) := (hj571.2 47 rfl)
              have e_A590_47 : A590 0 47 = (A 0 47) := (hj589.2 47 rfl).trans e_A572_47
              have e_A593_47 : A593 0 47 = (A 0 47) := (hf595.2 47 rfl).trans e_A590_47
              have e_A572_54 : A572 0 54 = (A 0 54) := (hj571.2 54 rfl)
              have e_A590_54 : A590 0 54 = (A 0 54) := (hj589.2 54 rfl).trans e_A572_54
              have e_A593_54 : A593 0 54 = (A 0 54) := (hf595.2 54 rfl).trans e_A590_54
              have r_A593_0_46 : (0 : Int) ≤ (A593 0 46) ∧ (A593 0 46) ≤ 1600 := hI 0 46
              refine lv_aload_n hx hb dX12_goesOn_525 rfl (lv_at hl 0 rfl) ?_
              refine lv_dup hx hb dX12_goesOn_526 rfl ?_
              refine va_get (D := (dC, dI)) (ci := 12) (v := .int (iI (A593 0 53))) (C := RX12) (T := TX12) (N := 85) hx hb hts hiX12 hown hK hP 0 wm0 rfl 53 (by decide) (hts _ (List.mem_cons_of_mem _ (wl_in_1 _ (List.mem_of_getElem? (i := 37) rfl)))) (fun _ h9 => h9) rfl dX12_goesOn_527 ?_
              refine tp_i (y := iI (A 0 53)) (congrArg iI e_A593_53) ?_
              refine lv_iconst (v := iI 1) hx hb dX12_goesOn_530 (by decide +kernel) ?_
              refine x_subv (v := (A 0 53) - 1) hx hb dX12_goesOn_531 (by omega) ?_
              refine x_put (D := (dC, dI)) (ci := 12) (v := .int (iI ((A 0 53) - 1))) (ty := .int) (C := RX12) (T := TX12) (N := 85) hx hb hts hiX12 tyX12 tyX12_ok nmX12 hown hK hP hDD hS 0 wm0 rfl 53 (by decide) (hts _ (List.mem_cons_of_mem _ (wl_in_1 _ (List.mem_of_getElem? (i := 37) rfl)))) (fun _ h9 => h9) rfl (by decide +kernel) rfl rfl (Nat.le_of_ble_eq_true rfl) dX12_goesOn_532 (wf53 (v := (A 0 53) - 1)) (fun H locs hP hS => ?_)
              have hI := hI.st (j := 0) (i := 53) (v := (A 0 53) - 1) (show (0 : Int) ≤ (A 0 53) - 1 ∧ (A 0 53) - 1 ≤ 20 from (by omega))
              refine lv_aload_n hx hb dX12_goesOn_535 rfl (lv_at hl 0 rfl) ?_
              refine lv_dup hx hb dX12_goesOn_536 rfl ?_
              refine va_get (D := (dC, dI)) (ci := 12) (v := .int (iI (A593 0 54))) (C := RX12) (T := TX12) (N := 85) hx hb hts hiX12 hown hK hP 0 wm0 rfl 54 (by decide) (hts _ (List.mem_cons_of_mem _ (wl_in_1 _ (List.mem_of_getElem? (i := 50) rfl)))) (fun _ h9 => h9) rfl dX12_goesOn_537 ?_
              refine tp_i (y := iI (A 0 54)) (congrArg iI e_A593_54) ?_
              refine lv_iconst (v := iI 1) hx hb dX12_goesOn_540 (by decide +kernel) ?_
              refine x_subv (v := (A 0 54) - 1) hx hb dX12_goesOn_541 (by omega) ?_
              refine x_put (D := (dC, dI)) (ci := 12) (v := .int (iI ((A 0 54) - 1))) (ty := .int) (C := RX12) (T := TX12) (N := 85) hx hb hts hiX12 tyX12 tyX12_ok nmX12 hown hK hP hDD hS 0 wm0 rfl 54 (by decide) (hts _ (List.mem_cons_of_mem _ (wl_in_1 _ (List.mem_of_getElem? (i := 50) rfl)))) (fun _ h9 => h9) rfl (by decide +kernel) rfl rfl (Nat.le_of_ble_eq_true rfl) dX12_goesOn_542 (wf54 (v := (A 0 54) - 1)) (fun H locs hP hS => ?_)
              have hI := hI.st (j := 0) (i := 54) (v := (A 0 54) - 1) (show (0 : Int) ≤ (A 0 54) - 1 ∧ (A 0 54) - 1 ≤ 8 from (by omega))
              refine lv_iload_n hx hb dX12_goesOn_545 rfl (lv_at hl 2 rfl) ?_
              refine lv_iconst (v := iI 4) hx hb dX12_goesOn_546 (by decide +kernel) ?_
              obtain ⟨A597, hA597⟩ : ∃ A597 : St, A597 = (stA (stA A593 0 53 ((A 0 53) - 1)) 0 54 ((A 0 54) - 1)) := ⟨_, rfl⟩
              rw [← hA597] at hP hI
              refine lv_icmp_ne (tgt := 561) hx hb dX12_goesOn_547 (by decide) (fun c598 => ?_) (fun c598 => ?_)
              · have c598 : ¬ z1 = 4 := mt (i_eq (rb rz1 (by decide) (by decide)) ⟨by decide, by decide⟩).mpr c598
                refine lv_iload_n hx hb dX12_goesOn_561 rfl (lv_at hl 2 rfl) ?_
                refine lv_iconst (v := iI 5) hx hb dX12_goesOn_562 (by decide +kernel) ?_
                refine lv_icmp_ne (tgt := 578) hx hb dX12_goesOn_563 (by decide) (fun c599 => ?_) (fun c599 => ?_)
                · have c599 : ¬ z1 = 5 := mt (i_eq (rb rz1 (by decide) (by decide)) ⟨by decide, by decide⟩).mpr c599
                  refine lv_aload_n hx hb dX12_goesOn_578 rfl (lv_at hl 0 rfl) ?_
                  have e_A597_4 : A597 0 4 = (A 0 4) := by rw [hA597]; exact e_A593_4
                  have e_A597_5 : A597 0 5 = (A 0 5) := by rw [hA597]; exact e_A593_5
                  have e_A597_8 : A597 0 8 = (A590 0 8) := by rw [hA597]; exact e_A593_8
                  refine x_callv (As := []) (rest := []) ⟨hx, hb, hml, hown, hts⟩ (mb_X12_ahead l dC dI cB cI cJ cZ cQ q _ hI) (cwV 0 hts (goodV (wl_in_0 _ (List.mem_of_getElem? (i := 40) rfl)) (wl_in_0 _ (List.mem_of_getElem? (i := 41) rfl)) (wl_in_0 _ (List.mem_of_getElem? (i := 42) rfl)) (wl_in_0 _ (List.mem_of_getElem? (i := 8) rfl)) (wl_in_0 _ (List.mem_of_getElem? (i := 20) rfl))) rfl rfl rfl (by decide +kernel) ⟨Nat.le_of_ble_eq_true rfl, Nat.le_of_ble_eq_true rfl⟩) hK hDD hA0 hP hS 0 12 wm0 rfl rfl hl.1 (Nat.le_of_ble_eq_true rfl) dX12_goesOn_579 (fun A600 H locs hw601 hP hS => ?_)
                  obtain ⟨hI, hf602, hw601⟩ := hw601
                  have r_A600_0_3 : (0 : Int) ≤ (A600 0 3) ∧ (A600 0 3) ≤ 3 := hI 0 3
                  have r_A600_0_4 : (0 : Int) ≤ (A600 0 4) ∧ (A600 0 4) ≤ 1600 := hI 0 4
                  have r_A600_0_5 : (0 : Int) ≤ (A600 0 5) ∧ (A600 0 5) ≤ 1600 := hI 0 5
                  have r_A600_0_8 : (0 : Int) ≤ (A600 0 8) ∧ (A600 0 8) ≤ 5 := hI 0 8
                  have hw601x := hw601.1
                  have hw601y := hw601.2.1
                  replace hw601 := Hd.mk hw601
                  refine lv_iconst (v := iI 1) hx hb dX12_goesOn_582 (by decide +kernel) ?_
                  have e_A597_46 : A597 0 46 = (A593 0 46) := by rw [hA597]; exact rfl
                  have e_A600_46 : A600 0 46 = (A593 0 46) := (hf602.2 46 rfl).trans e_A597_46
                  have e_A597_47 : A597 0 47 = (A 0 47) := by rw [hA597]; exact e_A593_47
                  have e_A600_47 : A600 0 47 = (A 0 47) := (hf602.2 47 rfl).trans e_A597_47
                  have e_A572_57 : A572 0 57 = (A 0 57) := (hj571.2 57 rfl)
                  have e_A590_57 : A590 0 57 = (A 0 57) := (hj589.2 57 rfl).trans e_A572_57
                  have e_A593_57 : A593 0 57 = (A 0 57) := (hf595.2 57 rfl).trans e_A590_57
                  have e_A597_57 : A597 0 57 = (A 0 57) := by rw [hA597]; exact e_A593_57
                  have e_A600_57 : A600 0 57 = (A 0 57) := (hf602.2 57 rfl).trans e_A597_57
                  have r_A_0_57 : (0 : Int) ≤ (A 0 57) ∧ (A 0 57) ≤ 1 := by rw [← e_A600_57]; exact hI 0 57
                  have ca603 : A572 35 = A 35 := (hj571.1 35 (by decide) rfl)
                  have ca604 : A590 35 = A 35 := (hj589.1 35 (by decide) rfl).trans ca603
                  have ca605 : A593 35 = A 35 := (hf595.1 35 (by decide) rfl).trans ca604
                  have gs := f591.out (by omega)
                  have hlt := RI.lt hp0 (by omega)
                  have ca606 : A597 29 = A593 29 := by rw [hA597]; exact rfl
                  have ca607 : A600 29 = A593 29 := (hf602.1 29 (by decide) rfl).trans ca606
                  have ca608 : A597 31 = A593 31 := by rw [hA597]; exact rfl
                  have ca609 : A600 31 = A593 31 := (hf602.1 31 (by decide) rfl).trans ca608
                  have ca610 : A597 33 = A593 33 := by rw [hA597]; exact rfl
                  have ca611 : A600 33 = A593 33 := (hf602.1 33 (by decide) rfl).trans ca610
                  have ca612 : A597 35 = A593 35 := by rw [hA597]; exact rfl
                  have ca613 : A600 35 = A593 35 := (hf602.1 35 (by decide) rfl).trans ca612
                  have ca614 : A597 37 = A593 37 := by rw [hA597]; exact rfl
                  have ca615 : A600 37 = A593 37 := (hf602.1 37 (by decide) rfl).trans ca614
                  have ca616 : A597 39 = A593 39 := by rw [hA597]; exact rfl
                  have ca617 : A600 39 = A593 39 := (hf602.1 39 (by decide) rfl).trans ca616
                  have ca618 : A597 40 = A593 40 := by rw [hA597]; exact rfl
                  have ca619 : A600 40 = A593 40 := (hf602.1 40 (by decide) rfl).trans ca618
                  have e_A597_53 : A597 0 53 = (A 0 53) - 1 := by rw [hA597]; rfl
                  have e_A600_53 : A600 0 53 = (A 0 53) - 1 := (hf602.2 53 rfl).trans e_A597_53
                  have e_A597_54 : A597 0 54 = (A 0 54) - 1 := by rw [hA597]; rfl
                  have e_A600_54 : A600 0 54 = (A 0 54) - 1 := (hf602.2 54 rfl).trans e_A597_54
                  have e_A597_56 : A597 0 56 = (A593 0 56) := by rw [hA597]; exact rfl
                  have e_A600_56 : A600 0 56 = (A593 0 56) := (hf602.2 56 rfl).trans e_A597_56
                  have ca620 : A597 35 = A593 35 := by rw [hA597]; exact rfl
                  have ca621 : A600 35 = A593 35 := (hf602.1 35 (by decide) rfl).trans ca620
                  have ca622 : A597 38 = A593 38 := by rw [hA597]; exact rfl
                  have ca623 : A600 38 = A593 38 := (hf602.1 38 (by decide) rfl).trans ca622
                  exact RET 1 _ _ _ _ _ ⟨hI, fr.trans (fr_def hA597 (fr.sf (fr.sf (fr.trans (fr.trans (fr.trans (fr.rf) hj571 rfl rfl) hj589 rfl rfl) hf595 rfl rfl) rfl) rfl)) hf602 rfl rfl, (CI.fr (CI.fr hc596 (fr_def hA597 (fr.sf (fr.sf (fr.rf (M := []) (N := [53, 54])) rfl) rfl)) rfl rfl) hf602 rfl rfl), ⟨by decide, Hd.mk (fun h0 => ⟨fun _ => ⟨by rw [show A600 0 57 = 1 by omega]; exact RI.shut hj.1 hIj (by omega) (by rw [ca605, e_A593_53, ← hz1]; omega) (RI.full hj.2) (Or.inl ⟨by rw [ca605, e_A593_53, ← hz1]; omega, rfl, rfl⟩) ⟨ca607, ca609, ca611, ca613, ca615, ca617, ca619, e_A600_46, (e_A600_47.trans e_A593_47.symm), (by omega), (by omega), e_A600_56⟩ (by omega) (by omega) hw601.out.2.2.1, PR.pop (PR.fr (PR.fr (PR.fr hp2 hj571 rfl rfl) hj589 rfl rfl) hf595 rfl rfl) ca621 (by omega) ca623, by omega⟩, fun h => absurd h (by decide)⟩)⟩⟩ hP hS dX12_goesOn_583
                · have c599 : z1 = 5 := (i_eq (rb rz1 (by decide) (by decide)) ⟨by decide, by decide⟩).mp c599
                  refine lv_aload_n hx hb dX12_goesOn_566 rfl (lv_at hl 0 rfl) ?_
                  refine va_get (D := (dC, dI)) (ci := 12) (v := .ref (q 36)) (C := RX12) (T := TX12) (N := 85) hx hb hts hiX12 hown hK hP 0 wm0 rfl 49 (by decide) (hts _ (List.mem_cons_of_mem _ (wl_in_1 _ (List.mem_of_getElem? (i := 47) rfl)))) (fun _ h9 => h9) rfl dX12_goesOn_567 ?_
                  refine lv_aload_n hx hb dX12_goesOn_570 rfl (lv_at hl 0 rfl) ?_
                  have e_A597_53 : A597 0 53 = (A 0 53) - 1 := by rw [hA597]; rfl
                  refine va_get (D := (dC, dI)) (ci := 12) (v := .int (iI (A597 0 53))) (C := RX12) (T := TX12) (N := 85) hx hb hts hiX12 hown hK hP 0 wm0 rfl 53 (by decide) (hts _ (List.mem_cons_of_mem _ (wl_in_1 _ (List.mem_of_getElem? (i := 37) rfl)))) (fun _ h9 => h9) rfl dX12_goesOn_571 ?_
                  refine tp_i (y := iI ((A 0 53) - 1)) (congrArg iI e_A597_53) ?_
                  refine lv_iconst (v := iI 1) hx hb dX12_goesOn_574 (by decide +kernel) ?_
                  refine x_subv (v := (A 0 53) - 2) hx hb dX12_goesOn_575 (by omega) ?_
                  refine lv_iconst (v := iI 2) hx hb dX12_goesOn_576 (by decide +kernel) ?_
                  refine x_iast hx hb hK hP hDD hS 36 1 wm36 rfl (by omega) (by decide) dX12_goesOn_577 ws36 (fun H locs hP hS => ?_)
                  have hI := hI.st (j := 36) (i := ((A 0 53) - 2).toNat) (v := 2) (show (0 : Int) ≤ 2 ∧ 2 ≤ 2 from (by omega))
                  refine lv_aload_n hx hb dX12_goesOn_578 rfl (lv_at hl 0 rfl) ?_
                  obtain ⟨A624, hA624⟩ : ∃ A624 : St, A624 = (stA A597 36 ((A 0 53) - 2).toNat 2) := ⟨_, rfl⟩
                  rw [← hA624] at hP hI
                  have e_A597_4 : A597 0 4 = (A 0 4) := by rw [hA597]; exact e_A593_4
                  have e_A624_4 : A624 0 4 = (A 0 4) := by rw [hA624]; exact e_A597_4
                  have e_A597_5 : A597 0 5 = (A 0 5) := by rw [hA597]; exact e_A593_5
                  have e_A624_5 : A624 0 5 = (A 0 5) := by rw [hA624]; exact e_A597_5
                  have e_A597_8 : A597 0 8 = (A590 0 8) := by rw [hA597]; exact e_A593_8
                  have e_A624_8 : A624 0 8 = (A590 0 8) := by rw [hA624]; exact e_A597_8
                  refine x_callv (As := []) (rest := []) ⟨hx, hb, hml, hown, hts⟩ (mb_X12_ahead l dC dI cB cI cJ cZ cQ q _ hI) (cwV 0 hts (goodV (wl_in_0 _ (List.mem_of_getElem? (i := 40) rfl)) (wl_in_0 _ (List.mem_of_getElem? (i := 41) rfl)) (wl_in_0 _ (List.mem_of_getElem? (i := 42) rfl)) (wl_in_0 _ (List.mem_of_getElem? (i := 8) rfl)) (wl_in_0 _ (List.mem_of_getElem? (i := 20) rfl))) rfl rfl rfl (by decide +kernel) ⟨Nat.le_of_ble_eq_true rfl, Nat.le_of_ble_eq_true rfl⟩) hK hDD hA0 hP hS 0 12 wm0 rfl rfl hl.1 (Nat.le_of_ble_eq_true rfl) dX12_goesOn_579 (fun A625 H locs hw626 hP hS => ?_)
                  obtain ⟨hI, hf627, hw626⟩ := hw626
                  have r_A625_0_3 : (0 : Int) ≤ (A625 0 3) ∧ (A625 0 3) ≤ 3 := hI 0 3
                  have r_A625_0_4 : (0 : Int) ≤ (A625 0 4) ∧ (A625 0 4) ≤ 1600 := hI 0 4
                  have r_A625_0_5 : (0 : Int) ≤ (A625 0 5) ∧ (A625 0 5) ≤ 1600 := hI 0 5
                  have r_A625_0_8 : (0 : Int) ≤ (A625 0 8) ∧ (A625 0 8) ≤ 5 := hI 0 8
                  have hw626x := hw626.1
                  have hw626y := hw626.2.1
                  replace hw626 := Hd.mk hw626
                  refine lv_iconst (v := iI 1) hx hb dX12_goesOn_582 (by decide +kernel) ?_
                  have e_A597_46 : A597 0 46 = (A593 0 46) := by rw [hA597]; exact rfl
                  have e_A624_46 : A624 0 46 = (A593 0 46) := by rw [hA624]; exact e_A597_46
                  have e_A625_46 : A625 0 46 = (A593 0 46) := (hf627.2 46 rfl).trans e_A624_46
                  have e_A597_47 : A597 0 47 = (A 0 47) := by rw [hA597]; exact e_A593_47
                  have e_A624_47 : A624 0 47 = (A 0 47) := by rw [hA624]; exact e_A597_47
                  have e_A625_47 : A625 0 47 = (A 0 47) := (hf627.2 47 rfl).trans e_A624_47
                  have e_A572_57 : A572 0 57 = (A 0 57) := (hj571.2 57 rfl)
                  have e_A590_57 : A590 0 57 = (A 0 57) := (hj589.2 57 rfl).trans e_A572_57
                  have e_A593_57 : A593 0 57 = (A 0 57) := (hf595.2 57 rfl).trans e_A590_57
                  have e_A597_57 : A597 0 57 = (A 0 57) := by rw [hA597]; exact e_A593_57
                  have e_A624_57 : A624 0 57 = (A 0 57) := by rw [hA624]; exact e_A597_57
                  have e_A625_57 : A625 0 57 = (A 0 57) := (hf627.2 57 rfl).trans e_A624_57
                  have r_A_0_57 : (0 : Int) ≤ (A 0 57) ∧ (A 0 57) ≤ 1 := by rw [← e_A625_57]; exact hI 0 57
                  have ca628 : A572 35 = A 35 := (hj571.1 35 (by decide) rfl)
                  have ca629 : A590 35 = A 35 := (hj589.1 35 (by decide) rfl).trans ca628
                  have ca630 : A593 35 = A 35 := (hf595.1 35 (by decide) rfl).trans ca629
                  have gs := f591.out (by omega)
                  have hlt := RI.lt hp0 (by omega)
                  have ca631 : A597 29 = A593 29 := by rw [hA597]; exact rfl
                  have ca632 : A624 29 = A593 29 := by rw [hA624]; exact ca631
                  have ca633 : A625 29 = A593 29 := (hf627.1 29 (by decide) rfl).trans ca632
                  have ca634 : A597 31 = A593 31 := by rw [hA597]; exact rfl
                  have ca635 : A624 31 = A593 31 := by rw [hA624]; exact ca634
                  have ca636 : A625 31 = A593 31 := (hf627.1 31 (by decide) rfl).trans ca635
                  have ca637 : A597 33 = A593 33 := by rw [hA597]; exact rfl
                  have ca638 : A624 33 = A593 33 := by rw [hA624]; exact ca637
                  have ca639 : A625 33 = A593 33 := (hf627.1 33 (by decide) rfl).trans ca638
                  have ca640 : A597 35 = A593 35 := by rw [hA597]; exact rfl
                  have ca641 : A624 35 = A593 35 := by rw [hA624]; exact ca640
                  have ca642 : A625 35 = A593 35 := (hf627.1 35 (by decide) rfl).trans ca641
                  have ca643 : A597 37 = A593 37 := by rw [hA597]; exact rfl
                  have ca644 : A624 37 = A593 37 := by rw [hA624]; exact ca643
                  have ca645 : A625 37 = A593 37 := (hf627.1 37 (by decide) rfl).trans ca644
                  have ca646 : A597 39 = A593 39 := by rw [hA597]; exact rfl
                  have ca647 : A624 39 = A593 39 := by rw [hA624]; exact ca646
                  have ca648 : A625 39 = A593 39 := (hf627.1 39 (by decide) rfl).trans ca647
                  have ca649 : A597 40 = A593 40 := by rw [hA597]; exact rfl
                  have ca650 : A624 40 = A593 40 := by rw [hA624]; exact ca649
                  have ca651 : A625 40 = A593 40 := (hf627.1 40 (by decide) rfl).trans ca650
                  have e_A624_53 : A624 0 53 = (A 0 53) - 1 := by rw [hA624]; exact e_A597_53
                  have e_A625_53 : A625 0 53 = (A 0 53) - 1 := (hf627.2 53 rfl).trans e_A624_53
                  have e_A597_54 : A597 0 54 = (A 0 54) - 1 := by rw [hA597]; rfl
                  have e_A624_54 : A624 0 54 = (A 0 54) - 1 := by rw [hA624]; exact e_A597_54
                  have e_A625_54 : A625 0 54 = (A 0 54) - 1 := (hf627.2 54 rfl).trans e_A624_54
                  have e_A597_56 : A597 0 56 = (A593 0 56) := by rw [hA597]; exact rfl
                  have e_A624_56 : A624 0 56 = (A593 0 56) := by rw [hA624]; exact e_A597_56
                  have e_A625_56 : A625 0 56 = (A593 0 56) := (hf627.2 56 rfl).trans e_A624_56
                  have ca652 : A597 35 = A593 35 := by rw [hA597]; exact rfl
                  have ca653 : A624 35 = A593 35 := by rw [hA624]; exact ca652
                  have ca654 : A625 35 = A593 35 := (hf627.1 35 (by decide) rfl).trans ca653
                  have ca655 : A597 38 = A593 38 := by rw [hA597]; exact rfl
                  have ca656 : A624 38 = A593 38 := by rw [hA624]; exact ca655
                  have ca657 : A625 38 = A593 38 := (hf627.1 38 (by decide) rfl).trans ca656
                  exact RET 1 _ _ _ _ _ ⟨hI, fr.trans (fr_def hA624 (fr.st (fr_def hA597 (fr.sf (fr.sf (fr.trans (fr.trans (fr.trans (fr.rf) hj571 rfl rfl) hj589 rfl rfl) hf595 rfl rfl) rfl) rfl)) (by decide) rfl)) hf627 rfl rfl, (CI.fr (CI.fr (CI.fr hc596 (fr_def hA597 (fr.sf (fr.sf (fr.rf (M := []) (N := [53, 54])) rfl) rfl)) rfl rfl) (fr_def hA624 (fr.st (fr.rf (M := [36]) (N := [])) (by decide) rfl)) rfl rfl) hf627 rfl rfl), ⟨by decide, Hd.mk (fun h0 => ⟨fun _ => ⟨by rw [show A625 0 57 = 1 by omega]; exact RI.shut hj.1 hIj (by omega) (by rw [ca630, e_A593_53, ← hz1]; omega) (RI.full hj.2) (Or.inl ⟨by rw [ca630, e_A593_53, ← hz1]; omega, rfl, rfl⟩) ⟨ca633, ca636, ca639, ca642, ca645, ca648, ca651, e_A625_46, (e_A625_47.trans e_A593_47.symm), (by omega), (by omega), e_A625_56⟩ (by omega) (by omega) hw626.out.2.2.1, PR.pop (PR.fr (PR.fr (PR.fr hp2 hj571 rfl rfl) hj589 rfl rfl) hf595 rfl rfl) ca654 (by omega) ca657, by omega⟩, fun h => absurd h (by decide)⟩)⟩⟩ hP hS dX12_goesOn_583
              · have c598 : z1 = 4 := (i_eq (rb rz1 (by decide) (by decide)) ⟨by decide, by decide⟩).mp c598
                have gs := f591.out (by omega)
                have hlt := RI.lt hp0 (by omega)
                refine lv_aload_n hx hb dX12_goesOn_550 rfl (lv_at hl 0 rfl) ?_
                refine lv_aload_n hx hb dX12_goesOn_551 rfl (lv_at hl 0 rfl) ?_
                refine va_get (D := (dC, dI)) (ci := 12) (v := .ref (q 38)) (C := RX12) (T := TX12) (N := 85) hx hb hts hiX12 hown hK hP 0 wm0 rfl 51 (by decide) (hts _ (List.mem_cons_of_mem _ (wl_in_1 _ (List.mem_of_getElem? (i := 56) rfl)))) (fun _ h9 => h9) rfl dX12_goesOn_552 ?_
                refine lv_iload_n hx hb dX12_goesOn_555 rfl (lv_at hl 1 rfl) ?_
                have a_A572_38 : A572 38 = A 38 := (hj571.1 38 (by decide) rfl)
                have a_A590_38 : A590 38 = A 38 := (hj589.1 38 (by decide) rfl).trans a_A572_38
                have a_A593_38 : A593 38 = A 38 := (hf595.1 38 (by decide) rfl).trans a_A590_38
                have a_A597_38 : A597 38 = A 38 := by rw [hA597]; exact a_A593_38
                refine x_iald hx hb hK hP 38 1 wm38 rfl (by omega) (by decide) dX12_goesOn_556 (fun z658 hz658 => ?_)
                have rz658 : (0 : Int) ≤ z658 ∧ z658 ≤ 16 := by rw [hz658]; exact hI 38 _
                have hz658 : z658 = A 38 ((A 0 53) - 1).toNat := hz658.trans (congrFun a_A597_38 _)
                refine lv_iconst (v := iI 0) hx hb dX12_goesOn_557 (by decide +kernel) ?_
                have e_A597_46 : A597 0 46 = (A593 0 46) := by rw [hA597]; exact rfl
                have e_A597_47 : A597 0 47 = (A 0 47) := by rw [hA597]; exact e_A593_47
                refine x_callv (As := [.int (iI z658), .int (iI 0)]) (rest := []) ⟨hx, hb, hml, hown, hts⟩ (mb_X12_add l dC dI cB cI cJ cZ cQ q _ z658 0 hI (rb rz658 (by decide) (by decide)) ⟨by decide, by decide⟩ (by omega) (CI.fr hc596 (fr_def hA597 (fr.sf (fr.sf (fr.rf (M := []) (N := [53, 54])) rfl) rfl)) rfl rfl)) (cwV 2 hts (goodV (wl_in_1 _ (List.mem_of_getElem? (i := 41) rfl)) (wl_in_1 _ (List.mem_of_getElem? (i := 42) rfl)) (wl_in_1 _ (List.mem_of_getElem? (i := 43) rfl)) (wl_in_0 _ (List.mem_of_getElem? (i := 8) rfl)) (wl_in_1 _ (List.mem_of_getElem? (i := 29) rfl))) rfl rfl rfl (by decide +kernel) ⟨Nat.le_of_ble_eq_true rfl, Nat.le_of_ble_eq_true rfl⟩) hK hDD hA0 hP hS 0 12 wm0 rfl rfl hl.1 (Nat.le_of_ble_eq_true rfl) dX12_goesOn_558 (fun A659 H locs hw660 hP hS => ?_)
                obtain ⟨hI, hf661, hw660⟩ := hw660
                obtain ⟨hc662, hw660⟩ := hw660
                have r_A659_0_46 : (0 : Int) ≤ (A659 0 46) ∧ (A659 0 46) ≤ 1600 := hI 0 46
                refine lv_iload_n hx hb dX12_goesOn_561 rfl (lv_at hl 2 rfl) ?_
                refine lv_iconst (v := iI 5) hx hb dX12_goesOn_562 (by decide +kernel) ?_
                refine lv_icmp_ne (tgt := 578) hx hb dX12_goesOn_563 (by decide) (fun _ => ?_) (fun c663 => False.elim (by have c663 : z1 = 5 := (i_eq (rb rz1 (by decide) (by decide)) ⟨by decide, by decide⟩).mp c663; omega))
                refine lv_aload_n hx hb dX12_goesOn_578 rfl (lv_at hl 0 rfl) ?_
                have e_A597_4 : A597 0 4 = (A 0 4) := by rw [hA597]; exact e_A593_4
                have e_A659_4 : A659 0 4 = (A 0 4) := (hf661.2 4 rfl).trans e_A597_4
                have e_A597_5 : A597 0 5 = (A 0 5) := by rw [hA597]; exact e_A593_5
                have e_A659_5 : A659 0 5 = (A 0 5) := (hf661.2 5 rfl).trans e_A597_5
                have e_A597_8 : A597 0 8 = (A590 0 8) := by rw [hA597]; exact e_A593_8
                have e_A659_8 : A659 0 8 = (A590 0 8) := (hf661.2 8 rfl).trans e_A597_8
                refine x_callv (As := []) (rest := []) ⟨hx, hb, hml, hown, hts⟩ (mb_X12_ahead l dC dI cB cI cJ cZ cQ q _ hI) (cwV 0 hts (goodV (wl_in_0 _ (List.mem_of_getElem? (i := 40) rfl)) (wl_in_0 _ (List.mem_of_getElem? (i := 41) rfl)) (wl_in_0 _ (List.mem_of_getElem? (i := 42) rfl)) (wl_in_0 _ (List.mem_of_getElem? (i := 8) rfl)) (wl_in_0 _ (List.mem_of_getElem? (i := 20) rfl))) rfl rfl rfl (by decide +kernel) ⟨Nat.le_of_ble_eq_true rfl, Nat.le_of_ble_eq_true rfl⟩) hK hDD hA0 hP hS 0 12 wm0 rfl rfl hl.1 (Nat.le_of_ble_eq_true rfl) dX12_goesOn_579 (fun A664 H locs hw665 hP hS => ?_)
                obtain ⟨hI, hf666, hw665⟩ := hw665
                have r_A664_0_3 : (0 : Int) ≤ (A664 0 3) ∧ (A664 0 3) ≤ 3 := hI 0 3
                have r_A664_0_4 : (0 : Int) ≤ (A664 0 4) ∧ (A664 0 4) ≤ 1600 := hI 0 4
                have r_A664_0_5 : (0 : Int) ≤ (A664 0 5) ∧ (A664 0 5) ≤ 1600 := hI 0 5
                have r_A664_0_8 : (0 : Int) ≤ (A664 0 8) ∧ (A664 0 8) ≤ 5 := hI 0 8
                have hw665x := hw665.1
                have hw665y := hw665.2.1
                replace hw665 := Hd.mk hw665
                refine lv_iconst (v := iI 1) hx hb dX12_goesOn_582 (by decide +kernel) ?_
                have e_A664_46 : A664 0 46 = (A659 0 46) := (hf666.2 46 rfl)
                have e_A659_47 : A659 0 47 = (A 0 47) := (hf661.2 47 rfl).trans e_A597_47
                have e_A664_47 : A664 0 47 = (A 0 47) := (hf666.2 47 rfl).trans e_A659_47
                have e_A572_57 : A572 0 57 = (A 0 57) := (hj571.2 57 rfl)
                have e_A590_57 : A590 0 57 = (A 0 57) := (hj589.2 57 rfl).trans e_A572_57
                have e_A593_57 : A593 0 57 = (A 0 57) := (hf595.2 57 rfl).trans e_A590_57
                have e_A597_57 : A597 0 57 = (A 0 57) := by rw [hA597]; exact e_A593_57
                have e_A659_57 : A659 0 57 = (A 0 57) := (hf661.2 57 rfl).trans e_A597_57
                have e_A664_57 : A664 0 57 = (A 0 57) := (hf666.2 57 rfl).trans e_A659_57
                have r_A_0_57 : (0 : Int) ≤ (A 0 57) ∧ (A 0 57) ≤ 1 := by rw [← e_A664_57]; exact hI 0 57
                have ca667 : A572 35 = A 35 := (hj571.1 35 (by decide) rfl)
                have ca668 : A590 35 = A 35 := (hj589.1 35 (by decide) rfl).trans ca667
                have ca669 : A593 35 = A 35 := (hf595.1 35 (by decide) rfl).trans ca668
                have ca670 : A664 33 = A659 33 := (hf666.1 33 (by decide) rfl)
                have ca671 : A597 33 = A593 33 := by rw [hA597]; exact rfl
                have gx : 10 ≤ z658 := by rw [hz658]; exact hp2 _ (by omega) (Or.inr (by rw [← hz1]; omega))
                have ca672 : A597 29 = A593 29 := by rw [hA597]; exact rfl
                have ca673 : A659 29 = A593 29 := (hf661.1 29 (by decide) rfl).trans ca672
                have ca674 : A664 29 = A593 29 := (hf666.1 29 (by decide) rfl).trans ca673
                have ca675 : A597 31 = A593 31 := by rw [hA597]; exact rfl
                have ca676 : A659 31 = A593 31 := (hf661.1 31 (by decide) rfl).trans ca675
                have ca677 : A664 31 = A593 31 := (hf666.1 31 (by decide) rfl).trans ca676
                have ca678 : A597 35 = A593 35 := by rw [hA597]; exact rfl
                have ca679 : A659 35 = A593 35 := (hf661.1 35 (by decide) rfl).trans ca678
                have ca680 : A664 35 = A593 35 := (hf666.1 35 (by decide) rfl).trans ca679
                have ca681 : A597 37 = A593 37 := by rw [hA597]; exact rfl
                have ca682 : A659 37 = A593 37 := (hf661.1 37 (by decide) rfl).trans ca681
                have ca683 : A664 37 = A593 37 := (hf666.1 37 (by decide) rfl).trans ca682
                have ca684 : A597 39 = A593 39 := by rw [hA597]; exact rfl
                have ca685 : A659 39 = A593 39 := (hf661.1 39 (by decide) rfl).trans ca684
                have ca686 : A664 39 = A593 39 := (hf666.1 39 (by decide) rfl).trans ca685
                have ca687 : A597 40 = A593 40 := by rw [hA597]; exact rfl
                have ca688 : A659 40 = A593 40 := (hf661.1 40 (by decide) rfl).trans ca687
                have ca689 : A664 40 = A593 40 := (hf666.1 40 (by decide) rfl).trans ca688
                have e_A597_53 : A597 0 53 = (A 0 53) - 1 := by rw [hA597]; rfl
                have e_A659_53 : A659 0 53 = (A 0 53) - 1 := (hf661.2 53 rfl).trans e_A597_53
                have e_A664_53 : A664 0 53 = (A 0 53) - 1 := (hf666.2 53 rfl).trans e_A659_53
                have e_A597_54 : A597 0 54 = (A 0 54) - 1 := by rw [hA597]; rfl
                have e_A659_54 : A659 0 54 = (A 0 54) - 1 := (hf661.2 54 rfl).trans e_A597_54
                have e_A664_54 : A664 0 54 = (A 0 54) - 1 := (hf666.2 54 rfl).trans e_A659_54
                have e_A597_56 : A597 0 56 = (A593 0 56) := by rw [hA597]; exact rfl
                have e_A659_56 : A659 0 56 = (A593 0 56) := (hf661.2 56 rfl).trans e_A597_56
                have e_A664_56 : A664 0 56 = (A593 0 56) := (hf666.2 56 rfl).trans e_A659_56
                have ca690 : A597 35 = A593 35 := by rw [hA597]; exact rfl
                have ca691 : A659 35 = A593 35 := (hf661.1 35 (by decide) rfl).trans ca690
                have ca692 : A664 35 = A593 35 := (hf666.1 35 (by decide) rfl).trans ca691
                have ca693 : A597 38 = A593 38 := by rw [hA597]; exact rfl
                have ca694 : A659 38 = A593 38 := (hf661.1 38 (by decide) rfl).trans ca693
                have ca695 : A664 38 = A593 38 := (hf666.1 38 (by decide) rfl).trans ca694
                exact RET 1 _ _ _ _ _ ⟨hI, fr.trans (fr.trans (fr_def hA597 (fr.sf (fr.sf (fr.trans (fr.trans (fr.trans (fr.rf) hj571 rfl rfl) hj589 rfl rfl) hf595 rfl rfl) rfl) rfl)) hf661 rfl rfl) hf666 rfl rfl, (CI.fr hc662 hf666 rfl rfl), ⟨by decide, Hd.mk (fun h0 => ⟨fun _ => ⟨by rw [show A664 0 57 = 1 by omega]; exact RI.shut hj.1 hIj (by omega) (by rw [ca669, e_A593_53, ← hz1]; omega) (RI.full hj.2) (Or.inr ⟨z658, (by rw [ca669, e_A593_53, ← hz1]; omega), gx, by omega, rfl, rfl⟩) ⟨ca674, ca677, (ca670.trans (hw660.2.trans (by rw [ca671, show A597 0 47 = A593 0 47 from (e_A597_47.trans e_A593_47.symm), show A597 0 46 = A593 0 46 from e_A597_46]))), ca680, ca683, ca686, ca689, (by omega), (e_A664_47.trans e_A593_47.symm), (by omega), (by omega), e_A664_56⟩ (by omega) (by omega) hw665.out.2.2.1, PR.pop (PR.fr (PR.fr (PR.fr hp2 hj571 rfl rfl) hj589 rfl rfl) hf595 rfl rfl) ca692 (by omega) ca695, by omega⟩, fun h => absurd h (by decide)⟩)⟩⟩ hP hS dX12_goesOn_583
            · have c592 : ¬ (A590 0 8) ≤ 0 := mt (i_le0 (rb r_A590_0_8 (by decide) (by decide))).mpr c592
              refine lv_iconst (v := iI 0) hx hb dX12_goesOn_518 (by decide +kernel) ?_
              have e_A572_4 : A572 0 4 = (A 0 4) := (hj571.2 4 rfl)
              have e_A590_4 : A590 0 4 = (A 0 4) := (hj589.2 4 rfl).trans e_A572_4
              have e_A572_5 : A572 0 5 = (A 0 5) := (hj571.2 5 rfl)
              have e_A590_5 : A590 0 5 = (A 0 5) := (hj589.2 5 rfl).trans e_A572_5
              have e_A572_46 : A572 0 46 = (A 0 46) := (hj571.2 46 rfl)
              have e_A590_46 : A590 0 46 = (A 0 46) := (hj589.2 46 rfl).trans e_A572_46
              have e_A572_47 : A572 0 47 = (A 0 47) := (hj571.2 47 rfl)
              have e_A590_47 : A590 0 47 = (A 0 47) := (hj589.2 47 rfl).trans e_A572_47
              have e_A572_57 : A572 0 57 = (A 0 57) := (hj571.2 57 rfl)
              have e_A590_57 : A590 0 57 = (A 0 57) := (hj589.2 57 rfl).trans e_A572_57
              have r_A_0_57 : (0 : Int) ≤ (A 0 57) ∧ (A 0 57) ≤ 1 := by rw [← e_A590_57]; exact hI 0 57
              exact RET 0 _ _ _ _ _ ⟨hI, fr.trans (fr.trans (fr.rf) hj571 rfl rfl) hj589 rfl rfl, (CI.fr (CI.fr hcCI hj571 rfl rfl) hj589 rfl rfl), ⟨by decide, Hd.mk (fun h => absurd h (by omega))⟩⟩ hP hS dX12_goesOn_519
          refine lv_if_ne (tgt := 511) hx hb dX12_goesOn_499 (by decide) (fun c584 => ?_) (fun c584 => ?_)
          · have c584 : ¬ z581 = 0 := mt (i_eq0 (rb rz581 (by decide) (by decide))).mpr c584
            have hw583b := hw583.out.mp (by omega)
            have r_A572_0_8 : (0 : Int) ≤ (A572 0 8) ∧ (A572 0 8) ≤ 5 := hI 0 8
            exact J511_585 _ _ _ _ (by exact Hd.mk (by  omega)) hI (fr.rf) hP hS (lv_sub hl [0, 1, 2, 3] rfl)
          · have c584 : z581 = 0 := (i_eq0 (rb rz581 (by decide) (by decide))).mp c584
            refine lv_aload_n hx hb dX12_goesOn_502 rfl (lv_at hl 0 rfl) ?_
            refine lv_iconst (v := iI 1) hx hb dX12_goesOn_503 (by decide +kernel) ?_
            refine lv_aload_n hx hb dX12_goesOn_504 rfl (lv_at hl 0 rfl) ?_
            have e_A572_4 : A572 0 4 = (A 0 4) := (hj571.2 4 rfl)
            refine va_get (D := (dC, dI)) (ci := 12) (v := .int (iI (A572 0 4))) (C := RX12) (T := TX12) (N := 85) hx hb hts hiX12 hown hK hP 0 wm0 rfl 4 (by decide) (hts _ (List.mem_cons_of_mem _ (wl_in_0 _ (List.mem_of_getElem? (i := 23) rfl)))) (fun _ h9 => h9) rfl dX12_goesOn_505 ?_
            refine tp_i (y := iI (A 0 4)) (congrArg iI e_A572_4) ?_
            refine x_callv (As := [.int (iI 1), .int (iI (A 0 4))]) (rest := []) ⟨hx, hb, hml, hown, hts⟩ (mc_X12_blame l dC dI cB cI cJ cZ cQ q _ 1 (A 0 4) hI ⟨by decide, by decide⟩ r_A_0_4) (cwV 2 hts (goodV (wl_in_0 _ (List.mem_of_getElem? (i := 31) rfl)) (wl_in_0 _ (List.mem_of_getElem? (i := 32) rfl)) (wl_in_0 _ (List.mem_of_getElem? (i := 33) rfl)) (wl_in_0 _ (List.mem_of_getElem? (i := 8) rfl)) (wl_in_0 _ (List.mem_of_getElem? (i := 15) rfl))) rfl rfl rfl (by decide +kernel) ⟨Nat.le_of_ble_eq_true rfl, Nat.le_of_ble_eq_true rfl⟩) hK hDD hA0 hP hS 0 12 wm0 rfl rfl hl.1 (Nat.le_of_ble_eq_true rfl) dX12_goesOn_508 (fun A586 H locs hw587 hP hS => ?_)
            obtain ⟨hI, hf588, hw587⟩ := hw587
            have r_A586_0_8 : (0 : Int) ≤ (A586 0 8) ∧ (A586 0 8) ≤ 5 := hI 0 8
            have e_A586_3 : A586 0 3 = (A 0 3) := (hf588.2 3 rfl).trans e_A572_3
            exact J511_585 _ _ _ _ (by exact Hd.mk (by  omega)) hI (fr.trans (fr.rf) hf588 rfl rfl) hP hS (lv_sub hl [0, 1, 2, 3] rfl)
        refine lv_icmp_ne (tgt := 494) hx hb dX12_goesOn_486 (by decide) (fun c575 => ?_) (fun c575 => ?_)
        · have c575 : ¬ z1 = 5 := mt (i_eq (rb rz1 (by decide) (by decide)) ⟨by decide, by decide⟩).mpr c575
          refine lv_bipush (v := iI 41) hx hb dX12_goesOn_494 (by decide +kernel) ?_
          exact J496_576 41 _ _ _ (by omega) (by omega) hP hS (lv_sub hl [0, 1, 2, 3] rfl)
        · have c575 : z1 = 5 := (i_eq (rb rz1 (by decide) (by decide)) ⟨by decide, by decide⟩).mp c575
          refine lv_bipush (v := iI 93) hx hb dX12_goesOn_489 (by decide +kernel) ?_
          refine lv_goto (tgt := 496) hx hb dX12_goesOn_491 (by decide) ?_
          exact J496_576 93 _ _ _ (by omega) (by omega) hP hS (lv_sub hl [0, 1, 2, 3] rfl)
      · have c574 : z1 = 3 := (i_eq (rb rz1 (by decide) (by decide)) ⟨by decide, by decide⟩).mp c574
        refine lv_aload_n hx hb dX12_goesOn_433 rfl (lv_at hl 0 rfl) ?_
        refine lv_bipush (v := iI 44) hx hb dX12_goesOn_434 (by decide +kernel) ?_
        have e_A572_3 : A572 0 3 = (A 0 3) := (hj571.2 3 rfl)
        have e_A572_6 : A572 0 6 = (A 0 6) := (hj571.2 6 rfl)
        have r_A_0_6 : (-2147483648 : Int) ≤ (A 0 6) ∧ (A 0 6) ≤ 2147483647 := by rw [← e_A572_6]; exact hI 0 6
        refine x_calli (As := [.int (iI 44)]) (rest := []) ⟨hx, hb, hml, hown, hts⟩ (mb_X12_isSign l dC dI cB cI cJ cZ cQ q _ 44 hI ⟨by decide, by decide⟩) (cwV 1 hts (goodV (wl_in_0 _ (List.mem_of_getElem? (i := 37) rfl)) (wl_in_0 _ (List.mem_of_getElem? (i := 38) rfl)) (wl_in_0 _ (List.mem_of_getElem? (i := 39) rfl)) (wl_in_0 _ (List.mem_of_getElem? (i := 8) rfl)) (wl_in_0 _ (List.mem_of_getElem? (i := 34) rfl))) rfl rfl rfl (by decide +kernel) ⟨Nat.le_of_ble_eq_true rfl, Nat.le_of_ble_eq_true rfl⟩) hK hDD hA0 hP hS 0 12 wm0 rfl rfl hl.1 (Nat.le_of_ble_eq_true rfl) dX12_goesOn_436 (fun z696 A697 H locs hw698 hP hS => ?_)
        obtain ⟨rfl, hw698⟩ := hw698
        have rz696 : 0 ≤ z696 ∧ z696 ≤ 1 := hw698.1
        replace hw698 := Hd.mk hw698.2
        have J451_700 : ∀ (A705 : St) (H : Heap) (locs : List Loc) (ls : Array Slot), (Hd ((A705 0 8) = 0 → (A705 0 3) = 3)) → IM A705 → fr [] [8, 9] A572 A705 → va_P (dC, dI) vwCl (WM cI cJ cZ q A705) H → va_S AS s.heap H locs → lv_has ls 5 [(0, .ref (q 0)), (1, .int (iI ((A 0 53) - 1))), (2, .int (iI z1)), (3, .int (iI z2))] → W p l e (headSpec ws_mb_X12_goesOn ({ frames := 2, cells := 0, slots := 0, locals := 47 } : Room)).room s m [.ref (q 0)].toArray below meth c H locs 0 0 Q (F0 m 451 ls []) := by
          intro A705 H locs ls f706 hI hj704 hP hS hl
          refine lv_aload_n hx hb dX12_goesOn_451 rfl (lv_at hl 0 rfl) ?_
          refine va_get (D := (dC, dI)) (ci := 12) (v := .int (iI (A705 0 8))) (C := RX12) (T := TX12) (N := 85) hx hb hts hiX12 hown hK hP 0 wm0 rfl 8 (by decide) (hts _ (List.mem_cons_of_mem _ (wl_in_0 _ (List.mem_of_getElem? (i := 16) rfl)))) (fun _ h9 => h9) rfl dX12_goesOn_452 ?_
          have r_A705_0_8 : (0 : Int) ≤ (A705 0 8) ∧ (A705 0 8) ≤ 5 := hI 0 8
          refine lv_if_le (tgt := 460) hx hb dX12_goesOn_455 (by decide) (fun c707 => ?_) (fun c707 => ?_)
          · have c707 : (A705 0 8) ≤ 0 := (i_le0 (rb r_A705_0_8 (by decide) (by decide))).mp c707
            refine lv_aload_n hx hb dX12_goesOn_460 rfl (lv_at hl 0 rfl) ?_
            refine lv_iconst (v := iI 1) hx hb dX12_goesOn_461 (by decide +kernel) ?_
            refine x_callv (As := [.int (iI 1)]) (rest := []) ⟨hx, hb, hml, hown, hts⟩ (mb_X12_joins l dC dI cB cI cJ cZ cQ q _ 1 hI ⟨by decide, by decide⟩ (by exact (RI1.fr (RI1.fr hp0 hj571 rfl rfl) hj704 rfl rfl)) (CI.fr (CI.fr hcCI hj571 rfl rfl) hj704 rfl rfl)) (cwV 1 hts (goodV (wl_in_2 _ (List.mem_of_getElem? (i := 10) rfl)) (wl_in_2 _ (List.mem_of_getElem? (i := 11) rfl)) (wl_in_2 _ (List.mem_of_getElem? (i := 12) rfl)) (wl_in_0 _ (List.mem_of_getElem? (i := 8) rfl)) (wl_in_1 _ (List.mem_of_getElem? (i := 34) rfl))) rfl rfl rfl (by decide +kernel) ⟨Nat.le_of_ble_eq_true rfl, Nat.le_of_ble_eq_true rfl⟩) hK hDD hA0 hP hS 0 12 wm0 rfl rfl hl.1 (Nat.le_of_ble_eq_true rfl) dX12_goesOn_462 (fun A708 H locs hw709 hP hS => ?_)
            obtain ⟨hI, hf710, hw709⟩ := hw709
            obtain ⟨hc711, hw709⟩ := hw709
            have e_A572_53 : A572 0 53 = (A 0 53) := (hj571.2 53 rfl)
            have e_A705_53 : A705 0 53 = (A 0 53) := (hj704.2 53 rfl).trans e_A572_53
            have e_A708_53 : A708 0 53 = (A 0 53) := (hf710.2 53 rfl).trans e_A705_53
            have r_A708_0_56 : (0 : Int) ≤ (A708 0 56) ∧ (A708 0 56) ≤ 500 := hI 0 56
            have hj := hw709
            have hIj := hI
            have hrj := RI.room hj.1 hIj
            clear hw709
            have e_A705_3 : A705 0 3 = (A 0 3) := (hj704.2 3 rfl).trans e_A572_3
            have e_A708_3 : A708 0 3 = (A 0 3) := (hf710.2 3 rfl).trans e_A705_3
            have e_A572_4 : A572 0 4 = (A 0 4) := (hj571.2 4 rfl)
            have e_A705_4 : A705 0 4 = (A 0 4) := (hj704.2 4 rfl).trans e_A572_4
            have e_A708_4 : A708 0 4 = (A 0 4) := (hf710.2 4 rfl).trans e_A705_4
            have e_A572_5 : A572 0 5 = (A 0 5) := (hj571.2 5 rfl)
            have e_A705_5 : A705 0 5 = (A 0 5) := (hj704.2 5 rfl).trans e_A572_5
            have e_A708_5 : A708 0 5 = (A 0 5) := (hf710.2 5 rfl).trans e_A705_5
            have e_A572_7 : A572 0 7 = (A 0 7) := (hj571.2 7 rfl)
            have e_A705_7 : A705 0 7 = (A 0 7) := (hj704.2 7 rfl).trans e_A572_7
            have e_A708_7 : A708 0 7 = (A 0 7) := (hf710.2 7 rfl).trans e_A705_7
            have e_A708_8 : A708 0 8 = (A705 0 8) := (hf710.2 8 rfl)
            have e_A572_47 : A572 0 47 = (A 0 47) := (hj571.2 47 rfl)
            have e_A705_47 : A705 0 47 = (A 0 47) := (hj704.2 47 rfl).trans e_A572_47
            have e_A708_47 : A708 0 47 = (A 0 47) := (hf710.2 47 rfl).trans e_A705_47
            have e_A572_54 : A572 0 54 = (A 0 54) := (hj571.2 54 rfl)
            have e_A705_54 : A705 0 54 = (A 0 54) := (hj704.2 54 rfl).trans e_A572_54
            have e_A708_54 : A708 0 54 = (A 0 54) := (hf710.2 54 rfl).trans e_A705_54
            have r_A708_0_46 : (0 : Int) ≤ (A708 0 46) ∧ (A708 0 46) ≤ 1600 := hI 0 46
            refine lv_aload_n hx hb dX12_goesOn_465 rfl (lv_at hl 0 rfl) ?_
            refine va_get (D := (dC, dI)) (ci := 12) (v := .ref (q 35)) (C := RX12) (T := TX12) (N := 85) hx hb hts hiX12 hown hK hP 0 wm0 rfl 48 (by decide) (hts _ (List.mem_cons_of_mem _ (wl_in_1 _ (List.mem_of_getElem? (i := 46) rfl)))) (fun _ h9 => h9) rfl dX12_goesOn_466 ?_
            refine lv_iload_n hx hb dX12_goesOn_469 rfl (lv_at hl 1 rfl) ?_
            refine lv_iconst (v := iI 4) hx hb dX12_goesOn_470 (by decide +kernel) ?_
            refine x_iast hx hb hK hP hDD hS 35 1 wm35 rfl (by omega) (by decide) dX12_goesOn_471 ws35 (fun H locs hP hS => ?_)
            have hI := hI.st (j := 35) (i := ((A 0 53) - 1).toNat) (v := 4) (show (0 : Int) ≤ 4 ∧ 4 ≤ 5 from (by omega))
            refine lv_aload_n hx hb dX12_goesOn_472 rfl (lv_at hl 0 rfl) ?_
            obtain ⟨A712, hA712⟩ : ∃ A712 : St, A712 = (stA A708 35 ((A 0 53) - 1).toNat 4) := ⟨_, rfl⟩
            rw [← hA712] at hP hI
            have e_A712_4 : A712 0 4 = (A 0 4) := by rw [hA712]; exact e_A708_4
            have e_A712_5 : A712 0 5 = (A 0 5) := by rw [hA712]; exact e_A708_5
            have e_A712_8 : A712 0 8 = (A705 0 8) := by rw [hA712]; exact e_A708_8
            refine x_callv (As := []) (rest := []) ⟨hx, hb, hml, hown, hts⟩ (mb_X12_ahead l dC dI cB cI cJ cZ cQ q _ hI) (cwV 0 hts (goodV (wl_in_0 _ (List.mem_of_getElem? (i := 40) rfl)) (wl_in_0 _ (List.mem_of_getElem? (i := 41) rfl)) (wl_in_0 _ (List.mem_of_getElem? (i := 42) rfl)) (wl_in_0 _ (List.mem_of_getElem? (i := 8) rfl)) (wl_in_0 _ (List.mem_of_getElem? (i := 20) rfl))) rfl rfl rfl (by decide +kernel) ⟨Nat.le_of_ble_eq_true rfl, Nat.le_of_ble_eq_true rfl⟩) hK hDD hA0 hP hS 0 12 wm0 rfl rfl hl.1 (Nat.le_of_ble_eq_true rfl) dX12_goesOn_473 (fun A713 H locs hw714 hP hS => ?_)
            obtain ⟨hI, hf715, hw714⟩ := hw714
            have r_A713_0_3 : (0 : Int) ≤ (A713 0 3) ∧ (A713 0 3) ≤ 3 := hI 0 3
            have r_A713_0_4 : (0 : Int) ≤ (A713 0 4) ∧ (A713 0 4) ≤ 1600 := hI 0 4
            have r_A713_0_5 : (0 : Int) ≤ (A713 0 5) ∧ (A713 0 5) ≤ 1600 := hI 0 5
            have r_A713_0_8 : (0 : Int) ≤ (A713 0 8) ∧ (A713 0 8) ≤ 5 := hI 0 8
            have hw714x := hw714.1
            have hw714y := hw714.2.1
            replace hw714 := Hd.mk hw714
            refine lv_aload_n hx hb dX12_goesOn_476 rfl (lv_at hl 0 rfl) ?_
            refine lv_iconst (v := iI 0) hx hb dX12_goesOn_477 (by decide +kernel) ?_
            refine x_put (D := (dC, dI)) (ci := 12) (v := .int (iI 0)) (ty := .boolean) (C := RX12) (T := TX12) (N := 85) hx hb hts hiX12 tyX12 tyX12_ok nmX12 hown hK hP hDD hS 0 wm0 rfl 57 (by decide) (hts _ (List.mem_cons_of_mem _ (wl_in_2 _ (List.mem_of_getElem? (i := 9) rfl)))) (fun _ h9 => h9) rfl (by decide +kernel) (by decide +kernel) rfl (Nat.le_of_ble_eq_true rfl) dX12_goesOn_478 (wf57 (v := 0)) (fun H locs hP hS => ?_)
            have hI := hI.st (j := 0) (i := 57) (v := 0) (show (0 : Int) ≤ 0 ∧ 0 ≤ 1 from (by omega))
            refine lv_iconst (v := iI 1) hx hb dX12_goesOn_481 (by decide +kernel) ?_
            obtain ⟨A716, hA716⟩ : ∃ A716 : St, A716 = (stA A713 0 57 0) := ⟨_, rfl⟩
            rw [← hA716] at hP hI
            have e_A716_4 : A716 0 4 = (A713 0 4) := by rw [hA716]; exact rfl
            have e_A716_5 : A716 0 5 = (A713 0 5) := by rw [hA716]; exact rfl
            have e_A716_8 : A716 0 8 = (A713 0 8) := by rw [hA716]; exact rfl
            have e_A712_46 : A712 0 46 = (A708 0 46) := by rw [hA712]; exact rfl
            have e_A713_46 : A713 0 46 = (A708 0 46) := (hf715.2 46 rfl).trans e_A712_46
            have e_A716_46 : A716 0 46 = (A708 0 46) := by rw [hA716]; exact e_A713_46
            have e_A712_47 : A712 0 47 = (A 0 47) := by rw [hA712]; exact e_A708_47
            have e_A713_47 : A713 0 47 = (A 0 47) := (hf715.2 47 rfl).trans e_A712_47
            have e_A716_47 : A716 0 47 = (A 0 47) := by rw [hA716]; exact e_A713_47
            have e_A716_57 : A716 0 57 = 0 := by rw [hA716]; rfl
            have ca717 : A572 35 = A 35 := (hj571.1 35 (by decide) rfl)
            have ca718 : A705 35 = A 35 := (hj704.1 35 (by decide) rfl).trans ca717
            have ca719 : A708 35 = A 35 := (hf710.1 35 (by decide) rfl).trans ca718
            have ca720 : A716 1 = A713 1 := by rw [hA716]; exact rfl
            have e_A716_3 : A716 0 3 = (A713 0 3) := by rw [hA716]; exact rfl
            have e_A716_7 : A716 0 7 = (A713 0 7) := by rw [hA716]; exact rfl
            have gs := f706.out (by omega)
            have hlt := RI.lt hp0 (by omega)
            have e35 : A712 35 = up (A708 35) (A708 0 53 - 1).toNat 4 := by rw [hA712]; show up (A708 35) _ _ = _; rw [e_A708_53]
            have ca721 : A713 35 = A712 35 := (hf715.1 35 (by decide) rfl)
            have ca722 : A716 35 = A712 35 := by rw [hA716]; exact ca721
            have ca723 : A712 29 = A708 29 := by rw [hA712]; exact rfl
            have ca724 : A713 29 = A708 29 := (hf715.1 29 (by decide) rfl).trans ca723
            have ca725 : A716 29 = A708 29 := by rw [hA716]; exact ca724
            have ca726 : A712 31 = A708 31 := by rw [hA712]; exact rfl
            have ca727 : A713 31 = A708 31 := (hf715.1 31 (by decide) rfl).trans ca726
            have ca728 : A716 31 = A708 31 := by rw [hA716]; exact ca727
            have ca729 : A712 33 = A708 33 := by rw [hA712]; exact rfl
            have ca730 : A713 33 = A708 33 := (hf715.1 33 (by decide) rfl).trans ca729
            have ca731 : A716 33 = A708 33 := by rw [hA716]; exact ca730
            have ca732 : A712 37 = A708 37 := by rw [hA712]; exact rfl
            have ca733 : A713 37 = A708 37 := (hf715.1 37 (by decide) rfl).trans ca732
            have ca734 : A716 37 = A708 37 := by rw [hA716]; exact ca733
            have ca735 : A712 39 = A708 39 := by rw [hA712]; exact rfl
            have ca736 : A713 39 = A708 39 := (hf715.1 39 (by decide) rfl).trans ca735
            have ca737 : A716 39 = A708 39 := by rw [hA716]; exact ca736
            have ca738 : A712 40 = A708 40 := by rw [hA712]; exact rfl
            have ca739 : A713 40 = A708 40 := (hf715.1 40 (by decide) rfl).trans ca738
            have ca740 : A716 40 = A708 40 := by rw [hA716]; exact ca739
            have e_A712_53 : A712 0 53 = (A 0 53) := by rw [hA712]; exact e_A708_53
            have e_A713_53 : A713 0 53 = (A 0 53) := (hf715.2 53 rfl).trans e_A712_53
            have e_A716_53 : A716 0 53 = (A 0 53) := by rw [hA716]; exact e_A713_53
            have e_A712_54 : A712 0 54 = (A 0 54) := by rw [hA712]; exact e_A708_54
            have e_A713_54 : A713 0 54 = (A 0 54) := (hf715.2 54 rfl).trans e_A712_54
            have e_A716_54 : A716 0 54 = (A 0 54) := by rw [hA716]; exact e_A713_54
            have e_A712_56 : A712 0 56 = (A708 0 56) := by rw [hA712]; exact rfl
            have e_A713_56 : A713 0 56 = (A708 0 56) := (hf715.2 56 rfl).trans e_A712_56
            have e_A716_56 : A716 0 56 = (A708 0 56) := by rw [hA716]; exact e_A713_56
            have ca741 : A712 38 = A708 38 := by rw [hA712]; exact rfl
            have ca742 : A713 38 = A708 38 := (hf715.1 38 (by decide) rfl).trans ca741
            have ca743 : A716 38 = A708 38 := by rw [hA716]; exact ca742
            exact RET 1 _ _ _ _ _ ⟨hI, fr_def hA716 (fr.sf (fr.trans (fr_def hA712 (fr.st (fr.trans (fr.trans (fr.trans (fr.rf) hj571 rfl rfl) hj704 rfl rfl) hf710 rfl rfl) (by decide) rfl)) hf715 rfl rfl) rfl), (CI.fr (CI.fr (CI.fr hc711 (fr_def hA712 (fr.st (fr.rf (M := [35]) (N := [])) (by decide) rfl)) rfl rfl) hf715 rfl rfl) (fr_def hA716 (fr.sf (fr.rf (M := []) (N := [57])) rfl)) rfl rfl), ⟨by decide, Hd.mk (fun h0 => ⟨fun _ => ⟨by rw [show A716 0 57 = 0 by omega]; exact RI.comma hj.1 hIj (by omega) (by rw [ca719, e_A708_53, ← hz1]; omega) ⟨ca725, ca728, ca731, (ca722.trans e35), ca734, ca737, ca740, e_A716_46, (e_A716_47.trans e_A708_47.symm), (e_A716_53.trans e_A708_53.symm), (e_A716_54.trans e_A708_54.symm), e_A716_56⟩ (by omega) (by omega) (LX.of ca720 e_A716_3 e_A716_4 e_A716_5 e_A716_7 hw714.out.2.2.1), PR.comma (PR.fr (PR.fr (PR.fr hp2 hj571 rfl rfl) hj704 rfl rfl) hf710 rfl rfl) (by rw [ca719, e_A708_53, ← hz1]; omega) (ca722.trans e35) (e_A716_53.trans e_A708_53.symm) ca743, by omega⟩, fun h => absurd h (by decide)⟩)⟩⟩ hP hS dX12_goesOn_482
          · have c707 : ¬ (A705 0 8) ≤ 0 := mt (i_le0 (rb r_A705_0_8 (by decide) (by decide))).mpr c707
            refine lv_iconst (v := iI 0) hx hb dX12_goesOn_458 (by decide +kernel) ?_
            have e_A572_4 : A572 0 4 = (A 0 4) := (hj571.2 4 rfl)
            have e_A705_4 : A705 0 4 = (A 0 4) := (hj704.2 4 rfl).trans e_A572_4
            have e_A572_5 : A572 0 5 = (A 0 5) := (hj571.2 5 rfl)
            have e_A705_5 : A705 0 5 = (A 0 5) := (hj704.2 5 rfl).trans e_A572_5
            have e_A572_46 : A572 0 46 = (A 0 46) := (hj571.2 46 rfl)
            have e_A705_46 : A705 0 46 = (A 0 46) := (hj704.2 46 rfl).trans e_A572_46
            have e_A572_47 : A572 0 47 = (A 0 47) := (hj571.2 47 rfl)
            have e_A705_47 : A705 0 47 = (A 0 47) := (hj704.2 47 rfl).trans e_A572_47
            have e_A572_57 : A572 0 57 = (A 0 57) := (hj571.2 57 rfl)
            have e_A705_57 : A705 0 57 = (A 0 57) := (hj704.2 57 rfl).trans e_A572_57
            have r_A_0_57 : (0 : Int) ≤ (A 0 57) ∧ (A 0 57) ≤ 1 := by rw [← e_A705_57]; exact hI 0 57
            exact RET 0 _ _ _ _ _ ⟨hI, fr.trans (fr.trans (fr.rf) hj571 rfl rfl) hj704 rfl rfl, (CI.fr (CI.fr hcCI hj571 rfl rfl) hj704 rfl rfl), ⟨by decide, Hd.mk (fun h => absurd h (by omega))⟩⟩ hP hS dX12_goesOn_459
        refine lv_if_ne (tgt := 451) hx hb dX12_goesOn_439 (by decide) (fun c699 => ?_) (fun c699 => ?_)
        · have c699 : ¬ z696 = 0 := mt (i_eq0 (rb rz696 (by decide) (by decide))).mpr c699
          have hw698b := hw698.out.mp (by omega)
          have r_A572_0_8 : (0 : Int) ≤ (A572 0 8) ∧ (A572 0 8) ≤ 5 := hI 0 8
          exact J451_700 _ _ _ _ (by exact Hd.mk (by  omega)) hI (fr.rf) hP hS (lv_sub hl [0, 1, 2, 3] rfl)
        · have c699 : z696 = 0 := (i_eq0 (rb rz696 (by decide) (by decide))).mp c699
          refine lv_aload_n hx hb dX12_goesOn_442 rfl (lv_at hl 0 rfl) ?_
          refine lv_iconst (v := iI 1) hx hb dX12_goesOn_443 (by decide +kernel) ?_
          refine lv_aload_n hx hb dX12_goesOn_444 rfl (lv_at hl 0 rfl) ?_
          have e_A572_4 : A572 0 4 = (A 0 4) := (hj571.2 4 rfl)
          refine va_get (D := (dC, dI)) (ci := 12) (v := .int (iI (A572 0 4))) (C := RX12) (T := TX12) (N := 85) hx hb hts hiX12 hown hK hP 0 wm0 rfl 4 (by decide) (hts _ (List.mem_cons_of_mem _ (wl_in_0 _ (List.mem_of_getElem? (i := 23) rfl)))) (fun _ h9 => h9) rfl dX12_goesOn_445 ?_
          refine tp_i (y := iI (A 0 4)) (congrArg iI e_A572_4) ?_
          refine x_callv (As := [.int (iI 1), .int (iI (A 0 4))]) (rest := []) ⟨hx, hb, hml, hown, hts⟩ (mc_X12_blame l dC dI cB cI cJ cZ cQ q _ 1 (A 0 4) hI ⟨by decide, by decide⟩ r_A_0_4) (cwV 2 hts (goodV (wl_in_0 _ (List.mem_of_getElem? (i := 31) rfl)) (wl_in_0 _ (List.mem_of_getElem? (i := 32) rfl)) (wl_in_0 _ (List.mem_of_getElem? (i := 33) rfl)) (wl_in_0 _ (List.mem_of_getElem? (i := 8) rfl)) (wl_in_0 _ (List.mem_of_getElem? (i := 15) rfl))) rfl rfl rfl (by decide +kernel) ⟨Nat.le_of_ble_eq_true rfl, Nat.le_of_ble_eq_true rfl⟩) hK hDD hA0 hP hS 0 12 wm0 rfl rfl hl.1 (Nat.le_of_ble_eq_true rfl) dX12_goesOn_448 (fun A701 H locs hw702 hP hS => ?_)
          obtain ⟨hI, hf703, hw702⟩ := hw702
          have r_A701_0_8 : (0 : Int) ≤ (A701 0 8) ∧ (A701 0 8) ≤ 5 := hI 0 8
          have e_A701_3 : A701 0 3 = (A 0 3) := (hf703.2 3 rfl).trans e_A572_3
          exact J451_700 _ _ _ _ (by exact Hd.mk (by  omega)) hI (fr.trans (fr.rf) hf703 rfl rfl) hP hS (lv_sub hl [0, 1, 2, 3] rfl)
    · have c573 : ¬ 2 ≤ z1 := mt (i_le ⟨by decide, by decide⟩ (rb rz1 (by decide) (by decide))).mpr c573
      refine lv_aload_n hx hb dX12_goesOn_414 rfl (lv_at hl 0 rfl) ?_
      refine va_get (D := (dC, dI)) (ci := 12) (v := .int (iI (A572 0 8))) (C := RX12) (T := TX12) (N := 85) hx hb hts hiX12 hown hK hP 0 wm0 rfl 8 (by decide) (hts _ (List.mem_cons_of_mem _ (wl_in_0 _ (List.mem_of_getElem? (i := 16) rfl)))) (fun _ h9 => h9) rfl dX12_goesOn_415 ?_
      have r_A572_0_8 : (0 : Int) ≤ (A572 0 8) ∧ (A572 0 8) ≤ 5 := hI 0 8
      refine lv_if_ne (tgt := 426) hx hb dX12_goesOn_418 (by decide) (fun c744 => ?_) (fun c744 => ?_)
      · have c744 : ¬ (A572 0 8) = 0 := mt (i_eq0 (rb r_A572_0_8 (by decide) (by decide))).mpr c744
        refine lv_iconst (v := iI 0) hx hb dX12_goesOn_426 (by decide +kernel) ?_
        have e_A572_4 : A572 0 4 = (A 0 4) := (hj571.2 4 rfl)
        have e_A572_5 : A572 0 5 = (A 0 5) := (hj571.2 5 rfl)
        have e_A572_46 : A572 0 46 = (A 0 46) := (hj571.2 46 rfl)
        have e_A572_47 : A572 0 47 = (A 0 47) := (hj571.2 47 rfl)
        have e_A572_57 : A572 0 57 = (A 0 57) := (hj571.2 57 rfl)
        have r_A_0_57 : (0 : Int) ≤ (A 0 57) ∧ (A 0 57) ≤ 1 := by rw [← e_A572_57]; exact hI 0 57
        exact RET 0 _ _ _ _ _ ⟨hI, fr.trans (fr.rf) hj571 rfl rfl, (CI.fr hcCI hj571 rfl rfl), ⟨by decide, Hd.mk (fun h => absurd h (by omega))⟩⟩ hP hS dX12_goesOn_427
      · have c744 : (A572 0 8) = 0 := (i_eq0 (rb r_A572_0_8 (by decide) (by decide))).mp c744
        refine lv_aload_n hx hb dX12_goesOn_421 rfl (lv_at hl 0 rfl) ?_
        refine lv_iconst (v := iI 1) hx hb dX12_goesOn_422 (by decide +kernel) ?_
        refine x_callv (As := [.int (iI 1)]) (rest := []) ⟨hx, hb, hml, hown, hts⟩ (mb_X12_joins l dC dI cB cI cJ cZ cQ q _ 1 hI ⟨by decide, by decide⟩ (by exact (RI1.fr hp0 hj571 rfl rfl)) (CI.fr hcCI hj571 rfl rfl)) (cwV 1 hts (goodV (wl_in_2 _ (List.mem_of_getElem? (i := 10) rfl)) (wl_in_2 _ (List.mem_of_getElem? (i := 11) rfl)) (wl_in_2 _ (List.mem_of_getElem? (i := 12) rfl)) (wl_in_0 _ (List.mem_of_getElem? (i := 8) rfl)) (wl_in_1 _ (List.mem_of_getElem? (i := 34) rfl))) rfl rfl rfl (by decide +kernel) ⟨Nat.le_of_ble_eq_true rfl, Nat.le_of_ble_eq_true rfl⟩) hK hDD hA0 hP hS 0 12 wm0 rfl rfl hl.1 (Nat.le_of_ble_eq_true rfl) dX12_goesOn_423 (fun A745 H locs hw746 hP hS => ?_)
        obtain ⟨hI, hf747, hw746⟩ := hw746
        obtain ⟨hc748, hw746⟩ := hw746
        have e_A572_53 : A572 0 53 = (A 0 53) := (hj571.2 53 rfl)
        have e_A745_53 : A745 0 53 = (A 0 53) := (hf747.2 53 rfl).trans e_A572_53
        have r_A745_0_56 : (0 : Int) ≤ (A745 0 56) ∧ (A745 0 56) ≤ 500 := hI 0 56
        have hj := hw746
        have hIj := hI
        have hrj := RI.room hj.1 hIj
        clear hw746
        have e_A572_3 : A572 0 3 = (A 0 3) := (hj571.2 3 rfl)
        have e_A745_3 : A745 0 3 = (A 0 3) := (hf747.2 3 rfl).trans e_A572_3
        have e_A572_4 : A572 0 4 = (A 0 4) := (hj571.2 4 rfl)
        have e_A745_4 : A745 0 4 = (A 0 4) := (hf747.2 4 rfl).trans e_A572_4
        have e_A572_5 : A572 0 5 = (A 0 5) := (hj571.2 5 rfl)
        have e_A745_5 : A745 0 5 = (A 0 5) := (hf747.2 5 rfl).trans e_A572_5
        have e_A572_7 : A572 0 7 = (A 0 7) := (hj571.2 7 rfl)
        have e_A745_7 : A745 0 7 = (A 0 7) := (hf747.2 7 rfl).trans e_A572_7
        have e_A745_8 : A745 0 8 = (A572 0 8) := (hf747.2 8 rfl)
        have e_A572_47 : A572 0 47 = (A 0 47) := (hj571.2 47 rfl)
        have e_A745_47 : A745 0 47 = (A 0 47) := (hf747.2 47 rfl).trans e_A572_47
        have e_A572_54 : A572 0 54 = (A 0 54) := (hj571.2 54 rfl)
        have e_A745_54 : A745 0 54 = (A 0 54) := (hf747.2 54 rfl).trans e_A572_54
        have r_A745_0_46 : (0 : Int) ≤ (A745 0 46) ∧ (A745 0 46) ≤ 1600 := hI 0 46
        refine lv_iconst (v := iI 0) hx hb dX12_goesOn_426 (by decide +kernel) ?_
        have e_A572_57 : A572 0 57 = (A 0 57) := (hj571.2 57 rfl)
        have e_A745_57 : A745 0 57 = (A 0 57) := (hf747.2 57 rfl).trans e_A572_57
        have r_A_0_57 : (0 : Int) ≤ (A 0 57) ∧ (A 0 57) ≤ 1 := by rw [← e_A745_57]; exact hI 0 57
        have ca749 : A572 35 = A 35 := (hj571.1 35 (by decide) rfl)
        have ca750 : A745 35 = A 35 := (hf747.1 35 (by decide) rfl).trans ca749
        exact RET 0 _ _ _ _ _ ⟨hI, fr.trans (fr.trans (fr.rf) hj571 rfl rfl) hf747 rfl rfl, hc748, ⟨by decide, Hd.mk (fun h0 => ⟨fun h => absurd h (by decide), fun _ => ⟨RI.done hj.1 hIj (by rw [ca750, e_A745_53, ← hz1]; omega) (RI.full hj.2), RI.cb hj.1 hIj, by omega⟩⟩)⟩⟩ hP hS dX12_goesOn_427
  refine lv_if_eq (tgt := 409) hx hb dX12_goesOn_388 (by decide) (fun c564 => ?_) (fun c564 => ?_)
  · have c564 : z2 = 0 := (i_eq0 (rb rz2 (by decide) (by decide))).mp c564
    exact J409_565 _ _ _ _ hI (fr.rf) hP hS (lv_sub hl [0, 1, 2, 3] rfl)
  · have c564 : ¬ z2 = 0 := mt (i_eq0 (rb rz2 (by decide) (by decide))).mpr c564
    refine lv_aload_n hx hb dX12_goesOn_391 rfl (lv_at hl 0 rfl) ?_
    refine va_get (D := (dC, dI)) (ci := 12) (v := .ref (q 36)) (C := RX12) (T := TX12) (N := 85) hx hb hts hiX12 hown hK hP 0 wm0 rfl 49 (by decide) (hts _ (List.mem_cons_of_mem _ (wl_in_1 _ (List.mem_of_getElem? (i := 47) rfl)))) (fun _ h9 => h9) rfl dX12_goesOn_392 ?_
    refine lv_iload_n hx hb dX12_goesOn_395 rfl (lv_at hl 1 rfl) ?_
    refine x_iald hx hb hK hP 36 1 wm36 rfl (by omega) (by decide) dX12_goesOn_396 (fun z566 hz566 => ?_)
    have rz566 : (0 : Int) ≤ z566 ∧ z566 ≤ 2 := by rw [hz566]; exact hI 36 _
    have hz566 : z566 = A 36 ((A 0 53) - 1).toNat := hz566
    refine lv_if_ne (tgt := 409) hx hb dX12_goesOn_397 (by decide) (fun c567 => ?_) (fun c567 => ?_)
    · have c567 : ¬ z566 = 0 := mt (i_eq0 (rb rz566 (by decide) (by decide))).mpr c567
      exact J409_565 _ _ _ _ hI (fr.rf) hP hS (lv_sub hl [0, 1, 2, 3] rfl)
    · have c567 : z566 = 0 := (i_eq0 (rb rz566 (by decide) (by decide))).mp c567
      refine lv_aload_n hx hb dX12_goesOn_400 rfl (lv_at hl 0 rfl) ?_
      refine lv_iconst (v := iI 1) hx hb dX12_goesOn_401 (by decide +kernel) ?_
      refine lv_aload_n hx hb dX12_goesOn_402 rfl (lv_at hl 0 rfl) ?_
      refine va_get (D := (dC, dI)) (ci := 12) (v := .int (iI (A 0 4))) (C := RX12) (T := TX12) (N := 85) hx hb hts hiX12 hown hK hP 0 wm0 rfl 4 (by decide) (hts _ (List.mem_cons_of_mem _ (wl_in_0 _ (List.mem_of_getElem? (i := 23) rfl)))) (fun _ h9 => h9) rfl dX12_goesOn_403 ?_
      refine x_callv (As := [.int (iI 1), .int (iI (A 0 4))]) (rest := []) ⟨hx, hb, hml, hown, hts⟩ (mc_X12_blame l dC dI cB cI cJ cZ cQ q _ 1 (A 0 4) hI ⟨by decide, by decide⟩ r_A_0_4) (cwV 2 hts (goodV (wl_in_0 _ (List.mem_of_getElem? (i := 31) rfl)) (wl_in_0 _ (List.mem_of_getElem? (i := 32) rfl)) (wl_in_0 _ (List.mem_of_getElem? (i := 33) rfl)) (wl_in_0 _ (List.mem_of_getElem? (i := 8) rfl)) (wl_in_0 _ (List.mem_of_getElem? (i := 15) rfl))) rfl rfl rfl (by decide +kernel) ⟨Nat.le_of_ble_eq_true rfl, Nat.le_of_ble_eq_true rfl⟩) hK hDD hA0 hP hS 0 12 wm0 rfl rfl hl.1 (Nat.le_of_ble_eq_true rfl) dX12_goesOn_406 (fun A568 H locs hw569 hP hS => ?_)
      obtain ⟨hI, hf570, hw569⟩ := hw569
      have r_A568_0_8 : (0 : Int) ≤ (A568 0 8) ∧ (A568 0 8) ≤ 5 := hI 0 8
      exact J409_565 _ _ _ _ hI (fr.trans (fr.rf) hf570 rfl rfl) hP hS (lv_sub hl [0, 1, 2, 3] rfl)
