def ws_kc_X0_markGoing : List Cond := .code yX0_markGoing cX0_markGoing 11 none :: WY
set_option maxHeartbeats 4000000 in
set_option maxRecDepth 100000 in
theorem kc_X0_markGoing (l : Launch) (dC : Nat → ClassId) (dI : Nat → Nat → Nat) (cB cI cJ cZ cQ : ClassId) (aL aS : Nat) (q : Nat → Nat) (A : St) (ta : Nat) (x2 x3 x4 x5 : Int) (hI : IK A) (hta : isT ta) (hx2 : (-2147483648 : Int) ≤ x2 ∧ x2 ≤ 2147483647) (hx3 : (0 : Int) ≤ x3 ∧ x3 ≤ 7) (hx4 : (-2147483648 : Int) ≤ x4 ∧ x4 ≤ 2147483647) (hx5 : (-2147483648 : Int) ≤ x5 ∧ x5 ≤ 2147483647) : KMv l yX0_markGoing ws_kc_X0_markGoing ({ frames := 2, cells := 0, slots := 0, locals := 48 } : Room) aL aS (dC, dI) (tyA cB cI cJ cZ cQ) (WK cB cI cJ cZ cQ q) A [.ref (q 6), .ref (q ta), .int (iI x2), .int (iI x3), .int (iI x4), .int (iI x5)] (fun u => IK u ∧ fk [7, 18, 19] [] A u ∧ (True)) := by
  refine k_metv (cc := cX0_markGoing) (maxL := 11) WK_adr (plainFor_of_name (by decide +kernel)) rfl (Nat.le_of_ble_eq_true rfl) (fun p e s m below meth c Q AS ls hx hb hml hown hts hK hDD hA0 hE RET H locs hP hS hl => ?_)
  have hown : s.vm.findClass RX0 = some m.cls := hown
  have hl : lv_has ls 11 [(0, .ref (q 6)), (1, .ref (q ta)), (2, .int (iI x2)), (3, .int (iI x3)), (4, .int (iI x4)), (5, .int (iI x5))] := hl
  have hiX0 : ∀ w ∈ u_ws RX0 TX0 17, w ∈ ws_kc_X0_markGoing := fun w h => List.mem_cons_of_mem _ (wy_layX0 w h)
  refine lv_iload_n hx hb dX0_markGoing_0 rfl (lv_at hl 3 rfl) ?_
  refine lv_bipush (v := iI 11) hx hb dX0_markGoing_1 (by decide +kernel) ?_
  refine x_mulv (v := 11 * x3) hx hb dX0_markGoing_3 (by omega) ?_
  refine lv_iload hx hb dX0_markGoing_4 (lv_at hl 5 rfl) ?_
  refine k_callSi (As := [.int (iI x5)]) (rest := [.int (iI (11 * x3))]) ⟨hx, hb, hml, hown, hts⟩ hE (kc_J6_bitCount_0f7a4 l dC dI cB cI cJ cZ cQ aL aS q _ x5 hI hx5) (va_cwS 1 hts (goodSk (wk_in_1 _ (List.mem_of_getElem? (i := 16) rfl)) (wk_in_1 _ (List.mem_of_getElem? (i := 17) rfl)) (wk_in_1 _ (List.mem_of_getElem? (i := 18) rfl)) (wk_in_1 _ (List.mem_of_getElem? (i := 19) rfl))) rfl rfl rfl (by decide +kernel) ⟨Nat.le_of_ble_eq_true rfl, Nat.le_of_ble_eq_true rfl⟩) hK hDD hA0 hP hS rfl hl.1 (Nat.le_of_ble_eq_true rfl) dX0_markGoing_6 (fun z1 A2 H locs hw3 hP hS => ?_)
  obtain ⟨rfl, hw3⟩ := hw3
  have hw3 := hw3.2
  refine x_addv (v := 11 * x3 + z1) hx hb dX0_markGoing_9 (by omega) ?_
  refine lv_istore (lv' := [(6, .int (iI (11 * x3 + z1))), (0, .ref (q 6)), (1, .ref (q ta)), (2, .int (iI x2)), (3, .int (iI x3)), (4, .int (iI x4)), (5, .int (iI x5))]) hx hb dX0_markGoing_10 hl (by decide) rfl (fun ls hl => ?_)
  refine lv_iload_n hx hb dX0_markGoing_12 rfl (lv_at hl 4 rfl) ?_
  refine lv_if_lt (tgt := 29) hx hb dX0_markGoing_13 (by decide) (fun c4 => False.elim (by have c4 : x3 < 0 := (i_lt0 (rb hx3 (by decide) (by decide))).mp c4; omega)) (fun _ => ?_)
  refine lv_iload_n hx hb dX0_markGoing_16 rfl (lv_at hl 4 rfl) ?_
  refine lv_bipush (v := iI 8) hx hb dX0_markGoing_17 (by decide +kernel) ?_
  refine lv_icmp_ge (tgt := 29) hx hb dX0_markGoing_19 (by decide) (fun c5 => False.elim (by have c5 : 8 ≤ x3 := (i_le ⟨by decide, by decide⟩ (rb hx3 (by decide) (by decide))).mp c5; omega)) (fun _ => ?_)
  refine lv_iload hx hb dX0_markGoing_22 (lv_at hl 0 rfl) ?_
  refine lv_bipush (v := iI 88) hx hb dX0_markGoing_24 (by decide +kernel) ?_
  refine lv_icmp_lt (tgt := 30) hx hb dX0_markGoing_26 (by decide) (fun c6 => ?_) (fun c6 => ?_)
  · have c6 : 11 * x3 + z1 < 88 := (i_lt (by omega) ⟨by decide, by decide⟩).mp c6
    refine lv_aload_n hx hb dX0_markGoing_30 rfl (lv_at hl 1 rfl) ?_
    refine va_get (D := (dC, dI)) (ci := 0) (v := .ref (q 15)) (C := RX0) (T := TX0) (N := 17) hx hb hts hiX0 hown hK hP 6 (wkAL) rfl 4 (by decide) (hts _ (List.mem_cons_of_mem _ (wk_in_1 _ (List.mem_of_getElem? (i := 4) rfl)))) (fun _ h9 => h9) rfl dX0_markGoing_31 ?_
    refine lv_iload_n hx hb dX0_markGoing_34 rfl (lv_at hl 4 rfl) ?_
    refine x_iald (Wf := WK cB cI cJ cZ cQ q) hx hb hK hP 15 1 (wkALd) rfl (by omega) (by decide) dX0_markGoing_35 (fun z7 hz7 => ?_)
    have rz7 : (-2147483648 : Int) ≤ z7 ∧ z7 ≤ 2147483647 := by rw [hz7]; exact irALd hI
    refine lv_iload hx hb dX0_markGoing_36 (lv_at hl 6 rfl) ?_
    refine lv_iconst (v := iI (-1)) hx hb dX0_markGoing_38 (by decide +kernel) ?_
    refine lv_ixor hx hb dX0_markGoing_39 ?_
    refine x_abs (fun z8 hz8 => ?_)
    refine lv_iand hx hb dX0_markGoing_40 ?_
    refine x_abs (fun z9 hz9 => ?_)
    refine lv_aload_n hx hb dX0_markGoing_41 rfl (lv_at hl 1 rfl) ?_
    refine va_get (D := (dC, dI)) (ci := 0) (v := .ref (q 16)) (C := RX0) (T := TX0) (N := 17) hx hb hts hiX0 hown hK hP 6 (wkAL) rfl 5 (by decide) (hts _ (List.mem_cons_of_mem _ (wk_in_1 _ (List.mem_of_getElem? (i := 27) rfl)))) (fun _ h9 => h9) rfl dX0_markGoing_42 ?_
    refine lv_iload hx hb dX0_markGoing_45 (lv_at hl 0 rfl) ?_
    refine x_iald (Wf := WK cB cI cJ cZ cQ q) hx hb hK hP 16 1 (wkALb) rfl (by omega) (by decide) dX0_markGoing_47 (fun z10 hz10 => ?_)
    have rz10 : (-2147483648 : Int) ≤ z10 ∧ z10 ≤ 2147483647 := by rw [hz10]; exact irALb hI
    refine lv_iconst (v := iI (-1)) hx hb dX0_markGoing_48 (by decide +kernel) ?_
    refine lv_ixor hx hb dX0_markGoing_49 ?_
    refine x_abs (fun z11 hz11 => ?_)
    refine lv_iand hx hb dX0_markGoing_50 ?_
    refine x_abs (fun z12 hz12 => ?_)
    refine lv_istore (lv' := [(7, .int (iI z12)), (6, .int (iI (11 * x3 + z1))), (0, .ref (q 6)), (1, .ref (q ta)), (2, .int (iI x2)), (3, .int (iI x3)), (4, .int (iI x4)), (5, .int (iI x5))]) hx hb dX0_markGoing_51 hl (by decide) rfl (fun ls hl => ?_)
    refine lv_iconst (v := iI 0) hx hb dX0_markGoing_53 (by decide +kernel) ?_
    refine lv_istore (lv' := [(8, .int (iI 0)), (7, .int (iI z12)), (6, .int (iI (11 * x3 + z1))), (0, .ref (q 6)), (1, .ref (q ta)), (2, .int (iI x2)), (3, .int (iI x3)), (4, .int (iI x4)), (5, .int (iI x5))]) hx hb dX0_markGoing_54 hl (by decide) rfl (fun ls hl => ?_)
    have L56_16 : ∀ (n19 : Nat) (z13 : Int) (A15 : St) (H : Heap) (locs : List Loc) (ls : Array Slot), (0 ≤ z13 ∧ z13 ≤ 2147483647) → ((11 - z13).toNat = n19) → IK A15 → fk [7, 18, 19] [] A A15 → va_P (dC, dI) vwCl (WK cB cI cJ cZ cQ q A15) H → va_S AS s.heap H locs → lv_has ls 11 [(8, .int (iI z13)), (7, .int (iI z12)), (6, .int (iI (11 * x3 + z1))), (0, .ref (q 6)), (1, .ref (q ta)), (2, .int (iI x2)), (3, .int (iI x3)), (4, .int (iI x4)), (5, .int (iI x5))] → W p l e (headSpec ws_kc_X0_markGoing ({ frames := 2, cells := 0, slots := 0, locals := 48 } : Room)).room s m [.ref (q 6), .ref (q ta), .int (iI x2), .int (iI x3), .int (iI x4), .int (iI x5)].toArray below meth c H locs 0 0 Q (F0 m 56 ls []) := by
      intro n19
      induction n19 using Nat.strongRecOn with
      | ind n19 ih17 =>
        intro z13 A15 H locs ls f18 hn19 hI hj14 hP hS hl
        refine lv_iload hx hb dX0_markGoing_56 (lv_at hl 0 rfl) ?_
        refine lv_bipush (v := iI 10) hx hb dX0_markGoing_58 (by decide +kernel) ?_
        refine lv_icmp_ge (tgt := 130) hx hb dX0_markGoing_60 (by decide) (fun c20 => ?_) (fun c20 => ?_)
        · have c20 : 10 ≤ z13 := (i_le ⟨by decide, by decide⟩ (rb f18 (by decide) (by decide))).mp c20
          exact RET _ _ _ _ _ ⟨hI, fk.trans (fk.rf) hj14 rfl rfl, trivial⟩ hP hS dX0_markGoing_130
        · have c20 : ¬ 10 ≤ z13 := mt (i_le ⟨by decide, by decide⟩ (rb f18 (by decide) (by decide))).mpr c20
          refine lv_iload hx hb dX0_markGoing_63 (lv_at hl 1 rfl) ?_
          refine lv_iload hx hb dX0_markGoing_65 (lv_at hl 0 rfl) ?_
          refine lv_ishr hx hb dX0_markGoing_67 ?_
          refine x_abs (fun z21 hz21 => ?_)
          refine lv_if_eq (tgt := 130) hx hb dX0_markGoing_68 (by decide) (fun c22 => ?_) (fun c22 => ?_)
          · have c22 : z21 = 0 := (i_eq0 hz21).mp c22
            exact RET _ _ _ _ _ ⟨hI, fk.trans (fk.rf) hj14 rfl rfl, trivial⟩ hP hS dX0_markGoing_130
          · have c22 : ¬ z21 = 0 := mt (i_eq0 hz21).mpr c22
            refine lv_iload hx hb dX0_markGoing_71 (lv_at hl 1 rfl) ?_
            refine lv_iload hx hb dX0_markGoing_73 (lv_at hl 0 rfl) ?_
            refine lv_ishr hx hb dX0_markGoing_75 ?_
            refine x_abs (fun z23 hz23 => ?_)
            refine lv_iconst (v := iI 1) hx hb dX0_markGoing_76 (by decide +kernel) ?_
            refine lv_iand hx hb dX0_markGoing_77 ?_
            refine x_and (b := 1) (by omega) (fun z24 hz24 => ?_)
            have J124_26 : ∀ (A45 : St) (H : Heap) (locs : List Loc) (ls : Array Slot), IK A45 → fk [7, 18, 19] [] A15 A45 → va_P (dC, dI) vwCl (WK cB cI cJ cZ cQ q A45) H → va_S AS s.heap H locs → lv_has ls 11 [(8, .int (iI z13)), (7, .int (iI z12)), (6, .int (iI (11 * x3 + z1))), (0, .ref (q 6)), (1, .ref (q ta)), (2, .int (iI x2)), (3, .int (iI x3)), (4, .int (iI x4)), (5, .int (iI x5))] → W p l e (headSpec ws_kc_X0_markGoing ({ frames := 2, cells := 0, slots := 0, locals := 48 } : Room)).room s m [.ref (q 6), .ref (q ta), .int (iI x2), .int (iI x3), .int (iI x4), .int (iI x5)].toArray below meth c H locs 0 0 Q (F0 m 124 ls []) := by
              intro A45 H locs ls hI hj44 hP hS hl
              refine lv_iinc (v := iI (z13 + 1)) (lv' := [(8, .int (iI (z13 + 1))), (7, .int (iI z12)), (6, .int (iI (11 * x3 + z1))), (0, .ref (q 6)), (1, .ref (q ta)), (2, .int (iI x2)), (3, .int (iI x3)), (4, .int (iI x4)), (5, .int (iI x5))]) hx hb dX0_markGoing_124 hl (k := 0) rfl (i_inc (by omega)) (by decide) rfl (fun ls hl => ?_)
              refine lv_goto (tgt := 56) hx hb dX0_markGoing_127 (by decide) ?_
              exact ih17 _ (by omega) (z13 + 1) _ _ _ _ (by omega) rfl hI (fk.trans (fk.trans (fk.rf) hj14 rfl rfl) hj44 rfl rfl) hP hS (lv_sub hl [0, 1, 2, 3, 4, 5, 6, 7, 8] rfl)
            refine lv_if_eq (tgt := 124) hx hb dX0_markGoing_78 (by decide) (fun c25 => ?_) (fun c25 => ?_)
            · have c25 : z24 = 0 := (i_eq0 (by omega)).mp c25
              exact J124_26 _ _ _ _ hI (fk.rf) hP hS (lv_sub hl [0, 1, 2, 3, 4, 5, 6, 7, 8] rfl)
            · have c25 : ¬ z24 = 0 := mt (i_eq0 (by omega)).mpr c25
              refine lv_aload_n hx hb dX0_markGoing_81 rfl (lv_at hl 4 rfl) ?_
              refine lv_iload hx hb dX0_markGoing_82 (lv_at hl 0 rfl) ?_
              refine lv_iload_n hx hb dX0_markGoing_84 rfl (lv_at hl 6 rfl) ?_
              refine k_calli (As := [.int (iI z13), .int (iI x3)]) (rest := []) ⟨hx, hb, hml, hown, hts⟩ hE (kc_X9_otherSide l dC dI cB cI cJ cZ cQ aL aS q _ ta z13 x3 hI hta (rb f18 (by decide) (by decide)) (rb hx3 (by decide) (by decide))) (cwV 2 hts (goodVk (wk_in_2 _ (List.mem_of_getElem? (i := 48) rfl)) (wk_in_2 _ (List.mem_of_getElem? (i := 49) rfl)) (wk_in_2 _ (List.mem_of_getElem? (i := 50) rfl)) (wk_in_0 _ (List.mem_of_getElem? (i := 6) rfl)) (wk_in_2 _ (List.mem_of_getElem? (i := 51) rfl))) rfl rfl rfl (by decide +kernel) ⟨Nat.le_of_ble_eq_true rfl, Nat.le_of_ble_eq_true rfl⟩) hK hDD hA0 hP hS ta 9 (wkT hta) rfl rfl hl.1 (Nat.le_of_ble_eq_true rfl) dX0_markGoing_85 (fun z27 A28 H locs hw29 hP hS => ?_)
              obtain ⟨rfl, hw29⟩ := hw29
              refine lv_istore (lv' := [(9, .int (iI z27)), (8, .int (iI z13)), (7, .int (iI z12)), (6, .int (iI (11 * x3 + z1))), (0, .ref (q 6)), (1, .ref (q ta)), (2, .int (iI x2)), (3, .int (iI x3)), (4, .int (iI x4)), (5, .int (iI x5))]) hx hb dX0_markGoing_88 hl (by decide) rfl (fun ls hl => ?_)
              refine lv_aload_n hx hb dX0_markGoing_90 rfl (lv_at hl 4 rfl) ?_
              refine lv_aload_n hx hb dX0_markGoing_91 rfl (lv_at hl 5 rfl) ?_
              refine lv_iload hx hb dX0_markGoing_92 (lv_at hl 0 rfl) ?_
              refine lv_iload hx hb dX0_markGoing_94 (lv_at hl 9 rfl) ?_
              refine k_calli (As := [.ref (q ta), .int (iI z27), .int (iI x5)]) (rest := []) ⟨hx, hb, hml, hown, hts⟩ hE (kc_X0_hadAt l dC dI cB cI cJ cZ cQ aL aS q _ ta z27 x5 hI hta hw29 hx5) (cwV 3 hts (goodVk (wk_in_2 _ (List.mem_of_getElem? (i := 19) rfl)) (wk_in_2 _ (List.mem_of_getElem? (i := 20) rfl)) (wk_in_2 _ (List.mem_of_getElem? (i := 21) rfl)) (wk_in_0 _ (List.mem_of_getElem? (i := 14) rfl)) (wk_in_2 _ (List.mem_of_getElem? (i := 22) rfl))) rfl rfl rfl (by decide +kernel) ⟨Nat.le_of_ble_eq_true rfl, Nat.le_of_ble_eq_true rfl⟩) hK hDD hA0 hP hS 6 0 (wkAL) rfl rfl hl.1 (Nat.le_of_ble_eq_true rfl) dX0_markGoing_96 (fun z30 A31 H locs hw32 hP hS => ?_)
              obtain ⟨rfl, hw32⟩ := hw32
              refine lv_iload hx hb dX0_markGoing_99 (lv_at hl 8 rfl) ?_
              refine lv_iconst (v := iI (-1)) hx hb dX0_markGoing_101 (by decide +kernel) ?_
              refine lv_ixor hx hb dX0_markGoing_102 ?_
              refine x_abs (fun z33 hz33 => ?_)
              refine lv_iand hx hb dX0_markGoing_103 ?_
              refine x_abs (fun z34 hz34 => ?_)
              refine lv_istore (lv' := [(10, .int (iI z34)), (9, .int (iI z27)), (8, .int (iI z13)), (7, .int (iI z12)), (6, .int (iI (11 * x3 + z1))), (0, .ref (q 6)), (1, .ref (q ta)), (2, .int (iI x2)), (3, .int (iI x3)), (4, .int (iI x4)), (5, .int (iI x5))]) hx hb dX0_markGoing_104 hl (by decide) rfl (fun ls hl => ?_)
              refine lv_aload_n hx hb dX0_markGoing_106 rfl (lv_at hl 5 rfl) ?_
              refine lv_iload_n hx hb dX0_markGoing_107 rfl (lv_at hl 7 rfl) ?_
              refine lv_iload hx hb dX0_markGoing_108 (lv_at hl 1 rfl) ?_
              refine x_addv (v := x2 + z27) hx hb dX0_markGoing_110 (by omega) ?_
              refine x_abs (fun z35 hz35 => ?_)
              refine lv_iload_n hx hb dX0_markGoing_111 rfl (lv_at hl 8 rfl) ?_
              refine x_subv (v := z35 - x3) hx hb dX0_markGoing_112 (by omega) ?_
              refine x_abs (fun z36 hz36 => ?_)
              refine lv_iload hx hb dX0_markGoing_113 (lv_at hl 0 rfl) ?_
              refine lv_aload_n hx hb dX0_markGoing_115 rfl (lv_at hl 5 rfl) ?_
              have e37 : A15 6 10 = (A 6 10) := (hj14 6 10 rfl rfl)
              have r38 : (-2147483648 : Int) ≤ (A 6 10) ∧ (A 6 10) ≤ 2147483647 := by rw [← e37]; exact irAL_10 hI
              refine va_get (D := (dC, dI)) (ci := 0) (v := .int (iI (A15 6 10))) (C := RX0) (T := TX0) (N := 17) hx hb hts hiX0 hown hK hP 6 (wkAL) rfl 10 (by decide) (hts _ (List.mem_cons_of_mem _ (wk_in_0 _ (List.mem_of_getElem? (i := 43) rfl)))) (fun _ h9 => h9) rfl dX0_markGoing_116 ?_
              refine tp_i (y := iI (A 6 10)) (congrArg iI e37) ?_
              refine lv_imul hx hb dX0_markGoing_119 ?_
              refine x_abs (fun z39 hz39 => ?_)
              refine x_addv (v := z36 + z39) hx hb dX0_markGoing_120 (by omega) ?_
              refine x_abs (fun z40 hz40 => ?_)
              refine k_callv (As := [.int (iI z40)]) (rest := []) ⟨hx, hb, hml, hown, hts⟩ hE (kc_X0_mark l dC dI cB cI cJ cZ cQ aL aS q _ z40 hI hz40) (cwV 1 hts (goodVk (wk_in_2 _ (List.mem_of_getElem? (i := 23) rfl)) (wk_in_2 _ (List.mem_of_getElem? (i := 24) rfl)) (wk_in_2 _ (List.mem_of_getElem? (i := 25) rfl)) (wk_in_0 _ (List.mem_of_getElem? (i := 14) rfl)) (wk_in_2 _ (List.mem_of_getElem? (i := 26) rfl))) rfl rfl rfl (by decide +kernel) ⟨Nat.le_of_ble_eq_true rfl, Nat.le_of_ble_eq_true rfl⟩) hK hDD hA0 hP hS 6 0 (wkAL) rfl rfl hl.1 (Nat.le_of_ble_eq_true rfl) dX0_markGoing_121 (fun A41 H locs hw42 hP hS => ?_)
              obtain ⟨hI, hf43, hw42⟩ := hw42
              clear hw42
              exact J124_26 _ _ _ _ hI (fk.trans (fk.rf) hf43 rfl rfl) hP hS (lv_sub hl [2, 3, 4, 5, 6, 7, 8, 9, 10] rfl)
    exact L56_16 _ 0 _ _ _ _ (by omega) rfl hI (fk.rf) hP hS (lv_sub hl [0, 1, 2, 3, 4, 5, 6, 7, 8] rfl)
  · have c6 : ¬ 11 * x3 + z1 < 88 := mt (i_lt (by omega) ⟨by decide, by decide⟩).mpr c6
    exact RET _ _ _ _ _ ⟨hI, fk.rf, trivial⟩ hP hS dX0_markGoing_29

def ws_kc_X0_markOpening : List Cond := .code yX0_markOpening cX0_markOpening 7 none :: WY
set_option maxHeartbeats 4000000 in
set_option maxRecDepth 100000 in
theorem kc_X0_markOpening (l : Launch) (dC : Nat → ClassId) (dI : Nat → Nat → Nat) (cB cI cJ cZ cQ : ClassId) (aL aS : Nat) (q : Nat → Nat) (A : St) (ta : Nat) (x2 x3 x4 : Int) (hI : IK A) (hta : isT ta) (hx2 : (-2147483648 : Int) ≤ x2 ∧ x2 ≤ 2147483647) (hx3 : (-2147483648 : Int) ≤ x3 ∧ x3 ≤ 2147483647) (hx4 : (-2147483648 : Int) ≤ x4 ∧ x4 ≤ 2147483647) : KMv l yX0_markOpening ws_kc_X0_markOpening ({ frames := 2, cells := 0, slots := 0, locals := 48 } : Room) aL aS (dC, dI) (tyA cB cI cJ cZ cQ) (WK cB cI cJ cZ cQ q) A [.ref (q 6), .ref (q ta), .int (iI x2), .int (iI x3), .int (iI x4)] (fun u => IK u ∧ fk [7, 14, 18, 19] [] A u ∧ (True)) := by
  refine k_metv (cc := cX0_markOpening) (maxL := 7) WK_adr (plainFor_of_name (by decide +kernel)) rfl (Nat.le_of_ble_eq_true rfl) (fun p e s m below meth c Q AS ls hx hb hml hown hts hK hDD hA0 hE RET H locs hP hS hl => ?_)
  have hown : s.vm.findClass RX0 = some m.cls := hown
  have hl : lv_has ls 7 [(0, .ref (q 6)), (1, .ref (q ta)), (2, .int (iI x2)), (3, .int (iI x3)), (4, .int (iI x4))] := hl
  have hiX9 : ∀ w ∈ u_ws RX9 TX9 16, w ∈ ws_kc_X0_markOpening := fun w h => List.mem_cons_of_mem _ (wy_layX9 w h)
  have hiX0 : ∀ w ∈ u_ws RX0 TX0 17, w ∈ ws_kc_X0_markOpening := fun w h => List.mem_cons_of_mem _ (wy_layX0 w h)
  refine lv_iconst (v := iI 0) hx hb dX0_markOpening_0 (by decide +kernel) ?_
  refine lv_istore (lv' := [(5, .int (iI 0)), (0, .ref (q 6)), (1, .ref (q ta)), (2, .int (iI x2)), (3, .int (iI x3)), (4, .int (iI x4))]) hx hb dX0_markOpening_1 hl (by decide) rfl (fun ls hl => ?_)
  have L3_4 : ∀ (n9 : Nat) (z1 : Int) (A3 : St) (H : Heap) (locs : List Loc) (ls : Array Slot), (0 ≤ z1 ∧ z1 ≤ 2147483647) → ((5 - z1).toNat = n9) → IK A3 → fk [7, 14, 18, 19] [] A A3 → va_P (dC, dI) vwCl (WK cB cI cJ cZ cQ q A3) H → va_S AS s.heap H locs → lv_has ls 7 [(5, .int (iI z1)), (0, .ref (q 6)), (1, .ref (q ta)), (2, .int (iI x2)), (3, .int (iI x3)), (4, .int (iI x4))] → W p l e (headSpec ws_kc_X0_markOpening ({ frames := 2, cells := 0, slots := 0, locals := 48 } : Room)).room s m [.ref (q 6), .ref (q ta), .int (iI x2), .int (iI x3), .int (iI x4)].toArray below meth c H locs 0 0 Q (F0 m 3 ls []) := by
    intro n9
    induction n9 using Nat.strongRecOn with
    | ind n9 ih5 =>
      intro z1 A3 H locs ls f6 hn9 hI hj2 hP hS hl
      refine lv_iload hx hb dX0_markOpening_3 (lv_at hl 0 rfl) ?_
      refine lv_aload_n hx hb dX0_markOpening_5 rfl (lv_at hl 2 rfl) ?_
      refine va_get (D := (dC, dI)) (ci := 9) (v := .ref (q (ta + 1))) (C := RX9) (T := TX9) (N := 16) hx hb hts hiX9 hown hK hP ta (wkT hta) rfl 0 (by decide) (hts _ (List.mem_cons_of_mem _ (wk_in_0 _ (List.mem_of_getElem? (i := 1) rfl)))) (fun _ h9 => h9) rfl dX0_markOpening_6 ?_
      refine lv_iconst (v := iI 2) hx hb dX0_markOpening_9 (by decide +kernel) ?_
      have a10 : ∀ k, A3 (ta + 1) k = A (ta + 1) k := fun k => hj2 (ta + 1) k (isT.b2 (o := fun b => List.contains [7, 14, 18, 19] (b + 1)) hta rfl rfl) (isT.b2 (o := fun b => fin2 [] (b + 1) k) hta rfl rfl)
      refine x_iald (Wf := WK cB cI cJ cZ cQ q) hx hb hK hP (ta + 1) 1 (wkTc hta) rfl (by decide) (by decide) dX0_markOpening_10 (fun z11 hz11 => ?_)
      have rz11 : (0 : Int) ≤ z11 ∧ z11 ≤ 4 := by rw [hz11]; exact irTc2 hta hI
      have hz11 : z11 = A (ta + 1) (2 : Int).toNat := hz11.trans (a10 _)
      refine lv_icmp_ge (tgt := 127) hx hb dX0_markOpening_11 (by decide) (fun c12 => ?_) (fun c12 => ?_)
      · have c12 : z11 ≤ z1 := (i_le (rb rz11 (by decide) (by decide)) (rb f6 (by decide) (by decide))).mp c12
        exact RET _ _ _ _ _ ⟨hI, fk.trans (fk.rf) hj2 rfl rfl, trivial⟩ hP hS dX0_markOpening_127
      · have c12 : ¬ z11 ≤ z1 := mt (i_le (rb rz11 (by decide) (by decide)) (rb f6 (by decide) (by decide))).mpr c12
        refine lv_aload_n hx hb dX0_markOpening_14 rfl (lv_at hl 1 rfl) ?_
        refine va_get (D := (dC, dI)) (ci := 0) (v := .ref (q 13)) (C := RX0) (T := TX0) (N := 17) hx hb hts hiX0 hown hK hP 6 (wkAL) rfl 2 (by decide) (hts _ (List.mem_cons_of_mem _ (wk_in_0 _ (List.mem_of_getElem? (i := 39) rfl)))) (fun _ h9 => h9) rfl dX0_markOpening_15 ?_
        refine lv_iload hx hb dX0_markOpening_18 (lv_at hl 0 rfl) ?_
        have a13 : ∀ k, A3 13 k = A 13 k := fun k => hj2 13 k rfl rfl
        refine x_iald (Wf := WK cB cI cJ cZ cQ q) hx hb hK hP 13 1 (wkALu) rfl (by omega) (by decide) dX0_markOpening_20 (fun z14 hz14 => ?_)
        have rz14 : (-2147483648 : Int) ≤ z14 ∧ z14 ≤ 2147483647 := by rw [hz14]; exact irALu hI
        have hz14 : z14 = A 13 (z1).toNat := hz14.trans (a13 _)
        have J121_16 : ∀ (A53 : St) (H : Heap) (locs : List Loc) (ls : Array Slot), IK A53 → fk [7, 14, 18, 19] [] A3 A53 → va_P (dC, dI) vwCl (WK cB cI cJ cZ cQ q A53) H → va_S AS s.heap H locs → lv_has ls 7 [(5, .int (iI z1)), (0, .ref (q 6)), (1, .ref (q ta)), (2, .int (iI x2)), (3, .int (iI x3)), (4, .int (iI x4))] → W p l e (headSpec ws_kc_X0_markOpening ({ frames := 2, cells := 0, slots := 0, locals := 48 } : Room)).room s m [.ref (q 6), .ref (q ta), .int (iI x2), .int (iI x3), .int (iI x4)].toArray below meth c H locs 0 0 Q (F0 m 121 ls []) := by
          intro A53 H locs ls hI hj52 hP hS hl
          refine lv_iinc (v := iI (z1 + 1)) (lv' := [(5, .int (iI (z1 + 1))), (0, .ref (q 6)), (1, .ref (q ta)), (2, .int (iI x2)), (3, .int (iI x3)), (4, .int (iI x4))]) hx hb dX0_markOpening_121 hl (k := 0) rfl (i_inc (by omega)) (by decide) rfl (fun ls hl => ?_)
          refine lv_goto (tgt := 3) hx hb dX0_markOpening_124 (by decide) ?_
          exact ih5 _ (by omega) (z1 + 1) _ _ _ _ (by omega) rfl hI (fk.trans (fk.trans (fk.rf) hj2 rfl rfl) hj52 rfl rfl) hP hS (lv_sub hl [0, 1, 2, 3, 4, 5] rfl)
        refine lv_if_le (tgt := 121) hx hb dX0_markOpening_21 (by decide) (fun c15 => ?_) (fun c15 => ?_)
        · have c15 : z14 ≤ 0 := (i_le0 rz14).mp c15
          exact J121_16 _ _ _ _ hI (fk.rf) hP hS (lv_sub hl [0, 1, 2, 3, 4, 5] rfl)
        · have c15 : ¬ z14 ≤ 0 := mt (i_le0 rz14).mpr c15
          refine lv_aload_n hx hb dX0_markOpening_24 rfl (lv_at hl 1 rfl) ?_
          refine va_get (D := (dC, dI)) (ci := 0) (v := .ref (q 14)) (C := RX0) (T := TX0) (N := 17) hx hb hts hiX0 hown hK hP 6 (wkAL) rfl 3 (by decide) (hts _ (List.mem_cons_of_mem _ (wk_in_2 _ (List.mem_of_getElem? (i := 14) rfl)))) (fun _ h9 => h9) rfl dX0_markOpening_25 ?_
          refine lv_iload hx hb dX0_markOpening_28 (lv_at hl 0 rfl) ?_
          refine x_iald (Wf := WK cB cI cJ cZ cQ q) hx hb hK hP 14 1 (wkALl) rfl (by omega) (by decide) dX0_markOpening_30 (fun z17 hz17 => ?_)
          have rz17 : (-2147483648 : Int) ≤ z17 ∧ z17 ≤ 2147483647 := by rw [hz17]; exact irALl hI
          refine lv_if_le (tgt := 121) hx hb dX0_markOpening_31 (by decide) (fun c18 => ?_) (fun c18 => ?_)
          · have c18 : z17 ≤ 0 := (i_le0 rz17).mp c18
            exact J121_16 _ _ _ _ hI (fk.rf) hP hS (lv_sub hl [0, 1, 2, 3, 4, 5] rfl)
          · have c18 : ¬ z17 ≤ 0 := mt (i_le0 rz17).mpr c18
            refine lv_aload_n hx hb dX0_markOpening_34 rfl (lv_at hl 2 rfl) ?_
            refine lv_aload_n hx hb dX0_markOpening_35 rfl (lv_at hl 2 rfl) ?_
            refine va_get (D := (dC, dI)) (ci := 9) (v := .ref (q (ta + 22))) (C := RX9) (T := TX9) (N := 16) hx hb hts hiX9 hown hK hP ta (wkT hta) rfl 14 (by decide) (hts _ (List.mem_cons_of_mem _ (wk_in_0 _ (List.mem_of_getElem? (i := 18) rfl)))) (fun _ h9 => h9) rfl dX0_markOpening_36 ?_
            refine lv_iload hx hb dX0_markOpening_39 (lv_at hl 0 rfl) ?_
            refine lv_aload_n hx hb dX0_markOpening_41 rfl (lv_at hl 1 rfl) ?_
            refine va_get (D := (dC, dI)) (ci := 0) (v := .ref (q 14)) (C := RX0) (T := TX0) (N := 17) hx hb hts hiX0 hown hK hP 6 (wkAL) rfl 3 (by decide) (hts _ (List.mem_cons_of_mem _ (wk_in_2 _ (List.mem_of_getElem? (i := 14) rfl)))) (fun _ h9 => h9) rfl dX0_markOpening_42 ?_
            refine lv_iload hx hb dX0_markOpening_45 (lv_at hl 0 rfl) ?_
            refine x_iald (Wf := WK cB cI cJ cZ cQ q) hx hb hK hP 14 1 (wkALl) rfl (by omega) (by decide) dX0_markOpening_47 (fun z19 hz19 => ?_)
            have rz19 : (-2147483648 : Int) ≤ z19 ∧ z19 ≤ 2147483647 := by rw [hz19]; exact irALl hI
            have ez19 : z19 = z17 := hz19.trans hz17.symm
            refine tp_i (y := iI z17) (congrArg iI ez19) ?_
            refine lv_iconst (v := iI 1) hx hb dX0_markOpening_48 (by decide +kernel) ?_
            refine x_subv (v := z17 - 1) hx hb dX0_markOpening_49 (by omega) ?_
            refine k_calli (As := [.int (iI z1), .int (iI (z17 - 1))]) (rest := [.ref (q ta)]) ⟨hx, hb, hml, hown, hts⟩ hE (kc_X6_inRow l dC dI cB cI cJ cZ cQ aL aS q _ (ta + 22) z1 (z17 - 1) hI hta.s (rb f6 (by decide) (by decide)) (by omega)) (cwV 2 hts (goodVk (wk_in_2 _ (List.mem_of_getElem? (i := 57) rfl)) (wk_in_0 _ (List.mem_of_getElem? (i := 55) rfl)) (wk_in_0 _ (List.mem_of_getElem? (i := 56) rfl)) (wk_in_0 _ (List.mem_of_getElem? (i := 52) rfl)) (wk_in_0 _ (List.mem_of_getElem? (i := 57) rfl))) rfl rfl rfl (by decide +kernel) ⟨Nat.le_of_ble_eq_true rfl, Nat.le_of_ble_eq_true rfl⟩) hK hDD hA0 hP hS (ta + 22) 6 (wkS hta.s) rfl rfl hl.1 (Nat.le_of_ble_eq_true rfl) dX0_markOpening_50 (fun z20 A21 H locs hw22 hP hS => ?_)
            obtain ⟨rfl, hw22⟩ := hw22
            have hw22 := hw22.2
            refine lv_iload_n hx hb dX0_markOpening_53 rfl (lv_at hl 4 rfl) ?_
            refine k_calli (As := [.int (iI z20), .int (iI x3)]) (rest := []) ⟨hx, hb, hml, hown, hts⟩ hE (kc_X9_isAt l dC dI cB cI cJ cZ cQ aL aS q _ ta z20 x3 hI hta (by omega) hx3) (cwV 2 hts (goodVk (wk_in_1 _ (List.mem_of_getElem? (i := 10) rfl)) (wk_in_1 _ (List.mem_of_getElem? (i := 11) rfl)) (wk_in_1 _ (List.mem_of_getElem? (i := 12) rfl)) (wk_in_0 _ (List.mem_of_getElem? (i := 6) rfl)) (wk_in_1 _ (List.mem_of_getElem? (i := 13) rfl))) rfl rfl rfl (by decide +kernel) ⟨Nat.le_of_ble_eq_true rfl, Nat.le_of_ble_eq_true rfl⟩) hK hDD hA0 hP hS ta 9 (wkT hta) rfl rfl hl.1 (Nat.le_of_ble_eq_true rfl) dX0_markOpening_54 (fun z23 A24 H locs hw25 hP hS => ?_)
            obtain ⟨rfl, hw25⟩ := hw25
            have rz23 : 0 ≤ z23 ∧ z23 ≤ 1 := hw25.1
            have hw25 := hw25.2
            refine lv_if_eq (tgt := 121) hx hb dX0_markOpening_57 (by decide) (fun c26 => ?_) (fun c26 => ?_)
            · have c26 : z23 = 0 := (i_eq0 (rb rz23 (by decide) (by decide))).mp c26
              clear hw25
              exact J121_16 _ _ _ _ hI (fk.rf) hP hS (lv_sub hl [0, 1, 2, 3, 4, 5] rfl)
            · have c26 : ¬ z23 = 0 := mt (i_eq0 (rb rz23 (by decide) (by decide))).mpr c26
              have hw25b := hw25 (by omega)
              clear hw25
              refine lv_aload_n hx hb dX0_markOpening_60 rfl (lv_at hl 1 rfl) ?_
              refine va_get (D := (dC, dI)) (ci := 0) (v := .ref (q 14)) (C := RX0) (T := TX0) (N := 17) hx hb hts hiX0 hown hK hP 6 (wkAL) rfl 3 (by decide) (hts _ (List.mem_cons_of_mem _ (wk_in_2 _ (List.mem_of_getElem? (i := 14) rfl)))) (fun _ h9 => h9) rfl dX0_markOpening_61 ?_
              refine lv_iload hx hb dX0_markOpening_64 (lv_at hl 0 rfl) ?_
              refine lv_dup2_11 hx hb dX0_markOpening_66 rfl rfl ?_
              refine x_iald (Wf := WK cB cI cJ cZ cQ q) hx hb hK hP 14 1 (wkALl) rfl (by omega) (by decide) dX0_markOpening_67 (fun z27 hz27 => ?_)
              have rz27 : (-2147483648 : Int) ≤ z27 ∧ z27 ≤ 2147483647 := by rw [hz27]; exact irALl hI
              have ez27 : z27 = z17 := hz27.trans hz17.symm
              refine tp_i (y := iI z17) (congrArg iI ez27) ?_
              refine lv_iconst (v := iI 1) hx hb dX0_markOpening_68 (by decide +kernel) ?_
              refine x_subv (v := z17 - 1) hx hb dX0_markOpening_69 (by omega) ?_
              refine k_iast (Wf := WK cB cI cJ cZ cQ q) hx hb hK hP hDD hS 14 1 (wkALl) rfl (by omega) (by decide) dX0_markOpening_70 (wsALl) (fun H locs A28 hA28 hP hS => ?_)
              have hI := isALl hA28 hI (show (-2147483648 : Int) ≤ z17 - 1 ∧ z17 - 1 ≤ 2147483647 from (by omega))
              refine lv_aload_n hx hb dX0_markOpening_71 rfl (lv_at hl 1 rfl) ?_
              refine lv_aload_n hx hb dX0_markOpening_72 rfl (lv_at hl 2 rfl) ?_
              refine lv_iload_n hx hb dX0_markOpening_73 rfl (lv_at hl 4 rfl) ?_
              refine lv_aload_n hx hb dX0_markOpening_74 rfl (lv_at hl 1 rfl) ?_
              refine lv_aload_n hx hb dX0_markOpening_75 rfl (lv_at hl 2 rfl) ?_
              refine k_calli (As := [.ref (q ta)]) (rest := [.int (iI x3), .ref (q ta), .ref (q 6)]) ⟨hx, hb, hml, hown, hts⟩ hE (kc_X0_shutNow l dC dI cB cI cJ cZ cQ aL aS q _ ta hI hta) (cwV 1 hts (goodVk (wk_in_2 _ (List.mem_of_getElem? (i := 15) rfl)) (wk_in_2 _ (List.mem_of_getElem? (i := 16) rfl)) (wk_in_2 _ (List.mem_of_getElem? (i := 17) rfl)) (wk_in_0 _ (List.mem_of_getElem? (i := 14) rfl)) (wk_in_2 _ (List.mem_of_getElem? (i := 18) rfl))) rfl rfl rfl (by decide +kernel) ⟨Nat.le_of_ble_eq_true rfl, Nat.le_of_ble_eq_true rfl⟩) hK hDD hA0 hP hS 6 0 (wkAL) rfl rfl hl.1 (Nat.le_of_ble_eq_true rfl) dX0_markOpening_76 (fun z29 A30 H locs hw31 hP hS => ?_)
              obtain ⟨rfl, hw31⟩ := hw31
              refine k_calli (As := [.ref (q ta), .int (iI x3), .int (iI z29)]) (rest := []) ⟨hx, hb, hml, hown, hts⟩ hE (kc_X0_hadAt l dC dI cB cI cJ cZ cQ aL aS q _ ta x3 z29 hI hta hx3 hw31) (cwV 3 hts (goodVk (wk_in_2 _ (List.mem_of_getElem? (i := 19) rfl)) (wk_in_2 _ (List.mem_of_getElem? (i := 20) rfl)) (wk_in_2 _ (List.mem_of_getElem? (i := 21) rfl)) (wk_in_0 _ (List.mem_of_getElem? (i := 14) rfl)) (wk_in_2 _ (List.mem_of_getElem? (i := 22) rfl))) rfl rfl rfl (by decide +kernel) ⟨Nat.le_of_ble_eq_true rfl, Nat.le_of_ble_eq_true rfl⟩) hK hDD hA0 hP hS 6 0 (wkAL) rfl rfl hl.1 (Nat.le_of_ble_eq_true rfl) dX0_markOpening_79 (fun z32 A33 H locs hw34 hP hS => ?_)
              obtain ⟨rfl, hw34⟩ := hw34
              refine lv_iload hx hb dX0_markOpening_82 (lv_at hl 5 rfl) ?_
              refine lv_iconst (v := iI (-1)) hx hb dX0_markOpening_84 (by decide +kernel) ?_
              refine lv_ixor hx hb dX0_markOpening_85 ?_
              refine x_abs (fun z35 hz35 => ?_)
              refine lv_iand hx hb dX0_markOpening_86 ?_
              refine x_abs (fun z36 hz36 => ?_)
              refine lv_istore (lv' := [(6, .int (iI z36)), (5, .int (iI z1)), (0, .ref (q 6)), (1, .ref (q ta)), (2, .int (iI x2)), (3, .int (iI x3)), (4, .int (iI x4))]) hx hb dX0_markOpening_87 hl (by decide) rfl (fun ls hl => ?_)
              refine lv_aload_n hx hb dX0_markOpening_89 rfl (lv_at hl 2 rfl) ?_
              refine va_get (D := (dC, dI)) (ci := 0) (v := .ref (q 14)) (C := RX0) (T := TX0) (N := 17) hx hb hts hiX0 hown hK hP 6 (wkAL) rfl 3 (by decide) (hts _ (List.mem_cons_of_mem _ (wk_in_2 _ (List.mem_of_getElem? (i := 14) rfl)))) (fun _ h9 => h9) rfl dX0_markOpening_90 ?_
              refine lv_iload hx hb dX0_markOpening_93 (lv_at hl 1 rfl) ?_
              refine lv_dup2_11 hx hb dX0_markOpening_95 rfl rfl ?_
              refine x_iald (Wf := WK cB cI cJ cZ cQ q) hx hb hK hP 14 1 (wkALl) rfl (by omega) (by decide) dX0_markOpening_96 (fun z37 hz37 => ?_)
              have rz37 : (-2147483648 : Int) ≤ z37 ∧ z37 ≤ 2147483647 := by rw [hz37]; exact irALl hI
              have ez37 : z37 = z17 - 1 := hz37.trans (rd_is hA28)
              refine tp_i (y := iI (z17 - 1)) (congrArg iI ez37) ?_
              refine lv_iconst (v := iI 1) hx hb dX0_markOpening_97 (by decide +kernel) ?_
              refine x_addv (v := z17) hx hb dX0_markOpening_98 (by omega) ?_
              refine k_iast (Wf := WK cB cI cJ cZ cQ q) hx hb hK hP hDD hS 14 1 (wkALl) rfl (by omega) (by decide) dX0_markOpening_99 (wsALl) (fun H locs A38 hA38 hP hS => ?_)
              have hI := isALl hA38 hI (show (-2147483648 : Int) ≤ z17 ∧ z17 ≤ 2147483647 from rz17)
              refine lv_aload_n hx hb dX0_markOpening_100 rfl (lv_at hl 2 rfl) ?_
              refine lv_iload_n hx hb dX0_markOpening_101 rfl (lv_at hl 4 rfl) ?_
              refine lv_aload_n hx hb dX0_markOpening_102 rfl (lv_at hl 2 rfl) ?_
              refine va_get (D := (dC, dI)) (ci := 0) (v := .ref (q 13)) (C := RX0) (T := TX0) (N := 17) hx hb hts hiX0 hown hK hP 6 (wkAL) rfl 2 (by decide) (hts _ (List.mem_cons_of_mem _ (wk_in_0 _ (List.mem_of_getElem? (i := 39) rfl)))) (fun _ h9 => h9) rfl dX0_markOpening_103 ?_
              refine lv_iload hx hb dX0_markOpening_106 (lv_at hl 1 rfl) ?_
              have a40 : ∀ k, A28 13 k = A 13 k := fun k => (rd_ne hA28 (by decide) k).trans (a13 k)
              have a39 : ∀ k, A38 13 k = A 13 k := fun k => (rd_ne hA38 (by decide) k).trans (a40 k)
              refine x_iald (Wf := WK cB cI cJ cZ cQ q) hx hb hK hP 13 1 (wkALu) rfl (by omega) (by decide) dX0_markOpening_108 (fun z41 hz41 => ?_)
              have rz41 : (-2147483648 : Int) ≤ z41 ∧ z41 ≤ 2147483647 := by rw [hz41]; exact irALu hI
              have hz41 : z41 = A 13 (z1).toNat := hz41.trans (a39 _)
              have ez41 : z41 = z14 := hz41.trans hz14.symm
              refine tp_i (y := iI z14) (congrArg iI ez41) ?_
              refine x_subv (v := x2 - z14) hx hb dX0_markOpening_109 (by omega) ?_
              refine x_abs (fun z42 hz42 => ?_)
              refine lv_iload hx hb dX0_markOpening_110 (lv_at hl 0 rfl) ?_
              refine lv_aload_n hx hb dX0_markOpening_112 rfl (lv_at hl 2 rfl) ?_
              have e45 : A3 6 10 = (A 6 10) := (hj2 6 10 rfl rfl)
              have e44 : A28 6 10 = (A 6 10) := (rd_ne hA28 (by decide) 10).trans e45
              have e43 : A38 6 10 = (A 6 10) := (rd_ne hA38 (by decide) 10).trans e44
              have r46 : (-2147483648 : Int) ≤ (A 6 10) ∧ (A 6 10) ≤ 2147483647 := by rw [← e43]; exact irAL_10 hI
              refine va_get (D := (dC, dI)) (ci := 0) (v := .int (iI (A38 6 10))) (C := RX0) (T := TX0) (N := 17) hx hb hts hiX0 hown hK hP 6 (wkAL) rfl 10 (by decide) (hts _ (List.mem_cons_of_mem _ (wk_in_0 _ (List.mem_of_getElem? (i := 43) rfl)))) (fun _ h9 => h9) rfl dX0_markOpening_113 ?_
              refine tp_i (y := iI (A 6 10)) (congrArg iI e43) ?_
              refine lv_imul hx hb dX0_markOpening_116 ?_
              refine x_abs (fun z47 hz47 => ?_)
              refine x_addv (v := z42 + z47) hx hb dX0_markOpening_117 (by omega) ?_
              refine x_abs (fun z48 hz48 => ?_)
              refine k_callv (As := [.int (iI z48)]) (rest := []) ⟨hx, hb, hml, hown, hts⟩ hE (kc_X0_mark l dC dI cB cI cJ cZ cQ aL aS q _ z48 hI hz48) (cwV 1 hts (goodVk (wk_in_2 _ (List.mem_of_getElem? (i := 23) rfl)) (wk_in_2 _ (List.mem_of_getElem? (i := 24) rfl)) (wk_in_2 _ (List.mem_of_getElem? (i := 25) rfl)) (wk_in_0 _ (List.mem_of_getElem? (i := 14) rfl)) (wk_in_2 _ (List.mem_of_getElem? (i := 26) rfl))) rfl rfl rfl (by decide +kernel) ⟨Nat.le_of_ble_eq_true rfl, Nat.le_of_ble_eq_true rfl⟩) hK hDD hA0 hP hS 6 0 (wkAL) rfl rfl hl.1 (Nat.le_of_ble_eq_true rfl) dX0_markOpening_118 (fun A49 H locs hw50 hP hS => ?_)
              obtain ⟨hI, hf51, hw50⟩ := hw50
              clear hw50
              exact J121_16 _ _ _ _ hI (fk.trans (fk.da (fk.da (fk.rf) hA28 rfl) hA38 rfl) hf51 rfl rfl) hP hS (lv_sub hl [1, 2, 3, 4, 5, 6] rfl)
  exact L3_4 _ 0 _ _ _ _ (by omega) rfl hI (fk.rf) hP hS (lv_sub hl [0, 1, 2, 3, 4, 5] rfl)

def ws_kc_X0_visit : List Cond := .code yX0_visit cX0_visit 7 (some .boolean) :: WY
set_option maxHeartbeats 4000000 in
set_option maxRecDepth 100000 in
theorem kc_X0_visit (l : Launch) (dC : Nat → ClassId) (dI : Nat → Nat → Nat) (cB cI cJ cZ cQ : ClassId) (aL aS : Nat) (q : Nat → Nat) (A : St) (ta : Nat) (x2 : Int) (hI : IK A) (hta : isT ta) (hx2 : (0 : Int) ≤ x2 ∧ x2 ≤ 76863) : KMi l yX0_visit ws_kc_X0_visit ({ frames := 3, cells := 0, slots := 0, locals := 78 } : Room) aL aS (dC, dI) (tyA cB cI cJ cZ cQ) (WK cB cI cJ cZ cQ q) A [.ref (q 6), .ref (q ta), .int (iI x2)] (fun z u => IK u ∧ fk [7, 14, 18, 19] [(6, 15)] A u ∧ (0 ≤ z ∧ z ≤ 1)) := by
  refine k_metz (cc := cX0_visit) (maxL := 7) WK_adr (plainFor_of_name (by decide +kernel)) rfl (Nat.le_of_ble_eq_true rfl) (fun z u h => h.2.2) (fun p e s m below meth c Q AS ls hx hb hml hown hts hK hDD hA0 hE RET H locs hP hS hl => ?_)
  have hown : s.vm.findClass RX0 = some m.cls := hown
  have hl : lv_has ls 7 [(0, .ref (q 6)), (1, .ref (q ta)), (2, .int (iI x2))] := hl
  have hiX9 : ∀ w ∈ u_ws RX9 TX9 16, w ∈ ws_kc_X0_visit := fun w h => List.mem_cons_of_mem _ (wy_layX9 w h)
  have hiX0 : ∀ w ∈ u_ws RX0 TX0 17, w ∈ ws_kc_X0_visit := fun w h => List.mem_cons_of_mem _ (wy_layX0 w h)
  have hiX6 : ∀ w ∈ u_ws RX6 TX6 4, w ∈ ws_kc_X0_visit := fun w h => List.mem_cons_of_mem _ (wy_layX6 w h)
  refine lv_aload_n hx hb dX0_visit_0 rfl (lv_at hl 1 rfl) ?_
  refine va_get (D := (dC, dI)) (ci := 9) (v := .ref (q (ta + 1))) (C := RX9) (T := TX9) (N := 16) hx hb hts hiX9 hown hK hP ta (wkT hta) rfl 0 (by decide) (hts _ (List.mem_cons_of_mem _ (wk_in_0 _ (List.mem_of_getElem? (i := 1) rfl)))) (fun _ h9 => h9) rfl dX0_visit_1 ?_
  refine lv_iconst (v := iI 0) hx hb dX0_visit_4 (by decide +kernel) ?_
  refine x_iald (Wf := WK cB cI cJ cZ cQ q) hx hb hK hP (ta + 1) 1 (wkTc hta) rfl (by decide) (by decide) dX0_visit_5 (fun z1 hz1 => ?_)
  have rz1 : (0 : Int) ≤ z1 ∧ z1 ≤ 8 := by rw [hz1]; exact irTc0 hta hI
  refine lv_istore_n (lv' := [(3, .int (iI z1)), (0, .ref (q 6)), (1, .ref (q ta)), (2, .int (iI x2))]) hx hb dX0_visit_6 rfl hl (by decide) rfl (fun ls hl => ?_)
  refine lv_iload_n hx hb dX0_visit_7 rfl (lv_at hl 0 rfl) ?_
  refine lv_iconst (v := iI 1) hx hb dX0_visit_8 (by decide +kernel) ?_
  refine lv_icmp_lt (tgt := 20) hx hb dX0_visit_9 (by decide) (fun c2 => ?_) (fun c2 => ?_)
  · have c2 : z1 < 1 := (i_lt (rb rz1 (by decide) (by decide)) ⟨by decide, by decide⟩).mp c2
    refine lv_iconst (v := iI 0) hx hb dX0_visit_20 (by decide +kernel) ?_
    exact RET 0 _ _ _ _ _ ⟨hI, fk.rf, ⟨by decide, by decide⟩⟩ hP hS dX0_visit_21
  · have c2 : ¬ z1 < 1 := mt (i_lt (rb rz1 (by decide) (by decide)) ⟨by decide, by decide⟩).mpr c2
    refine lv_aload_n hx hb dX0_visit_12 rfl (lv_at hl 1 rfl) ?_
    have r3 : (-2147483648 : Int) ≤ (A 6 10) ∧ (A 6 10) ≤ 2147483647 := irAL_10 hI
    refine va_get (D := (dC, dI)) (ci := 0) (v := .int (iI (A 6 10))) (C := RX0) (T := TX0) (N := 17) hx hb hts hiX0 hown hK hP 6 (wkAL) rfl 10 (by decide) (hts _ (List.mem_cons_of_mem _ (wk_in_0 _ (List.mem_of_getElem? (i := 43) rfl)))) (fun _ h9 => h9) rfl dX0_visit_13 ?_
    refine lv_iconst (v := iI 1) hx hb dX0_visit_16 (by decide +kernel) ?_
    refine lv_icmp_ge (tgt := 22) hx hb dX0_visit_17 (by decide) (fun c4 => ?_) (fun c4 => ?_)
    · have c4 : 1 ≤ (A 6 10) := (i_le ⟨by decide, by decide⟩ r3).mp c4
      refine lv_iconst (v := iI 0) hx hb dX0_visit_22 (by decide +kernel) ?_
      refine lv_istore (lv' := [(4, .int (iI 0)), (3, .int (iI z1)), (0, .ref (q 6)), (1, .ref (q ta)), (2, .int (iI x2))]) hx hb dX0_visit_23 hl (by decide) rfl (fun ls hl => ?_)
      have L25_8 : ∀ (n13 : Nat) (z5 : Int) (A7 : St) (H : Heap) (locs : List Loc) (ls : Array Slot), (0 ≤ z5 ∧ z5 ≤ 2147483647) → ((5 - z5).toNat = n13) → IK A7 → fk [14] [] A A7 → va_P (dC, dI) vwCl (WK cB cI cJ cZ cQ q A7) H → va_S AS s.heap H locs → lv_has ls 7 [(4, .int (iI z5)), (3, .int (iI z1)), (0, .ref (q 6)), (1, .ref (q ta)), (2, .int (iI x2))] → W p l e (headSpec ws_kc_X0_visit ({ frames := 3, cells := 0, slots := 0, locals := 78 } : Room)).room s m [.ref (q 6), .ref (q ta), .int (iI x2)].toArray below meth c H locs 0 0 Q (F0 m 25 ls []) := by
        intro n13
        induction n13 using Nat.strongRecOn with
        | ind n13 ih9 =>
          intro z5 A7 H locs ls f10 hn13 hI hj6 hP hS hl
          refine lv_iload hx hb dX0_visit_25 (lv_at hl 0 rfl) ?_
          refine lv_aload_n hx hb dX0_visit_27 rfl (lv_at hl 3 rfl) ?_
          refine va_get (D := (dC, dI)) (ci := 9) (v := .ref (q (ta + 1))) (C := RX9) (T := TX9) (N := 16) hx hb hts hiX9 hown hK hP ta (wkT hta) rfl 0 (by decide) (hts _ (List.mem_cons_of_mem _ (wk_in_0 _ (List.mem_of_getElem? (i := 1) rfl)))) (fun _ h9 => h9) rfl dX0_visit_28 ?_
          refine lv_iconst (v := iI 2) hx hb dX0_visit_31 (by decide +kernel) ?_
          have a14 : ∀ k, A7 (ta + 1) k = A (ta + 1) k := fun k => hj6 (ta + 1) k (isT.b2 (o := fun b => List.contains [14] (b + 1)) hta rfl rfl) (isT.b2 (o := fun b => fin2 [] (b + 1) k) hta rfl rfl)
          refine x_iald (Wf := WK cB cI cJ cZ cQ q) hx hb hK hP (ta + 1) 1 (wkTc hta) rfl (by decide) (by decide) dX0_visit_32 (fun z15 hz15 => ?_)
          have rz15 : (0 : Int) ≤ z15 ∧ z15 ≤ 4 := by rw [hz15]; exact irTc2 hta hI
          have hz15 : z15 = A (ta + 1) (2 : Int).toNat := hz15.trans (a14 _)
          refine lv_icmp_ge (tgt := 86) hx hb dX0_visit_33 (by decide) (fun c16 => ?_) (fun c16 => ?_)
          · have c16 : z15 ≤ z5 := (i_le (rb rz15 (by decide) (by decide)) (rb f10 (by decide) (by decide))).mp c16
            refine lv_iload_n hx hb dX0_visit_86 rfl (lv_at hl 4 rfl) ?_
            refine lv_iload_n hx hb dX0_visit_87 rfl (lv_at hl 1 rfl) ?_
            refine x_rem hx hb dX0_visit_88 (by omega) (by omega) (fun z17 hz17 hz17b => ?_)
            clear hz17
            refine lv_istore (lv' := [(4, .int (iI z17)), (3, .int (iI z1)), (0, .ref (q 6)), (1, .ref (q ta)), (2, .int (iI x2))]) hx hb dX0_visit_89 hl (by decide) rfl (fun ls hl => ?_)
            refine lv_iload_n hx hb dX0_visit_91 rfl (lv_at hl 4 rfl) ?_
            refine lv_aload_n hx hb dX0_visit_92 rfl (lv_at hl 2 rfl) ?_
            have e18 : A7 6 10 = (A 6 10) := (hj6 6 10 rfl rfl)
            refine va_get (D := (dC, dI)) (ci := 0) (v := .int (iI (A7 6 10))) (C := RX0) (T := TX0) (N := 17) hx hb hts hiX0 hown hK hP 6 (wkAL) rfl 10 (by decide) (hts _ (List.mem_cons_of_mem _ (wk_in_0 _ (List.mem_of_getElem? (i := 43) rfl)))) (fun _ h9 => h9) rfl dX0_visit_93 ?_
            refine tp_i (y := iI (A 6 10)) (congrArg iI e18) ?_
            refine x_div hx hb dX0_visit_96 (by omega) (by omega) (fun z19 hz19 hz19b => ?_)
            clear hz19
            refine lv_istore (lv' := [(5, .int (iI z19)), (4, .int (iI z17)), (3, .int (iI z1)), (0, .ref (q 6)), (1, .ref (q ta)), (2, .int (iI x2))]) hx hb dX0_visit_97 hl (by decide) rfl (fun ls hl => ?_)
            refine lv_aload_n hx hb dX0_visit_99 rfl (lv_at hl 3 rfl) ?_
            refine lv_aload_n hx hb dX0_visit_100 rfl (lv_at hl 4 rfl) ?_
            refine k_calli (As := [.ref (q ta)]) (rest := []) ⟨hx, hb, hml, hown, hts⟩ hE (kc_X0_shutNow l dC dI cB cI cJ cZ cQ aL aS q _ ta hI hta) (cwV 1 hts (goodVk (wk_in_2 _ (List.mem_of_getElem? (i := 15) rfl)) (wk_in_2 _ (List.mem_of_getElem? (i := 16) rfl)) (wk_in_2 _ (List.mem_of_getElem? (i := 17) rfl)) (wk_in_0 _ (List.mem_of_getElem? (i := 14) rfl)) (wk_in_2 _ (List.mem_of_getElem? (i := 18) rfl))) rfl rfl rfl (by decide +kernel) ⟨Nat.le_of_ble_eq_true rfl, Nat.le_of_ble_eq_true rfl⟩) hK hDD hA0 hP hS 6 0 (wkAL) rfl rfl hl.1 (Nat.le_of_ble_eq_true rfl) dX0_visit_101 (fun z20 A21 H locs hw22 hP hS => ?_)
            obtain ⟨rfl, hw22⟩ := hw22
            refine lv_istore (lv' := [(6, .int (iI z20)), (5, .int (iI z19)), (4, .int (iI z17)), (3, .int (iI z1)), (0, .ref (q 6)), (1, .ref (q ta)), (2, .int (iI x2))]) hx hb dX0_visit_104 hl (by decide) rfl (fun ls hl => ?_)
            refine lv_aload_n hx hb dX0_visit_106 rfl (lv_at hl 4 rfl) ?_
            refine lv_dup hx hb dX0_visit_107 rfl ?_
            have e23 : A7 6 15 = (A 6 15) := (hj6 6 15 rfl rfl)
            have r24 : (-2147483648 : Int) ≤ (A 6 15) ∧ (A 6 15) ≤ 2147483647 := by rw [← e23]; exact irAL_15 hI
            refine va_get (D := (dC, dI)) (ci := 0) (v := .int (iI (A7 6 15))) (C := RX0) (T := TX0) (N := 17) hx hb hts hiX0 hown hK hP 6 (wkAL) rfl 15 (by decide) (hts _ (List.mem_cons_of_mem _ (wk_in_0 _ (List.mem_of_getElem? (i := 2) rfl)))) (fun _ h9 => h9) rfl dX0_visit_108 ?_
            refine tp_i (y := iI (A 6 15)) (congrArg iI e23) ?_
            refine lv_iconst (v := iI 1) hx hb dX0_visit_111 (by decide +kernel) ?_
            refine lv_iload hx hb dX0_visit_112 (lv_at hl 2 rfl) ?_
            refine lv_ishl hx hb dX0_visit_114 ?_
            refine x_abs (fun z25 hz25 => ?_)
            refine lv_ior hx hb dX0_visit_115 ?_
            refine x_abs (fun z26 hz26 => ?_)
            refine k_put (Wf := WK cB cI cJ cZ cQ q) (D := (dC, dI)) (ci := 0) (v := .int (iI z26)) (ty := .int) (C := RX0) (T := TX0) (N := 17) hx hb hts hiX0 tyX0 tyX0_ok nmX0 hown hK hP hDD hS 6 (wkAL) rfl 15 (by decide) (hts _ (List.mem_cons_of_mem _ (wk_in_0 _ (List.mem_of_getElem? (i := 2) rfl)))) (fun _ h9 => h9) rfl (by decide +kernel) rfl rfl (Nat.le_of_ble_eq_true rfl) dX0_visit_116 (wfAL_15 (v := z26)) (fun H locs A27 hA27 hP hS => ?_)
            have hI := isAL_15 hA27 hI (show (-2147483648 : Int) ≤ z26 ∧ z26 ≤ 2147483647 from hz26)
            refine lv_aload_n hx hb dX0_visit_119 rfl (lv_at hl 4 rfl) ?_
            refine lv_iload hx hb dX0_visit_120 (lv_at hl 2 rfl) ?_
            refine lv_iload hx hb dX0_visit_122 (lv_at hl 0 rfl) ?_
            refine lv_iload hx hb dX0_visit_124 (lv_at hl 1 rfl) ?_
            refine k_calli (As := [.int (iI z17), .int (iI z20), .int (iI z19)]) (rest := []) ⟨hx, hb, hml, hown, hts⟩ hE (kc_X0_isGoal l dC dI cB cI cJ cZ cQ aL aS q _ z17 z20 z19 hI (by omega) hw22 (by omega)) (cwV 3 hts (goodVk (wk_in_2 _ (List.mem_of_getElem? (i := 40) rfl)) (wk_in_2 _ (List.mem_of_getElem? (i := 41) rfl)) (wk_in_2 _ (List.mem_of_getElem? (i := 42) rfl)) (wk_in_0 _ (List.mem_of_getElem? (i := 14) rfl)) (wk_in_2 _ (List.mem_of_getElem? (i := 43) rfl))) rfl rfl rfl (by decide +kernel) ⟨Nat.le_of_ble_eq_true rfl, Nat.le_of_ble_eq_true rfl⟩) hK hDD hA0 hP hS 6 0 (wkAL) rfl rfl hl.1 (Nat.le_of_ble_eq_true rfl) dX0_visit_126 (fun z28 A29 H locs hw30 hP hS => ?_)
            obtain ⟨rfl, hw30⟩ := hw30
            refine lv_if_eq (tgt := 134) hx hb dX0_visit_129 (by decide) (fun c31 => ?_) (fun c31 => ?_)
            · have c31 : z28 = 0 := (i_eq0 (rb hw30 (by decide) (by decide))).mp c31
              refine lv_aload_n hx hb dX0_visit_134 rfl (lv_at hl 4 rfl) ?_
              refine lv_aload_n hx hb dX0_visit_135 rfl (lv_at hl 5 rfl) ?_
              refine lv_iload_n hx hb dX0_visit_136 rfl (lv_at hl 6 rfl) ?_
              refine lv_iload hx hb dX0_visit_137 (lv_at hl 2 rfl) ?_
              refine lv_iload hx hb dX0_visit_139 (lv_at hl 1 rfl) ?_
              refine lv_iload hx hb dX0_visit_141 (lv_at hl 0 rfl) ?_
              refine k_callv (As := [.ref (q ta), .int (iI x2), .int (iI z17), .int (iI z19), .int (iI z20)]) (rest := []) ⟨hx, hb, hml, hown, hts⟩ hE (kc_X0_markGoing l dC dI cB cI cJ cZ cQ aL aS q _ ta x2 z17 z19 z20 hI hta (rb hx2 (by decide) (by decide)) (by omega) (by omega) hw22) (cwV 5 hts (goodVk (wk_in_2 _ (List.mem_of_getElem? (i := 44) rfl)) (wk_in_2 _ (List.mem_of_getElem? (i := 45) rfl)) (wk_in_2 _ (List.mem_of_getElem? (i := 46) rfl)) (wk_in_0 _ (List.mem_of_getElem? (i := 14) rfl)) (wk_in_2 _ (List.mem_of_getElem? (i := 47) rfl))) rfl rfl rfl (by decide +kernel) ⟨Nat.le_of_ble_eq_true rfl, Nat.le_of_ble_eq_true rfl⟩) hK hDD hA0 hP hS 6 0 (wkAL) rfl rfl hl.1 (Nat.le_of_ble_eq_true rfl) dX0_visit_143 (fun A32 H locs hw33 hP hS => ?_)
              obtain ⟨hI, hf34, hw33⟩ := hw33
              clear hw33
              refine lv_aload_n hx hb dX0_visit_146 rfl (lv_at hl 4 rfl) ?_
              refine lv_aload_n hx hb dX0_visit_147 rfl (lv_at hl 5 rfl) ?_
              refine lv_iload_n hx hb dX0_visit_148 rfl (lv_at hl 6 rfl) ?_
              refine lv_iload hx hb dX0_visit_149 (lv_at hl 2 rfl) ?_
              refine lv_iload hx hb dX0_visit_151 (lv_at hl 1 rfl) ?_
              refine k_callv (As := [.ref (q ta), .int (iI x2), .int (iI z17), .int (iI z19)]) (rest := []) ⟨hx, hb, hml, hown, hts⟩ hE (kc_X0_markOpening l dC dI cB cI cJ cZ cQ aL aS q _ ta x2 z17 z19 hI hta (rb hx2 (by decide) (by decide)) (by omega) (by omega)) (cwV 4 hts (goodVk (wk_in_2 _ (List.mem_of_getElem? (i := 53) rfl)) (wk_in_2 _ (List.mem_of_getElem? (i := 54) rfl)) (wk_in_2 _ (List.mem_of_getElem? (i := 55) rfl)) (wk_in_0 _ (List.mem_of_getElem? (i := 14) rfl)) (wk_in_2 _ (List.mem_of_getElem? (i := 56) rfl))) rfl rfl rfl (by decide +kernel) ⟨Nat.le_of_ble_eq_true rfl, Nat.le_of_ble_eq_true rfl⟩) hK hDD hA0 hP hS 6 0 (wkAL) rfl rfl hl.1 (Nat.le_of_ble_eq_true rfl) dX0_visit_153 (fun A35 H locs hw36 hP hS => ?_)
              obtain ⟨hI, hf37, hw36⟩ := hw36
              clear hw36
              refine lv_iconst (v := iI 0) hx hb dX0_visit_156 (by decide +kernel) ?_
              exact RET 0 _ _ _ _ _ ⟨hI, fk.trans (fk.trans (fk.df (fk.trans (fk.rf) hj6 rfl rfl) hA27 rfl) hf34 rfl rfl) hf37 rfl rfl, ⟨by decide, by decide⟩⟩ hP hS dX0_visit_157
            · have c31 : ¬ z28 = 0 := mt (i_eq0 (rb hw30 (by decide) (by decide))).mpr c31
              refine lv_iconst (v := iI 1) hx hb dX0_visit_132 (by decide +kernel) ?_
              exact RET 1 _ _ _ _ _ ⟨hI, fk.df (fk.trans (fk.rf) hj6 rfl rfl) hA27 rfl, ⟨by decide, by decide⟩⟩ hP hS dX0_visit_133
          · have c16 : ¬ z15 ≤ z5 := mt (i_le (rb rz15 (by decide) (by decide)) (rb f10 (by decide) (by decide))).mpr c16
            refine lv_aload_n hx hb dX0_visit_36 rfl (lv_at hl 2 rfl) ?_
            refine va_get (D := (dC, dI)) (ci := 0) (v := .ref (q 14)) (C := RX0) (T := TX0) (N := 17) hx hb hts hiX0 hown hK hP 6 (wkAL) rfl 3 (by decide) (hts _ (List.mem_cons_of_mem _ (wk_in_2 _ (List.mem_of_getElem? (i := 14) rfl)))) (fun _ h9 => h9) rfl dX0_visit_37 ?_
            refine lv_iload hx hb dX0_visit_40 (lv_at hl 0 rfl) ?_
            refine lv_aload_n hx hb dX0_visit_42 rfl (lv_at hl 2 rfl) ?_
            refine va_get (D := (dC, dI)) (ci := 0) (v := .ref (q 13)) (C := RX0) (T := TX0) (N := 17) hx hb hts hiX0 hown hK hP 6 (wkAL) rfl 2 (by decide) (hts _ (List.mem_cons_of_mem _ (wk_in_0 _ (List.mem_of_getElem? (i := 39) rfl)))) (fun _ h9 => h9) rfl dX0_visit_43 ?_
            refine lv_iload hx hb dX0_visit_46 (lv_at hl 0 rfl) ?_
            have a38 : ∀ k, A7 13 k = A 13 k := fun k => hj6 13 k rfl rfl
            refine x_iald (Wf := WK cB cI cJ cZ cQ q) hx hb hK hP 13 1 (wkALu) rfl (by omega) (by decide) dX0_visit_48 (fun z39 hz39 => ?_)
            have rz39 : (-2147483648 : Int) ≤ z39 ∧ z39 ≤ 2147483647 := by rw [hz39]; exact irALu hI
            have hz39 : z39 = A 13 (z5).toNat := hz39.trans (a38 _)
            refine lv_iconst (v := iI 1) hx hb dX0_visit_49 (by decide +kernel) ?_
            have J79_41 : ∀ (z47 : Int) (H : Heap) (locs : List Loc) (ls : Array Slot), (0 ≤ z47 ∧ z47 ≤ 6) → va_P (dC, dI) vwCl (WK cB cI cJ cZ cQ q A7) H → va_S AS s.heap H locs → lv_has ls 7 [(4, .int (iI z5)), (3, .int (iI z1)), (0, .ref (q 6)), (1, .ref (q ta)), (2, .int (iI x2))] → W p l e (headSpec ws_kc_X0_visit ({ frames := 3, cells := 0, slots := 0, locals := 78 } : Room)).room s m [.ref (q 6), .ref (q ta), .int (iI x2)].toArray below meth c H locs 0 0 Q (F0 m 79 ls [.int (iI z47), .int (iI z5), .ref (q 14)]) := by
              intro z47 H locs ls f49 hP hS hl
              refine k_iast (Wf := WK cB cI cJ cZ cQ q) hx hb hK hP hDD hS 14 1 (wkALl) rfl (by omega) (by decide) dX0_visit_79 (wsALl) (fun H locs A50 hA50 hP hS => ?_)
              have hI := isALl hA50 hI (show (-2147483648 : Int) ≤ z47 ∧ z47 ≤ 2147483647 from (rb f49 (by decide) (by decide)))
              refine lv_iinc (v := iI (z5 + 1)) (lv' := [(4, .int (iI (z5 + 1))), (3, .int (iI z1)), (0, .ref (q 6)), (1, .ref (q ta)), (2, .int (iI x2))]) hx hb dX0_visit_80 hl (k := 0) rfl (i_inc (by omega)) (by decide) rfl (fun ls hl => ?_)
              refine lv_goto (tgt := 25) hx hb dX0_visit_83 (by decide) ?_
              exact ih9 _ (by omega) (z5 + 1) _ _ _ _ (by omega) rfl hI (fk.da (fk.trans (fk.rf) hj6 rfl rfl) hA50 rfl) hP hS (lv_sub hl [0, 1, 2, 3, 4] rfl)
            refine lv_icmp_ge (tgt := 57) hx hb dX0_visit_50 (by decide) (fun c40 => ?_) (fun c40 => ?_)
            · have c40 : 1 ≤ z39 := (i_le ⟨by decide, by decide⟩ rz39).mp c40
              refine lv_iload_n hx hb dX0_visit_57 rfl (lv_at hl 4 rfl) ?_
              refine lv_aload_n hx hb dX0_visit_58 rfl (lv_at hl 2 rfl) ?_
              refine va_get (D := (dC, dI)) (ci := 0) (v := .ref (q 13)) (C := RX0) (T := TX0) (N := 17) hx hb hts hiX0 hown hK hP 6 (wkAL) rfl 2 (by decide) (hts _ (List.mem_cons_of_mem _ (wk_in_0 _ (List.mem_of_getElem? (i := 39) rfl)))) (fun _ h9 => h9) rfl dX0_visit_59 ?_
              refine lv_iload hx hb dX0_visit_62 (lv_at hl 0 rfl) ?_
              refine x_iald (Wf := WK cB cI cJ cZ cQ q) hx hb hK hP 13 1 (wkALu) rfl (by omega) (by decide) dX0_visit_64 (fun z42 hz42 => ?_)
              have rz42 : (-2147483648 : Int) ≤ z42 ∧ z42 ≤ 2147483647 := by rw [hz42]; exact irALu hI
              have hz42 : z42 = A 13 (z5).toNat := hz42.trans (a38 _)
              have ez42 : z42 = z39 := hz42.trans hz39.symm
              refine tp_i (y := iI z39) (congrArg iI ez42) ?_
              refine x_div hx hb dX0_visit_65 (by omega) (by omega) (fun z43 hz43 hz43b => ?_)
              clear hz43
              refine lv_aload_n hx hb dX0_visit_66 rfl (lv_at hl 3 rfl) ?_
              refine va_get (D := (dC, dI)) (ci := 9) (v := .ref (q (ta + 22))) (C := RX9) (T := TX9) (N := 16) hx hb hts hiX9 hown hK hP ta (wkT hta) rfl 14 (by decide) (hts _ (List.mem_cons_of_mem _ (wk_in_0 _ (List.mem_of_getElem? (i := 18) rfl)))) (fun _ h9 => h9) rfl dX0_visit_67 ?_
              refine va_get (D := (dC, dI)) (ci := 6) (v := .ref (q ((ta + 22) + 3))) (C := RX6) (T := TX6) (N := 4) hx hb hts hiX6 hown hK hP (ta + 22) (wkS hta.s) rfl 2 (by decide) (hts _ (List.mem_cons_of_mem _ (wk_in_0 _ (List.mem_of_getElem? (i := 40) rfl)))) (fun _ h9 => h9) rfl dX0_visit_70 ?_
              refine lv_iload hx hb dX0_visit_73 (lv_at hl 0 rfl) ?_
              have a44 : ∀ k, A7 ((ta + 22) + 3) k = A ((ta + 22) + 3) k := fun k => hj6 ((ta + 22) + 3) k (isS.b2 (o := fun b => List.contains [14] (b + 3)) hta.s rfl rfl rfl rfl) (isS.b2 (o := fun b => fin2 [] (b + 3) k) hta.s rfl rfl rfl rfl)
              refine x_iald (Wf := WK cB cI cJ cZ cQ q) hx hb hK hP ((ta + 22) + 3) 1 (wkSz hta.s) rfl (by omega) (by decide) dX0_visit_75 (fun z45 hz45 => ?_)
              have rz45 : (0 : Int) ≤ z45 ∧ z45 ≤ 6 := by rw [hz45]; exact irSz hta.s hI
              have hz45 : z45 = A ((ta + 22) + 3) (z5).toNat := hz45.trans (a44 _)
              refine lv_iconst (v := iI 1) hx hb dX0_visit_76 (by decide +kernel) ?_
              refine x_addv (v := z45 + 1) hx hb dX0_visit_77 (by omega) ?_
              refine x_rem hx hb dX0_visit_78 (by omega) (by omega) (fun z46 hz46 hz46b => ?_)
              clear hz46
              exact J79_41 z46 _ _ _ (by omega) hP hS (lv_sub hl [0, 1, 2, 3, 4] rfl)
            · have c40 : ¬ 1 ≤ z39 := mt (i_le ⟨by decide, by decide⟩ rz39).mpr c40
              refine lv_iconst (v := iI 0) hx hb dX0_visit_53 (by decide +kernel) ?_
              refine lv_goto (tgt := 79) hx hb dX0_visit_54 (by decide) ?_
              exact J79_41 0 _ _ _ (by omega) hP hS (lv_sub hl [0, 1, 2, 3, 4] rfl)
      exact L25_8 _ 0 _ _ _ _ (by omega) rfl hI (fk.rf) hP hS (lv_sub hl [0, 1, 2, 3, 4] rfl)
    · have c4 : ¬ 1 ≤ (A 6 10) := mt (i_le ⟨by decide, by decide⟩ r3).mpr c4
      refine lv_iconst (v := iI 0) hx hb dX0_visit_20 (by decide +kernel) ?_
      exact RET 0 _ _ _ _ _ ⟨hI, fk.rf, ⟨by decide, by decide⟩⟩ hP hS dX0_visit_21

def ws_kc_X0_searchLevel : List Cond := .code yX0_searchLevel cX0_searchLevel 6 (some .boolean) :: WY
set_option maxHeartbeats 4000000 in
set_option maxRecDepth 100000 in
theorem kc_X0_searchLevel (l : Launch) (dC : Nat → ClassId) (dI : Nat → Nat → Nat) (cB cI cJ cZ cQ : ClassId) (aL aS : Nat) (q : Nat → Nat) (A : St) (ta : Nat) (hI : IK A) (hta : isT ta) : KMi l yX0_searchLevel ws_kc_X0_searchLevel ({ frames := 4, cells := 0, slots := 0, locals := 104 } : Room) aL aS (dC, dI) (tyA cB cI cJ cZ cQ) (WK cB cI cJ cZ cQ q) A [.ref (q 6), .ref (q ta)] (fun z u => IK u ∧ fk [7, 14, 18, 19] [(6, 15)] A u ∧ (0 ≤ z ∧ z ≤ 1)) := by
  refine k_metz (cc := cX0_searchLevel) (maxL := 6) WK_adr (plainFor_of_name (by decide +kernel)) rfl (Nat.le_of_ble_eq_true rfl) (fun z u h => h.2.2) (fun p e s m below meth c Q AS ls hx hb hml hown hts hK hDD hA0 hE RET H locs hP hS hl => ?_)
  have hown : s.vm.findClass RX0 = some m.cls := hown
  have hl : lv_has ls 6 [(0, .ref (q 6)), (1, .ref (q ta))] := hl
  have hiX0 : ∀ w ∈ u_ws RX0 TX0 17, w ∈ ws_kc_X0_searchLevel := fun w h => List.mem_cons_of_mem _ (wy_layX0 w h)
  refine lv_iconst (v := iI 0) hx hb dX0_searchLevel_0 (by decide +kernel) ?_
  refine lv_istore_n (lv' := [(2, .int (iI 0)), (0, .ref (q 6)), (1, .ref (q ta))]) hx hb dX0_searchLevel_1 rfl hl (by decide) rfl (fun ls hl => ?_)
  have L2_4 : ∀ (n7 : Nat) (z1 : Int) (A3 : St) (H : Heap) (locs : List Loc) (ls : Array Slot), (0 ≤ z1 ∧ z1 ≤ 2147483647) → ((1202 - z1).toNat = n7) → IK A3 → fk [7, 14, 18, 19] [(6, 15)] A A3 → va_P (dC, dI) vwCl (WK cB cI cJ cZ cQ q A3) H → va_S AS s.heap H locs → lv_has ls 6 [(2, .int (iI z1)), (0, .ref (q 6)), (1, .ref (q ta))] → W p l e (headSpec ws_kc_X0_searchLevel ({ frames := 4, cells := 0, slots := 0, locals := 104 } : Room)).room s m [.ref (q 6), .ref (q ta)].toArray below meth c H locs 0 0 Q (F0 m 2 ls []) := by
    intro n7
    induction n7 using Nat.strongRecOn with
    | ind n7 ih5 =>
      intro z1 A3 H locs ls f6 hn7 hI hj2 hP hS hl
      refine lv_iload_n hx hb dX0_searchLevel_2 rfl (lv_at hl 0 rfl) ?_
      refine lv_sipush (v := iI 1201) hx hb dX0_searchLevel_3 (by decide +kernel) ?_
      refine lv_icmp_ge (tgt := 84) hx hb dX0_searchLevel_6 (by decide) (fun c8 => ?_) (fun c8 => ?_)
      · have c8 : 1201 ≤ z1 := (i_le ⟨by decide, by decide⟩ (rb f6 (by decide) (by decide))).mp c8
        refine lv_iconst (v := iI 0) hx hb dX0_searchLevel_84 (by decide +kernel) ?_
        exact RET 0 _ _ _ _ _ ⟨hI, fk.trans (fk.rf) hj2 rfl rfl, ⟨by decide, by decide⟩⟩ hP hS dX0_searchLevel_85
      · have c8 : ¬ 1201 ≤ z1 := mt (i_le ⟨by decide, by decide⟩ (rb f6 (by decide) (by decide))).mpr c8
        refine lv_iload_n hx hb dX0_searchLevel_9 rfl (lv_at hl 0 rfl) ?_
        refine lv_bipush (v := iI 64) hx hb dX0_searchLevel_10 (by decide +kernel) ?_
        refine x_mulv (v := 64 * z1) hx hb dX0_searchLevel_12 (by omega) ?_
        refine lv_aload_n hx hb dX0_searchLevel_13 rfl (lv_at hl 1 rfl) ?_
        have e9 : A3 6 11 = (A 6 11) := (hj2 6 11 rfl rfl)
        have r10 : (-2147483648 : Int) ≤ (A 6 11) ∧ (A 6 11) ≤ 76832 := by rw [← e9]; exact irAL_11 hI
        refine va_get (D := (dC, dI)) (ci := 0) (v := .int (iI (A3 6 11))) (C := RX0) (T := TX0) (N := 17) hx hb hts hiX0 hown hK hP 6 (wkAL) rfl 11 (by decide) (hts _ (List.mem_cons_of_mem _ (wk_in_0 _ (List.mem_of_getElem? (i := 20) rfl)))) (fun _ h9 => h9) rfl dX0_searchLevel_14 ?_
        refine tp_i (y := iI (A 6 11)) (congrArg iI e9) ?_
        refine lv_icmp_ge (tgt := 84) hx hb dX0_searchLevel_17 (by decide) (fun c11 => ?_) (fun c11 => ?_)
        · have c11 : (A 6 11) ≤ 64 * z1 := (i_le (rb r10 (by decide) (by decide)) (by omega)).mp c11
          refine lv_iconst (v := iI 0) hx hb dX0_searchLevel_84 (by decide +kernel) ?_
          exact RET 0 _ _ _ _ _ ⟨hI, fk.trans (fk.rf) hj2 rfl rfl, ⟨by decide, by decide⟩⟩ hP hS dX0_searchLevel_85
        · have c11 : ¬ (A 6 11) ≤ 64 * z1 := mt (i_le (rb r10 (by decide) (by decide)) (by omega)).mpr c11
          refine lv_aload_n hx hb dX0_searchLevel_20 rfl (lv_at hl 1 rfl) ?_
          have e12 : A3 6 7 = (A 6 7) := (hj2 6 7 rfl rfl)
          have r13 : (0 : Int) ≤ (A 6 7) ∧ (A 6 7) ≤ 1 := by rw [← e12]; exact irAL_7 hI
          refine va_get (D := (dC, dI)) (ci := 0) (v := .ref (q (18 + (A3 6 7).toNat))) (C := RX0) (T := TX0) (N := 17) hx hb hts hiX0 hown hK hP 6 (wkAL) rfl 7 (by decide) (hts _ (List.mem_cons_of_mem _ (wk_in_2 _ (List.mem_of_getElem? (i := 31) rfl)))) (fun _ h9 => h9) rfl dX0_searchLevel_21 ?_
          refine tp_v (y := .ref (q (18 + ((A 6 7)).toNat))) (by rw [e12]) ?_
          refine lv_iload_n hx hb dX0_searchLevel_24 rfl (lv_at hl 0 rfl) ?_
          refine x_lald (Wf := WK cB cI cJ cZ cQ q) hx hb hK hP (18 + ((A 6 7)).toNat) 2 (wkALf (i := (A 6 7)) (by omega)) rfl (by omega) (by decide) dX0_searchLevel_25 (fun z14 hz14 => ?_)
          have rz14 : (-9223372036854775808 : Int) ≤ z14 ∧ z14 ≤ 9223372036854775807 := by rw [hz14]; exact irALf (i := (A 6 7)) (by omega) hI
          refine lv_lstore_n (lv' := [(3, .long (jI z14)), (2, .int (iI z1)), (0, .ref (q 6)), (1, .ref (q ta))]) hx hb dX0_searchLevel_26 rfl hl (by decide) rfl (fun ls hl => ?_)
          refine lv_iconst (v := iI 0) hx hb dX0_searchLevel_27 (by decide +kernel) ?_
          refine lv_istore (lv' := [(5, .int (iI 0)), (3, .long (jI z14)), (2, .int (iI z1)), (0, .ref (q 6)), (1, .ref (q ta))]) hx hb dX0_searchLevel_28 hl (by decide) rfl (fun ls hl => ?_)
          have L30_19 : ∀ (n23 : Nat) (z15 z16 : Int) (A18 : St) (H : Heap) (locs : List Loc) (ls : Array Slot), (0 ≤ z15 ∧ z15 ≤ 2147483647) → (-9223372036854775808 ≤ z16 ∧ z16 ≤ 9223372036854775807) → ((65 - z15).toNat = n23) → IK A18 → fk [7, 14, 18, 19] [(6, 15)] A3 A18 → va_P (dC, dI) vwCl (WK cB cI cJ cZ cQ q A18) H → va_S AS s.heap H locs → lv_has ls 6 [(5, .int (iI z15)), (3, .long (jI z16)), (2, .int (iI z1)), (0, .ref (q 6)), (1, .ref (q ta))] → W p l e (headSpec ws_kc_X0_searchLevel ({ frames := 4, cells := 0, slots := 0, locals := 104 } : Room)).room s m [.ref (q 6), .ref (q ta)].toArray below meth c H locs 0 0 Q (F0 m 30 ls []) := by
            intro n23
            induction n23 using Nat.strongRecOn with
            | ind n23 ih20 =>
              intro z15 z16 A18 H locs ls f21 f22 hn23 hI hj17 hP hS hl
              refine lv_iload hx hb dX0_searchLevel_30 (lv_at hl 0 rfl) ?_
              refine lv_bipush (v := iI 64) hx hb dX0_searchLevel_32 (by decide +kernel) ?_
              have J78_25 : ∀ (H : Heap) (locs : List Loc) (ls : Array Slot), va_P (dC, dI) vwCl (WK cB cI cJ cZ cQ q A18) H → va_S AS s.heap H locs → lv_has ls 6 [(5, .int (iI z15)), (3, .long (jI z16)), (2, .int (iI z1)), (0, .ref (q 6)), (1, .ref (q ta))] → W p l e (headSpec ws_kc_X0_searchLevel ({ frames := 4, cells := 0, slots := 0, locals := 104 } : Room)).room s m [.ref (q 6), .ref (q ta)].toArray below meth c H locs 0 0 Q (F0 m 78 ls []) := by
                intro H locs ls hP hS hl
                refine lv_iinc (v := iI (z1 + 1)) (lv' := [(2, .int (iI (z1 + 1))), (5, .int (iI z15)), (3, .long (jI z16)), (0, .ref (q 6)), (1, .ref (q ta))]) hx hb dX0_searchLevel_78 hl (k := 2) rfl (i_inc (by omega)) (by decide) rfl (fun ls hl => ?_)
                refine lv_goto (tgt := 2) hx hb dX0_searchLevel_81 (by decide) ?_
                exact ih5 _ (by omega) (z1 + 1) _ _ _ _ (by omega) rfl hI (fk.trans (fk.trans (fk.rf) hj2 rfl rfl) hj17 rfl rfl) hP hS (lv_sub hl [0, 3, 4] rfl)
              refine lv_icmp_ge (tgt := 78) hx hb dX0_searchLevel_34 (by decide) (fun c24 => ?_) (fun c24 => ?_)
              · have c24 : 64 ≤ z15 := (i_le ⟨by decide, by decide⟩ (rb f21 (by decide) (by decide))).mp c24
                exact J78_25 _ _ _ hP hS (lv_sub hl [0, 1, 2, 3, 4] rfl)
              · have c24 : ¬ 64 ≤ z15 := mt (i_le ⟨by decide, by decide⟩ (rb f21 (by decide) (by decide))).mpr c24
                refine lv_lload_n hx hb dX0_searchLevel_37 rfl (lv_at hl 1 rfl) ?_
                refine lv_lconst (v := jI 0) hx hb dX0_searchLevel_38 (by decide +kernel) ?_
                refine x_lcmp hx hb dX0_searchLevel_39 (by omega) (by omega) (fun z26 hz26 hz26b hz26c => ?_)
                clear hz26b hz26c
                refine lv_if_eq (tgt := 78) hx hb dX0_searchLevel_40 (by decide) (fun c27 => ?_) (fun c27 => ?_)
                · have c27 : z26 = 0 := (i_eq0 (by omega)).mp c27
                  exact J78_25 _ _ _ hP hS (lv_sub hl [0, 1, 2, 3, 4] rfl)
                · have c27 : ¬ z26 = 0 := mt (i_eq0 (by omega)).mpr c27
                  refine lv_lload_n hx hb dX0_searchLevel_43 rfl (lv_at hl 1 rfl) ?_
                  refine lv_lconst (v := jI 1) hx hb dX0_searchLevel_44 (by decide +kernel) ?_
                  refine lv_land hx hb dX0_searchLevel_45 ?_
                  refine x_absl (fun z28 hz28 => ?_)
                  refine lv_lconst (v := jI 0) hx hb dX0_searchLevel_46 (by decide +kernel) ?_
                  refine x_lcmp hx hb dX0_searchLevel_47 (by omega) (by omega) (fun z29 hz29 hz29b hz29c => ?_)
                  clear hz29b hz29c
                  have J68_31 : ∀ (A38 : St) (H : Heap) (locs : List Loc) (ls : Array Slot), IK A38 → fk [7, 14, 18, 19] [(6, 15)] A18 A38 → va_P (dC, dI) vwCl (WK cB cI cJ cZ cQ q A38) H → va_S AS s.heap H locs → lv_has ls 6 [(5, .int (iI z15)), (3, .long (jI z16)), (2, .int (iI z1)), (0, .ref (q 6)), (1, .ref (q ta))] → W p l e (headSpec ws_kc_X0_searchLevel ({ frames := 4, cells := 0, slots := 0, locals := 104 } : Room)).room s m [.ref (q 6), .ref (q ta)].toArray below meth c H locs 0 0 Q (F0 m 68 ls []) := by
                    intro A38 H locs ls hI hj37 hP hS hl
                    refine lv_lload_n hx hb dX0_searchLevel_68 rfl (lv_at hl 1 rfl) ?_
                    refine lv_iconst (v := iI 1) hx hb dX0_searchLevel_69 (by decide +kernel) ?_
                    refine lv_lushr hx hb dX0_searchLevel_70 rfl ?_
                    refine x_absl (fun z39 hz39 => ?_)
                    refine lv_lstore_n (lv' := [(3, .long (jI z39)), (5, .int (iI z15)), (2, .int (iI z1)), (0, .ref (q 6)), (1, .ref (q ta))]) hx hb dX0_searchLevel_71 rfl hl (by decide) rfl (fun ls hl => ?_)
                    refine lv_iinc (v := iI (z15 + 1)) (lv' := [(5, .int (iI (z15 + 1))), (3, .long (jI z39)), (2, .int (iI z1)), (0, .ref (q 6)), (1, .ref (q ta))]) hx hb dX0_searchLevel_72 hl (k := 1) rfl (i_inc (by omega)) (by decide) rfl (fun ls hl => ?_)
                    refine lv_goto (tgt := 30) hx hb dX0_searchLevel_75 (by decide) ?_
                    exact ih20 _ (by omega) (z15 + 1) z39 _ _ _ _ (by omega) (by omega) rfl hI (fk.trans (fk.trans (fk.rf) hj17 rfl rfl) hj37 rfl rfl) hP hS (lv_sub hl [0, 1, 2, 3, 4] rfl)
                  refine lv_if_eq (tgt := 68) hx hb dX0_searchLevel_48 (by decide) (fun c30 => ?_) (fun c30 => ?_)
                  · have c30 : z29 = 0 := (i_eq0 (by omega)).mp c30
                    exact J68_31 _ _ _ _ hI (fk.rf) hP hS (lv_sub hl [0, 1, 2, 3, 4] rfl)
                  · have c30 : ¬ z29 = 0 := mt (i_eq0 (by omega)).mpr c30
                    refine lv_aload_n hx hb dX0_searchLevel_51 rfl (lv_at hl 3 rfl) ?_
                    refine lv_aload_n hx hb dX0_searchLevel_52 rfl (lv_at hl 4 rfl) ?_
                    refine lv_iload_n hx hb dX0_searchLevel_53 rfl (lv_at hl 2 rfl) ?_
                    refine lv_bipush (v := iI 64) hx hb dX0_searchLevel_54 (by decide +kernel) ?_
                    refine x_mulv (v := 64 * z1) hx hb dX0_searchLevel_56 (by omega) ?_
                    refine lv_iload hx hb dX0_searchLevel_57 (lv_at hl 0 rfl) ?_
                    refine x_addv (v := 64 * z1 + z15) hx hb dX0_searchLevel_59 (by omega) ?_
                    refine k_calli (As := [.ref (q ta), .int (iI (64 * z1 + z15))]) (rest := []) ⟨hx, hb, hml, hown, hts⟩ hE (kc_X0_visit l dC dI cB cI cJ cZ cQ aL aS q _ ta (64 * z1 + z15) hI hta (by omega)) (cwV 2 hts (goodVk (wk_in_2 _ (List.mem_of_getElem? (i := 36) rfl)) (wk_in_2 _ (List.mem_of_getElem? (i := 37) rfl)) (wk_in_2 _ (List.mem_of_getElem? (i := 38) rfl)) (wk_in_0 _ (List.mem_of_getElem? (i := 14) rfl)) (wk_in_2 _ (List.mem_of_getElem? (i := 39) rfl))) rfl rfl rfl (by decide +kernel) ⟨Nat.le_of_ble_eq_true rfl, Nat.le_of_ble_eq_true rfl⟩) hK hDD hA0 hP hS 6 0 (wkAL) rfl rfl hl.1 (Nat.le_of_ble_eq_true rfl) dX0_searchLevel_60 (fun z32 A33 H locs hw34 hP hS => ?_)
                    obtain ⟨hI, hf35, hw34⟩ := hw34
                    refine lv_if_eq (tgt := 68) hx hb dX0_searchLevel_63 (by decide) (fun c36 => ?_) (fun c36 => ?_)
                    · have c36 : z32 = 0 := (i_eq0 (rb hw34 (by decide) (by decide))).mp c36
                      exact J68_31 _ _ _ _ hI (fk.trans (fk.rf) hf35 rfl rfl) hP hS (lv_sub hl [0, 1, 2, 3, 4] rfl)
                    · have c36 : ¬ z32 = 0 := mt (i_eq0 (rb hw34 (by decide) (by decide))).mpr c36
                      refine lv_iconst (v := iI 1) hx hb dX0_searchLevel_66 (by decide +kernel) ?_
                      exact RET 1 _ _ _ _ _ ⟨hI, fk.trans (fk.trans (fk.trans (fk.rf) hj2 rfl rfl) hj17 rfl rfl) hf35 rfl rfl, ⟨by decide, by decide⟩⟩ hP hS dX0_searchLevel_67
          exact L30_19 _ 0 z14 _ _ _ _ (by omega) (by omega) rfl hI (fk.rf) hP hS (lv_sub hl [0, 1, 2, 3, 4] rfl)
  exact L2_4 _ 0 _ _ _ _ (by omega) rfl hI (fk.rf) hP hS (lv_sub hl [0, 1, 2] rfl)

def ws_kc_X0_search : List Cond := .code yX0_search cX0_search 7 (some .int) :: WY
set_option maxHeartbeats 4000000 in
set_option maxRecDepth 100000 in
theorem kc_X0_search (l : Launch) (dC : Nat → ClassId) (dI : Nat → Nat → Nat) (cB cI cJ cZ cQ : ClassId) (aL aS : Nat) (q : Nat → Nat) (A : St) (ta : Nat) (x2 x3 x4 x5 : Int) (hI : IK A) (hta : isT ta) (hx2 : (-2147483648 : Int) ≤ x2 ∧ x2 ≤ 2147483647) (hx3 : (-2147483648 : Int) ≤ x3 ∧ x3 ≤ 2147483647) (hx4 : (-2147483648 : Int) ≤ x4 ∧ x4 ≤ 2147483647) (hx5 : (-2147483648 : Int) ≤ x5 ∧ x5 ≤ 2147483647) : KMi l yX0_search ws_kc_X0_search ({ frames := 5, cells := 0, slots := 0, locals := 129 } : Room) aL aS (dC, dI) (tyA cB cI cJ cZ cQ) (WK cB cI cJ cZ cQ q) A [.ref (q 6), .ref (q ta), .int (iI x2), .int (iI x3), .int (iI x4), .int (iI x5)] (fun z u => IK u ∧ fk [7, 9, 10, 11, 12, 13, 14, 15, 16, 17, 18, 19, 72, 103] [(6, 7), (6, 8), (6, 9), (6, 10), (6, 11), (6, 12), (6, 13), (6, 14), (6, 15)] A u ∧ (-2147483648 ≤ z ∧ z ≤ 2147483647)) := by
  refine k_meti (cc := cX0_search) (maxL := 7) WK_adr (plainFor_of_name (by decide +kernel)) rfl (Nat.le_of_ble_eq_true rfl) (fun p e s m below meth c Q AS ls hx hb hml hown hts hK hDD hA0 hE RET H locs hP hS hl => ?_)
  have hown : s.vm.findClass RX0 = some m.cls := hown
  have hl : lv_has ls 7 [(0, .ref (q 6)), (1, .ref (q ta)), (2, .int (iI x2)), (3, .int (iI x3)), (4, .int (iI x4)), (5, .int (iI x5))] := hl
  have hiX0 : ∀ w ∈ u_ws RX0 TX0 17, w ∈ ws_kc_X0_search := fun w h => List.mem_cons_of_mem _ (wy_layX0 w h)
  have hiX9 : ∀ w ∈ u_ws RX9 TX9 16, w ∈ ws_kc_X0_search := fun w h => List.mem_cons_of_mem _ (wy_layX9 w h)
  have hiX6 : ∀ w ∈ u_ws RX6 TX6 4, w ∈ ws_kc_X0_search := fun w h => List.mem_cons_of_mem _ (wy_layX6 w h)
  refine lv_aload_n hx hb dX0_search_0 rfl (lv_at hl 1 rfl) ?_
  refine lv_iconst (v := iI 3) hx hb dX0_search_1 (by decide +kernel) ?_
  refine lv_iload_n hx hb dX0_search_2 rfl (lv_at hl 2 rfl) ?_
  refine k_calli (As := [.int (iI 3), .int (iI x2)]) (rest := []) ⟨hx, hb, hml, hown, hts⟩ hE (kc_X9_isThere_1_3 l dC dI cB cI cJ cZ cQ aL aS q _ ta x2 hI hta hx2) (cwV 2 hts (goodVk (wk_in_0 _ (List.mem_of_getElem? (i := 21) rfl)) (wk_in_0 _ (List.mem_of_getElem? (i := 22) rfl)) (wk_in_0 _ (List.mem_of_getElem? (i := 23) rfl)) (wk_in_0 _ (List.mem_of_getElem? (i := 6) rfl)) (wk_in_0 _ (List.mem_of_getElem? (i := 24) rfl))) rfl rfl rfl (by decide +kernel) ⟨Nat.le_of_ble_eq_true rfl, Nat.le_of_ble_eq_true rfl⟩) hK hDD hA0 hP hS ta 9 (wkT hta) rfl rfl hl.1 (Nat.le_of_ble_eq_true rfl) dX0_search_3 (fun z1 A2 H locs hw3 hP hS => ?_)
  obtain ⟨rfl, hw3⟩ := hw3
  have rz1 : 0 ≤ z1 ∧ z1 ≤ 1 := hw3.1
  have hw3 := hw3.2
  refine lv_if_ne (tgt := 11) hx hb dX0_search_6 (by decide) (fun c4 => ?_) (fun c4 => ?_)
  · have c4 : ¬ z1 = 0 := mt (i_eq0 (rb rz1 (by decide) (by decide))).mpr c4
    have hw3b := hw3 (by omega)
    clear hw3
    refine lv_aload_n hx hb dX0_search_11 rfl (lv_at hl 0 rfl) ?_
    refine lv_iload hx hb dX0_search_12 (lv_at hl 4 rfl) ?_
    refine k_put (Wf := WK cB cI cJ cZ cQ q) (D := (dC, dI)) (ci := 0) (v := .int (iI x4)) (ty := .int) (C := RX0) (T := TX0) (N := 17) hx hb hts hiX0 tyX0 tyX0_ok nmX0 hown hK hP hDD hS 6 (wkAL) rfl 13 (by decide) (hts _ (List.mem_cons_of_mem _ (wk_in_0 _ (List.mem_of_getElem? (i := 16) rfl)))) (fun _ h9 => h9) rfl (by decide +kernel) rfl rfl (Nat.le_of_ble_eq_true rfl) dX0_search_14 (wfAL_13 (v := x4)) (fun H locs A5 hA5 hP hS => ?_)
    have hI := isAL_13 hA5 hI (show (-2147483648 : Int) ≤ x4 ∧ x4 ≤ 2147483647 from hx4)
    refine lv_aload_n hx hb dX0_search_17 rfl (lv_at hl 0 rfl) ?_
    refine lv_iload hx hb dX0_search_18 (lv_at hl 5 rfl) ?_
    refine k_put (Wf := WK cB cI cJ cZ cQ q) (D := (dC, dI)) (ci := 0) (v := .int (iI x5)) (ty := .int) (C := RX0) (T := TX0) (N := 17) hx hb hts hiX0 tyX0 tyX0_ok nmX0 hown hK hP hDD hS 6 (wkAL) rfl 14 (by decide) (hts _ (List.mem_cons_of_mem _ (wk_in_0 _ (List.mem_of_getElem? (i := 17) rfl)))) (fun _ h9 => h9) rfl (by decide +kernel) rfl rfl (Nat.le_of_ble_eq_true rfl) dX0_search_20 (wfAL_14 (v := x5)) (fun H locs A6 hA6 hP hS => ?_)
    have hI := isAL_14 hA6 hI (show (-2147483648 : Int) ≤ x5 ∧ x5 ≤ 2147483647 from hx5)
    refine lv_aload_n hx hb dX0_search_23 rfl (lv_at hl 0 rfl) ?_
    refine lv_iconst (v := iI 0) hx hb dX0_search_24 (by decide +kernel) ?_
    refine k_put (Wf := WK cB cI cJ cZ cQ q) (D := (dC, dI)) (ci := 0) (v := .int (iI 0)) (ty := .int) (C := RX0) (T := TX0) (N := 17) hx hb hts hiX0 tyX0 tyX0_ok nmX0 hown hK hP hDD hS 6 (wkAL) rfl 15 (by decide) (hts _ (List.mem_cons_of_mem _ (wk_in_0 _ (List.mem_of_getElem? (i := 2) rfl)))) (fun _ h9 => h9) rfl (by decide +kernel) rfl rfl (Nat.le_of_ble_eq_true rfl) dX0_search_25 (wfAL_15 (v := 0)) (fun H locs A7 hA7 hP hS => ?_)
    have hI := isAL_15 hA7 hI (show (-2147483648 : Int) ≤ 0 ∧ 0 ≤ 2147483647 from ⟨by decide, by decide⟩)
    refine lv_aload_n hx hb dX0_search_28 rfl (lv_at hl 0 rfl) ?_
    refine lv_aload_n hx hb dX0_search_29 rfl (lv_at hl 1 rfl) ?_
    refine lv_iload_n hx hb dX0_search_30 rfl (lv_at hl 2 rfl) ?_
    refine k_callv (As := [.ref (q ta), .int (iI x2)]) (rest := []) ⟨hx, hb, hml, hown, hts⟩ hE (kc_X0_prepareWants l dC dI cB cI cJ cZ cQ aL aS q _ ta x2 hI hta (by omega)) (cwV 2 hts (goodVk (wk_in_0 _ (List.mem_of_getElem? (i := 25) rfl)) (wk_in_0 _ (List.mem_of_getElem? (i := 26) rfl)) (wk_in_0 _ (List.mem_of_getElem? (i := 27) rfl)) (wk_in_0 _ (List.mem_of_getElem? (i := 14) rfl)) (wk_in_0 _ (List.mem_of_getElem? (i := 28) rfl))) rfl rfl rfl (by decide +kernel) ⟨Nat.le_of_ble_eq_true rfl, Nat.le_of_ble_eq_true rfl⟩) hK hDD hA0 hP hS 6 0 (wkAL) rfl rfl hl.1 (Nat.le_of_ble_eq_true rfl) dX0_search_31 (fun A8 H locs hw9 hP hS => ?_)
    obtain ⟨hI, hf10, hw9⟩ := hw9
    clear hw9
    refine lv_aload_n hx hb dX0_search_34 rfl (lv_at hl 0 rfl) ?_
    refine lv_aload_n hx hb dX0_search_35 rfl (lv_at hl 1 rfl) ?_
    refine lv_iload_n hx hb dX0_search_36 rfl (lv_at hl 3 rfl) ?_
    refine k_callv (As := [.ref (q ta), .int (iI x3)]) (rest := []) ⟨hx, hb, hml, hown, hts⟩ hE (kc_X0_prepareKeys l dC dI cB cI cJ cZ cQ aL aS q _ ta x3 hI hta hx3) (cwV 2 hts (goodVk (wk_in_0 _ (List.mem_of_getElem? (i := 33) rfl)) (wk_in_0 _ (List.mem_of_getElem? (i := 34) rfl)) (wk_in_0 _ (List.mem_of_getElem? (i := 35) rfl)) (wk_in_0 _ (List.mem_of_getElem? (i := 14) rfl)) (wk_in_0 _ (List.mem_of_getElem? (i := 36) rfl))) rfl rfl rfl (by decide +kernel) ⟨Nat.le_of_ble_eq_true rfl, Nat.le_of_ble_eq_true rfl⟩) hK hDD hA0 hP hS 6 0 (wkAL) rfl rfl hl.1 (Nat.le_of_ble_eq_true rfl) dX0_search_37 (fun A11 H locs hw12 hP hS => ?_)
    obtain ⟨hI, hf13, hw12⟩ := hw12
    clear hw12
    refine lv_aload_n hx hb dX0_search_40 rfl (lv_at hl 0 rfl) ?_
    refine lv_aload_n hx hb dX0_search_41 rfl (lv_at hl 1 rfl) ?_
    refine k_callv (As := [.ref (q ta)]) (rest := []) ⟨hx, hb, hml, hown, hts⟩ hE (kc_X0_prepareDoors l dC dI cB cI cJ cZ cQ aL aS q _ ta hI hta) (cwV 1 hts (goodVk (wk_in_1 _ (List.mem_of_getElem? (i := 0) rfl)) (wk_in_1 _ (List.mem_of_getElem? (i := 1) rfl)) (wk_in_1 _ (List.mem_of_getElem? (i := 2) rfl)) (wk_in_0 _ (List.mem_of_getElem? (i := 14) rfl)) (wk_in_1 _ (List.mem_of_getElem? (i := 3) rfl))) rfl rfl rfl (by decide +kernel) ⟨Nat.le_of_ble_eq_true rfl, Nat.le_of_ble_eq_true rfl⟩) hK hDD hA0 hP hS 6 0 (wkAL) rfl rfl hl.1 (Nat.le_of_ble_eq_true rfl) dX0_search_42 (fun A14 H locs hw15 hP hS => ?_)
    obtain ⟨hI, hf16, hw15⟩ := hw15
    clear hw15
    refine lv_aload_n hx hb dX0_search_45 rfl (lv_at hl 0 rfl) ?_
    refine lv_aload_n hx hb dX0_search_46 rfl (lv_at hl 1 rfl) ?_
    refine lv_iload_n hx hb dX0_search_47 rfl (lv_at hl 2 rfl) ?_
    refine lv_iload_n hx hb dX0_search_48 rfl (lv_at hl 3 rfl) ?_
    refine k_callSi (As := [.int (iI x3)]) (rest := [.int (iI x2), .ref (q ta), .ref (q 6)]) ⟨hx, hb, hml, hown, hts⟩ hE (kc_J6_bitCount_0f7a4 l dC dI cB cI cJ cZ cQ aL aS q _ x3 hI hx3) (va_cwS 1 hts (goodSk (wk_in_1 _ (List.mem_of_getElem? (i := 16) rfl)) (wk_in_1 _ (List.mem_of_getElem? (i := 17) rfl)) (wk_in_1 _ (List.mem_of_getElem? (i := 18) rfl)) (wk_in_1 _ (List.mem_of_getElem? (i := 19) rfl))) rfl rfl rfl (by decide +kernel) ⟨Nat.le_of_ble_eq_true rfl, Nat.le_of_ble_eq_true rfl⟩) hK hDD hA0 hP hS rfl hl.1 (Nat.le_of_ble_eq_true rfl) dX0_search_49 (fun z17 A18 H locs hw19 hP hS => ?_)
    obtain ⟨rfl, hw19⟩ := hw19
    have hw19 := hw19.2
    refine k_callv (As := [.ref (q ta), .int (iI x2), .int (iI z17)]) (rest := []) ⟨hx, hb, hml, hown, hts⟩ hE (kc_X0_prepareBars l dC dI cB cI cJ cZ cQ aL aS q _ ta x2 z17 hI hta hx2 (rb hw19 (by decide) (by decide))) (cwV 3 hts (goodVk (wk_in_1 _ (List.mem_of_getElem? (i := 23) rfl)) (wk_in_1 _ (List.mem_of_getElem? (i := 24) rfl)) (wk_in_1 _ (List.mem_of_getElem? (i := 25) rfl)) (wk_in_0 _ (List.mem_of_getElem? (i := 14) rfl)) (wk_in_1 _ (List.mem_of_getElem? (i := 26) rfl))) rfl rfl rfl (by decide +kernel) ⟨Nat.le_of_ble_eq_true rfl, Nat.le_of_ble_eq_true rfl⟩) hK hDD hA0 hP hS 6 0 (wkAL) rfl rfl hl.1 (Nat.le_of_ble_eq_true rfl) dX0_search_52 (fun A20 H locs hw21 hP hS => ?_)
    obtain ⟨hI, hf22, hw21⟩ := hw21
    clear hw21
    refine lv_aload_n hx hb dX0_search_55 rfl (lv_at hl 0 rfl) ?_
    refine k_callv (As := []) (rest := []) ⟨hx, hb, hml, hown, hts⟩ hE (kc_X0_clearSets l dC dI cB cI cJ cZ cQ aL aS q _ hI) (cwV 0 hts (goodVk (wk_in_2 _ (List.mem_of_getElem? (i := 4) rfl)) (wk_in_2 _ (List.mem_of_getElem? (i := 5) rfl)) (wk_in_2 _ (List.mem_of_getElem? (i := 6) rfl)) (wk_in_0 _ (List.mem_of_getElem? (i := 14) rfl)) (wk_in_2 _ (List.mem_of_getElem? (i := 7) rfl))) rfl rfl rfl (by decide +kernel) ⟨Nat.le_of_ble_eq_true rfl, Nat.le_of_ble_eq_true rfl⟩) hK hDD hA0 hP hS 6 0 (wkAL) rfl rfl hl.1 (Nat.le_of_ble_eq_true rfl) dX0_search_56 (fun A23 H locs hw24 hP hS => ?_)
    obtain ⟨hI, hf25, hw24⟩ := hw24
    clear hw24
    refine lv_aload_n hx hb dX0_search_59 rfl (lv_at hl 0 rfl) ?_
    refine lv_aload_n hx hb dX0_search_60 rfl (lv_at hl 1 rfl) ?_
    refine lv_aload_n hx hb dX0_search_61 rfl (lv_at hl 1 rfl) ?_
    refine va_get (D := (dC, dI)) (ci := 9) (v := .ref (q (ta + 22))) (C := RX9) (T := TX9) (N := 16) hx hb hts hiX9 hown hK hP ta (wkT hta) rfl 14 (by decide) (hts _ (List.mem_cons_of_mem _ (wk_in_0 _ (List.mem_of_getElem? (i := 18) rfl)))) (fun _ h9 => h9) rfl dX0_search_62 ?_
    refine va_get (D := (dC, dI)) (ci := 6) (v := .ref (q ((ta + 22) + 1))) (C := RX6) (T := TX6) (N := 4) hx hb hts hiX6 hown hK hP (ta + 22) (wkS hta.s) rfl 0 (by decide) (hts _ (List.mem_cons_of_mem _ (wk_in_0 _ (List.mem_of_getElem? (i := 19) rfl)))) (fun _ h9 => h9) rfl dX0_search_65 ?_
    refine lv_iload_n hx hb dX0_search_68 rfl (lv_at hl 2 rfl) ?_
    have a33 : ∀ k, A5 ((ta + 22) + 1) k = A ((ta + 22) + 1) k := fun k => rd_ne hA5 (by rcases hta.s with h | h | h | h <;> omega) k
    have a32 : ∀ k, A6 ((ta + 22) + 1) k = A ((ta + 22) + 1) k := fun k => (rd_ne hA6 (by rcases hta.s with h | h | h | h <;> omega) k).trans (a33 k)
    have a31 : ∀ k, A7 ((ta + 22) + 1) k = A ((ta + 22) + 1) k := fun k => (rd_ne hA7 (by rcases hta.s with h | h | h | h <;> omega) k).trans (a32 k)
    have a30 : ∀ k, A8 ((ta + 22) + 1) k = A ((ta + 22) + 1) k := fun k => (hf10 ((ta + 22) + 1) k (isS.b2 (o := fun b => List.contains [17] (b + 1)) hta.s rfl rfl rfl rfl) (isS.b2 (o := fun b => fin2 [(6, 9)] (b + 1) k) hta.s rfl rfl rfl rfl)).trans (a31 k)
    have a29 : ∀ k, A11 ((ta + 22) + 1) k = A ((ta + 22) + 1) k := fun k => (hf13 ((ta + 22) + 1) k (isS.b2 (o := fun b => List.contains [9, 10, 11, 12, 13] (b + 1)) hta.s rfl rfl rfl rfl) (isS.b2 (o := fun b => fin2 [(6, 10), (6, 11), (6, 12)] (b + 1) k) hta.s rfl rfl rfl rfl)).trans (a30 k)
    have a28 : ∀ k, A14 ((ta + 22) + 1) k = A ((ta + 22) + 1) k := fun k => (hf16 ((ta + 22) + 1) k (isS.b2 (o := fun b => List.contains [15] (b + 1)) hta.s rfl rfl rfl rfl) (isS.b2 (o := fun b => fin2 [] (b + 1) k) hta.s rfl rfl rfl rfl)).trans (a29 k)
    have a27 : ∀ k, A20 ((ta + 22) + 1) k = A ((ta + 22) + 1) k := fun k => (hf22 ((ta + 22) + 1) k (isS.b2 (o := fun b => List.contains [16, 72, 103] (b + 1)) hta.s rfl rfl rfl rfl) (isS.b2 (o := fun b => fin2 [] (b + 1) k) hta.s rfl rfl rfl rfl)).trans (a28 k)
    have a26 : ∀ k, A23 ((ta + 22) + 1) k = A ((ta + 22) + 1) k := fun k => (hf25 ((ta + 22) + 1) k (isS.b2 (o := fun b => List.contains [7, 18, 19] (b + 1)) hta.s rfl rfl rfl rfl) (isS.b2 (o := fun b => fin2 [] (b + 1) k) hta.s rfl rfl rfl rfl)).trans (a27 k)
    refine x_iald (Wf := WK cB cI cJ cZ cQ q) hx hb hK hP ((ta + 22) + 1) 1 (wkSs hta.s) rfl (by omega) (by decide) dX0_search_69 (fun z34 hz34 => ?_)
    have rz34 : (-2147483648 : Int) ≤ z34 ∧ z34 ≤ 2147483647 := by rw [hz34]; exact irSs hta.s hI
    have hz34 : z34 = A ((ta + 22) + 1) (x2).toNat := hz34.trans (a26 _)
    refine lv_iload_n hx hb dX0_search_70 rfl (lv_at hl 3 rfl) ?_
    refine k_callv (As := [.ref (q ta), .int (iI z34), .int (iI x3)]) (rest := []) ⟨hx, hb, hml, hown, hts⟩ hE (kc_X0_markStart l dC dI cB cI cJ cZ cQ aL aS q _ ta z34 x3 hI hta rz34 hx3) (cwV 3 hts (goodVk (wk_in_2 _ (List.mem_of_getElem? (i := 10) rfl)) (wk_in_2 _ (List.mem_of_getElem? (i := 11) rfl)) (wk_in_2 _ (List.mem_of_getElem? (i := 12) rfl)) (wk_in_0 _ (List.mem_of_getElem? (i := 14) rfl)) (wk_in_2 _ (List.mem_of_getElem? (i := 13) rfl))) rfl rfl rfl (by decide +kernel) ⟨Nat.le_of_ble_eq_true rfl, Nat.le_of_ble_eq_true rfl⟩) hK hDD hA0 hP hS 6 0 (wkAL) rfl rfl hl.1 (Nat.le_of_ble_eq_true rfl) dX0_search_71 (fun A35 H locs hw36 hP hS => ?_)
    obtain ⟨hI, hf37, hw36⟩ := hw36
    clear hw36
    refine lv_iconst (v := iI 0) hx hb dX0_search_74 (by decide +kernel) ?_
    refine lv_istore (lv' := [(6, .int (iI 0)), (0, .ref (q 6)), (1, .ref (q ta)), (2, .int (iI x2)), (3, .int (iI x3)), (4, .int (iI x4)), (5, .int (iI x5))]) hx hb dX0_search_75 hl (by decide) rfl (fun ls hl => ?_)
    have L77_41 : ∀ (n50 : Nat) (z38 : Int) (A40 : St) (H : Heap) (locs : List Loc) (ls : Array Slot), (0 ≤ z38 ∧ z38 ≤ 2147483647) → ((76833 - z38).toNat = n50) → IK A40 → fk [7, 14, 18, 19] [(6, 7), (6, 8), (6, 15)] A35 A40 → va_P (dC, dI) vwCl (WK cB cI cJ cZ cQ q A40) H → va_S AS s.heap H locs → lv_has ls 7 [(6, .int (iI z38)), (0, .ref (q 6)), (1, .ref (q ta)), (2, .int (iI x2)), (3, .int (iI x3)), (4, .int (iI x4)), (5, .int (iI x5))] → W p l e (headSpec ws_kc_X0_search ({ frames := 5, cells := 0, slots := 0, locals := 129 } : Room)).room s m [.ref (q 6), .ref (q ta), .int (iI x2), .int (iI x3), .int (iI x4), .int (iI x5)].toArray below meth c H locs 0 0 Q (F0 m 77 ls []) := by
      intro n50
      induction n50 using Nat.strongRecOn with
      | ind n50 ih42 =>
        intro z38 A40 H locs ls f43 hn50 hI hj39 hP hS hl
        refine lv_iload hx hb dX0_search_77 (lv_at hl 0 rfl) ?_
        refine lv_aload_n hx hb dX0_search_79 rfl (lv_at hl 1 rfl) ?_
        have e55 : A14 6 11 = (A11 6 11) := (hf16 6 11 rfl rfl)
        have e54 : A20 6 11 = (A11 6 11) := (hf22 6 11 rfl rfl).trans e55
        have e53 : A23 6 11 = (A11 6 11) := (hf25 6 11 rfl rfl).trans e54
        have e52 : A35 6 11 = (A11 6 11) := (hf37 6 11 rfl rfl).trans e53
        have e51 : A40 6 11 = (A11 6 11) := (hj39 6 11 rfl rfl).trans e52
        have r56 : (-2147483648 : Int) ≤ (A11 6 11) ∧ (A11 6 11) ≤ 76832 := by rw [← e51]; exact irAL_11 hI
        refine va_get (D := (dC, dI)) (ci := 0) (v := .int (iI (A40 6 11))) (C := RX0) (T := TX0) (N := 17) hx hb hts hiX0 hown hK hP 6 (wkAL) rfl 11 (by decide) (hts _ (List.mem_cons_of_mem _ (wk_in_0 _ (List.mem_of_getElem? (i := 20) rfl)))) (fun _ h9 => h9) rfl dX0_search_80 ?_
        refine tp_i (y := iI (A11 6 11)) (congrArg iI e51) ?_
        refine lv_icmp_gt (tgt := 112) hx hb dX0_search_83 (by decide) (fun c57 => ?_) (fun c57 => ?_)
        · have c57 : (A11 6 11) < z38 := (i_lt (rb r56 (by decide) (by decide)) (rb f43 (by decide) (by decide))).mp c57
          refine lv_iconst (v := iI (-1)) hx hb dX0_search_112 (by decide +kernel) ?_
          exact RET (-1) _ _ _ _ _ ⟨hI, fk.trans (fk.trans (fk.trans (fk.trans (fk.trans (fk.trans (fk.trans (fk.df (fk.df (fk.df (fk.rf) hA5 rfl) hA6 rfl) hA7 rfl) hf10 rfl rfl) hf13 rfl rfl) hf16 rfl rfl) hf22 rfl rfl) hf25 rfl rfl) hf37 rfl rfl) hj39 rfl rfl, ⟨by decide, by decide⟩⟩ hP hS dX0_search_113
        · have c57 : ¬ (A11 6 11) < z38 := mt (i_lt (rb r56 (by decide) (by decide)) (rb f43 (by decide) (by decide))).mpr c57
          refine lv_aload_n hx hb dX0_search_86 rfl (lv_at hl 1 rfl) ?_
          refine k_calli (As := []) (rest := []) ⟨hx, hb, hml, hown, hts⟩ hE (kc_X0_advance l dC dI cB cI cJ cZ cQ aL aS q _ hI) (cwV 0 hts (goodVk (wk_in_2 _ (List.mem_of_getElem? (i := 27) rfl)) (wk_in_2 _ (List.mem_of_getElem? (i := 28) rfl)) (wk_in_2 _ (List.mem_of_getElem? (i := 29) rfl)) (wk_in_0 _ (List.mem_of_getElem? (i := 14) rfl)) (wk_in_2 _ (List.mem_of_getElem? (i := 30) rfl))) rfl rfl rfl (by decide +kernel) ⟨Nat.le_of_ble_eq_true rfl, Nat.le_of_ble_eq_true rfl⟩) hK hDD hA0 hP hS 6 0 (wkAL) rfl rfl hl.1 (Nat.le_of_ble_eq_true rfl) dX0_search_87 (fun z58 A59 H locs hw60 hP hS => ?_)
          obtain ⟨hI, hf61, hw60⟩ := hw60
          refine lv_if_ne (tgt := 95) hx hb dX0_search_90 (by decide) (fun c62 => ?_) (fun c62 => ?_)
          · have c62 : ¬ z58 = 0 := mt (i_eq0 (rb hw60 (by decide) (by decide))).mpr c62
            refine lv_aload_n hx hb dX0_search_95 rfl (lv_at hl 1 rfl) ?_
            refine lv_aload_n hx hb dX0_search_96 rfl (lv_at hl 2 rfl) ?_
            refine k_calli (As := [.ref (q ta)]) (rest := []) ⟨hx, hb, hml, hown, hts⟩ hE (kc_X0_searchLevel l dC dI cB cI cJ cZ cQ aL aS q _ ta hI hta) (cwV 1 hts (goodVk (wk_in_2 _ (List.mem_of_getElem? (i := 32) rfl)) (wk_in_2 _ (List.mem_of_getElem? (i := 33) rfl)) (wk_in_2 _ (List.mem_of_getElem? (i := 34) rfl)) (wk_in_0 _ (List.mem_of_getElem? (i := 14) rfl)) (wk_in_2 _ (List.mem_of_getElem? (i := 35) rfl))) rfl rfl rfl (by decide +kernel) ⟨Nat.le_of_ble_eq_true rfl, Nat.le_of_ble_eq_true rfl⟩) hK hDD hA0 hP hS 6 0 (wkAL) rfl rfl hl.1 (Nat.le_of_ble_eq_true rfl) dX0_search_97 (fun z63 A64 H locs hw65 hP hS => ?_)
            obtain ⟨hI, hf66, hw65⟩ := hw65
            refine lv_if_eq (tgt := 106) hx hb dX0_search_100 (by decide) (fun c67 => ?_) (fun c67 => ?_)
            · have c67 : z63 = 0 := (i_eq0 (rb hw65 (by decide) (by decide))).mp c67
              refine lv_iinc (v := iI (z38 + 1)) (lv' := [(6, .int (iI (z38 + 1))), (0, .ref (q 6)), (1, .ref (q ta)), (2, .int (iI x2)), (3, .int (iI x3)), (4, .int (iI x4)), (5, .int (iI x5))]) hx hb dX0_search_106 hl (k := 0) rfl (i_inc (by omega)) (by decide) rfl (fun ls hl => ?_)
              refine lv_goto (tgt := 77) hx hb dX0_search_109 (by decide) ?_
              exact ih42 _ (by omega) (z38 + 1) _ _ _ _ (by omega) rfl hI (fk.trans (fk.trans (fk.trans (fk.rf) hj39 rfl rfl) hf61 rfl rfl) hf66 rfl rfl) hP hS (lv_sub hl [0, 1, 2, 3, 4, 5, 6] rfl)
            · have c67 : ¬ z63 = 0 := mt (i_eq0 (rb hw65 (by decide) (by decide))).mpr c67
              refine lv_iload hx hb dX0_search_103 (lv_at hl 0 rfl) ?_
              exact RET z38 _ _ _ _ _ ⟨hI, fk.trans (fk.trans (fk.trans (fk.trans (fk.trans (fk.trans (fk.trans (fk.trans (fk.trans (fk.df (fk.df (fk.df (fk.rf) hA5 rfl) hA6 rfl) hA7 rfl) hf10 rfl rfl) hf13 rfl rfl) hf16 rfl rfl) hf22 rfl rfl) hf25 rfl rfl) hf37 rfl rfl) hj39 rfl rfl) hf61 rfl rfl) hf66 rfl rfl, (rb f43 (by decide) (by decide))⟩ hP hS dX0_search_105
          · have c62 : z58 = 0 := (i_eq0 (rb hw60 (by decide) (by decide))).mp c62
            refine lv_iconst (v := iI (-1)) hx hb dX0_search_93 (by decide +kernel) ?_
            exact RET (-1) _ _ _ _ _ ⟨hI, fk.trans (fk.trans (fk.trans (fk.trans (fk.trans (fk.trans (fk.trans (fk.trans (fk.df (fk.df (fk.df (fk.rf) hA5 rfl) hA6 rfl) hA7 rfl) hf10 rfl rfl) hf13 rfl rfl) hf16 rfl rfl) hf22 rfl rfl) hf25 rfl rfl) hf37 rfl rfl) hj39 rfl rfl) hf61 rfl rfl, ⟨by decide, by decide⟩⟩ hP hS dX0_search_94
    exact L77_41 _ 0 _ _ _ _ (by omega) rfl hI (fk.rf) hP hS (lv_sub hl [0, 1, 2, 3, 4, 5, 6] rfl)
  · have c4 : z1 = 0 := (i_eq0 (rb rz1 (by decide) (by decide))).mp c4
    clear hw3
    refine lv_iconst (v := iI (-1)) hx hb dX0_search_9 (by decide +kernel) ?_
    exact RET (-1) _ _ _ _ _ ⟨hI, fk.rf, ⟨by decide, by decide⟩⟩ hP hS dX0_search_10

def ws_kc_X0_placesOf : List Cond := .code yX0_placesOf cX0_placesOf 3 (some .int) :: WY
set_option maxHeartbeats 4000000 in
set_option maxRecDepth 100000 in
theorem kc_X0_placesOf (l : Launch) (dC : Nat → ClassId) (dI : Nat → Nat → Nat) (cB cI cJ cZ cQ : ClassId) (aL aS : Nat) (q : Nat → Nat) (A : St) (ta : Nat) (x2 : Int) (hI : IK A) (hta : isT ta) (hx2 : (-2147483648 : Int) ≤ x2 ∧ x2 ≤ 2147483647) : KMi l yX0_placesOf ws_kc_X0_placesOf ({ frames := 6, cells := 0, slots := 0, locals := 155 } : Room) aL aS (dC, dI) (tyA cB cI cJ cZ cQ) (WK cB cI cJ cZ cQ q) A [.ref (q 6), .ref (q ta), .int (iI x2)] (fun z u => IK u ∧ fk [7, 9, 10, 11, 12, 13, 14, 15, 16, 17, 18, 19, 72, 103] [(6, 7), (6, 8), (6, 9), (6, 10), (6, 11), (6, 12), (6, 13), (6, 14), (6, 15)] A u ∧ (-2147483648 ≤ z ∧ z ≤ 2147483647)) := by
  refine k_meti (cc := cX0_placesOf) (maxL := 3) WK_adr (plainFor_of_name (by decide +kernel)) rfl (Nat.le_of_ble_eq_true rfl) (fun p e s m below meth c Q AS ls hx hb hml hown hts hK hDD hA0 hE RET H locs hP hS hl => ?_)
  have hown : s.vm.findClass RX0 = some m.cls := hown
  have hl : lv_has ls 3 [(0, .ref (q 6)), (1, .ref (q ta)), (2, .int (iI x2))] := hl
  have hiX9 : ∀ w ∈ u_ws RX9 TX9 16, w ∈ ws_kc_X0_placesOf := fun w h => List.mem_cons_of_mem _ (wy_layX9 w h)
  have hiX0 : ∀ w ∈ u_ws RX0 TX0 17, w ∈ ws_kc_X0_placesOf := fun w h => List.mem_cons_of_mem _ (wy_layX0 w h)
  refine lv_aload_n hx hb dX0_placesOf_0 rfl (lv_at hl 0 rfl) ?_
  refine lv_aload_n hx hb dX0_placesOf_1 rfl (lv_at hl 1 rfl) ?_
  refine lv_iload_n hx hb dX0_placesOf_2 rfl (lv_at hl 2 rfl) ?_
  refine lv_aload_n hx hb dX0_placesOf_3 rfl (lv_at hl 1 rfl) ?_
  refine lv_iload_n hx hb dX0_placesOf_4 rfl (lv_at hl 2 rfl) ?_
  refine k_calli (As := [.int (iI x2)]) (rest := [.int (iI x2), .ref (q ta), .ref (q 6)]) ⟨hx, hb, hml, hown, hts⟩ hE (kc_X9_keysOf l dC dI cB cI cJ cZ cQ aL aS q _ ta x2 hI hta hx2) (cwV 1 hts (goodVk (wk_in_0 _ (List.mem_of_getElem? (i := 3) rfl)) (wk_in_0 _ (List.mem_of_getElem? (i := 4) rfl)) (wk_in_0 _ (List.mem_of_getElem? (i := 5) rfl)) (wk_in_0 _ (List.mem_of_getElem? (i := 6) rfl)) (wk_in_0 _ (List.mem_of_getElem? (i := 7) rfl))) rfl rfl rfl (by decide +kernel) ⟨Nat.le_of_ble_eq_true rfl, Nat.le_of_ble_eq_true rfl⟩) hK hDD hA0 hP hS ta 9 (wkT hta) rfl rfl hl.1 (Nat.le_of_ble_eq_true rfl) dX0_placesOf_5 (fun z1 A2 H locs hw3 hP hS => ?_)
  obtain ⟨rfl, hw3⟩ := hw3
  refine lv_iconst (v := iI 3) hx hb dX0_placesOf_8 (by decide +kernel) ?_
  refine lv_iconst (v := iI 1) hx hb dX0_placesOf_9 (by decide +kernel) ?_
  refine lv_aload_n hx hb dX0_placesOf_10 rfl (lv_at hl 1 rfl) ?_
  refine va_get (D := (dC, dI)) (ci := 9) (v := .ref (q (ta + 1))) (C := RX9) (T := TX9) (N := 16) hx hb hts hiX9 hown hK hP ta (wkT hta) rfl 0 (by decide) (hts _ (List.mem_cons_of_mem _ (wk_in_0 _ (List.mem_of_getElem? (i := 1) rfl)))) (fun _ h9 => h9) rfl dX0_placesOf_11 ?_
  refine lv_iconst (v := iI 0) hx hb dX0_placesOf_14 (by decide +kernel) ?_
  refine x_iald (Wf := WK cB cI cJ cZ cQ q) hx hb hK hP (ta + 1) 1 (wkTc hta) rfl (by decide) (by decide) dX0_placesOf_15 (fun z4 hz4 => ?_)
  have rz4 : (0 : Int) ≤ z4 ∧ z4 ≤ 8 := by rw [hz4]; exact irTc0 hta hI
  refine lv_ishl hx hb dX0_placesOf_16 ?_
  refine x_abs (fun z5 hz5 => ?_)
  refine lv_iconst (v := iI 1) hx hb dX0_placesOf_17 (by decide +kernel) ?_
  refine x_subv (v := z5 - 1) hx hb dX0_placesOf_18 (by omega) ?_
  refine x_abs (fun z6 hz6 => ?_)
  refine k_calli (As := [.ref (q ta), .int (iI x2), .int (iI z1), .int (iI 3), .int (iI z6)]) (rest := []) ⟨hx, hb, hml, hown, hts⟩ hE (kc_X0_search l dC dI cB cI cJ cZ cQ aL aS q _ ta x2 z1 3 z6 hI hta hx2 hw3 ⟨by decide, by decide⟩ hz6) (cwV 5 hts (goodVk (wk_in_0 _ (List.mem_of_getElem? (i := 11) rfl)) (wk_in_0 _ (List.mem_of_getElem? (i := 12) rfl)) (wk_in_0 _ (List.mem_of_getElem? (i := 13) rfl)) (wk_in_0 _ (List.mem_of_getElem? (i := 14) rfl)) (wk_in_0 _ (List.mem_of_getElem? (i := 15) rfl))) rfl rfl rfl (by decide +kernel) ⟨Nat.le_of_ble_eq_true rfl, Nat.le_of_ble_eq_true rfl⟩) hK hDD hA0 hP hS 6 0 (wkAL) rfl rfl hl.1 (Nat.le_of_ble_eq_true rfl) dX0_placesOf_19 (fun z7 A8 H locs hw9 hP hS => ?_)
  obtain ⟨hI, hf10, hw9⟩ := hw9
  refine lv_pop hx hb dX0_placesOf_22 rfl ?_
  refine lv_aload_n hx hb dX0_placesOf_23 rfl (lv_at hl 0 rfl) ?_
  have r11 : (-2147483648 : Int) ≤ (A8 6 15) ∧ (A8 6 15) ≤ 2147483647 := irAL_15 hI
  refine va_get (D := (dC, dI)) (ci := 0) (v := .int (iI (A8 6 15))) (C := RX0) (T := TX0) (N := 17) hx hb hts hiX0 hown hK hP 6 (wkAL) rfl 15 (by decide) (hts _ (List.mem_cons_of_mem _ (wk_in_0 _ (List.mem_of_getElem? (i := 2) rfl)))) (fun _ h9 => h9) rfl dX0_placesOf_24 ?_
  exact RET (A8 6 15) _ _ _ _ _ ⟨hI, fk.trans (fk.rf) hf10 rfl rfl, r11⟩ hP hS dX0_placesOf_27

def ws_kc_X0_bestLent : List Cond := .code yX0_bestLent cX0_bestLent 8 (some .int) :: WY
set_option maxHeartbeats 4000000 in
set_option maxRecDepth 100000 in
theorem kc_X0_bestLent (l : Launch) (dC : Nat → ClassId) (dI : Nat → Nat → Nat) (cB cI cJ cZ cQ : ClassId) (aL aS : Nat) (q : Nat → Nat) (A : St) (ta : Nat) (x2 x3 : Int) (hI : IK A) (hta : isT ta) (hx2 : (-2147483648 : Int) ≤ x2 ∧ x2 ≤ 2147483647) (hx3 : (-2147483648 : Int) ≤ x3 ∧ x3 ≤ 2147483647) : KMi l yX0_bestLent ws_kc_X0_bestLent ({ frames := 6, cells := 0, slots := 0, locals := 155 } : Room) aL aS (dC, dI) (tyA cB cI cJ cZ cQ) (WK cB cI cJ cZ cQ q) A [.ref (q 6), .ref (q ta), .int (iI x2), .int (iI x3)] (fun z u => IK u ∧ fk [7, 9, 10, 11, 12, 13, 14, 15, 16, 17, 18, 19, 72, 103] [(6, 7), (6, 8), (6, 9), (6, 10), (6, 11), (6, 12), (6, 13), (6, 14), (6, 15), (6, 16)] A u ∧ (-2147483648 ≤ z ∧ z ≤ 2147483647)) := by
  refine k_meti (cc := cX0_bestLent) (maxL := 8) WK_adr (plainFor_of_name (by decide +kernel)) rfl (Nat.le_of_ble_eq_true rfl) (fun p e s m below meth c Q AS ls hx hb hml hown hts hK hDD hA0 hE RET H locs hP hS hl => ?_)
  have hown : s.vm.findClass RX0 = some m.cls := hown
  have hl : lv_has ls 8 [(0, .ref (q 6)), (1, .ref (q ta)), (2, .int (iI x2)), (3, .int (iI x3))] := hl
  have hiX0 : ∀ w ∈ u_ws RX0 TX0 17, w ∈ ws_kc_X0_bestLent := fun w h => List.mem_cons_of_mem _ (wy_layX0 w h)
  have hiX9 : ∀ w ∈ u_ws RX9 TX9 16, w ∈ ws_kc_X0_bestLent := fun w h => List.mem_cons_of_mem _ (wy_layX9 w h)
  have hiX6 : ∀ w ∈ u_ws RX6 TX6 4, w ∈ ws_kc_X0_bestLent := fun w h => List.mem_cons_of_mem _ (wy_layX6 w h)
  refine lv_aload_n hx hb dX0_bestLent_0 rfl (lv_at hl 1 rfl) ?_
  refine lv_iload_n hx hb dX0_bestLent_1 rfl (lv_at hl 2 rfl) ?_
  refine k_calli (As := [.int (iI x2)]) (rest := []) ⟨hx, hb, hml, hown, hts⟩ hE (kc_X9_keysOf l dC dI cB cI cJ cZ cQ aL aS q _ ta x2 hI hta hx2) (cwV 1 hts (goodVk (wk_in_0 _ (List.mem_of_getElem? (i := 3) rfl)) (wk_in_0 _ (List.mem_of_getElem? (i := 4) rfl)) (wk_in_0 _ (List.mem_of_getElem? (i := 5) rfl)) (wk_in_0 _ (List.mem_of_getElem? (i := 6) rfl)) (wk_in_0 _ (List.mem_of_getElem? (i := 7) rfl))) rfl rfl rfl (by decide +kernel) ⟨Nat.le_of_ble_eq_true rfl, Nat.le_of_ble_eq_true rfl⟩) hK hDD hA0 hP hS ta 9 (wkT hta) rfl rfl hl.1 (Nat.le_of_ble_eq_true rfl) dX0_bestLent_2 (fun z1 A2 H locs hw3 hP hS => ?_)
  obtain ⟨rfl, hw3⟩ := hw3
  refine lv_istore (lv' := [(4, .int (iI z1)), (0, .ref (q 6)), (1, .ref (q ta)), (2, .int (iI x2)), (3, .int (iI x3))]) hx hb dX0_bestLent_5 hl (by decide) rfl (fun ls hl => ?_)
  refine lv_iconst (v := iI (-1)) hx hb dX0_bestLent_7 (by decide +kernel) ?_
  refine lv_istore (lv' := [(5, .int (iI (-1))), (4, .int (iI z1)), (0, .ref (q 6)), (1, .ref (q ta)), (2, .int (iI x2)), (3, .int (iI x3))]) hx hb dX0_bestLent_8 hl (by decide) rfl (fun ls hl => ?_)
  refine lv_aload_n hx hb dX0_bestLent_10 rfl (lv_at hl 2 rfl) ?_
  refine lv_iconst (v := iI (-1)) hx hb dX0_bestLent_11 (by decide +kernel) ?_
  refine k_put (Wf := WK cB cI cJ cZ cQ q) (D := (dC, dI)) (ci := 0) (v := .int (iI (-1))) (ty := .int) (C := RX0) (T := TX0) (N := 17) hx hb hts hiX0 tyX0 tyX0_ok nmX0 hown hK hP hDD hS 6 (wkAL) rfl 16 (by decide) (hts _ (List.mem_cons_of_mem _ (wk_in_2 _ (List.mem_of_getElem? (i := 59) rfl)))) (fun _ h9 => h9) rfl (by decide +kernel) rfl rfl (Nat.le_of_ble_eq_true rfl) dX0_bestLent_12 (wfAL_16 (v := (-1))) (fun H locs A4 hA4 hP hS => ?_)
  have hI := isAL_16 hA4 hI (show (-2147483648 : Int) ≤ (-1) ∧ (-1) ≤ 2147483647 from ⟨by decide, by decide⟩)
  refine lv_iconst (v := iI 0) hx hb dX0_bestLent_15 (by decide +kernel) ?_
  refine lv_istore (lv' := [(6, .int (iI 0)), (5, .int (iI (-1))), (4, .int (iI z1)), (0, .ref (q 6)), (1, .ref (q ta)), (2, .int (iI x2)), (3, .int (iI x3))]) hx hb dX0_bestLent_16 hl (by decide) rfl (fun ls hl => ?_)
  have L18_9 : ∀ (n16 : Nat) (z5 z6 : Int) (A8 : St) (H : Heap) (locs : List Loc) (ls : Array Slot), (0 ≤ z5 ∧ z5 ≤ 2147483647) → (-2147483648 ≤ z6 ∧ z6 ≤ 2147483647) → ((5 - z5).toNat = n16) → IK A8 → fk [7, 9, 10, 11, 12, 13, 14, 15, 16, 17, 18, 19, 72, 103] [(6, 7), (6, 8), (6, 9), (6, 10), (6, 11), (6, 12), (6, 13), (6, 14), (6, 15), (6, 16)] A4 A8 → va_P (dC, dI) vwCl (WK cB cI cJ cZ cQ q A8) H → va_S AS s.heap H locs → lv_has ls 8 [(6, .int (iI z5)), (5, .int (iI z6)), (4, .int (iI z1)), (0, .ref (q 6)), (1, .ref (q ta)), (2, .int (iI x2)), (3, .int (iI x3))] → W p l e (headSpec ws_kc_X0_bestLent ({ frames := 6, cells := 0, slots := 0, locals := 155 } : Room)).room s m [.ref (q 6), .ref (q ta), .int (iI x2), .int (iI x3)].toArray below meth c H locs 0 0 Q (F0 m 18 ls []) := by
    intro n16
    induction n16 using Nat.strongRecOn with
    | ind n16 ih10 =>
      intro z5 z6 A8 H locs ls f11 f12 hn16 hI hj7 hP hS hl
      refine lv_iload hx hb dX0_bestLent_18 (lv_at hl 0 rfl) ?_
      refine lv_aload_n hx hb dX0_bestLent_20 rfl (lv_at hl 4 rfl) ?_
      refine va_get (D := (dC, dI)) (ci := 9) (v := .ref (q (ta + 1))) (C := RX9) (T := TX9) (N := 16) hx hb hts hiX9 hown hK hP ta (wkT hta) rfl 0 (by decide) (hts _ (List.mem_cons_of_mem _ (wk_in_0 _ (List.mem_of_getElem? (i := 1) rfl)))) (fun _ h9 => h9) rfl dX0_bestLent_21 ?_
      refine lv_iconst (v := iI 2) hx hb dX0_bestLent_24 (by decide +kernel) ?_
      have a18 : ∀ k, A4 (ta + 1) k = A (ta + 1) k := fun k => rd_ne hA4 (by rcases hta with h | h <;> omega) k
      have a17 : ∀ k, A8 (ta + 1) k = A (ta + 1) k := fun k => (hj7 (ta + 1) k (isT.b2 (o := fun b => List.contains [7, 9, 10, 11, 12, 13, 14, 15, 16, 17, 18, 19, 72, 103] (b + 1)) hta rfl rfl) (isT.b2 (o := fun b => fin2 [(6, 7), (6, 8), (6, 9), (6, 10), (6, 11), (6, 12), (6, 13), (6, 14), (6, 15), (6, 16)] (b + 1) k) hta rfl rfl)).trans (a18 k)
      refine x_iald (Wf := WK cB cI cJ cZ cQ q) hx hb hK hP (ta + 1) 1 (wkTc hta) rfl (by decide) (by decide) dX0_bestLent_25 (fun z19 hz19 => ?_)
      have rz19 : (0 : Int) ≤ z19 ∧ z19 ≤ 4 := by rw [hz19]; exact irTc2 hta hI
      have hz19 : z19 = A (ta + 1) (2 : Int).toNat := hz19.trans (a17 _)
      refine lv_icmp_ge (tgt := 108) hx hb dX0_bestLent_26 (by decide) (fun c20 => ?_) (fun c20 => ?_)
      · have c20 : z19 ≤ z5 := (i_le (rb rz19 (by decide) (by decide)) (rb f11 (by decide) (by decide))).mp c20
        refine lv_iload hx hb dX0_bestLent_108 (lv_at hl 1 rfl) ?_
        exact RET z6 _ _ _ _ _ ⟨hI, fk.trans (fk.df (fk.rf) hA4 rfl) hj7 rfl rfl, f12⟩ hP hS dX0_bestLent_110
      · have c20 : ¬ z19 ≤ z5 := mt (i_le (rb rz19 (by decide) (by decide)) (rb f11 (by decide) (by decide))).mpr c20
        refine lv_iload hx hb dX0_bestLent_29 (lv_at hl 2 rfl) ?_
        refine lv_iload hx hb dX0_bestLent_31 (lv_at hl 0 rfl) ?_
        refine lv_ishr hx hb dX0_bestLent_33 ?_
        refine x_abs (fun z21 hz21 => ?_)
        refine lv_iconst (v := iI 1) hx hb dX0_bestLent_34 (by decide +kernel) ?_
        refine lv_iand hx hb dX0_bestLent_35 ?_
        refine x_and (b := 1) (by omega) (fun z22 hz22 => ?_)
        have J102_24 : ∀ (z43 : Int) (A45 : St) (H : Heap) (locs : List Loc) (ls : Array Slot), (-2147483648 ≤ z43 ∧ z43 ≤ 2147483647) → IK A45 → fk [7, 9, 10, 11, 12, 13, 14, 15, 16, 17, 18, 19, 72, 103] [(6, 7), (6, 8), (6, 9), (6, 10), (6, 11), (6, 12), (6, 13), (6, 14), (6, 15), (6, 16)] A8 A45 → va_P (dC, dI) vwCl (WK cB cI cJ cZ cQ q A45) H → va_S AS s.heap H locs → lv_has ls 8 [(6, .int (iI z5)), (5, .int (iI z43)), (4, .int (iI z1)), (0, .ref (q 6)), (1, .ref (q ta)), (2, .int (iI x2)), (3, .int (iI x3))] → W p l e (headSpec ws_kc_X0_bestLent ({ frames := 6, cells := 0, slots := 0, locals := 155 } : Room)).room s m [.ref (q 6), .ref (q ta), .int (iI x2), .int (iI x3)].toArray below meth c H locs 0 0 Q (F0 m 102 ls []) := by
          intro z43 A45 H locs ls f46 hI hj44 hP hS hl
          refine lv_iinc (v := iI (z5 + 1)) (lv' := [(6, .int (iI (z5 + 1))), (5, .int (iI z43)), (4, .int (iI z1)), (0, .ref (q 6)), (1, .ref (q ta)), (2, .int (iI x2)), (3, .int (iI x3))]) hx hb dX0_bestLent_102 hl (k := 0) rfl (i_inc (by omega)) (by decide) rfl (fun ls hl => ?_)
          refine lv_goto (tgt := 18) hx hb dX0_bestLent_105 (by decide) ?_
          exact ih10 _ (by omega) (z5 + 1) z43 _ _ _ _ (by omega) (by omega) rfl hI (fk.trans (fk.trans (fk.rf) hj7 rfl rfl) hj44 rfl rfl) hP hS (lv_sub hl [0, 1, 2, 3, 4, 5, 6] rfl)
        refine lv_if_ne (tgt := 102) hx hb dX0_bestLent_36 (by decide) (fun c23 => ?_) (fun c23 => ?_)
        · have c23 : ¬ z22 = 0 := mt (i_eq0 (by omega)).mpr c23
          exact J102_24 z6 _ _ _ _ (by omega) hI (fk.rf) hP hS (lv_sub hl [0, 1, 2, 3, 4, 5, 6] rfl)
        · have c23 : z22 = 0 := (i_eq0 (by omega)).mp c23
          refine lv_aload_n hx hb dX0_bestLent_39 rfl (lv_at hl 4 rfl) ?_
          refine va_get (D := (dC, dI)) (ci := 9) (v := .ref (q (ta + 22))) (C := RX9) (T := TX9) (N := 16) hx hb hts hiX9 hown hK hP ta (wkT hta) rfl 14 (by decide) (hts _ (List.mem_cons_of_mem _ (wk_in_0 _ (List.mem_of_getElem? (i := 18) rfl)))) (fun _ h9 => h9) rfl dX0_bestLent_40 ?_
          refine va_get (D := (dC, dI)) (ci := 6) (v := .ref (q ((ta + 22) + 2))) (C := RX6) (T := TX6) (N := 4) hx hb hts hiX6 hown hK hP (ta + 22) (wkS hta.s) rfl 1 (by decide) (hts _ (List.mem_cons_of_mem _ (wk_in_3 _ (List.mem_of_getElem? (i := 0) rfl)))) (fun _ h9 => h9) rfl dX0_bestLent_43 ?_
          refine lv_iload hx hb dX0_bestLent_46 (lv_at hl 0 rfl) ?_
          have a26 : ∀ k, A4 ((ta + 22) + 2) k = A ((ta + 22) + 2) k := fun k => rd_ne hA4 (by rcases hta.s with h | h | h | h <;> omega) k
          have a25 : ∀ k, A8 ((ta + 22) + 2) k = A ((ta + 22) + 2) k := fun k => (hj7 ((ta + 22) + 2) k (isS.b2 (o := fun b => List.contains [7, 9, 10, 11, 12, 13, 14, 15, 16, 17, 18, 19, 72, 103] (b + 2)) hta.s rfl rfl rfl rfl) (isS.b2 (o := fun b => fin2 [(6, 7), (6, 8), (6, 9), (6, 10), (6, 11), (6, 12), (6, 13), (6, 14), (6, 15), (6, 16)] (b + 2) k) hta.s rfl rfl rfl rfl)).trans (a26 k)
          refine x_iald (Wf := WK cB cI cJ cZ cQ q) hx hb hK hP ((ta + 22) + 2) 1 (wkSw hta.s) rfl (by omega) (by decide) dX0_bestLent_48 (fun z27 hz27 => ?_)
          have rz27 : (-2147483648 : Int) ≤ z27 ∧ z27 ≤ 2147483647 := by rw [hz27]; exact irSw hta.s hI
          have hz27 : z27 = A ((ta + 22) + 2) (z5).toNat := hz27.trans (a25 _)
          refine lv_bipush (v := iI 40) hx hb dX0_bestLent_49 (by decide +kernel) ?_
          refine lv_icmp_eq (tgt := 102) hx hb dX0_bestLent_51 (by decide) (fun c28 => ?_) (fun c28 => ?_)
          · have c28 : z27 = 40 := (i_eq rz27 ⟨by decide, by decide⟩).mp c28
            exact J102_24 z6 _ _ _ _ (by omega) hI (fk.rf) hP hS (lv_sub hl [0, 1, 2, 3, 4, 5, 6] rfl)
          · have c28 : ¬ z27 = 40 := mt (i_eq rz27 ⟨by decide, by decide⟩).mpr c28
            refine lv_aload_n hx hb dX0_bestLent_54 rfl (lv_at hl 3 rfl) ?_
            refine lv_aload_n hx hb dX0_bestLent_55 rfl (lv_at hl 4 rfl) ?_
            refine lv_iload_n hx hb dX0_bestLent_56 rfl (lv_at hl 5 rfl) ?_
            refine lv_iload hx hb dX0_bestLent_57 (lv_at hl 2 rfl) ?_
            refine lv_iconst (v := iI 1) hx hb dX0_bestLent_59 (by decide +kernel) ?_
            refine lv_iload hx hb dX0_bestLent_60 (lv_at hl 0 rfl) ?_
            refine lv_ishl hx hb dX0_bestLent_62 ?_
            refine x_abs (fun z29 hz29 => ?_)
            refine lv_ior hx hb dX0_bestLent_63 ?_
            refine x_abs (fun z30 hz30 => ?_)
            refine lv_iconst (v := iI 0) hx hb dX0_bestLent_64 (by decide +kernel) ?_
            refine lv_iload_n hx hb dX0_bestLent_65 rfl (lv_at hl 6 rfl) ?_
            refine k_calli (As := [.ref (q ta), .int (iI x2), .int (iI z30), .int (iI 0), .int (iI x3)]) (rest := []) ⟨hx, hb, hml, hown, hts⟩ hE (kc_X0_search l dC dI cB cI cJ cZ cQ aL aS q _ ta x2 z30 0 x3 hI hta hx2 hz30 ⟨by decide, by decide⟩ hx3) (cwV 5 hts (goodVk (wk_in_0 _ (List.mem_of_getElem? (i := 11) rfl)) (wk_in_0 _ (List.mem_of_getElem? (i := 12) rfl)) (wk_in_0 _ (List.mem_of_getElem? (i := 13) rfl)) (wk_in_0 _ (List.mem_of_getElem? (i := 14) rfl)) (wk_in_0 _ (List.mem_of_getElem? (i := 15) rfl))) rfl rfl rfl (by decide +kernel) ⟨Nat.le_of_ble_eq_true rfl, Nat.le_of_ble_eq_true rfl⟩) hK hDD hA0 hP hS 6 0 (wkAL) rfl rfl hl.1 (Nat.le_of_ble_eq_true rfl) dX0_bestLent_66 (fun z31 A32 H locs hw33 hP hS => ?_)
            obtain ⟨hI, hf34, hw33⟩ := hw33
            refine lv_istore (lv' := [(7, .int (iI z31)), (6, .int (iI z5)), (5, .int (iI z6)), (4, .int (iI z1)), (0, .ref (q 6)), (1, .ref (q ta)), (2, .int (iI x2)), (3, .int (iI x3))]) hx hb dX0_bestLent_69 hl (by decide) rfl (fun ls hl => ?_)
            refine lv_iload hx hb dX0_bestLent_71 (lv_at hl 0 rfl) ?_
            refine lv_iconst (v := iI (-1)) hx hb dX0_bestLent_73 (by decide +kernel) ?_
            refine lv_icmp_eq (tgt := 102) hx hb dX0_bestLent_74 (by decide) (fun c35 => ?_) (fun c35 => ?_)
            · have c35 : z31 = (-1) := (i_eq hw33 ⟨by decide, by decide⟩).mp c35
              exact J102_24 z6 _ _ _ _ (by omega) hI (fk.trans (fk.rf) hf34 rfl rfl) hP hS (lv_sub hl [1, 2, 3, 4, 5, 6, 7] rfl)
            · have c35 : ¬ z31 = (-1) := mt (i_eq hw33 ⟨by decide, by decide⟩).mpr c35
              refine lv_iload hx hb dX0_bestLent_77 (lv_at hl 2 rfl) ?_
              refine lv_iconst (v := iI (-1)) hx hb dX0_bestLent_79 (by decide +kernel) ?_
              have J92_37 : ∀ (H : Heap) (locs : List Loc) (ls : Array Slot), va_P (dC, dI) vwCl (WK cB cI cJ cZ cQ q A32) H → va_S AS s.heap H locs → lv_has ls 8 [(7, .int (iI z31)), (6, .int (iI z5)), (5, .int (iI z6)), (4, .int (iI z1)), (0, .ref (q 6)), (1, .ref (q ta)), (2, .int (iI x2)), (3, .int (iI x3))] → W p l e (headSpec ws_kc_X0_bestLent ({ frames := 6, cells := 0, slots := 0, locals := 155 } : Room)).room s m [.ref (q 6), .ref (q ta), .int (iI x2), .int (iI x3)].toArray below meth c H locs 0 0 Q (F0 m 92 ls []) := by
                intro H locs ls hP hS hl
                refine lv_iload hx hb dX0_bestLent_92 (lv_at hl 1 rfl) ?_
                refine lv_istore (lv' := [(5, .int (iI z5)), (7, .int (iI z31)), (6, .int (iI z5)), (4, .int (iI z1)), (0, .ref (q 6)), (1, .ref (q ta)), (2, .int (iI x2)), (3, .int (iI x3))]) hx hb dX0_bestLent_94 hl (by decide) rfl (fun ls hl => ?_)
                refine lv_aload_n hx hb dX0_bestLent_96 rfl (lv_at hl 4 rfl) ?_
                refine lv_iload hx hb dX0_bestLent_97 (lv_at hl 1 rfl) ?_
                refine k_put (Wf := WK cB cI cJ cZ cQ q) (D := (dC, dI)) (ci := 0) (v := .int (iI z31)) (ty := .int) (C := RX0) (T := TX0) (N := 17) hx hb hts hiX0 tyX0 tyX0_ok nmX0 hown hK hP hDD hS 6 (wkAL) rfl 16 (by decide) (hts _ (List.mem_cons_of_mem _ (wk_in_2 _ (List.mem_of_getElem? (i := 59) rfl)))) (fun _ h9 => h9) rfl (by decide +kernel) rfl rfl (Nat.le_of_ble_eq_true rfl) dX0_bestLent_99 (wfAL_16 (v := z31)) (fun H locs A42 hA42 hP hS => ?_)
                have hI := isAL_16 hA42 hI (show (-2147483648 : Int) ≤ z31 ∧ z31 ≤ 2147483647 from hw33)
                exact J102_24 z5 _ _ _ _ (by omega) hI (fk.df (fk.trans (fk.rf) hf34 rfl rfl) hA42 rfl) hP hS (lv_sub hl [2, 0, 3, 4, 5, 6, 7] rfl)
              refine lv_icmp_eq (tgt := 92) hx hb dX0_bestLent_80 (by decide) (fun c36 => ?_) (fun c36 => ?_)
              · have c36 : z6 = (-1) := (i_eq f12 ⟨by decide, by decide⟩).mp c36
                exact J92_37 _ _ _ hP hS (lv_sub hl [0, 1, 2, 3, 4, 5, 6, 7] rfl)
              · have c36 : ¬ z6 = (-1) := mt (i_eq f12 ⟨by decide, by decide⟩).mpr c36
                refine lv_iload hx hb dX0_bestLent_83 (lv_at hl 0 rfl) ?_
                refine lv_aload_n hx hb dX0_bestLent_85 rfl (lv_at hl 4 rfl) ?_
                have e38 : A32 6 16 = (A8 6 16) := (hf34 6 16 rfl rfl)
                have r39 : (-2147483648 : Int) ≤ (A8 6 16) ∧ (A8 6 16) ≤ 2147483647 := by rw [← e38]; exact irAL_16 hI
                refine va_get (D := (dC, dI)) (ci := 0) (v := .int (iI (A32 6 16))) (C := RX0) (T := TX0) (N := 17) hx hb hts hiX0 hown hK hP 6 (wkAL) rfl 16 (by decide) (hts _ (List.mem_cons_of_mem _ (wk_in_2 _ (List.mem_of_getElem? (i := 59) rfl)))) (fun _ h9 => h9) rfl dX0_bestLent_86 ?_
                refine tp_i (y := iI (A8 6 16)) (congrArg iI e38) ?_
                refine lv_icmp_ge (tgt := 102) hx hb dX0_bestLent_89 (by decide) (fun c40 => ?_) (fun c40 => ?_)
                · have c40 : (A8 6 16) ≤ z31 := (i_le r39 hw33).mp c40
                  exact J102_24 z6 _ _ _ _ (by omega) hI (fk.trans (fk.rf) hf34 rfl rfl) hP hS (lv_sub hl [1, 2, 3, 4, 5, 6, 7] rfl)
                · have c40 : ¬ (A8 6 16) ≤ z31 := mt (i_le r39 hw33).mpr c40
                  exact J92_37 _ _ _ hP hS (lv_sub hl [0, 1, 2, 3, 4, 5, 6, 7] rfl)
  exact L18_9 _ 0 (-1) _ _ _ _ (by omega) (by omega) rfl hI (fk.rf) hP hS (lv_sub hl [0, 1, 2, 3, 4, 5, 6] rfl)

def ws_kc_X1_add : List Cond := .code yX1_add cX1_add 3 (some .boolean) :: WY
set_option maxHeartbeats 4000000 in
set_option maxRecDepth 100000 in
theorem kc_X1_add (l : Launch) (dC : Nat → ClassId) (dI : Nat → Nat → Nat) (cB cI cJ cZ cQ : ClassId) (aL aS : Nat) (q : Nat → Nat) (A : St) (x1 x2 : Int) (hI : IK A) (hx1 : (-2147483648 : Int) ≤ x1 ∧ x1 ≤ 2147483647) (hx2 : (0 : Int) ≤ x2 ∧ x2 ≤ 1) : KMi l yX1_add ws_kc_X1_add ({ frames := 0, cells := 0, slots := 0, locals := 0 } : Room) aL aS (dC, dI) (tyA cB cI cJ cZ cQ) (WK cB cI cJ cZ cQ q) A [.ref (q 22), .int (iI x1), .int (iI x2)] (fun z u => IK u ∧ fk [23, 24] [(22, 4)] A u ∧ (0 ≤ z ∧ z ≤ 1)) := by
  refine k_metz (cc := cX1_add) (maxL := 3) WK_adr (plainFor_of_name (by decide +kernel)) rfl (Nat.le_of_ble_eq_true rfl) (fun z u h => h.2.2) (fun p e s m below meth c Q AS ls hx hb hml hown hts hK hDD hA0 hE RET H locs hP hS hl => ?_)
  have hown : s.vm.findClass RX1 = some m.cls := hown
  have hl : lv_has ls 3 [(0, .ref (q 22)), (1, .int (iI x1)), (2, .int (iI x2))] := hl
  have hiX1 : ∀ w ∈ u_ws RX1 TX1 8, w ∈ ws_kc_X1_add := fun w h => List.mem_cons_of_mem _ (wy_layX1 w h)
  refine lv_aload_n hx hb dX1_add_0 rfl (lv_at hl 0 rfl) ?_
  have r1 : (0 : Int) ≤ (A 22 4) ∧ (A 22 4) ≤ 20 := irFD_4 hI
  refine va_get (D := (dC, dI)) (ci := 1) (v := .int (iI (A 22 4))) (C := RX1) (T := TX1) (N := 8) hx hb hts hiX1 hown hK hP 22 (wkFD) rfl 4 (by decide) (hts _ (List.mem_cons_of_mem _ (wk_in_3 _ (List.mem_of_getElem? (i := 2) rfl)))) (fun _ h9 => h9) rfl dX1_add_1 ?_
  refine lv_if_lt (tgt := 16) hx hb dX1_add_4 (by decide) (fun c2 => False.elim (by have c2 : (A 22 4) < 0 := (i_lt0 (rb r1 (by decide) (by decide))).mp c2; omega)) (fun _ => ?_)
  refine lv_aload_n hx hb dX1_add_7 rfl (lv_at hl 0 rfl) ?_
  refine va_get (D := (dC, dI)) (ci := 1) (v := .int (iI (A 22 4))) (C := RX1) (T := TX1) (N := 8) hx hb hts hiX1 hown hK hP 22 (wkFD) rfl 4 (by decide) (hts _ (List.mem_cons_of_mem _ (wk_in_3 _ (List.mem_of_getElem? (i := 2) rfl)))) (fun _ h9 => h9) rfl dX1_add_8 ?_
  refine lv_bipush (v := iI 20) hx hb dX1_add_11 (by decide +kernel) ?_
  refine lv_icmp_lt (tgt := 18) hx hb dX1_add_13 (by decide) (fun c3 => ?_) (fun c3 => ?_)
  · have c3 : (A 22 4) < 20 := (i_lt (rb r1 (by decide) (by decide)) ⟨by decide, by decide⟩).mp c3
    refine lv_aload_n hx hb dX1_add_18 rfl (lv_at hl 0 rfl) ?_
    refine va_get (D := (dC, dI)) (ci := 1) (v := .ref (q 23)) (C := RX1) (T := TX1) (N := 8) hx hb hts hiX1 hown hK hP 22 (wkFD) rfl 0 (by decide) (hts _ (List.mem_cons_of_mem _ (wk_in_3 _ (List.mem_of_getElem? (i := 3) rfl)))) (fun _ h9 => h9) rfl dX1_add_19 ?_
    refine lv_aload_n hx hb dX1_add_22 rfl (lv_at hl 0 rfl) ?_
    refine va_get (D := (dC, dI)) (ci := 1) (v := .int (iI (A 22 4))) (C := RX1) (T := TX1) (N := 8) hx hb hts hiX1 hown hK hP 22 (wkFD) rfl 4 (by decide) (hts _ (List.mem_cons_of_mem _ (wk_in_3 _ (List.mem_of_getElem? (i := 2) rfl)))) (fun _ h9 => h9) rfl dX1_add_23 ?_
    refine lv_iload_n hx hb dX1_add_26 rfl (lv_at hl 1 rfl) ?_
    refine k_iast (Wf := WK cB cI cJ cZ cQ q) hx hb hK hP hDD hS 23 1 (wkFDd) rfl (by omega) (by decide) dX1_add_27 (wsFDd) (fun H locs A4 hA4 hP hS => ?_)
    have hI := isFDd hA4 hI (show (-2147483648 : Int) ≤ x1 ∧ x1 ≤ 2147483647 from hx1)
    refine lv_aload_n hx hb dX1_add_28 rfl (lv_at hl 0 rfl) ?_
    refine va_get (D := (dC, dI)) (ci := 1) (v := .ref (q 24)) (C := RX1) (T := TX1) (N := 8) hx hb hts hiX1 hown hK hP 22 (wkFD) rfl 1 (by decide) (hts _ (List.mem_cons_of_mem _ (wk_in_3 _ (List.mem_of_getElem? (i := 4) rfl)))) (fun _ h9 => h9) rfl dX1_add_29 ?_
    refine lv_aload_n hx hb dX1_add_32 rfl (lv_at hl 0 rfl) ?_
    have e5 : A4 22 4 = (A 22 4) := (rd_ne hA4 (by decide) 4)
    refine va_get (D := (dC, dI)) (ci := 1) (v := .int (iI (A4 22 4))) (C := RX1) (T := TX1) (N := 8) hx hb hts hiX1 hown hK hP 22 (wkFD) rfl 4 (by decide) (hts _ (List.mem_cons_of_mem _ (wk_in_3 _ (List.mem_of_getElem? (i := 2) rfl)))) (fun _ h9 => h9) rfl dX1_add_33 ?_
    refine tp_i (y := iI (A 22 4)) (congrArg iI e5) ?_
    refine lv_iload_n hx hb dX1_add_36 rfl (lv_at hl 2 rfl) ?_
    refine k_zast (Wf := WK cB cI cJ cZ cQ q) hx hb hK hP hDD hS 24 3 (wkFDo) rfl (by omega) (by decide) dX1_add_37 hx2 (wsFDo) (fun H locs A6 hA6 hP hS => ?_)
    have hI := isFDo hA6 hI (show (0 : Int) ≤ x2 ∧ x2 ≤ 1 from hx2)
    refine lv_aload_n hx hb dX1_add_38 rfl (lv_at hl 0 rfl) ?_
    refine lv_dup hx hb dX1_add_39 rfl ?_
    have e7 : A6 22 4 = (A 22 4) := (rd_ne hA6 (by decide) 4).trans e5
    refine va_get (D := (dC, dI)) (ci := 1) (v := .int (iI (A6 22 4))) (C := RX1) (T := TX1) (N := 8) hx hb hts hiX1 hown hK hP 22 (wkFD) rfl 4 (by decide) (hts _ (List.mem_cons_of_mem _ (wk_in_3 _ (List.mem_of_getElem? (i := 2) rfl)))) (fun _ h9 => h9) rfl dX1_add_40 ?_
    refine tp_i (y := iI (A 22 4)) (congrArg iI e7) ?_
    refine lv_iconst (v := iI 1) hx hb dX1_add_43 (by decide +kernel) ?_
    refine x_addv (v := (A 22 4) + 1) hx hb dX1_add_44 (by omega) ?_
    refine k_put (Wf := WK cB cI cJ cZ cQ q) (D := (dC, dI)) (ci := 1) (v := .int (iI ((A 22 4) + 1))) (ty := .int) (C := RX1) (T := TX1) (N := 8) hx hb hts hiX1 tyX1 tyX1_ok nmX1 hown hK hP hDD hS 22 (wkFD) rfl 4 (by decide) (hts _ (List.mem_cons_of_mem _ (wk_in_3 _ (List.mem_of_getElem? (i := 2) rfl)))) (fun _ h9 => h9) rfl (by decide +kernel) rfl rfl (Nat.le_of_ble_eq_true rfl) dX1_add_45 (wfFD_4 (v := (A 22 4) + 1)) (fun H locs A8 hA8 hP hS => ?_)
    have hI := isFD_4 hA8 hI (show (0 : Int) ≤ (A 22 4) + 1 ∧ (A 22 4) + 1 ≤ 20 from (by omega))
    refine lv_iconst (v := iI 1) hx hb dX1_add_48 (by decide +kernel) ?_
    exact RET 1 _ _ _ _ _ ⟨hI, fk.df (fk.da (fk.da (fk.rf) hA4 rfl) hA6 rfl) hA8 rfl, ⟨by decide, by decide⟩⟩ hP hS dX1_add_49
  · have c3 : ¬ (A 22 4) < 20 := mt (i_lt (rb r1 (by decide) (by decide)) ⟨by decide, by decide⟩).mpr c3
    refine lv_iconst (v := iI 0) hx hb dX1_add_16 (by decide +kernel) ?_
    exact RET 0 _ _ _ _ _ ⟨hI, fk.rf, ⟨by decide, by decide⟩⟩ hP hS dX1_add_17

def ws_kc_X1_isRow : List Cond := .code yX1_isRow cX1_isRow 9 (some .boolean) :: WY
set_option maxHeartbeats 4000000 in
set_option maxRecDepth 100000 in
theorem kc_X1_isRow (l : Launch) (dC : Nat → ClassId) (dI : Nat → Nat → Nat) (cB cI cJ cZ cQ : ClassId) (aL aS : Nat) (q : Nat → Nat) (A : St) (ta : Nat) (x2 x3 : Int) (hI : IK A) (hta : isT ta) (hx2 : (0 : Int) ≤ x2 ∧ x2 ≤ 2147483647) (hx3 : (-2147483648 : Int) ≤ x3 ∧ x3 ≤ 2147483647) : KMi l yX1_isRow ws_kc_X1_isRow ({ frames := 0, cells := 0, slots := 0, locals := 0 } : Room) aL aS (dC, dI) (tyA cB cI cJ cZ cQ) (WK cB cI cJ cZ cQ q) A [.ref (q 22), .ref (q ta), .int (iI x2), .int (iI x3)] (fun z u => IK u ∧ fk [26] [] A u ∧ (0 ≤ z ∧ z ≤ 1)) := by
  refine k_metz (cc := cX1_isRow) (maxL := 9) WK_adr (plainFor_of_name (by decide +kernel)) rfl (Nat.le_of_ble_eq_true rfl) (fun z u h => h.2.2) (fun p e s m below meth c Q AS ls hx hb hml hown hts hK hDD hA0 hE RET H locs hP hS hl => ?_)
  have hown : s.vm.findClass RX1 = some m.cls := hown
  have hl : lv_has ls 9 [(0, .ref (q 22)), (1, .ref (q ta)), (2, .int (iI x2)), (3, .int (iI x3))] := hl
  have hiX9 : ∀ w ∈ u_ws RX9 TX9 16, w ∈ ws_kc_X1_isRow := fun w h => List.mem_cons_of_mem _ (wy_layX9 w h)
  have hiX1 : ∀ w ∈ u_ws RX1 TX1 8, w ∈ ws_kc_X1_isRow := fun w h => List.mem_cons_of_mem _ (wy_layX1 w h)
  refine lv_aload_n hx hb dX1_isRow_0 rfl (lv_at hl 1 rfl) ?_
  refine va_get (D := (dC, dI)) (ci := 9) (v := .ref (q (ta + 1))) (C := RX9) (T := TX9) (N := 16) hx hb hts hiX9 hown hK hP ta (wkT hta) rfl 0 (by decide) (hts _ (List.mem_cons_of_mem _ (wk_in_3 _ (List.mem_of_getElem? (i := 9) rfl)))) (fun _ h9 => h9) rfl dX1_isRow_1 ?_
  refine lv_iconst (v := iI 1) hx hb dX1_isRow_4 (by decide +kernel) ?_
  refine x_iald (Wf := WK cB cI cJ cZ cQ q) hx hb hK hP (ta + 1) 1 (wkTc hta) rfl (by decide) (by decide) dX1_isRow_5 (fun z1 hz1 => ?_)
  have rz1 : (0 : Int) ≤ z1 ∧ z1 ≤ 10 := by rw [hz1]; exact irTc1 hta hI
  refine lv_istore (lv' := [(4, .int (iI z1)), (0, .ref (q 22)), (1, .ref (q ta)), (2, .int (iI x2)), (3, .int (iI x3))]) hx hb dX1_isRow_6 hl (by decide) rfl (fun ls hl => ?_)
  refine lv_iload_n hx hb dX1_isRow_8 rfl (lv_at hl 3 rfl) ?_
  refine lv_istore (lv' := [(5, .int (iI x2)), (4, .int (iI z1)), (0, .ref (q 22)), (1, .ref (q ta)), (2, .int (iI x2)), (3, .int (iI x3))]) hx hb dX1_isRow_9 hl (by decide) rfl (fun ls hl => ?_)
  refine lv_iconst (v := iI 0) hx hb dX1_isRow_11 (by decide +kernel) ?_
  refine lv_istore (lv' := [(6, .int (iI 0)), (5, .int (iI x2)), (4, .int (iI z1)), (0, .ref (q 22)), (1, .ref (q ta)), (2, .int (iI x2)), (3, .int (iI x3))]) hx hb dX1_isRow_12 hl (by decide) rfl (fun ls hl => ?_)
  refine lv_iload_n hx hb dX1_isRow_14 rfl (lv_at hl 6 rfl) ?_
  refine lv_iconst (v := iI 1) hx hb dX1_isRow_15 (by decide +kernel) ?_
  refine x_subv (v := x3 - 1) hx hb dX1_isRow_16 (by omega) ?_
  refine x_abs (fun z2 hz2 => ?_)
  refine lv_istore (lv' := [(7, .int (iI z2)), (6, .int (iI 0)), (5, .int (iI x2)), (4, .int (iI z1)), (0, .ref (q 22)), (1, .ref (q ta)), (2, .int (iI x2)), (3, .int (iI x3))]) hx hb dX1_isRow_17 hl (by decide) rfl (fun ls hl => ?_)
  have L19_8 : ∀ (n13 : Nat) (z3 z4 z5 : Int) (A7 : St) (H : Heap) (locs : List Loc) (ls : Array Slot), (-2147483648 ≤ z3 ∧ z3 ≤ 2147483647) → (-2147483648 ≤ z4 ∧ z4 ≤ 2147483647) → (-2147483648 ≤ z5 ∧ z5 ≤ 2147483647) → ((z3 - (-1)).toNat = n13) → IK A7 → fk [26] [] A A7 → va_P (dC, dI) vwCl (WK cB cI cJ cZ cQ q A7) H → va_S AS s.heap H locs → lv_has ls 9 [(7, .int (iI z3)), (6, .int (iI z4)), (5, .int (iI z5)), (4, .int (iI z1)), (0, .ref (q 22)), (1, .ref (q ta)), (2, .int (iI x2)), (3, .int (iI x3))] → W p l e (headSpec ws_kc_X1_isRow ({ frames := 0, cells := 0, slots := 0, locals := 0 } : Room)).room s m [.ref (q 22), .ref (q ta), .int (iI x2), .int (iI x3)].toArray below meth c H locs 0 0 Q (F0 m 19 ls []) := by
    intro n13
    induction n13 using Nat.strongRecOn with
    | ind n13 ih9 =>
      intro z3 z4 z5 A7 H locs ls f10 f11 f12 hn13 hI hj6 hP hS hl
      refine lv_iload hx hb dX1_isRow_19 (lv_at hl 0 rfl) ?_
      refine lv_if_lt (tgt := 97) hx hb dX1_isRow_21 (by decide) (fun c14 => ?_) (fun c14 => ?_)
      · have c14 : z3 < 0 := (i_lt0 f10).mp c14
        refine lv_iconst (v := iI 1) hx hb dX1_isRow_97 (by decide +kernel) ?_
        exact RET 1 _ _ _ _ _ ⟨hI, fk.trans (fk.rf) hj6 rfl rfl, ⟨by decide, by decide⟩⟩ hP hS dX1_isRow_98
      · have c14 : ¬ z3 < 0 := mt (i_lt0 f10).mpr c14
        refine lv_iload hx hb dX1_isRow_24 (lv_at hl 0 rfl) ?_
        refine lv_iconst (v := iI 3) hx hb dX1_isRow_26 (by decide +kernel) ?_
        refine lv_icmp_ge (tgt := 97) hx hb dX1_isRow_27 (by decide) (fun c15 => ?_) (fun c15 => ?_)
        · have c15 : 3 ≤ z3 := (i_le ⟨by decide, by decide⟩ f10).mp c15
          refine lv_iconst (v := iI 1) hx hb dX1_isRow_97 (by decide +kernel) ?_
          exact RET 1 _ _ _ _ _ ⟨hI, fk.trans (fk.rf) hj6 rfl rfl, ⟨by decide, by decide⟩⟩ hP hS dX1_isRow_98
        · have c15 : ¬ 3 ≤ z3 := mt (i_le ⟨by decide, by decide⟩ f10).mpr c15
          refine lv_iload hx hb dX1_isRow_30 (lv_at hl 3 rfl) ?_
          refine lv_if_le (tgt := 97) hx hb dX1_isRow_32 (by decide) (fun c16 => ?_) (fun c16 => ?_)
          · have c16 : z1 ≤ 0 := (i_le0 (rb rz1 (by decide) (by decide))).mp c16
            refine lv_iconst (v := iI 1) hx hb dX1_isRow_97 (by decide +kernel) ?_
            exact RET 1 _ _ _ _ _ ⟨hI, fk.trans (fk.rf) hj6 rfl rfl, ⟨by decide, by decide⟩⟩ hP hS dX1_isRow_98
          · have c16 : ¬ z1 ≤ 0 := mt (i_le0 (rb rz1 (by decide) (by decide))).mpr c16
            refine lv_iload hx hb dX1_isRow_35 (lv_at hl 2 rfl) ?_
            refine lv_iload hx hb dX1_isRow_37 (lv_at hl 3 rfl) ?_
            refine lv_irem hx hb dX1_isRow_39 (by exact i_ne0 (by omega) (by omega)) ?_
            refine x_abs (fun z17 hz17 => ?_)
            refine lv_istore (lv' := [(8, .int (iI z17)), (7, .int (iI z3)), (6, .int (iI z4)), (5, .int (iI z5)), (4, .int (iI z1)), (0, .ref (q 22)), (1, .ref (q ta)), (2, .int (iI x2)), (3, .int (iI x3))]) hx hb dX1_isRow_40 hl (by decide) rfl (fun ls hl => ?_)
            refine lv_aload_n hx hb dX1_isRow_42 rfl (lv_at hl 6 rfl) ?_
            have e18 : A7 ta 15 = (A ta 15) := (hj6 ta 15 (isT.b2 (o := fun b => List.contains [26] b) hta rfl rfl) (isT.b2 (o := fun b => fin2 [] b 15) hta rfl rfl))
            have r19 : (-2147483648 : Int) ≤ (A ta 15) ∧ (A ta 15) ≤ 2147483647 := by rw [← e18]; exact irT_15 hta hI
            refine va_get (D := (dC, dI)) (ci := 9) (v := .int (iI (A7 ta 15))) (C := RX9) (T := TX9) (N := 16) hx hb hts hiX9 hown hK hP ta (wkT hta) rfl 15 (by decide) (hts _ (List.mem_cons_of_mem _ (wk_in_3 _ (List.mem_of_getElem? (i := 15) rfl)))) (fun _ h9 => h9) rfl dX1_isRow_43 ?_
            refine tp_i (y := iI (A ta 15)) (congrArg iI e18) ?_
            refine lv_iload hx hb dX1_isRow_46 (lv_at hl 0 rfl) ?_
            refine lv_ishr hx hb dX1_isRow_48 ?_
            refine x_abs (fun z20 hz20 => ?_)
            refine lv_iconst (v := iI 1) hx hb dX1_isRow_49 (by decide +kernel) ?_
            refine lv_iand hx hb dX1_isRow_50 ?_
            refine x_and (b := 1) (by omega) (fun z21 hz21 => ?_)
            refine lv_if_eq (tgt := 64) hx hb dX1_isRow_51 (by decide) (fun c22 => ?_) (fun c22 => ?_)
            · have c22 : z21 = 0 := (i_eq0 (by omega)).mp c22
              refine lv_iconst (v := iI 0) hx hb dX1_isRow_64 (by decide +kernel) ?_
              exact RET 0 _ _ _ _ _ ⟨hI, fk.trans (fk.rf) hj6 rfl rfl, ⟨by decide, by decide⟩⟩ hP hS dX1_isRow_65
            · have c22 : ¬ z21 = 0 := mt (i_eq0 (by omega)).mpr c22
              refine lv_iload hx hb dX1_isRow_54 (lv_at hl 2 rfl) ?_
              refine lv_iload hx hb dX1_isRow_56 (lv_at hl 0 rfl) ?_
              refine lv_ishr hx hb dX1_isRow_58 ?_
              refine x_abs (fun z23 hz23 => ?_)
              refine lv_iconst (v := iI 1) hx hb dX1_isRow_59 (by decide +kernel) ?_
              refine lv_iand hx hb dX1_isRow_60 ?_
              refine x_and (b := 1) (by omega) (fun z24 hz24 => ?_)
              refine lv_if_eq (tgt := 66) hx hb dX1_isRow_61 (by decide) (fun c25 => ?_) (fun c25 => ?_)
              · have c25 : z24 = 0 := (i_eq0 (by omega)).mp c25
                refine lv_iload hx hb dX1_isRow_66 (lv_at hl 2 rfl) ?_
                refine lv_iconst (v := iI 1) hx hb dX1_isRow_68 (by decide +kernel) ?_
                refine lv_iload hx hb dX1_isRow_69 (lv_at hl 0 rfl) ?_
                refine lv_ishl hx hb dX1_isRow_71 ?_
                refine x_abs (fun z26 hz26 => ?_)
                refine lv_ior hx hb dX1_isRow_72 ?_
                refine x_abs (fun z27 hz27 => ?_)
                refine lv_istore (lv' := [(6, .int (iI z27)), (8, .int (iI z17)), (7, .int (iI z3)), (5, .int (iI z5)), (4, .int (iI z1)), (0, .ref (q 22)), (1, .ref (q ta)), (2, .int (iI x2)), (3, .int (iI x3))]) hx hb dX1_isRow_73 hl (by decide) rfl (fun ls hl => ?_)
                refine lv_aload_n hx hb dX1_isRow_75 rfl (lv_at hl 5 rfl) ?_
                refine va_get (D := (dC, dI)) (ci := 1) (v := .ref (q 26)) (C := RX1) (T := TX1) (N := 8) hx hb hts hiX1 hown hK hP 22 (wkFD) rfl 3 (by decide) (hts _ (List.mem_cons_of_mem _ (wk_in_3 _ (List.mem_of_getElem? (i := 16) rfl)))) (fun _ h9 => h9) rfl dX1_isRow_76 ?_
                refine lv_iload hx hb dX1_isRow_79 (lv_at hl 2 rfl) ?_
                refine lv_iload hx hb dX1_isRow_81 (lv_at hl 1 rfl) ?_
                refine k_iast (Wf := WK cB cI cJ cZ cQ q) hx hb hK hP hDD hS 26 1 (wkFDr) rfl (by omega) (by decide) dX1_isRow_83 (wsFDr) (fun H locs A28 hA28 hP hS => ?_)
                have hI := isFDr hA28 hI (show (-2147483648 : Int) ≤ z17 ∧ z17 ≤ 2147483647 from hz17)
                refine lv_iload hx hb dX1_isRow_84 (lv_at hl 3 rfl) ?_
                refine lv_iload hx hb dX1_isRow_86 (lv_at hl 4 rfl) ?_
                refine lv_idiv hx hb dX1_isRow_88 (by exact i_ne0 (by omega) (by omega)) ?_
                refine x_abs (fun z29 hz29 => ?_)
                refine lv_istore (lv' := [(5, .int (iI z29)), (6, .int (iI z27)), (8, .int (iI z17)), (7, .int (iI z3)), (4, .int (iI z1)), (0, .ref (q 22)), (1, .ref (q ta)), (2, .int (iI x2)), (3, .int (iI x3))]) hx hb dX1_isRow_89 hl (by decide) rfl (fun ls hl => ?_)
                refine lv_iinc (v := iI (z3 - 1)) (lv' := [(7, .int (iI (z3 - 1))), (5, .int (iI z29)), (6, .int (iI z27)), (8, .int (iI z17)), (4, .int (iI z1)), (0, .ref (q 22)), (1, .ref (q ta)), (2, .int (iI x2)), (3, .int (iI x3))]) hx hb dX1_isRow_91 hl (k := 3) rfl (i_inc (by omega)) (by decide) rfl (fun ls hl => ?_)
                refine lv_goto (tgt := 19) hx hb dX1_isRow_94 (by decide) ?_
                exact ih9 _ (by omega) (z3 - 1) z27 z29 _ _ _ _ (by omega) (by omega) (by omega) rfl hI (fk.da (fk.trans (fk.rf) hj6 rfl rfl) hA28 rfl) hP hS (lv_sub hl [0, 2, 1, 4, 5, 6, 7, 8] rfl)
              · have c25 : ¬ z24 = 0 := mt (i_eq0 (by omega)).mpr c25
                refine lv_iconst (v := iI 0) hx hb dX1_isRow_64 (by decide +kernel) ?_
                exact RET 0 _ _ _ _ _ ⟨hI, fk.trans (fk.rf) hj6 rfl rfl, ⟨by decide, by decide⟩⟩ hP hS dX1_isRow_65
  exact L19_8 _ z2 0 x2 _ _ _ _ (by omega) (by omega) (by omega) rfl hI (fk.rf) hP hS (lv_sub hl [0, 1, 2, 3, 4, 5, 6, 7] rfl)

def ws_kc_X1_topOf : List Cond := .code yX1_topOf cX1_topOf 2 (some .int) :: WY
set_option maxHeartbeats 4000000 in
set_option maxRecDepth 100000 in
theorem kc_X1_topOf (l : Launch) (dC : Nat → ClassId) (dI : Nat → Nat → Nat) (cB cI cJ cZ cQ : ClassId) (aL aS : Nat) (q : Nat → Nat) (A : St) (x1 : Int) (hI : IK A) (hx1 : (-2147483648 : Int) ≤ x1 ∧ x1 ≤ 2147483647) : KMi l yX1_topOf ws_kc_X1_topOf ({ frames := 0, cells := 0, slots := 0, locals := 0 } : Room) aL aS (dC, dI) (tyA cB cI cJ cZ cQ) (WK cB cI cJ cZ cQ q) A [.ref (q 22), .int (iI x1)] (fun z u => A = u ∧ (-2147483648 ≤ z ∧ z ≤ 2147483647)) := by
  refine k_meti (cc := cX1_topOf) (maxL := 2) WK_adr (plainFor_of_name (by decide +kernel)) rfl (Nat.le_of_ble_eq_true rfl) (fun p e s m below meth c Q AS ls hx hb hml hown hts hK hDD hA0 hE RET H locs hP hS hl => ?_)
  have hown : s.vm.findClass RX1 = some m.cls := hown
  have hl : lv_has ls 2 [(0, .ref (q 22)), (1, .int (iI x1))] := hl
  have hiX1 : ∀ w ∈ u_ws RX1 TX1 8, w ∈ ws_kc_X1_topOf := fun w h => List.mem_cons_of_mem _ (wy_layX1 w h)
  refine lv_iload_n hx hb dX1_topOf_0 rfl (lv_at hl 1 rfl) ?_
  refine lv_if_le (tgt := 20) hx hb dX1_topOf_1 (by decide) (fun c1 => ?_) (fun c1 => ?_)
  · have c1 : x1 ≤ 0 := (i_le0 hx1).mp c1
    refine lv_iconst (v := iI (-1)) hx hb dX1_topOf_20 (by decide +kernel) ?_
    exact RET (-1) _ _ _ _ _ ⟨rfl, ⟨by decide, by decide⟩⟩ hP hS dX1_topOf_21
  · have c1 : ¬ x1 ≤ 0 := mt (i_le0 hx1).mpr c1
    refine lv_iload_n hx hb dX1_topOf_4 rfl (lv_at hl 1 rfl) ?_
    refine lv_iconst (v := iI 3) hx hb dX1_topOf_5 (by decide +kernel) ?_
    refine lv_icmp_gt (tgt := 20) hx hb dX1_topOf_6 (by decide) (fun c2 => ?_) (fun c2 => ?_)
    · have c2 : 3 < x1 := (i_lt ⟨by decide, by decide⟩ hx1).mp c2
      refine lv_iconst (v := iI (-1)) hx hb dX1_topOf_20 (by decide +kernel) ?_
      exact RET (-1) _ _ _ _ _ ⟨rfl, ⟨by decide, by decide⟩⟩ hP hS dX1_topOf_21
    · have c2 : ¬ 3 < x1 := mt (i_lt ⟨by decide, by decide⟩ hx1).mpr c2
      refine lv_aload_n hx hb dX1_topOf_9 rfl (lv_at hl 0 rfl) ?_
      refine va_get (D := (dC, dI)) (ci := 1) (v := .ref (q 26)) (C := RX1) (T := TX1) (N := 8) hx hb hts hiX1 hown hK hP 22 (wkFD) rfl 3 (by decide) (hts _ (List.mem_cons_of_mem _ (wk_in_3 _ (List.mem_of_getElem? (i := 16) rfl)))) (fun _ h9 => h9) rfl dX1_topOf_10 ?_
      refine lv_iload_n hx hb dX1_topOf_13 rfl (lv_at hl 1 rfl) ?_
      refine lv_iconst (v := iI 1) hx hb dX1_topOf_14 (by decide +kernel) ?_
      refine x_subv (v := x1 - 1) hx hb dX1_topOf_15 (by omega) ?_
      refine x_iald (Wf := WK cB cI cJ cZ cQ q) hx hb hK hP 26 1 (wkFDr) rfl (by omega) (by decide) dX1_topOf_16 (fun z3 hz3 => ?_)
      have rz3 : (-2147483648 : Int) ≤ z3 ∧ z3 ≤ 2147483647 := by rw [hz3]; exact irFDr hI
      refine lv_goto (tgt := 21) hx hb dX1_topOf_17 (by decide) ?_
      exact RET z3 _ _ _ _ _ ⟨rfl, rz3⟩ hP hS dX1_topOf_21

def ws_kc_X1_leftOf : List Cond := .code yX1_leftOf cX1_leftOf 4 (some .int) :: WY
set_option maxHeartbeats 4000000 in
set_option maxRecDepth 100000 in
theorem kc_X1_leftOf (l : Launch) (dC : Nat → ClassId) (dI : Nat → Nat → Nat) (cB cI cJ cZ cQ : ClassId) (aL aS : Nat) (q : Nat → Nat) (A : St) (x1 : Int) (hI : IK A) (hx1 : (-2147483648 : Int) ≤ x1 ∧ x1 ≤ 2147483647) : KMi l yX1_leftOf ws_kc_X1_leftOf ({ frames := 1, cells := 0, slots := 0, locals := 21 } : Room) aL aS (dC, dI) (tyA cB cI cJ cZ cQ) (WK cB cI cJ cZ cQ q) A [.ref (q 22), .int (iI x1)] (fun z u => A = u ∧ (-2147483648 ≤ z ∧ z ≤ 2147483647)) := by
  refine k_meti (cc := cX1_leftOf) (maxL := 4) WK_adr (plainFor_of_name (by decide +kernel)) rfl (Nat.le_of_ble_eq_true rfl) (fun p e s m below meth c Q AS ls hx hb hml hown hts hK hDD hA0 hE RET H locs hP hS hl => ?_)
  have hown : s.vm.findClass RX1 = some m.cls := hown
  have hl : lv_has ls 4 [(0, .ref (q 22)), (1, .int (iI x1))] := hl
  have hiX1 : ∀ w ∈ u_ws RX1 TX1 8, w ∈ ws_kc_X1_leftOf := fun w h => List.mem_cons_of_mem _ (wy_layX1 w h)
  refine lv_iload_n hx hb dX1_leftOf_0 rfl (lv_at hl 1 rfl) ?_
  refine lv_istore_n (lv' := [(2, .int (iI x1)), (0, .ref (q 22)), (1, .int (iI x1))]) hx hb dX1_leftOf_1 rfl hl (by decide) rfl (fun ls hl => ?_)
  refine lv_iconst (v := iI 0) hx hb dX1_leftOf_2 (by decide +kernel) ?_
  refine lv_istore_n (lv' := [(3, .int (iI 0)), (2, .int (iI x1)), (0, .ref (q 22)), (1, .int (iI x1))]) hx hb dX1_leftOf_3 rfl hl (by decide) rfl (fun ls hl => ?_)
  have L4_4 : ∀ (n9 : Nat) (z1 z2 : Int) (H : Heap) (locs : List Loc) (ls : Array Slot), (0 ≤ z1 ∧ z1 ≤ 2147483647) → (-2147483648 ≤ z2 ∧ z2 ≤ 2147483647) → ((21 - z1).toNat = n9) → va_P (dC, dI) vwCl (WK cB cI cJ cZ cQ q A) H → va_S AS s.heap H locs → lv_has ls 4 [(3, .int (iI z1)), (2, .int (iI z2)), (0, .ref (q 22)), (1, .int (iI x1))] → W p l e (headSpec ws_kc_X1_leftOf ({ frames := 1, cells := 0, slots := 0, locals := 21 } : Room)).room s m [.ref (q 22), .int (iI x1)].toArray below meth c H locs 0 0 Q (F0 m 4 ls []) := by
    intro n9
    induction n9 using Nat.strongRecOn with
    | ind n9 ih5 =>
      intro z1 z2 H locs ls f6 f7 hn9 hP hS hl
      refine lv_iload_n hx hb dX1_leftOf_4 rfl (lv_at hl 0 rfl) ?_
      refine lv_aload_n hx hb dX1_leftOf_5 rfl (lv_at hl 2 rfl) ?_
      have r10 : (0 : Int) ≤ (A 22 4) ∧ (A 22 4) ≤ 20 := irFD_4 hI
      refine va_get (D := (dC, dI)) (ci := 1) (v := .int (iI (A 22 4))) (C := RX1) (T := TX1) (N := 8) hx hb hts hiX1 hown hK hP 22 (wkFD) rfl 4 (by decide) (hts _ (List.mem_cons_of_mem _ (wk_in_3 _ (List.mem_of_getElem? (i := 2) rfl)))) (fun _ h9 => h9) rfl dX1_leftOf_6 ?_
      refine lv_icmp_ge (tgt := 66) hx hb dX1_leftOf_9 (by decide) (fun c11 => ?_) (fun c11 => ?_)
      · have c11 : (A 22 4) ≤ z1 := (i_le (rb r10 (by decide) (by decide)) (rb f6 (by decide) (by decide))).mp c11
        refine lv_iload_n hx hb dX1_leftOf_66 rfl (lv_at hl 1 rfl) ?_
        exact RET z2 _ _ _ _ _ ⟨rfl, f7⟩ hP hS dX1_leftOf_67
      · have c11 : ¬ (A 22 4) ≤ z1 := mt (i_le (rb r10 (by decide) (by decide)) (rb f6 (by decide) (by decide))).mpr c11
        refine lv_iload_n hx hb dX1_leftOf_12 rfl (lv_at hl 0 rfl) ?_
        refine lv_bipush (v := iI 20) hx hb dX1_leftOf_13 (by decide +kernel) ?_
        refine lv_icmp_ge (tgt := 66) hx hb dX1_leftOf_15 (by decide) (fun c12 => False.elim (by have c12 : 20 ≤ z1 := (i_le ⟨by decide, by decide⟩ (rb f6 (by decide) (by decide))).mp c12; omega)) (fun _ => ?_)
        refine lv_aload_n hx hb dX1_leftOf_18 rfl (lv_at hl 2 rfl) ?_
        refine lv_iload_n hx hb dX1_leftOf_19 rfl (lv_at hl 1 rfl) ?_
        refine k_calli (As := [.int (iI z2)]) (rest := []) ⟨hx, hb, hml, hown, hts⟩ hE (kc_X1_topOf l dC dI cB cI cJ cZ cQ aL aS q _ z2 hI f7) (cwV 1 hts (goodVk (wk_in_3 _ (List.mem_of_getElem? (i := 26) rfl)) (wk_in_3 _ (List.mem_of_getElem? (i := 27) rfl)) (wk_in_3 _ (List.mem_of_getElem? (i := 28) rfl)) (wk_in_3 _ (List.mem_of_getElem? (i := 13) rfl)) (wk_in_3 _ (List.mem_of_getElem? (i := 29) rfl))) rfl rfl rfl (by decide +kernel) ⟨Nat.le_of_ble_eq_true rfl, Nat.le_of_ble_eq_true rfl⟩) hK hDD hA0 hP hS 22 1 (wkFD) rfl rfl hl.1 (Nat.le_of_ble_eq_true rfl) dX1_leftOf_20 (fun z13 A14 H locs hw15 hP hS => ?_)
        obtain ⟨rfl, hw15⟩ := hw15
        refine lv_aload_n hx hb dX1_leftOf_23 rfl (lv_at hl 2 rfl) ?_
        refine va_get (D := (dC, dI)) (ci := 1) (v := .ref (q 23)) (C := RX1) (T := TX1) (N := 8) hx hb hts hiX1 hown hK hP 22 (wkFD) rfl 0 (by decide) (hts _ (List.mem_cons_of_mem _ (wk_in_3 _ (List.mem_of_getElem? (i := 3) rfl)))) (fun _ h9 => h9) rfl dX1_leftOf_24 ?_
        refine lv_iload_n hx hb dX1_leftOf_27 rfl (lv_at hl 0 rfl) ?_
        refine x_iald (Wf := WK cB cI cJ cZ cQ q) hx hb hK hP 23 1 (wkFDd) rfl (by omega) (by decide) dX1_leftOf_28 (fun z16 hz16 => ?_)
        have rz16 : (-2147483648 : Int) ≤ z16 ∧ z16 ≤ 2147483647 := by rw [hz16]; exact irFDd hI
        have J37_18 : ∀ (z19 : Int) (H : Heap) (locs : List Loc) (ls : Array Slot), (0 ≤ z19 ∧ z19 ≤ 1) → va_P (dC, dI) vwCl (WK cB cI cJ cZ cQ q A) H → va_S AS s.heap H locs → lv_has ls 4 [(3, .int (iI z1)), (2, .int (iI z2)), (0, .ref (q 22)), (1, .int (iI x1))] → W p l e (headSpec ws_kc_X1_leftOf ({ frames := 1, cells := 0, slots := 0, locals := 21 } : Room)).room s m [.ref (q 22), .int (iI x1)].toArray below meth c H locs 0 0 Q (F0 m 37 ls [.int (iI z19)]) := by
          intro z19 H locs ls f21 hP hS hl
          refine lv_aload_n hx hb dX1_leftOf_37 rfl (lv_at hl 2 rfl) ?_
          refine va_get (D := (dC, dI)) (ci := 1) (v := .ref (q 24)) (C := RX1) (T := TX1) (N := 8) hx hb hts hiX1 hown hK hP 22 (wkFD) rfl 1 (by decide) (hts _ (List.mem_cons_of_mem _ (wk_in_3 _ (List.mem_of_getElem? (i := 4) rfl)))) (fun _ h9 => h9) rfl dX1_leftOf_38 ?_
          refine lv_iload_n hx hb dX1_leftOf_41 rfl (lv_at hl 0 rfl) ?_
          refine x_zald (Wf := WK cB cI cJ cZ cQ q) hx hb hK hP 24 3 (wkFDo) rfl (by omega) (by decide) dX1_leftOf_42 (fun z22 hz22 => ?_)
          have rz22 : (0 : Int) ≤ z22 ∧ z22 ≤ 1 := by rw [hz22]; exact irFDo hI
          refine lv_icmp_eq (tgt := 48) hx hb dX1_leftOf_43 (by decide) (fun c23 => ?_) (fun c23 => ?_)
          · have c23 : z19 = z22 := (i_eq (rb f21 (by decide) (by decide)) (rb rz22 (by decide) (by decide))).mp c23
            refine lv_aload_n hx hb dX1_leftOf_48 rfl (lv_at hl 2 rfl) ?_
            refine va_get (D := (dC, dI)) (ci := 1) (v := .ref (q 24)) (C := RX1) (T := TX1) (N := 8) hx hb hts hiX1 hown hK hP 22 (wkFD) rfl 1 (by decide) (hts _ (List.mem_cons_of_mem _ (wk_in_3 _ (List.mem_of_getElem? (i := 4) rfl)))) (fun _ h9 => h9) rfl dX1_leftOf_49 ?_
            refine lv_iload_n hx hb dX1_leftOf_52 rfl (lv_at hl 0 rfl) ?_
            refine x_zald (Wf := WK cB cI cJ cZ cQ q) hx hb hK hP 24 3 (wkFDo) rfl (by omega) (by decide) dX1_leftOf_53 (fun z24 hz24 => ?_)
            have rz24 : (0 : Int) ≤ z24 ∧ z24 ≤ 1 := by rw [hz24]; exact irFDo hI
            have ez24 : z24 = z22 := hz24.trans hz22.symm
            refine tp_i (y := iI z22) (congrArg iI ez24) ?_
            have J60_26 : ∀ (z28 : Int) (H : Heap) (locs : List Loc) (ls : Array Slot), (-2147483648 ≤ z28 ∧ z28 ≤ 2147483647) → va_P (dC, dI) vwCl (WK cB cI cJ cZ cQ q A) H → va_S AS s.heap H locs → lv_has ls 4 [(3, .int (iI z1)), (2, .int (iI z28)), (0, .ref (q 22)), (1, .int (iI x1))] → W p l e (headSpec ws_kc_X1_leftOf ({ frames := 1, cells := 0, slots := 0, locals := 21 } : Room)).room s m [.ref (q 22), .int (iI x1)].toArray below meth c H locs 0 0 Q (F0 m 60 ls []) := by
              intro z28 H locs ls f30 hP hS hl
              refine lv_iinc (v := iI (z1 + 1)) (lv' := [(3, .int (iI (z1 + 1))), (2, .int (iI z28)), (0, .ref (q 22)), (1, .int (iI x1))]) hx hb dX1_leftOf_60 hl (k := 0) rfl (i_inc (by omega)) (by decide) rfl (fun ls hl => ?_)
              refine lv_goto (tgt := 4) hx hb dX1_leftOf_63 (by decide) ?_
              exact ih5 _ (by omega) (z1 + 1) z28 _ _ _ (by omega) (by omega) rfl hP hS (lv_sub hl [0, 1, 2, 3] rfl)
            refine lv_if_eq (tgt := 60) hx hb dX1_leftOf_54 (by decide) (fun c25 => ?_) (fun c25 => ?_)
            · have c25 : z22 = 0 := (i_eq0 (rb rz22 (by decide) (by decide))).mp c25
              exact J60_26 z2 _ _ _ (by omega) hP hS (lv_sub hl [0, 1, 2, 3] rfl)
            · have c25 : ¬ z22 = 0 := mt (i_eq0 (rb rz22 (by decide) (by decide))).mpr c25
              obtain ⟨z27, hz27, ez27⟩ := i_wrap (z2 - 1)
              refine lv_iinc (v := iI z27) (lv' := [(2, .int (iI z27)), (3, .int (iI z1)), (0, .ref (q 22)), (1, .int (iI x1))]) hx hb dX1_leftOf_57 hl (k := 1) rfl ((i_inc (by omega)).trans ez27) (by decide) rfl (fun ls hl => ?_)
              exact J60_26 z27 _ _ _ (by omega) hP hS (lv_sub hl [1, 0, 2, 3] rfl)
          · have c23 : ¬ z19 = z22 := mt (i_eq (rb f21 (by decide) (by decide)) (rb rz22 (by decide) (by decide))).mpr c23
            refine lv_iconst (v := iI (-1)) hx hb dX1_leftOf_46 (by decide +kernel) ?_
            exact RET (-1) _ _ _ _ _ ⟨rfl, ⟨by decide, by decide⟩⟩ hP hS dX1_leftOf_47
        refine lv_icmp_ne (tgt := 36) hx hb dX1_leftOf_29 (by decide) (fun c17 => ?_) (fun c17 => ?_)
        · have c17 : ¬ z13 = z16 := mt (i_eq hw15 rz16).mpr c17
          refine lv_iconst (v := iI 0) hx hb dX1_leftOf_36 (by decide +kernel) ?_
          exact J37_18 0 _ _ _ (by omega) hP hS (lv_sub hl [0, 1, 2, 3] rfl)
        · have c17 : z13 = z16 := (i_eq hw15 rz16).mp c17
          refine lv_iconst (v := iI 1) hx hb dX1_leftOf_32 (by decide +kernel) ?_
          refine lv_goto (tgt := 37) hx hb dX1_leftOf_33 (by decide) ?_
          exact J37_18 1 _ _ _ (by omega) hP hS (lv_sub hl [0, 1, 2, 3] rfl)
  exact L4_4 _ 0 x1 _ _ _ (by omega) (by omega) rfl hP hS (lv_sub hl [0, 1, 2, 3] rfl)
