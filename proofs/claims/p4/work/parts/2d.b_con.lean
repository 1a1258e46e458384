def ws_kc_X1_weigh : List Cond := .code yX1_weigh cX1_weigh 5 none :: WY
set_option maxHeartbeats 4000000 in
set_option maxRecDepth 100000 in
theorem kc_X1_weigh (l : Launch) (dC : Nat → ClassId) (dI : Nat → Nat → Nat) (cB cI cJ cZ cQ : ClassId) (aL aS : Nat) (q : Nat → Nat) (A : St) (x1 x2 : Int) (hI : IK A) (hx1 : (-2147483648 : Int) ≤ x1 ∧ x1 ≤ 2147483647) (hx2 : (-2147483648 : Int) ≤ x2 ∧ x2 ≤ 2147483647) : KMv l yX1_weigh ws_kc_X1_weigh ({ frames := 2, cells := 0, slots := 0, locals := 44 } : Room) aL aS (dC, dI) (tyA cB cI cJ cZ cQ) (WK cB cI cJ cZ cQ q) A [.ref (q 22), .int (iI x1), .int (iI x2)] (fun u => IK u ∧ fk [25] [(22, 5), (22, 6), (22, 7)] A u ∧ (True)) := by
  refine k_metv (cc := cX1_weigh) (maxL := 5) WK_adr (plainFor_of_name (by decide +kernel)) rfl (Nat.le_of_ble_eq_true rfl) (fun p e s m below meth c Q AS ls hx hb hml hown hts hK hDD hA0 hE RET H locs hP hS hl => ?_)
  have hown : s.vm.findClass RX1 = some m.cls := hown
  have hl : lv_has ls 5 [(0, .ref (q 22)), (1, .int (iI x1)), (2, .int (iI x2))] := hl
  have hiX1 : ∀ w ∈ u_ws RX1 TX1 8, w ∈ ws_kc_X1_weigh := fun w h => List.mem_cons_of_mem _ (wy_layX1 w h)
  refine lv_aload_n hx hb dX1_weigh_0 rfl (lv_at hl 0 rfl) ?_
  refine lv_iload_n hx hb dX1_weigh_1 rfl (lv_at hl 1 rfl) ?_
  refine k_calli (As := [.int (iI x1)]) (rest := []) ⟨hx, hb, hml, hown, hts⟩ hE (kc_X1_leftOf l dC dI cB cI cJ cZ cQ aL aS q _ x1 hI hx1) (cwV 1 hts (goodVk (wk_in_3 _ (List.mem_of_getElem? (i := 22) rfl)) (wk_in_3 _ (List.mem_of_getElem? (i := 23) rfl)) (wk_in_3 _ (List.mem_of_getElem? (i := 24) rfl)) (wk_in_3 _ (List.mem_of_getElem? (i := 13) rfl)) (wk_in_3 _ (List.mem_of_getElem? (i := 25) rfl))) rfl rfl rfl (by decide +kernel) ⟨Nat.le_of_ble_eq_true rfl, Nat.le_of_ble_eq_true rfl⟩) hK hDD hA0 hP hS 22 1 (wkFD) rfl rfl hl.1 (Nat.le_of_ble_eq_true rfl) dX1_weigh_2 (fun z1 A2 H locs hw3 hP hS => ?_)
  obtain ⟨rfl, hw3⟩ := hw3
  refine lv_istore_n (lv' := [(3, .int (iI z1)), (0, .ref (q 22)), (1, .int (iI x1)), (2, .int (iI x2))]) hx hb dX1_weigh_5 rfl hl (by decide) rfl (fun ls hl => ?_)
  refine lv_iload_n hx hb dX1_weigh_6 rfl (lv_at hl 0 rfl) ?_
  refine lv_iconst (v := iI (-1)) hx hb dX1_weigh_7 (by decide +kernel) ?_
  refine lv_icmp_ne (tgt := 12) hx hb dX1_weigh_8 (by decide) (fun c4 => ?_) (fun c4 => ?_)
  · have c4 : ¬ z1 = (-1) := mt (i_eq hw3 ⟨by decide, by decide⟩).mpr c4
    refine lv_aload_n hx hb dX1_weigh_12 rfl (lv_at hl 1 rfl) ?_
    have r5 : (-2147483648 : Int) ≤ (A 22 5) ∧ (A 22 5) ≤ 2147483647 := irFD_5 hI
    refine va_get (D := (dC, dI)) (ci := 1) (v := .int (iI (A 22 5))) (C := RX1) (T := TX1) (N := 8) hx hb hts hiX1 hown hK hP 22 (wkFD) rfl 5 (by decide) (hts _ (List.mem_cons_of_mem _ (wk_in_3 _ (List.mem_of_getElem? (i := 6) rfl)))) (fun _ h9 => h9) rfl dX1_weigh_13 ?_
    have J53_7 : ∀ (A22 : St) (H : Heap) (locs : List Loc) (ls : Array Slot), IK A22 → fk [25] [(22, 6)] A A22 → va_P (dC, dI) vwCl (WK cB cI cJ cZ cQ q A22) H → va_S AS s.heap H locs → lv_has ls 5 [(3, .int (iI z1)), (0, .ref (q 22)), (1, .int (iI x1)), (2, .int (iI x2))] → W p l e (headSpec ws_kc_X1_weigh ({ frames := 2, cells := 0, slots := 0, locals := 44 } : Room)).room s m [.ref (q 22), .int (iI x1), .int (iI x2)].toArray below meth c H locs 0 0 Q (F0 m 53 ls []) := by
      intro A22 H locs ls hI hj21 hP hS hl
      refine lv_aload_n hx hb dX1_weigh_53 rfl (lv_at hl 1 rfl) ?_
      refine lv_dup hx hb dX1_weigh_54 rfl ?_
      have e23 : A22 22 5 = (A 22 5) := (hj21 22 5 rfl rfl)
      refine va_get (D := (dC, dI)) (ci := 1) (v := .int (iI (A22 22 5))) (C := RX1) (T := TX1) (N := 8) hx hb hts hiX1 hown hK hP 22 (wkFD) rfl 5 (by decide) (hts _ (List.mem_cons_of_mem _ (wk_in_3 _ (List.mem_of_getElem? (i := 6) rfl)))) (fun _ h9 => h9) rfl dX1_weigh_55 ?_
      refine tp_i (y := iI (A 22 5)) (congrArg iI e23) ?_
      refine lv_iconst (v := iI 1) hx hb dX1_weigh_58 (by decide +kernel) ?_
      refine x_addv (v := (A 22 5) + 1) hx hb dX1_weigh_59 (by omega) ?_
      refine x_abs (fun z24 hz24 => ?_)
      refine k_put (Wf := WK cB cI cJ cZ cQ q) (D := (dC, dI)) (ci := 1) (v := .int (iI z24)) (ty := .int) (C := RX1) (T := TX1) (N := 8) hx hb hts hiX1 tyX1 tyX1_ok nmX1 hown hK hP hDD hS 22 (wkFD) rfl 5 (by decide) (hts _ (List.mem_cons_of_mem _ (wk_in_3 _ (List.mem_of_getElem? (i := 6) rfl)))) (fun _ h9 => h9) rfl (by decide +kernel) rfl rfl (Nat.le_of_ble_eq_true rfl) dX1_weigh_60 (wfFD_5 (v := z24)) (fun H locs A25 hA25 hP hS => ?_)
      have hI := isFD_5 hA25 hI (show (-2147483648 : Int) ≤ z24 ∧ z24 ≤ 2147483647 from hz24)
      refine lv_aload_n hx hb dX1_weigh_63 rfl (lv_at hl 1 rfl) ?_
      refine lv_iload_n hx hb dX1_weigh_64 rfl (lv_at hl 0 rfl) ?_
      refine k_calli (As := [.int (iI z1)]) (rest := []) ⟨hx, hb, hml, hown, hts⟩ hE (kc_X1_topOf l dC dI cB cI cJ cZ cQ aL aS q _ z1 hI hw3) (cwV 1 hts (goodVk (wk_in_3 _ (List.mem_of_getElem? (i := 26) rfl)) (wk_in_3 _ (List.mem_of_getElem? (i := 27) rfl)) (wk_in_3 _ (List.mem_of_getElem? (i := 28) rfl)) (wk_in_3 _ (List.mem_of_getElem? (i := 13) rfl)) (wk_in_3 _ (List.mem_of_getElem? (i := 29) rfl))) rfl rfl rfl (by decide +kernel) ⟨Nat.le_of_ble_eq_true rfl, Nat.le_of_ble_eq_true rfl⟩) hK hDD hA0 hP hS 22 1 (wkFD) rfl rfl hl.1 (Nat.le_of_ble_eq_true rfl) dX1_weigh_65 (fun z26 A27 H locs hw28 hP hS => ?_)
      obtain ⟨rfl, hw28⟩ := hw28
      refine lv_iload_n hx hb dX1_weigh_68 rfl (lv_at hl 3 rfl) ?_
      refine lv_icmp_ne (tgt := 82) hx hb dX1_weigh_69 (by decide) (fun c29 => ?_) (fun c29 => ?_)
      · have c29 : ¬ z26 = x2 := mt (i_eq hw28 hx2).mpr c29
        exact RET _ _ _ _ _ ⟨hI, fk.df (fk.trans (fk.rf) hj21 rfl rfl) hA25 rfl, trivial⟩ hP hS dX1_weigh_82
      · have c29 : z26 = x2 := (i_eq hw28 hx2).mp c29
        refine lv_aload_n hx hb dX1_weigh_72 rfl (lv_at hl 1 rfl) ?_
        refine lv_dup hx hb dX1_weigh_73 rfl ?_
        have e31 : A22 22 7 = (A 22 7) := (hj21 22 7 rfl rfl)
        have e30 : A25 22 7 = (A 22 7) := (rd_at hA25 (by decide)).trans e31
        have r32 : (-2147483648 : Int) ≤ (A 22 7) ∧ (A 22 7) ≤ 2147483647 := by rw [← e30]; exact irFD_7 hI
        refine va_get (D := (dC, dI)) (ci := 1) (v := .int (iI (A25 22 7))) (C := RX1) (T := TX1) (N := 8) hx hb hts hiX1 hown hK hP 22 (wkFD) rfl 7 (by decide) (hts _ (List.mem_cons_of_mem _ (wk_in_3 _ (List.mem_of_getElem? (i := 8) rfl)))) (fun _ h9 => h9) rfl dX1_weigh_74 ?_
        refine tp_i (y := iI (A 22 7)) (congrArg iI e30) ?_
        refine lv_iconst (v := iI 1) hx hb dX1_weigh_77 (by decide +kernel) ?_
        refine x_addv (v := (A 22 7) + 1) hx hb dX1_weigh_78 (by omega) ?_
        refine x_abs (fun z33 hz33 => ?_)
        refine k_put (Wf := WK cB cI cJ cZ cQ q) (D := (dC, dI)) (ci := 1) (v := .int (iI z33)) (ty := .int) (C := RX1) (T := TX1) (N := 8) hx hb hts hiX1 tyX1 tyX1_ok nmX1 hown hK hP hDD hS 22 (wkFD) rfl 7 (by decide) (hts _ (List.mem_cons_of_mem _ (wk_in_3 _ (List.mem_of_getElem? (i := 8) rfl)))) (fun _ h9 => h9) rfl (by decide +kernel) rfl rfl (Nat.le_of_ble_eq_true rfl) dX1_weigh_79 (wfFD_7 (v := z33)) (fun H locs A34 hA34 hP hS => ?_)
        have hI := isFD_7 hA34 hI (show (-2147483648 : Int) ≤ z33 ∧ z33 ≤ 2147483647 from hz33)
        exact RET _ _ _ _ _ ⟨hI, fk.df (fk.df (fk.trans (fk.rf) hj21 rfl rfl) hA25 rfl) hA34 rfl, trivial⟩ hP hS dX1_weigh_82
    refine lv_if_ne (tgt := 53) hx hb dX1_weigh_16 (by decide) (fun c6 => ?_) (fun c6 => ?_)
    · have c6 : ¬ (A 22 5) = 0 := mt (i_eq0 r5).mpr c6
      exact J53_7 _ _ _ _ hI (fk.rf) hP hS (lv_sub hl [0, 1, 2, 3] rfl)
    · have c6 : (A 22 5) = 0 := (i_eq0 r5).mp c6
      refine lv_aload_n hx hb dX1_weigh_19 rfl (lv_at hl 1 rfl) ?_
      refine lv_iload_n hx hb dX1_weigh_20 rfl (lv_at hl 2 rfl) ?_
      refine k_put (Wf := WK cB cI cJ cZ cQ q) (D := (dC, dI)) (ci := 1) (v := .int (iI x1)) (ty := .int) (C := RX1) (T := TX1) (N := 8) hx hb hts hiX1 tyX1 tyX1_ok nmX1 hown hK hP hDD hS 22 (wkFD) rfl 6 (by decide) (hts _ (List.mem_cons_of_mem _ (wk_in_3 _ (List.mem_of_getElem? (i := 7) rfl)))) (fun _ h9 => h9) rfl (by decide +kernel) rfl rfl (Nat.le_of_ble_eq_true rfl) dX1_weigh_21 (wfFD_6 (v := x1)) (fun H locs A8 hA8 hP hS => ?_)
      have hI := isFD_6 hA8 hI (show (-2147483648 : Int) ≤ x1 ∧ x1 ≤ 2147483647 from hx1)
      refine lv_iconst (v := iI 0) hx hb dX1_weigh_24 (by decide +kernel) ?_
      refine lv_istore (lv' := [(4, .int (iI 0)), (3, .int (iI z1)), (0, .ref (q 22)), (1, .int (iI x1)), (2, .int (iI x2))]) hx hb dX1_weigh_25 hl (by decide) rfl (fun ls hl => ?_)
      have L27_12 : ∀ (n15 : Nat) (z9 : Int) (A11 : St) (H : Heap) (locs : List Loc) (ls : Array Slot), (0 ≤ z9 ∧ z9 ≤ 2147483647) → ((4 - z9).toNat = n15) → IK A11 → fk [25] [] A8 A11 → va_P (dC, dI) vwCl (WK cB cI cJ cZ cQ q A11) H → va_S AS s.heap H locs → lv_has ls 5 [(4, .int (iI z9)), (3, .int (iI z1)), (0, .ref (q 22)), (1, .int (iI x1)), (2, .int (iI x2))] → W p l e (headSpec ws_kc_X1_weigh ({ frames := 2, cells := 0, slots := 0, locals := 44 } : Room)).room s m [.ref (q 22), .int (iI x1), .int (iI x2)].toArray below meth c H locs 0 0 Q (F0 m 27 ls []) := by
        intro n15
        induction n15 using Nat.strongRecOn with
        | ind n15 ih13 =>
          intro z9 A11 H locs ls f14 hn15 hI hj10 hP hS hl
          refine lv_iload hx hb dX1_weigh_27 (lv_at hl 0 rfl) ?_
          refine lv_iconst (v := iI 3) hx hb dX1_weigh_29 (by decide +kernel) ?_
          refine lv_icmp_ge (tgt := 53) hx hb dX1_weigh_30 (by decide) (fun c16 => ?_) (fun c16 => ?_)
          · have c16 : 3 ≤ z9 := (i_le ⟨by decide, by decide⟩ (rb f14 (by decide) (by decide))).mp c16
            exact J53_7 _ _ _ _ hI (fk.trans (fk.df (fk.rf) hA8 rfl) hj10 rfl rfl) hP hS (lv_sub hl [1, 2, 3, 4] rfl)
          · have c16 : ¬ 3 ≤ z9 := mt (i_le ⟨by decide, by decide⟩ (rb f14 (by decide) (by decide))).mpr c16
            refine lv_aload_n hx hb dX1_weigh_33 rfl (lv_at hl 2 rfl) ?_
            refine va_get (D := (dC, dI)) (ci := 1) (v := .ref (q 25)) (C := RX1) (T := TX1) (N := 8) hx hb hts hiX1 hown hK hP 22 (wkFD) rfl 2 (by decide) (hts _ (List.mem_cons_of_mem _ (wk_in_3 _ (List.mem_of_getElem? (i := 21) rfl)))) (fun _ h9 => h9) rfl dX1_weigh_34 ?_
            refine lv_iload hx hb dX1_weigh_37 (lv_at hl 0 rfl) ?_
            refine lv_aload_n hx hb dX1_weigh_39 rfl (lv_at hl 2 rfl) ?_
            refine va_get (D := (dC, dI)) (ci := 1) (v := .ref (q 26)) (C := RX1) (T := TX1) (N := 8) hx hb hts hiX1 hown hK hP 22 (wkFD) rfl 3 (by decide) (hts _ (List.mem_cons_of_mem _ (wk_in_3 _ (List.mem_of_getElem? (i := 16) rfl)))) (fun _ h9 => h9) rfl dX1_weigh_40 ?_
            refine lv_iload hx hb dX1_weigh_43 (lv_at hl 0 rfl) ?_
            have a18 : ∀ k, A8 26 k = A 26 k := fun k => rd_ne hA8 (by decide) k
            have a17 : ∀ k, A11 26 k = A 26 k := fun k => (hj10 26 k rfl rfl).trans (a18 k)
            refine x_iald (Wf := WK cB cI cJ cZ cQ q) hx hb hK hP 26 1 (wkFDr) rfl (by omega) (by decide) dX1_weigh_45 (fun z19 hz19 => ?_)
            have rz19 : (-2147483648 : Int) ≤ z19 ∧ z19 ≤ 2147483647 := by rw [hz19]; exact irFDr hI
            have hz19 : z19 = A 26 (z9).toNat := hz19.trans (a17 _)
            refine k_iast (Wf := WK cB cI cJ cZ cQ q) hx hb hK hP hDD hS 25 1 (wkFDf) rfl (by omega) (by decide) dX1_weigh_46 (wsFDf) (fun H locs A20 hA20 hP hS => ?_)
            have hI := isFDf hA20 hI (show (-2147483648 : Int) ≤ z19 ∧ z19 ≤ 2147483647 from rz19)
            refine lv_iinc (v := iI (z9 + 1)) (lv' := [(4, .int (iI (z9 + 1))), (3, .int (iI z1)), (0, .ref (q 22)), (1, .int (iI x1)), (2, .int (iI x2))]) hx hb dX1_weigh_47 hl (k := 0) rfl (i_inc (by omega)) (by decide) rfl (fun ls hl => ?_)
            refine lv_goto (tgt := 27) hx hb dX1_weigh_50 (by decide) ?_
            exact ih13 _ (by omega) (z9 + 1) _ _ _ _ (by omega) rfl hI (fk.da (fk.trans (fk.rf) hj10 rfl rfl) hA20 rfl) hP hS (lv_sub hl [0, 1, 2, 3, 4] rfl)
      exact L27_12 _ 0 _ _ _ _ (by omega) rfl hI (fk.rf) hP hS (lv_sub hl [0, 1, 2, 3, 4] rfl)
  · have c4 : z1 = (-1) := (i_eq hw3 ⟨by decide, by decide⟩).mp c4
    exact RET _ _ _ _ _ ⟨hI, fk.rf, trivial⟩ hP hS dX1_weigh_11

def ws_kc_X1_survey : List Cond := .code yX1_survey cX1_survey 6 none :: WY
set_option maxHeartbeats 4000000 in
set_option maxRecDepth 100000 in
theorem kc_X1_survey (l : Launch) (dC : Nat → ClassId) (dI : Nat → Nat → Nat) (cB cI cJ cZ cQ : ClassId) (aL aS : Nat) (q : Nat → Nat) (A : St) (ta : Nat) (x2 : Int) (hI : IK A) (hta : isT ta) (hx2 : (-2147483648 : Int) ≤ x2 ∧ x2 ≤ 2147483647) : KMv l yX1_survey ws_kc_X1_survey ({ frames := 3, cells := 0, slots := 0, locals := 68 } : Room) aL aS (dC, dI) (tyA cB cI cJ cZ cQ) (WK cB cI cJ cZ cQ q) A [.ref (q 22), .ref (q ta), .int (iI x2)] (fun u => IK u ∧ fk [25, 26] [(22, 5), (22, 6), (22, 7)] A u ∧ (True)) := by
  refine k_metv (cc := cX1_survey) (maxL := 6) WK_adr (plainFor_of_name (by decide +kernel)) rfl (Nat.le_of_ble_eq_true rfl) (fun p e s m below meth c Q AS ls hx hb hml hown hts hK hDD hA0 hE RET H locs hP hS hl => ?_)
  have hown : s.vm.findClass RX1 = some m.cls := hown
  have hl : lv_has ls 6 [(0, .ref (q 22)), (1, .ref (q ta)), (2, .int (iI x2))] := hl
  have hiX1 : ∀ w ∈ u_ws RX1 TX1 8, w ∈ ws_kc_X1_survey := fun w h => List.mem_cons_of_mem _ (wy_layX1 w h)
  have hiX9 : ∀ w ∈ u_ws RX9 TX9 16, w ∈ ws_kc_X1_survey := fun w h => List.mem_cons_of_mem _ (wy_layX9 w h)
  refine lv_aload_n hx hb dX1_survey_0 rfl (lv_at hl 0 rfl) ?_
  refine lv_iconst (v := iI 0) hx hb dX1_survey_1 (by decide +kernel) ?_
  refine k_put (Wf := WK cB cI cJ cZ cQ q) (D := (dC, dI)) (ci := 1) (v := .int (iI 0)) (ty := .int) (C := RX1) (T := TX1) (N := 8) hx hb hts hiX1 tyX1 tyX1_ok nmX1 hown hK hP hDD hS 22 (wkFD) rfl 5 (by decide) (hts _ (List.mem_cons_of_mem _ (wk_in_3 _ (List.mem_of_getElem? (i := 6) rfl)))) (fun _ h9 => h9) rfl (by decide +kernel) rfl rfl (Nat.le_of_ble_eq_true rfl) dX1_survey_2 (wfFD_5 (v := 0)) (fun H locs A1 hA1 hP hS => ?_)
  have hI := isFD_5 hA1 hI (show (-2147483648 : Int) ≤ 0 ∧ 0 ≤ 2147483647 from ⟨by decide, by decide⟩)
  refine lv_aload_n hx hb dX1_survey_5 rfl (lv_at hl 0 rfl) ?_
  refine lv_iconst (v := iI 0) hx hb dX1_survey_6 (by decide +kernel) ?_
  refine k_put (Wf := WK cB cI cJ cZ cQ q) (D := (dC, dI)) (ci := 1) (v := .int (iI 0)) (ty := .int) (C := RX1) (T := TX1) (N := 8) hx hb hts hiX1 tyX1 tyX1_ok nmX1 hown hK hP hDD hS 22 (wkFD) rfl 6 (by decide) (hts _ (List.mem_cons_of_mem _ (wk_in_3 _ (List.mem_of_getElem? (i := 7) rfl)))) (fun _ h9 => h9) rfl (by decide +kernel) rfl rfl (Nat.le_of_ble_eq_true rfl) dX1_survey_7 (wfFD_6 (v := 0)) (fun H locs A2 hA2 hP hS => ?_)
  have hI := isFD_6 hA2 hI (show (-2147483648 : Int) ≤ 0 ∧ 0 ≤ 2147483647 from ⟨by decide, by decide⟩)
  refine lv_aload_n hx hb dX1_survey_10 rfl (lv_at hl 0 rfl) ?_
  refine lv_iconst (v := iI 0) hx hb dX1_survey_11 (by decide +kernel) ?_
  refine k_put (Wf := WK cB cI cJ cZ cQ q) (D := (dC, dI)) (ci := 1) (v := .int (iI 0)) (ty := .int) (C := RX1) (T := TX1) (N := 8) hx hb hts hiX1 tyX1 tyX1_ok nmX1 hown hK hP hDD hS 22 (wkFD) rfl 7 (by decide) (hts _ (List.mem_cons_of_mem _ (wk_in_3 _ (List.mem_of_getElem? (i := 8) rfl)))) (fun _ h9 => h9) rfl (by decide +kernel) rfl rfl (Nat.le_of_ble_eq_true rfl) dX1_survey_12 (wfFD_7 (v := 0)) (fun H locs A3 hA3 hP hS => ?_)
  have hI := isFD_7 hA3 hI (show (-2147483648 : Int) ≤ 0 ∧ 0 ≤ 2147483647 from ⟨by decide, by decide⟩)
  refine lv_iconst (v := iI 1) hx hb dX1_survey_15 (by decide +kernel) ?_
  refine lv_istore_n (lv' := [(3, .int (iI 1)), (0, .ref (q 22)), (1, .ref (q ta)), (2, .int (iI x2))]) hx hb dX1_survey_16 rfl hl (by decide) rfl (fun ls hl => ?_)
  refine lv_iconst (v := iI 0) hx hb dX1_survey_17 (by decide +kernel) ?_
  refine lv_istore (lv' := [(4, .int (iI 0)), (3, .int (iI 1)), (0, .ref (q 22)), (1, .ref (q ta)), (2, .int (iI x2))]) hx hb dX1_survey_18 hl (by decide) rfl (fun ls hl => ?_)
  have L20_8 : ∀ (n12 : Nat) (z4 z5 : Int) (A7 : St) (H : Heap) (locs : List Loc) (ls : Array Slot), (0 ≤ z4 ∧ z4 ≤ 2147483647) → (-2147483648 ≤ z5 ∧ z5 ≤ 2147483647) → ((4 - z4).toNat = n12) → IK A7 → fk [25, 26] [(22, 5), (22, 6), (22, 7)] A3 A7 → va_P (dC, dI) vwCl (WK cB cI cJ cZ cQ q A7) H → va_S AS s.heap H locs → lv_has ls 6 [(4, .int (iI z4)), (3, .int (iI z5)), (0, .ref (q 22)), (1, .ref (q ta)), (2, .int (iI x2))] → W p l e (headSpec ws_kc_X1_survey ({ frames := 3, cells := 0, slots := 0, locals := 68 } : Room)).room s m [.ref (q 22), .ref (q ta), .int (iI x2)].toArray below meth c H locs 0 0 Q (F0 m 20 ls []) := by
    intro n12
    induction n12 using Nat.strongRecOn with
    | ind n12 ih9 =>
      intro z4 z5 A7 H locs ls f10 f11 hn12 hI hj6 hP hS hl
      refine lv_iload hx hb dX1_survey_20 (lv_at hl 0 rfl) ?_
      refine lv_iconst (v := iI 3) hx hb dX1_survey_22 (by decide +kernel) ?_
      refine lv_icmp_gt (tgt := 75) hx hb dX1_survey_23 (by decide) (fun c13 => ?_) (fun c13 => ?_)
      · have c13 : 3 < z4 := (i_lt ⟨by decide, by decide⟩ (rb f10 (by decide) (by decide))).mp c13
        exact RET _ _ _ _ _ ⟨hI, fk.trans (fk.df (fk.df (fk.df (fk.rf) hA1 rfl) hA2 rfl) hA3 rfl) hj6 rfl rfl, trivial⟩ hP hS dX1_survey_75
      · have c13 : ¬ 3 < z4 := mt (i_lt ⟨by decide, by decide⟩ (rb f10 (by decide) (by decide))).mpr c13
        refine lv_iconst (v := iI 0) hx hb dX1_survey_26 (by decide +kernel) ?_
        refine lv_istore (lv' := [(5, .int (iI 0)), (4, .int (iI z4)), (3, .int (iI z5)), (0, .ref (q 22)), (1, .ref (q ta)), (2, .int (iI x2))]) hx hb dX1_survey_27 hl (by decide) rfl (fun ls hl => ?_)
        have L29_17 : ∀ (n20 : Nat) (z14 : Int) (A16 : St) (H : Heap) (locs : List Loc) (ls : Array Slot), (0 ≤ z14 ∧ z14 ≤ 2147483647) → ((2147483648 - z14).toNat = n20) → IK A16 → fk [25, 26] [(22, 5), (22, 6), (22, 7)] A7 A16 → va_P (dC, dI) vwCl (WK cB cI cJ cZ cQ q A16) H → va_S AS s.heap H locs → lv_has ls 6 [(5, .int (iI z14)), (4, .int (iI z4)), (3, .int (iI z5)), (0, .ref (q 22)), (1, .ref (q ta)), (2, .int (iI x2))] → W p l e (headSpec ws_kc_X1_survey ({ frames := 3, cells := 0, slots := 0, locals := 68 } : Room)).room s m [.ref (q 22), .ref (q ta), .int (iI x2)].toArray below meth c H locs 0 0 Q (F0 m 29 ls []) := by
          intro n20
          induction n20 using Nat.strongRecOn with
          | ind n20 ih18 =>
            intro z14 A16 H locs ls f19 hn20 hI hj15 hP hS hl
            refine lv_iload hx hb dX1_survey_29 (lv_at hl 0 rfl) ?_
            refine lv_iload_n hx hb dX1_survey_31 rfl (lv_at hl 2 rfl) ?_
            refine lv_icmp_ge (tgt := 60) hx hb dX1_survey_32 (by decide) (fun c21 => ?_) (fun c21 => ?_)
            · have c21 : z5 ≤ z14 := (i_le f11 (rb f19 (by decide) (by decide))).mp c21
              refine lv_iload_n hx hb dX1_survey_60 rfl (lv_at hl 2 rfl) ?_
              refine lv_aload_n hx hb dX1_survey_61 rfl (lv_at hl 4 rfl) ?_
              refine va_get (D := (dC, dI)) (ci := 9) (v := .ref (q (ta + 1))) (C := RX9) (T := TX9) (N := 16) hx hb hts hiX9 hown hK hP ta (wkT hta) rfl 0 (by decide) (hts _ (List.mem_cons_of_mem _ (wk_in_3 _ (List.mem_of_getElem? (i := 9) rfl)))) (fun _ h9 => h9) rfl dX1_survey_62 ?_
              refine lv_iconst (v := iI 1) hx hb dX1_survey_65 (by decide +kernel) ?_
              have a26 : ∀ k, A1 (ta + 1) k = A (ta + 1) k := fun k => rd_ne hA1 (by rcases hta with h | h <;> omega) k
              have a25 : ∀ k, A2 (ta + 1) k = A (ta + 1) k := fun k => (rd_ne hA2 (by rcases hta with h | h <;> omega) k).trans (a26 k)
              have a24 : ∀ k, A3 (ta + 1) k = A (ta + 1) k := fun k => (rd_ne hA3 (by rcases hta with h | h <;> omega) k).trans (a25 k)
              have a23 : ∀ k, A7 (ta + 1) k = A (ta + 1) k := fun k => (hj6 (ta + 1) k (isT.b2 (o := fun b => List.contains [25, 26] (b + 1)) hta rfl rfl) (isT.b2 (o := fun b => fin2 [(22, 5), (22, 6), (22, 7)] (b + 1) k) hta rfl rfl)).trans (a24 k)
              have a22 : ∀ k, A16 (ta + 1) k = A (ta + 1) k := fun k => (hj15 (ta + 1) k (isT.b2 (o := fun b => List.contains [25, 26] (b + 1)) hta rfl rfl) (isT.b2 (o := fun b => fin2 [(22, 5), (22, 6), (22, 7)] (b + 1) k) hta rfl rfl)).trans (a23 k)
              refine x_iald (Wf := WK cB cI cJ cZ cQ q) hx hb hK hP (ta + 1) 1 (wkTc hta) rfl (by decide) (by decide) dX1_survey_66 (fun z27 hz27 => ?_)
              have rz27 : (0 : Int) ≤ z27 ∧ z27 ≤ 10 := by rw [hz27]; exact irTc1 hta hI
              have hz27 : z27 = A (ta + 1) (1 : Int).toNat := hz27.trans (a22 _)
              refine lv_imul hx hb dX1_survey_67 ?_
              refine x_abs (fun z28 hz28 => ?_)
              refine lv_istore_n (lv' := [(3, .int (iI z28)), (5, .int (iI z14)), (4, .int (iI z4)), (0, .ref (q 22)), (1, .ref (q ta)), (2, .int (iI x2))]) hx hb dX1_survey_68 rfl hl (by decide) rfl (fun ls hl => ?_)
              refine lv_iinc (v := iI (z4 + 1)) (lv' := [(4, .int (iI (z4 + 1))), (3, .int (iI z28)), (5, .int (iI z14)), (0, .ref (q 22)), (1, .ref (q ta)), (2, .int (iI x2))]) hx hb dX1_survey_69 hl (k := 2) rfl (i_inc (by omega)) (by decide) rfl (fun ls hl => ?_)
              refine lv_goto (tgt := 20) hx hb dX1_survey_72 (by decide) ?_
              exact ih9 _ (by omega) (z4 + 1) z28 _ _ _ _ (by omega) (by omega) rfl hI (fk.trans (fk.trans (fk.rf) hj6 rfl rfl) hj15 rfl rfl) hP hS (lv_sub hl [0, 1, 3, 4, 5] rfl)
            · have c21 : ¬ z5 ≤ z14 := mt (i_le f11 (rb f19 (by decide) (by decide))).mpr c21
              refine lv_aload_n hx hb dX1_survey_35 rfl (lv_at hl 3 rfl) ?_
              refine lv_aload_n hx hb dX1_survey_36 rfl (lv_at hl 4 rfl) ?_
              refine lv_iload hx hb dX1_survey_37 (lv_at hl 0 rfl) ?_
              refine lv_iload hx hb dX1_survey_39 (lv_at hl 1 rfl) ?_
              refine k_calli (As := [.ref (q ta), .int (iI z14), .int (iI z4)]) (rest := []) ⟨hx, hb, hml, hown, hts⟩ hE (kc_X1_isRow l dC dI cB cI cJ cZ cQ aL aS q _ ta z14 z4 hI hta f19 (rb f10 (by decide) (by decide))) (cwV 3 hts (goodVk (wk_in_3 _ (List.mem_of_getElem? (i := 10) rfl)) (wk_in_3 _ (List.mem_of_getElem? (i := 11) rfl)) (wk_in_3 _ (List.mem_of_getElem? (i := 12) rfl)) (wk_in_3 _ (List.mem_of_getElem? (i := 13) rfl)) (wk_in_3 _ (List.mem_of_getElem? (i := 14) rfl))) rfl rfl rfl (by decide +kernel) ⟨Nat.le_of_ble_eq_true rfl, Nat.le_of_ble_eq_true rfl⟩) hK hDD hA0 hP hS 22 1 (wkFD) rfl rfl hl.1 (Nat.le_of_ble_eq_true rfl) dX1_survey_41 (fun z29 A30 H locs hw31 hP hS => ?_)
              obtain ⟨hI, hf32, hw31⟩ := hw31
              have J54_34 : ∀ (A39 : St) (H : Heap) (locs : List Loc) (ls : Array Slot), IK A39 → fk [25] [(22, 5), (22, 6), (22, 7)] A30 A39 → va_P (dC, dI) vwCl (WK cB cI cJ cZ cQ q A39) H → va_S AS s.heap H locs → lv_has ls 6 [(5, .int (iI z14)), (4, .int (iI z4)), (3, .int (iI z5)), (0, .ref (q 22)), (1, .ref (q ta)), (2, .int (iI x2))] → W p l e (headSpec ws_kc_X1_survey ({ frames := 3, cells := 0, slots := 0, locals := 68 } : Room)).room s m [.ref (q 22), .ref (q ta), .int (iI x2)].toArray below meth c H locs 0 0 Q (F0 m 54 ls []) := by
                intro A39 H locs ls hI hj38 hP hS hl
                refine lv_iinc (v := iI (z14 + 1)) (lv' := [(5, .int (iI (z14 + 1))), (4, .int (iI z4)), (3, .int (iI z5)), (0, .ref (q 22)), (1, .ref (q ta)), (2, .int (iI x2))]) hx hb dX1_survey_54 hl (k := 0) rfl (i_inc (by omega)) (by decide) rfl (fun ls hl => ?_)
                refine lv_goto (tgt := 29) hx hb dX1_survey_57 (by decide) ?_
                exact ih18 _ (by omega) (z14 + 1) _ _ _ _ (by omega) rfl hI (fk.trans (fk.trans (fk.trans (fk.rf) hj15 rfl rfl) hf32 rfl rfl) hj38 rfl rfl) hP hS (lv_sub hl [0, 1, 2, 3, 4, 5] rfl)
              refine lv_if_eq (tgt := 54) hx hb dX1_survey_44 (by decide) (fun c33 => ?_) (fun c33 => ?_)
              · have c33 : z29 = 0 := (i_eq0 (rb hw31 (by decide) (by decide))).mp c33
                exact J54_34 _ _ _ _ hI (fk.rf) hP hS (lv_sub hl [0, 1, 2, 3, 4, 5] rfl)
              · have c33 : ¬ z29 = 0 := mt (i_eq0 (rb hw31 (by decide) (by decide))).mpr c33
                refine lv_aload_n hx hb dX1_survey_47 rfl (lv_at hl 3 rfl) ?_
                refine lv_iload hx hb dX1_survey_48 (lv_at hl 1 rfl) ?_
                refine lv_iload_n hx hb dX1_survey_50 rfl (lv_at hl 5 rfl) ?_
                refine k_callv (As := [.int (iI z4), .int (iI x2)]) (rest := []) ⟨hx, hb, hml, hown, hts⟩ hE (kc_X1_weigh l dC dI cB cI cJ cZ cQ aL aS q _ z4 x2 hI (rb f10 (by decide) (by decide)) hx2) (cwV 2 hts (goodVk (wk_in_3 _ (List.mem_of_getElem? (i := 17) rfl)) (wk_in_3 _ (List.mem_of_getElem? (i := 18) rfl)) (wk_in_3 _ (List.mem_of_getElem? (i := 19) rfl)) (wk_in_3 _ (List.mem_of_getElem? (i := 13) rfl)) (wk_in_3 _ (List.mem_of_getElem? (i := 20) rfl))) rfl rfl rfl (by decide +kernel) ⟨Nat.le_of_ble_eq_true rfl, Nat.le_of_ble_eq_true rfl⟩) hK hDD hA0 hP hS 22 1 (wkFD) rfl rfl hl.1 (Nat.le_of_ble_eq_true rfl) dX1_survey_51 (fun A35 H locs hw36 hP hS => ?_)
                obtain ⟨hI, hf37, hw36⟩ := hw36
                clear hw36
                exact J54_34 _ _ _ _ hI (fk.trans (fk.rf) hf37 rfl rfl) hP hS (lv_sub hl [0, 1, 2, 3, 4, 5] rfl)
        exact L29_17 _ 0 _ _ _ _ (by omega) rfl hI (fk.rf) hP hS (lv_sub hl [0, 1, 2, 3, 4, 5] rfl)
  exact L20_8 _ 0 1 _ _ _ _ (by omega) (by omega) rfl hI (fk.rf) hP hS (lv_sub hl [0, 1, 2, 3, 4] rfl)

def ws_kc_X2_areCrossing : List Cond := .code yX2_areCrossing cX2_areCrossing 7 (some .boolean) :: WY
set_option maxHeartbeats 4000000 in
set_option maxRecDepth 100000 in
theorem kc_X2_areCrossing (l : Launch) (dC : Nat → ClassId) (dI : Nat → Nat → Nat) (cB cI cJ cZ cQ : ClassId) (aL aS : Nat) (q : Nat → Nat) (A : St) (ta : Nat) (x2 x3 : Int) (hI : IK A) (hta : isT ta) (hx2 : (-2147483648 : Int) ≤ x2 ∧ x2 ≤ 2147483647) (hx3 : (-2147483648 : Int) ≤ x3 ∧ x3 ≤ 2147483647) : KMi l yX2_areCrossing ws_kc_X2_areCrossing ({ frames := 1, cells := 0, slots := 0, locals := 22 } : Room) aL aS (dC, dI) (tyA cB cI cJ cZ cQ) (WK cB cI cJ cZ cQ q) A [.ref (q ta), .int (iI x2), .int (iI x3)] (fun z u => A = u ∧ (0 ≤ z ∧ z ≤ 1)) := by
  refine k_metz (cc := cX2_areCrossing) (maxL := 7) WK_adr (plainFor_of_name (by decide +kernel)) rfl (Nat.le_of_ble_eq_true rfl) (fun z u h => h.2) (fun p e s m below meth c Q AS ls hx hb hml hown hts hK hDD hA0 hE RET H locs hP hS hl => ?_)
  have hown : s.vm.findClass RX2 = some m.cls := hown
  have hl : lv_has ls 7 [(0, .ref (q ta)), (1, .int (iI x2)), (2, .int (iI x3))] := hl
  have hiX9 : ∀ w ∈ u_ws RX9 TX9 16, w ∈ ws_kc_X2_areCrossing := fun w h => List.mem_cons_of_mem _ (wy_layX9 w h)
  refine lv_aload_n hx hb dX2_areCrossing_0 rfl (lv_at hl 0 rfl) ?_
  refine lv_bipush (v := iI 6) hx hb dX2_areCrossing_1 (by decide +kernel) ?_
  refine lv_iload_n hx hb dX2_areCrossing_3 rfl (lv_at hl 1 rfl) ?_
  refine k_calli (As := [.int (iI 6), .int (iI x2)]) (rest := []) ⟨hx, hb, hml, hown, hts⟩ hE (kc_X9_isThere_1_6 l dC dI cB cI cJ cZ cQ aL aS q _ ta x2 hI hta hx2) (cwV 2 hts (goodVk (wk_in_3 _ (List.mem_of_getElem? (i := 39) rfl)) (wk_in_0 _ (List.mem_of_getElem? (i := 22) rfl)) (wk_in_0 _ (List.mem_of_getElem? (i := 23) rfl)) (wk_in_0 _ (List.mem_of_getElem? (i := 6) rfl)) (wk_in_0 _ (List.mem_of_getElem? (i := 24) rfl))) rfl rfl rfl (by decide +kernel) ⟨Nat.le_of_ble_eq_true rfl, Nat.le_of_ble_eq_true rfl⟩) hK hDD hA0 hP hS ta 9 (wkT hta) rfl rfl hl.1 (Nat.le_of_ble_eq_true rfl) dX2_areCrossing_4 (fun z1 A2 H locs hw3 hP hS => ?_)
  obtain ⟨rfl, hw3⟩ := hw3
  have rz1 : 0 ≤ z1 ∧ z1 ≤ 1 := hw3.1
  have hw3 := hw3.2
  refine lv_if_eq (tgt := 20) hx hb dX2_areCrossing_7 (by decide) (fun c4 => ?_) (fun c4 => ?_)
  · have c4 : z1 = 0 := (i_eq0 (rb rz1 (by decide) (by decide))).mp c4
    clear hw3
    refine lv_iconst (v := iI 0) hx hb dX2_areCrossing_20 (by decide +kernel) ?_
    exact RET 0 _ _ _ _ _ ⟨rfl, ⟨by decide, by decide⟩⟩ hP hS dX2_areCrossing_21
  · have c4 : ¬ z1 = 0 := mt (i_eq0 (rb rz1 (by decide) (by decide))).mpr c4
    have hw3b := hw3 (by omega)
    clear hw3
    refine lv_aload_n hx hb dX2_areCrossing_10 rfl (lv_at hl 0 rfl) ?_
    refine lv_bipush (v := iI 6) hx hb dX2_areCrossing_11 (by decide +kernel) ?_
    refine lv_iload_n hx hb dX2_areCrossing_13 rfl (lv_at hl 2 rfl) ?_
    refine k_calli (As := [.int (iI 6), .int (iI x3)]) (rest := []) ⟨hx, hb, hml, hown, hts⟩ hE (kc_X9_isThere_1_6 l dC dI cB cI cJ cZ cQ aL aS q _ ta x3 hI hta hx3) (cwV 2 hts (goodVk (wk_in_3 _ (List.mem_of_getElem? (i := 39) rfl)) (wk_in_0 _ (List.mem_of_getElem? (i := 22) rfl)) (wk_in_0 _ (List.mem_of_getElem? (i := 23) rfl)) (wk_in_0 _ (List.mem_of_getElem? (i := 6) rfl)) (wk_in_0 _ (List.mem_of_getElem? (i := 24) rfl))) rfl rfl rfl (by decide +kernel) ⟨Nat.le_of_ble_eq_true rfl, Nat.le_of_ble_eq_true rfl⟩) hK hDD hA0 hP hS ta 9 (wkT hta) rfl rfl hl.1 (Nat.le_of_ble_eq_true rfl) dX2_areCrossing_14 (fun z5 A6 H locs hw7 hP hS => ?_)
    obtain ⟨rfl, hw7⟩ := hw7
    have rz5 : 0 ≤ z5 ∧ z5 ≤ 1 := hw7.1
    have hw7 := hw7.2
    refine lv_if_ne (tgt := 22) hx hb dX2_areCrossing_17 (by decide) (fun c8 => ?_) (fun c8 => ?_)
    · have c8 : ¬ z5 = 0 := mt (i_eq0 (rb rz5 (by decide) (by decide))).mpr c8
      have hw7b := hw7 (by omega)
      clear hw7
      refine lv_aload_n hx hb dX2_areCrossing_22 rfl (lv_at hl 0 rfl) ?_
      refine va_get (D := (dC, dI)) (ci := 9) (v := .ref (q (ta + 14))) (C := RX9) (T := TX9) (N := 16) hx hb hts hiX9 hown hK hP ta (wkT hta) rfl 8 (by decide) (hts _ (List.mem_cons_of_mem _ (wk_in_3 _ (List.mem_of_getElem? (i := 36) rfl)))) (fun _ h9 => h9) rfl dX2_areCrossing_23 ?_
      refine lv_iload_n hx hb dX2_areCrossing_26 rfl (lv_at hl 1 rfl) ?_
      refine x_iald (Wf := WK cB cI cJ cZ cQ q) hx hb hK hP (ta + 14) 1 (wkTmb hta) rfl (by omega) (by decide) dX2_areCrossing_27 (fun z9 hz9 => ?_)
      have rz9 : (-2147483648 : Int) ≤ z9 ∧ z9 ≤ 2147483647 := by rw [hz9]; exact irTmb hta hI
      refine lv_istore_n (lv' := [(3, .int (iI z9)), (0, .ref (q ta)), (1, .int (iI x2)), (2, .int (iI x3))]) hx hb dX2_areCrossing_28 rfl hl (by decide) rfl (fun ls hl => ?_)
      refine lv_aload_n hx hb dX2_areCrossing_29 rfl (lv_at hl 1 rfl) ?_
      refine va_get (D := (dC, dI)) (ci := 9) (v := .ref (q (ta + 15))) (C := RX9) (T := TX9) (N := 16) hx hb hts hiX9 hown hK hP ta (wkT hta) rfl 9 (by decide) (hts _ (List.mem_cons_of_mem _ (wk_in_3 _ (List.mem_of_getElem? (i := 37) rfl)))) (fun _ h9 => h9) rfl dX2_areCrossing_30 ?_
      refine lv_iload_n hx hb dX2_areCrossing_33 rfl (lv_at hl 2 rfl) ?_
      refine x_iald (Wf := WK cB cI cJ cZ cQ q) hx hb hK hP (ta + 15) 1 (wkTme hta) rfl (by omega) (by decide) dX2_areCrossing_34 (fun z10 hz10 => ?_)
      have rz10 : (-2147483648 : Int) ≤ z10 ∧ z10 ≤ 2147483647 := by rw [hz10]; exact irTme hta hI
      refine lv_istore (lv' := [(4, .int (iI z10)), (3, .int (iI z9)), (0, .ref (q ta)), (1, .int (iI x2)), (2, .int (iI x3))]) hx hb dX2_areCrossing_35 hl (by decide) rfl (fun ls hl => ?_)
      refine lv_aload_n hx hb dX2_areCrossing_37 rfl (lv_at hl 2 rfl) ?_
      refine va_get (D := (dC, dI)) (ci := 9) (v := .ref (q (ta + 14))) (C := RX9) (T := TX9) (N := 16) hx hb hts hiX9 hown hK hP ta (wkT hta) rfl 8 (by decide) (hts _ (List.mem_cons_of_mem _ (wk_in_3 _ (List.mem_of_getElem? (i := 36) rfl)))) (fun _ h9 => h9) rfl dX2_areCrossing_38 ?_
      refine lv_iload_n hx hb dX2_areCrossing_41 rfl (lv_at hl 4 rfl) ?_
      refine x_iald (Wf := WK cB cI cJ cZ cQ q) hx hb hK hP (ta + 14) 1 (wkTmb hta) rfl (by omega) (by decide) dX2_areCrossing_42 (fun z11 hz11 => ?_)
      have rz11 : (-2147483648 : Int) ≤ z11 ∧ z11 ≤ 2147483647 := by rw [hz11]; exact irTmb hta hI
      refine lv_istore (lv' := [(5, .int (iI z11)), (4, .int (iI z10)), (3, .int (iI z9)), (0, .ref (q ta)), (1, .int (iI x2)), (2, .int (iI x3))]) hx hb dX2_areCrossing_43 hl (by decide) rfl (fun ls hl => ?_)
      refine lv_aload_n hx hb dX2_areCrossing_45 rfl (lv_at hl 3 rfl) ?_
      refine va_get (D := (dC, dI)) (ci := 9) (v := .ref (q (ta + 15))) (C := RX9) (T := TX9) (N := 16) hx hb hts hiX9 hown hK hP ta (wkT hta) rfl 9 (by decide) (hts _ (List.mem_cons_of_mem _ (wk_in_3 _ (List.mem_of_getElem? (i := 37) rfl)))) (fun _ h9 => h9) rfl dX2_areCrossing_46 ?_
      refine lv_iload_n hx hb dX2_areCrossing_49 rfl (lv_at hl 5 rfl) ?_
      refine x_iald (Wf := WK cB cI cJ cZ cQ q) hx hb hK hP (ta + 15) 1 (wkTme hta) rfl (by omega) (by decide) dX2_areCrossing_50 (fun z12 hz12 => ?_)
      have rz12 : (-2147483648 : Int) ≤ z12 ∧ z12 ≤ 2147483647 := by rw [hz12]; exact irTme hta hI
      refine lv_istore (lv' := [(6, .int (iI z12)), (5, .int (iI z11)), (4, .int (iI z10)), (3, .int (iI z9)), (0, .ref (q ta)), (1, .int (iI x2)), (2, .int (iI x3))]) hx hb dX2_areCrossing_51 hl (by decide) rfl (fun ls hl => ?_)
      refine lv_aload_n hx hb dX2_areCrossing_53 rfl (lv_at hl 4 rfl) ?_
      refine va_get (D := (dC, dI)) (ci := 9) (v := .ref (q (ta + 13))) (C := RX9) (T := TX9) (N := 16) hx hb hts hiX9 hown hK hP ta (wkT hta) rfl 7 (by decide) (hts _ (List.mem_cons_of_mem _ (wk_in_3 _ (List.mem_of_getElem? (i := 38) rfl)))) (fun _ h9 => h9) rfl dX2_areCrossing_54 ?_
      refine lv_iload_n hx hb dX2_areCrossing_57 rfl (lv_at hl 5 rfl) ?_
      refine x_iald (Wf := WK cB cI cJ cZ cQ q) hx hb hK hP (ta + 13) 1 (wkTmd hta) rfl (by omega) (by decide) dX2_areCrossing_58 (fun z13 hz13 => ?_)
      have rz13 : (-2147483648 : Int) ≤ z13 ∧ z13 ≤ 2147483647 := by rw [hz13]; exact irTmd hta hI
      refine lv_aload_n hx hb dX2_areCrossing_59 rfl (lv_at hl 4 rfl) ?_
      refine va_get (D := (dC, dI)) (ci := 9) (v := .ref (q (ta + 13))) (C := RX9) (T := TX9) (N := 16) hx hb hts hiX9 hown hK hP ta (wkT hta) rfl 7 (by decide) (hts _ (List.mem_cons_of_mem _ (wk_in_3 _ (List.mem_of_getElem? (i := 38) rfl)))) (fun _ h9 => h9) rfl dX2_areCrossing_60 ?_
      refine lv_iload_n hx hb dX2_areCrossing_63 rfl (lv_at hl 6 rfl) ?_
      refine x_iald (Wf := WK cB cI cJ cZ cQ q) hx hb hK hP (ta + 13) 1 (wkTmd hta) rfl (by omega) (by decide) dX2_areCrossing_64 (fun z14 hz14 => ?_)
      have rz14 : (-2147483648 : Int) ≤ z14 ∧ z14 ≤ 2147483647 := by rw [hz14]; exact irTmd hta hI
      have J83_16 : ∀ (H : Heap) (locs : List Loc) (ls : Array Slot), va_P (dC, dI) vwCl (WK cB cI cJ cZ cQ q A) H → va_S AS s.heap H locs → lv_has ls 7 [(6, .int (iI z12)), (5, .int (iI z11)), (4, .int (iI z10)), (3, .int (iI z9)), (0, .ref (q ta)), (1, .int (iI x2)), (2, .int (iI x3))] → W p l e (headSpec ws_kc_X2_areCrossing ({ frames := 1, cells := 0, slots := 0, locals := 22 } : Room)).room s m [.ref (q ta), .int (iI x2), .int (iI x3)].toArray below meth c H locs 0 0 Q (F0 m 83 ls []) := by
        intro H locs ls hP hS hl
        refine lv_iload_n hx hb dX2_areCrossing_83 rfl (lv_at hl 3 rfl) ?_
        refine lv_iload hx hb dX2_areCrossing_84 (lv_at hl 1 rfl) ?_
        have J103_21 : ∀ (H : Heap) (locs : List Loc) (ls : Array Slot), va_P (dC, dI) vwCl (WK cB cI cJ cZ cQ q A) H → va_S AS s.heap H locs → lv_has ls 7 [(6, .int (iI z12)), (5, .int (iI z11)), (4, .int (iI z10)), (3, .int (iI z9)), (0, .ref (q ta)), (1, .int (iI x2)), (2, .int (iI x3))] → W p l e (headSpec ws_kc_X2_areCrossing ({ frames := 1, cells := 0, slots := 0, locals := 22 } : Room)).room s m [.ref (q ta), .int (iI x2), .int (iI x3)].toArray below meth c H locs 0 0 Q (F0 m 103 ls []) := by
          intro H locs ls hP hS hl
          refine lv_iload hx hb dX2_areCrossing_103 (lv_at hl 1 rfl) ?_
          refine lv_iload_n hx hb dX2_areCrossing_105 rfl (lv_at hl 3 rfl) ?_
          refine lv_icmp_ge (tgt := 126) hx hb dX2_areCrossing_106 (by decide) (fun c25 => ?_) (fun c25 => ?_)
          · have c25 : z9 ≤ z11 := (i_le rz9 rz11).mp c25
            refine lv_iconst (v := iI 0) hx hb dX2_areCrossing_126 (by decide +kernel) ?_
            exact RET 0 _ _ _ _ _ ⟨rfl, ⟨by decide, by decide⟩⟩ hP hS dX2_areCrossing_127
          · have c25 : ¬ z9 ≤ z11 := mt (i_le rz9 rz11).mpr c25
            refine lv_iload_n hx hb dX2_areCrossing_109 rfl (lv_at hl 3 rfl) ?_
            refine lv_iload hx hb dX2_areCrossing_110 (lv_at hl 0 rfl) ?_
            refine lv_icmp_ge (tgt := 126) hx hb dX2_areCrossing_112 (by decide) (fun c26 => ?_) (fun c26 => ?_)
            · have c26 : z12 ≤ z9 := (i_le rz12 rz9).mp c26
              refine lv_iconst (v := iI 0) hx hb dX2_areCrossing_126 (by decide +kernel) ?_
              exact RET 0 _ _ _ _ _ ⟨rfl, ⟨by decide, by decide⟩⟩ hP hS dX2_areCrossing_127
            · have c26 : ¬ z12 ≤ z9 := mt (i_le rz12 rz9).mpr c26
              refine lv_iload hx hb dX2_areCrossing_115 (lv_at hl 0 rfl) ?_
              refine lv_iload hx hb dX2_areCrossing_117 (lv_at hl 2 rfl) ?_
              refine lv_icmp_ge (tgt := 126) hx hb dX2_areCrossing_119 (by decide) (fun c27 => ?_) (fun c27 => ?_)
              · have c27 : z10 ≤ z12 := (i_le rz10 rz12).mp c27
                refine lv_iconst (v := iI 0) hx hb dX2_areCrossing_126 (by decide +kernel) ?_
                exact RET 0 _ _ _ _ _ ⟨rfl, ⟨by decide, by decide⟩⟩ hP hS dX2_areCrossing_127
              · have c27 : ¬ z10 ≤ z12 := mt (i_le rz10 rz12).mpr c27
                refine lv_iconst (v := iI 1) hx hb dX2_areCrossing_122 (by decide +kernel) ?_
                refine lv_goto (tgt := 127) hx hb dX2_areCrossing_123 (by decide) ?_
                exact RET 1 _ _ _ _ _ ⟨rfl, ⟨by decide, by decide⟩⟩ hP hS dX2_areCrossing_127
        refine lv_icmp_ge (tgt := 103) hx hb dX2_areCrossing_86 (by decide) (fun c20 => ?_) (fun c20 => ?_)
        · have c20 : z11 ≤ z9 := (i_le rz11 rz9).mp c20
          exact J103_21 _ _ _ hP hS (lv_sub hl [0, 1, 2, 3, 4, 5, 6] rfl)
        · have c20 : ¬ z11 ≤ z9 := mt (i_le rz11 rz9).mpr c20
          refine lv_iload hx hb dX2_areCrossing_89 (lv_at hl 1 rfl) ?_
          refine lv_iload hx hb dX2_areCrossing_91 (lv_at hl 2 rfl) ?_
          refine lv_icmp_ge (tgt := 103) hx hb dX2_areCrossing_93 (by decide) (fun c22 => ?_) (fun c22 => ?_)
          · have c22 : z10 ≤ z11 := (i_le rz10 rz11).mp c22
            exact J103_21 _ _ _ hP hS (lv_sub hl [0, 1, 2, 3, 4, 5, 6] rfl)
          · have c22 : ¬ z10 ≤ z11 := mt (i_le rz10 rz11).mpr c22
            refine lv_iload hx hb dX2_areCrossing_96 (lv_at hl 2 rfl) ?_
            refine lv_iload hx hb dX2_areCrossing_98 (lv_at hl 0 rfl) ?_
            refine lv_icmp_lt (tgt := 122) hx hb dX2_areCrossing_100 (by decide) (fun c23 => ?_) (fun c23 => ?_)
            · have c23 : z10 < z12 := (i_lt rz10 rz12).mp c23
              refine lv_iconst (v := iI 1) hx hb dX2_areCrossing_122 (by decide +kernel) ?_
              refine lv_goto (tgt := 127) hx hb dX2_areCrossing_123 (by decide) ?_
              exact RET 1 _ _ _ _ _ ⟨rfl, ⟨by decide, by decide⟩⟩ hP hS dX2_areCrossing_127
            · have c23 : ¬ z10 < z12 := mt (i_lt rz10 rz12).mpr c23
              exact J103_21 _ _ _ hP hS (lv_sub hl [0, 1, 2, 3, 4, 5, 6] rfl)
      refine lv_icmp_ne (tgt := 83) hx hb dX2_areCrossing_65 (by decide) (fun c15 => ?_) (fun c15 => ?_)
      · have c15 : ¬ z13 = z14 := mt (i_eq rz13 rz14).mpr c15
        exact J83_16 _ _ _ hP hS (lv_sub hl [0, 1, 2, 3, 4, 5, 6] rfl)
      · have c15 : z13 = z14 := (i_eq rz13 rz14).mp c15
        refine lv_iload_n hx hb dX2_areCrossing_68 rfl (lv_at hl 3 rfl) ?_
        refine lv_iload hx hb dX2_areCrossing_69 (lv_at hl 0 rfl) ?_
        refine lv_icmp_ge (tgt := 83) hx hb dX2_areCrossing_71 (by decide) (fun c17 => ?_) (fun c17 => ?_)
        · have c17 : z12 ≤ z9 := (i_le rz12 rz9).mp c17
          exact J83_16 _ _ _ hP hS (lv_sub hl [0, 1, 2, 3, 4, 5, 6] rfl)
        · have c17 : ¬ z12 ≤ z9 := mt (i_le rz12 rz9).mpr c17
          refine lv_iload hx hb dX2_areCrossing_74 (lv_at hl 1 rfl) ?_
          refine lv_iload hx hb dX2_areCrossing_76 (lv_at hl 2 rfl) ?_
          refine lv_icmp_ge (tgt := 83) hx hb dX2_areCrossing_78 (by decide) (fun c18 => ?_) (fun c18 => ?_)
          · have c18 : z10 ≤ z11 := (i_le rz10 rz11).mp c18
            exact J83_16 _ _ _ hP hS (lv_sub hl [0, 1, 2, 3, 4, 5, 6] rfl)
          · have c18 : ¬ z10 ≤ z11 := mt (i_le rz10 rz11).mpr c18
            refine lv_iconst (v := iI 1) hx hb dX2_areCrossing_81 (by decide +kernel) ?_
            exact RET 1 _ _ _ _ _ ⟨rfl, ⟨by decide, by decide⟩⟩ hP hS dX2_areCrossing_82
    · have c8 : z5 = 0 := (i_eq0 (rb rz5 (by decide) (by decide))).mp c8
      clear hw7
      refine lv_iconst (v := iI 0) hx hb dX2_areCrossing_20 (by decide +kernel) ?_
      exact RET 0 _ _ _ _ _ ⟨rfl, ⟨by decide, by decide⟩⟩ hP hS dX2_areCrossing_21

def ws_kc_X2_firstCrossing : List Cond := .code yX2_firstCrossing cX2_firstCrossing 5 (some .int) :: WY
set_option maxHeartbeats 4000000 in
set_option maxRecDepth 100000 in
theorem kc_X2_firstCrossing (l : Launch) (dC : Nat → ClassId) (dI : Nat → Nat → Nat) (cB cI cJ cZ cQ : ClassId) (aL aS : Nat) (q : Nat → Nat) (A : St) (ta : Nat) (x2 : Int) (hI : IK A) (hta : isT ta) (hx2 : (0 : Int) ≤ x2 ∧ x2 ≤ 1) : KMi l yX2_firstCrossing ws_kc_X2_firstCrossing ({ frames := 2, cells := 0, slots := 0, locals := 48 } : Room) aL aS (dC, dI) (tyA cB cI cJ cZ cQ) (WK cB cI cJ cZ cQ q) A [.ref (q 20), .ref (q ta), .int (iI x2)] (fun z u => A = u ∧ (-2147483648 ≤ z ∧ z ≤ 2147483647)) := by
  refine k_meti (cc := cX2_firstCrossing) (maxL := 5) WK_adr (plainFor_of_name (by decide +kernel)) rfl (Nat.le_of_ble_eq_true rfl) (fun p e s m below meth c Q AS ls hx hb hml hown hts hK hDD hA0 hE RET H locs hP hS hl => ?_)
  have hown : s.vm.findClass RX2 = some m.cls := hown
  have hl : lv_has ls 5 [(0, .ref (q 20)), (1, .ref (q ta)), (2, .int (iI x2))] := hl
  have hiX9 : ∀ w ∈ u_ws RX9 TX9 16, w ∈ ws_kc_X2_firstCrossing := fun w h => List.mem_cons_of_mem _ (wy_layX9 w h)
  refine lv_iconst (v := iI 0) hx hb dX2_firstCrossing_0 (by decide +kernel) ?_
  refine lv_istore_n (lv' := [(3, .int (iI 0)), (0, .ref (q 20)), (1, .ref (q ta)), (2, .int (iI x2))]) hx hb dX2_firstCrossing_1 rfl hl (by decide) rfl (fun ls hl => ?_)
  have L2_3 : ∀ (n7 : Nat) (z1 : Int) (H : Heap) (locs : List Loc) (ls : Array Slot), (0 ≤ z1 ∧ z1 ≤ 2147483647) → ((7 - z1).toNat = n7) → va_P (dC, dI) vwCl (WK cB cI cJ cZ cQ q A) H → va_S AS s.heap H locs → lv_has ls 5 [(3, .int (iI z1)), (0, .ref (q 20)), (1, .ref (q ta)), (2, .int (iI x2))] → W p l e (headSpec ws_kc_X2_firstCrossing ({ frames := 2, cells := 0, slots := 0, locals := 48 } : Room)).room s m [.ref (q 20), .ref (q ta), .int (iI x2)].toArray below meth c H locs 0 0 Q (F0 m 2 ls []) := by
    intro n7
    induction n7 using Nat.strongRecOn with
    | ind n7 ih4 =>
      intro z1 H locs ls f5 hn7 hP hS hl
      refine lv_iload_n hx hb dX2_firstCrossing_2 rfl (lv_at hl 0 rfl) ?_
      refine lv_aload_n hx hb dX2_firstCrossing_3 rfl (lv_at hl 2 rfl) ?_
      refine va_get (D := (dC, dI)) (ci := 9) (v := .ref (q (ta + 1))) (C := RX9) (T := TX9) (N := 16) hx hb hts hiX9 hown hK hP ta (wkT hta) rfl 0 (by decide) (hts _ (List.mem_cons_of_mem _ (wk_in_3 _ (List.mem_of_getElem? (i := 31) rfl)))) (fun _ h9 => h9) rfl dX2_firstCrossing_4 ?_
      refine lv_bipush (v := iI 6) hx hb dX2_firstCrossing_7 (by decide +kernel) ?_
      refine x_iald (Wf := WK cB cI cJ cZ cQ q) hx hb hK hP (ta + 1) 1 (wkTc hta) rfl (by decide) (by decide) dX2_firstCrossing_9 (fun z8 hz8 => ?_)
      have rz8 : (0 : Int) ≤ z8 ∧ z8 ≤ 6 := by rw [hz8]; exact irTc6 hta hI
      refine lv_icmp_ge (tgt := 67) hx hb dX2_firstCrossing_10 (by decide) (fun c9 => ?_) (fun c9 => ?_)
      · have c9 : z8 ≤ z1 := (i_le (rb rz8 (by decide) (by decide)) (rb f5 (by decide) (by decide))).mp c9
        refine lv_iconst (v := iI (-1)) hx hb dX2_firstCrossing_67 (by decide +kernel) ?_
        exact RET (-1) _ _ _ _ _ ⟨rfl, ⟨by decide, by decide⟩⟩ hP hS dX2_firstCrossing_68
      · have c9 : ¬ z8 ≤ z1 := mt (i_le (rb rz8 (by decide) (by decide)) (rb f5 (by decide) (by decide))).mpr c9
        refine lv_iconst (v := iI 0) hx hb dX2_firstCrossing_13 (by decide +kernel) ?_
        refine lv_istore (lv' := [(4, .int (iI 0)), (3, .int (iI z1)), (0, .ref (q 20)), (1, .ref (q ta)), (2, .int (iI x2))]) hx hb dX2_firstCrossing_14 hl (by decide) rfl (fun ls hl => ?_)
        have L16_12 : ∀ (n16 : Nat) (z10 : Int) (H : Heap) (locs : List Loc) (ls : Array Slot), (0 ≤ z10 ∧ z10 ≤ 2147483647) → ((7 - z10).toNat = n16) → va_P (dC, dI) vwCl (WK cB cI cJ cZ cQ q A) H → va_S AS s.heap H locs → lv_has ls 5 [(4, .int (iI z10)), (3, .int (iI z1)), (0, .ref (q 20)), (1, .ref (q ta)), (2, .int (iI x2))] → W p l e (headSpec ws_kc_X2_firstCrossing ({ frames := 2, cells := 0, slots := 0, locals := 48 } : Room)).room s m [.ref (q 20), .ref (q ta), .int (iI x2)].toArray below meth c H locs 0 0 Q (F0 m 16 ls []) := by
          intro n16
          induction n16 using Nat.strongRecOn with
          | ind n16 ih13 =>
            intro z10 H locs ls f14 hn16 hP hS hl
            refine lv_iload hx hb dX2_firstCrossing_16 (lv_at hl 0 rfl) ?_
            refine lv_aload_n hx hb dX2_firstCrossing_18 rfl (lv_at hl 3 rfl) ?_
            refine va_get (D := (dC, dI)) (ci := 9) (v := .ref (q (ta + 1))) (C := RX9) (T := TX9) (N := 16) hx hb hts hiX9 hown hK hP ta (wkT hta) rfl 0 (by decide) (hts _ (List.mem_cons_of_mem _ (wk_in_3 _ (List.mem_of_getElem? (i := 31) rfl)))) (fun _ h9 => h9) rfl dX2_firstCrossing_19 ?_
            refine lv_bipush (v := iI 6) hx hb dX2_firstCrossing_22 (by decide +kernel) ?_
            refine x_iald (Wf := WK cB cI cJ cZ cQ q) hx hb hK hP (ta + 1) 1 (wkTc hta) rfl (by decide) (by decide) dX2_firstCrossing_24 (fun z17 hz17 => ?_)
            have rz17 : (0 : Int) ≤ z17 ∧ z17 ≤ 6 := by rw [hz17]; exact irTc6 hta hI
            have ez17 : z17 = z8 := hz17.trans hz8.symm
            refine tp_i (y := iI z8) (congrArg iI ez17) ?_
            refine lv_icmp_ge (tgt := 61) hx hb dX2_firstCrossing_25 (by decide) (fun c18 => ?_) (fun c18 => ?_)
            · have c18 : z8 ≤ z10 := (i_le (rb rz8 (by decide) (by decide)) (rb f14 (by decide) (by decide))).mp c18
              refine lv_iinc (v := iI (z1 + 1)) (lv' := [(3, .int (iI (z1 + 1))), (4, .int (iI z10)), (0, .ref (q 20)), (1, .ref (q ta)), (2, .int (iI x2))]) hx hb dX2_firstCrossing_61 hl (k := 1) rfl (i_inc (by omega)) (by decide) rfl (fun ls hl => ?_)
              refine lv_goto (tgt := 2) hx hb dX2_firstCrossing_64 (by decide) ?_
              exact ih4 _ (by omega) (z1 + 1) _ _ _ (by omega) rfl hP hS (lv_sub hl [0, 2, 3, 4] rfl)
            · have c18 : ¬ z8 ≤ z10 := mt (i_le (rb rz8 (by decide) (by decide)) (rb f14 (by decide) (by decide))).mpr c18
              refine lv_iload_n hx hb dX2_firstCrossing_28 rfl (lv_at hl 1 rfl) ?_
              refine lv_iload hx hb dX2_firstCrossing_29 (lv_at hl 0 rfl) ?_
              have J55_20 : ∀ (H : Heap) (locs : List Loc) (ls : Array Slot), va_P (dC, dI) vwCl (WK cB cI cJ cZ cQ q A) H → va_S AS s.heap H locs → lv_has ls 5 [(4, .int (iI z10)), (3, .int (iI z1)), (0, .ref (q 20)), (1, .ref (q ta)), (2, .int (iI x2))] → W p l e (headSpec ws_kc_X2_firstCrossing ({ frames := 2, cells := 0, slots := 0, locals := 48 } : Room)).room s m [.ref (q 20), .ref (q ta), .int (iI x2)].toArray below meth c H locs 0 0 Q (F0 m 55 ls []) := by
                intro H locs ls hP hS hl
                refine lv_iinc (v := iI (z10 + 1)) (lv' := [(4, .int (iI (z10 + 1))), (3, .int (iI z1)), (0, .ref (q 20)), (1, .ref (q ta)), (2, .int (iI x2))]) hx hb dX2_firstCrossing_55 hl (k := 0) rfl (i_inc (by omega)) (by decide) rfl (fun ls hl => ?_)
                refine lv_goto (tgt := 16) hx hb dX2_firstCrossing_58 (by decide) ?_
                exact ih13 _ (by omega) (z10 + 1) _ _ _ (by omega) rfl hP hS (lv_sub hl [0, 1, 2, 3, 4] rfl)
              refine lv_icmp_eq (tgt := 55) hx hb dX2_firstCrossing_31 (by decide) (fun c19 => ?_) (fun c19 => ?_)
              · have c19 : z1 = z10 := (i_eq (rb f5 (by decide) (by decide)) (rb f14 (by decide) (by decide))).mp c19
                exact J55_20 _ _ _ hP hS (lv_sub hl [0, 1, 2, 3, 4] rfl)
              · have c19 : ¬ z1 = z10 := mt (i_eq (rb f5 (by decide) (by decide)) (rb f14 (by decide) (by decide))).mpr c19
                refine lv_aload_n hx hb dX2_firstCrossing_34 rfl (lv_at hl 3 rfl) ?_
                refine lv_iload_n hx hb dX2_firstCrossing_35 rfl (lv_at hl 1 rfl) ?_
                refine lv_iload hx hb dX2_firstCrossing_36 (lv_at hl 0 rfl) ?_
                refine k_callSi (As := [.ref (q ta), .int (iI z1), .int (iI z10)]) (rest := []) ⟨hx, hb, hml, hown, hts⟩ hE (kc_X2_areCrossing l dC dI cB cI cJ cZ cQ aL aS q _ ta z1 z10 hI hta (rb f5 (by decide) (by decide)) (rb f14 (by decide) (by decide))) (va_cwS 3 hts (goodSk (wk_in_3 _ (List.mem_of_getElem? (i := 32) rfl)) (wk_in_3 _ (List.mem_of_getElem? (i := 33) rfl)) (wk_in_3 _ (List.mem_of_getElem? (i := 34) rfl)) (wk_in_3 _ (List.mem_of_getElem? (i := 35) rfl))) rfl rfl rfl (by decide +kernel) ⟨Nat.le_of_ble_eq_true rfl, Nat.le_of_ble_eq_true rfl⟩) hK hDD hA0 hP hS rfl hl.1 (Nat.le_of_ble_eq_true rfl) dX2_firstCrossing_38 (fun z21 A22 H locs hw23 hP hS => ?_)
                obtain ⟨rfl, hw23⟩ := hw23
                refine lv_if_eq (tgt := 55) hx hb dX2_firstCrossing_41 (by decide) (fun c24 => ?_) (fun c24 => ?_)
                · have c24 : z21 = 0 := (i_eq0 (rb hw23 (by decide) (by decide))).mp c24
                  exact J55_20 _ _ _ hP hS (lv_sub hl [0, 1, 2, 3, 4] rfl)
                · have c24 : ¬ z21 = 0 := mt (i_eq0 (rb hw23 (by decide) (by decide))).mpr c24
                  refine lv_iload_n hx hb dX2_firstCrossing_44 rfl (lv_at hl 4 rfl) ?_
                  refine lv_if_eq (tgt := 53) hx hb dX2_firstCrossing_45 (by decide) (fun c25 => ?_) (fun c25 => ?_)
                  · have c25 : x2 = 0 := (i_eq0 (rb hx2 (by decide) (by decide))).mp c25
                    refine lv_iload_n hx hb dX2_firstCrossing_53 rfl (lv_at hl 1 rfl) ?_
                    exact RET z1 _ _ _ _ _ ⟨rfl, (rb f5 (by decide) (by decide))⟩ hP hS dX2_firstCrossing_54
                  · have c25 : ¬ x2 = 0 := mt (i_eq0 (rb hx2 (by decide) (by decide))).mpr c25
                    refine lv_iload hx hb dX2_firstCrossing_48 (lv_at hl 0 rfl) ?_
                    refine lv_goto (tgt := 54) hx hb dX2_firstCrossing_50 (by decide) ?_
                    exact RET z10 _ _ _ _ _ ⟨rfl, (rb f14 (by decide) (by decide))⟩ hP hS dX2_firstCrossing_54
        exact L16_12 _ 0 _ _ _ (by omega) rfl hP hS (lv_sub hl [0, 1, 2, 3, 4] rfl)
  exact L2_3 _ 0 _ _ _ (by omega) rfl hP hS (lv_sub hl [0, 1, 2, 3] rfl)

def ws_kc_X2_canTake : List Cond := .code yX2_canTake cX2_canTake 5 (some .boolean) :: WY
set_option maxHeartbeats 4000000 in
set_option maxRecDepth 100000 in
theorem kc_X2_canTake (l : Launch) (dC : Nat → ClassId) (dI : Nat → Nat → Nat) (cB cI cJ cZ cQ : ClassId) (aL aS : Nat) (q : Nat → Nat) (A : St) (ta : Nat) (x2 x3 : Int) (hI : IK A) (hta : isT ta) (hx2 : (-2147483648 : Int) ≤ x2 ∧ x2 ≤ 2147483647) (hx3 : (-2147483648 : Int) ≤ x3 ∧ x3 ≤ 2147483647) : KMi l yX2_canTake ws_kc_X2_canTake ({ frames := 2, cells := 0, slots := 0, locals := 48 } : Room) aL aS (dC, dI) (tyA cB cI cJ cZ cQ) (WK cB cI cJ cZ cQ q) A [.ref (q 20), .ref (q ta), .int (iI x2), .int (iI x3)] (fun z u => A = u ∧ (0 ≤ z ∧ z ≤ 1)) := by
  refine k_metz (cc := cX2_canTake) (maxL := 5) WK_adr (plainFor_of_name (by decide +kernel)) rfl (Nat.le_of_ble_eq_true rfl) (fun z u h => h.2) (fun p e s m below meth c Q AS ls hx hb hml hown hts hK hDD hA0 hE RET H locs hP hS hl => ?_)
  have hown : s.vm.findClass RX2 = some m.cls := hown
  have hl : lv_has ls 5 [(0, .ref (q 20)), (1, .ref (q ta)), (2, .int (iI x2)), (3, .int (iI x3))] := hl
  have hiX2 : ∀ w ∈ u_ws RX2 TX2 1, w ∈ ws_kc_X2_canTake := fun w h => List.mem_cons_of_mem _ (wy_layX2 w h)
  refine lv_iconst (v := iI 0) hx hb dX2_canTake_0 (by decide +kernel) ?_
  refine lv_istore (lv' := [(4, .int (iI 0)), (0, .ref (q 20)), (1, .ref (q ta)), (2, .int (iI x2)), (3, .int (iI x3))]) hx hb dX2_canTake_1 hl (by decide) rfl (fun ls hl => ?_)
  have L3_3 : ∀ (n6 : Nat) (z1 : Int) (H : Heap) (locs : List Loc) (ls : Array Slot), (0 ≤ z1 ∧ z1 ≤ 2147483647) → ((2147483648 - z1).toNat = n6) → va_P (dC, dI) vwCl (WK cB cI cJ cZ cQ q A) H → va_S AS s.heap H locs → lv_has ls 5 [(4, .int (iI z1)), (0, .ref (q 20)), (1, .ref (q ta)), (2, .int (iI x2)), (3, .int (iI x3))] → W p l e (headSpec ws_kc_X2_canTake ({ frames := 2, cells := 0, slots := 0, locals := 48 } : Room)).room s m [.ref (q 20), .ref (q ta), .int (iI x2), .int (iI x3)].toArray below meth c H locs 0 0 Q (F0 m 3 ls []) := by
    intro n6
    induction n6 using Nat.strongRecOn with
    | ind n6 ih4 =>
      intro z1 H locs ls f5 hn6 hP hS hl
      refine lv_iload hx hb dX2_canTake_3 (lv_at hl 0 rfl) ?_
      refine lv_iload_n hx hb dX2_canTake_5 rfl (lv_at hl 3 rfl) ?_
      refine lv_icmp_ge (tgt := 45) hx hb dX2_canTake_6 (by decide) (fun c7 => ?_) (fun c7 => ?_)
      · have c7 : x2 ≤ z1 := (i_le hx2 (rb f5 (by decide) (by decide))).mp c7
        refine lv_iconst (v := iI 1) hx hb dX2_canTake_45 (by decide +kernel) ?_
        exact RET 1 _ _ _ _ _ ⟨rfl, ⟨by decide, by decide⟩⟩ hP hS dX2_canTake_46
      · have c7 : ¬ x2 ≤ z1 := mt (i_le hx2 (rb f5 (by decide) (by decide))).mpr c7
        refine lv_iload hx hb dX2_canTake_9 (lv_at hl 0 rfl) ?_
        refine lv_bipush (v := iI 6) hx hb dX2_canTake_11 (by decide +kernel) ?_
        refine lv_icmp_ge (tgt := 45) hx hb dX2_canTake_13 (by decide) (fun c8 => ?_) (fun c8 => ?_)
        · have c8 : 6 ≤ z1 := (i_le ⟨by decide, by decide⟩ (rb f5 (by decide) (by decide))).mp c8
          refine lv_iconst (v := iI 1) hx hb dX2_canTake_45 (by decide +kernel) ?_
          exact RET 1 _ _ _ _ _ ⟨rfl, ⟨by decide, by decide⟩⟩ hP hS dX2_canTake_46
        · have c8 : ¬ 6 ≤ z1 := mt (i_le ⟨by decide, by decide⟩ (rb f5 (by decide) (by decide))).mpr c8
          refine lv_aload_n hx hb dX2_canTake_16 rfl (lv_at hl 1 rfl) ?_
          refine va_get (D := (dC, dI)) (ci := 2) (v := .ref (q 21)) (C := RX2) (T := TX2) (N := 1) hx hb hts hiX2 hown hK hP 20 (wkHR) rfl 0 (by decide) (hts _ (List.mem_cons_of_mem _ (wk_in_3 _ (List.mem_of_getElem? (i := 45) rfl)))) (fun _ h9 => h9) rfl dX2_canTake_17 ?_
          refine lv_iload hx hb dX2_canTake_20 (lv_at hl 0 rfl) ?_
          refine x_iald (Wf := WK cB cI cJ cZ cQ q) hx hb hK hP 21 1 (wkHRk) rfl (by omega) (by decide) dX2_canTake_22 (fun z9 hz9 => ?_)
          have rz9 : (-2147483648 : Int) ≤ z9 ∧ z9 ≤ 2147483647 := by rw [hz9]; exact irHRk hI
          refine lv_iload_n hx hb dX2_canTake_23 rfl (lv_at hl 4 rfl) ?_
          have J39_11 : ∀ (H : Heap) (locs : List Loc) (ls : Array Slot), va_P (dC, dI) vwCl (WK cB cI cJ cZ cQ q A) H → va_S AS s.heap H locs → lv_has ls 5 [(4, .int (iI z1)), (0, .ref (q 20)), (1, .ref (q ta)), (2, .int (iI x2)), (3, .int (iI x3))] → W p l e (headSpec ws_kc_X2_canTake ({ frames := 2, cells := 0, slots := 0, locals := 48 } : Room)).room s m [.ref (q 20), .ref (q ta), .int (iI x2), .int (iI x3)].toArray below meth c H locs 0 0 Q (F0 m 39 ls []) := by
            intro H locs ls hP hS hl
            refine lv_iinc (v := iI (z1 + 1)) (lv' := [(4, .int (iI (z1 + 1))), (0, .ref (q 20)), (1, .ref (q ta)), (2, .int (iI x2)), (3, .int (iI x3))]) hx hb dX2_canTake_39 hl (k := 0) rfl (i_inc (by omega)) (by decide) rfl (fun ls hl => ?_)
            refine lv_goto (tgt := 3) hx hb dX2_canTake_42 (by decide) ?_
            exact ih4 _ (by omega) (z1 + 1) _ _ _ (by omega) rfl hP hS (lv_sub hl [0, 1, 2, 3, 4] rfl)
          refine lv_icmp_ne (tgt := 39) hx hb dX2_canTake_24 (by decide) (fun c10 => ?_) (fun c10 => ?_)
          · have c10 : ¬ z9 = x3 := mt (i_eq rz9 hx3).mpr c10
            exact J39_11 _ _ _ hP hS (lv_sub hl [0, 1, 2, 3, 4] rfl)
          · have c10 : z9 = x3 := (i_eq rz9 hx3).mp c10
            refine lv_aload_n hx hb dX2_canTake_27 rfl (lv_at hl 2 rfl) ?_
            refine lv_iload hx hb dX2_canTake_28 (lv_at hl 0 rfl) ?_
            refine lv_iload_n hx hb dX2_canTake_30 rfl (lv_at hl 3 rfl) ?_
            refine k_callSi (As := [.ref (q ta), .int (iI z1), .int (iI x2)]) (rest := []) ⟨hx, hb, hml, hown, hts⟩ hE (kc_X2_areCrossing l dC dI cB cI cJ cZ cQ aL aS q _ ta z1 x2 hI hta (rb f5 (by decide) (by decide)) hx2) (va_cwS 3 hts (goodSk (wk_in_3 _ (List.mem_of_getElem? (i := 32) rfl)) (wk_in_3 _ (List.mem_of_getElem? (i := 33) rfl)) (wk_in_3 _ (List.mem_of_getElem? (i := 34) rfl)) (wk_in_3 _ (List.mem_of_getElem? (i := 35) rfl))) rfl rfl rfl (by decide +kernel) ⟨Nat.le_of_ble_eq_true rfl, Nat.le_of_ble_eq_true rfl⟩) hK hDD hA0 hP hS rfl hl.1 (Nat.le_of_ble_eq_true rfl) dX2_canTake_31 (fun z12 A13 H locs hw14 hP hS => ?_)
            obtain ⟨rfl, hw14⟩ := hw14
            refine lv_if_eq (tgt := 39) hx hb dX2_canTake_34 (by decide) (fun c15 => ?_) (fun c15 => ?_)
            · have c15 : z12 = 0 := (i_eq0 (rb hw14 (by decide) (by decide))).mp c15
              exact J39_11 _ _ _ hP hS (lv_sub hl [0, 1, 2, 3, 4] rfl)
            · have c15 : ¬ z12 = 0 := mt (i_eq0 (rb hw14 (by decide) (by decide))).mpr c15
              refine lv_iconst (v := iI 0) hx hb dX2_canTake_37 (by decide +kernel) ?_
              exact RET 0 _ _ _ _ _ ⟨rfl, ⟨by decide, by decide⟩⟩ hP hS dX2_canTake_38
  exact L3_3 _ 0 _ _ _ (by omega) rfl hP hS (lv_sub hl [0, 1, 2, 3, 4] rfl)

def ws_kc_X2_giveKeys_2_6 : List Cond := .code yX2_giveKeys cX2_giveKeys 5 (some .boolean) :: WY
set_option maxHeartbeats 4000000 in
set_option maxRecDepth 100000 in
theorem kc_X2_giveKeys_2_6 (l : Launch) (dC : Nat → ClassId) (dI : Nat → Nat → Nat) (cB cI cJ cZ cQ : ClassId) (aL aS : Nat) (q : Nat → Nat) (A : St) (ta : Nat) (x3 : Int) (hI : IK A) (hta : isT ta) (hx3 : (-2147483648 : Int) ≤ x3 ∧ x3 ≤ 2147483647) : KMi l yX2_giveKeys ws_kc_X2_giveKeys_2_6 ({ frames := 0, cells := 0, slots := 0, locals := 0 } : Room) aL aS (dC, dI) (tyA cB cI cJ cZ cQ) (WK cB cI cJ cZ cQ q) A [.ref (q 20), .ref (q ta), .int (iI 6), .int (iI x3)] (fun z u => IK u ∧ fk [21] [] A u ∧ (0 ≤ z ∧ z ≤ 1)) := by
  refine k_metz (cc := cX2_giveKeys) (maxL := 5) WK_adr (plainFor_of_name (by decide +kernel)) rfl (Nat.le_of_ble_eq_true rfl) (fun z u h => h.2.2) (fun p e s m below meth c Q AS ls hx hb hml hown hts hK hDD hA0 hE RET H locs hP hS hl => ?_)
  have hown : s.vm.findClass RX2 = some m.cls := hown
  have hl : lv_has ls 5 [(0, .ref (q 20)), (1, .ref (q ta)), (2, .int (iI 6)), (3, .int (iI x3))] := hl
  have hiX9 : ∀ w ∈ u_ws RX9 TX9 16, w ∈ ws_kc_X2_giveKeys_2_6 := fun w h => List.mem_cons_of_mem _ (wy_layX9 w h)
  refine lv_iload_n hx hb dX2_giveKeys_0 rfl (lv_at hl 2 rfl) ?_
  refine lv_aload_n hx hb dX2_giveKeys_1 rfl (lv_at hl 1 rfl) ?_
  refine va_get (D := (dC, dI)) (ci := 9) (v := .ref (q (ta + 1))) (C := RX9) (T := TX9) (N := 16) hx hb hts hiX9 hown hK hP ta (wkT hta) rfl 0 (by decide) (hts _ (List.mem_cons_of_mem _ (wk_in_3 _ (List.mem_of_getElem? (i := 31) rfl)))) (fun _ h9 => h9) rfl dX2_giveKeys_2 ?_
  refine lv_bipush (v := iI 6) hx hb dX2_giveKeys_5 (by decide +kernel) ?_
  refine x_iald (Wf := WK cB cI cJ cZ cQ q) hx hb hK hP (ta + 1) 1 (wkTc hta) rfl (by decide) (by decide) dX2_giveKeys_7 (fun z1 hz1 => ?_)
  have rz1 : (0 : Int) ≤ z1 ∧ z1 ≤ 6 := by rw [hz1]; exact irTc6 hta hI
  refine lv_icmp_ge (tgt := 17) hx hb dX2_giveKeys_8 (by decide) (fun _ => ?_) (fun c2 => False.elim (by have c2 : ¬ z1 ≤ 6 := mt (i_le (rb rz1 (by decide) (by decide)) ⟨by decide, by decide⟩).mpr c2; omega))
  refine lv_iconst (v := iI 1) hx hb dX2_giveKeys_17 (by decide +kernel) ?_
  exact RET 1 _ _ _ _ _ ⟨hI, fk.rf, ⟨by decide, by decide⟩⟩ hP hS dX2_giveKeys_18

def ws_kc_X2_giveKeys_2_5 : List Cond := .code yX2_giveKeys cX2_giveKeys 5 (some .boolean) :: WY
set_option maxHeartbeats 4000000 in
set_option maxRecDepth 100000 in
theorem kc_X2_giveKeys_2_5 (l : Launch) (dC : Nat → ClassId) (dI : Nat → Nat → Nat) (cB cI cJ cZ cQ : ClassId) (aL aS : Nat) (q : Nat → Nat) (A : St) (ta : Nat) (x3 : Int) (hI : IK A) (hta : isT ta) (hx3 : (-2147483648 : Int) ≤ x3 ∧ x3 ≤ 2147483647) : KMi l yX2_giveKeys ws_kc_X2_giveKeys_2_5 ({ frames := 3, cells := 0, slots := 0, locals := 72 } : Room) aL aS (dC, dI) (tyA cB cI cJ cZ cQ) (WK cB cI cJ cZ cQ q) A [.ref (q 20), .ref (q ta), .int (iI 5), .int (iI x3)] (fun z u => IK u ∧ fk [21] [] A u ∧ (0 ≤ z ∧ z ≤ 1)) := by
  refine k_metz (cc := cX2_giveKeys) (maxL := 5) WK_adr (plainFor_of_name (by decide +kernel)) rfl (Nat.le_of_ble_eq_true rfl) (fun z u h => h.2.2) (fun p e s m below meth c Q AS ls hx hb hml hown hts hK hDD hA0 hE RET H locs hP hS hl => ?_)
  have hown : s.vm.findClass RX2 = some m.cls := hown
  have hl : lv_has ls 5 [(0, .ref (q 20)), (1, .ref (q ta)), (2, .int (iI 5)), (3, .int (iI x3))] := hl
  have hiX9 : ∀ w ∈ u_ws RX9 TX9 16, w ∈ ws_kc_X2_giveKeys_2_5 := fun w h => List.mem_cons_of_mem _ (wy_layX9 w h)
  have hiX2 : ∀ w ∈ u_ws RX2 TX2 1, w ∈ ws_kc_X2_giveKeys_2_5 := fun w h => List.mem_cons_of_mem _ (wy_layX2 w h)
  refine lv_iload_n hx hb dX2_giveKeys_0 rfl (lv_at hl 2 rfl) ?_
  refine lv_aload_n hx hb dX2_giveKeys_1 rfl (lv_at hl 1 rfl) ?_
  refine va_get (D := (dC, dI)) (ci := 9) (v := .ref (q (ta + 1))) (C := RX9) (T := TX9) (N := 16) hx hb hts hiX9 hown hK hP ta (wkT hta) rfl 0 (by decide) (hts _ (List.mem_cons_of_mem _ (wk_in_3 _ (List.mem_of_getElem? (i := 31) rfl)))) (fun _ h9 => h9) rfl dX2_giveKeys_2 ?_
  refine lv_bipush (v := iI 6) hx hb dX2_giveKeys_5 (by decide +kernel) ?_
  refine x_iald (Wf := WK cB cI cJ cZ cQ q) hx hb hK hP (ta + 1) 1 (wkTc hta) rfl (by decide) (by decide) dX2_giveKeys_7 (fun z1 hz1 => ?_)
  have rz1 : (0 : Int) ≤ z1 ∧ z1 ≤ 6 := by rw [hz1]; exact irTc6 hta hI
  refine lv_icmp_ge (tgt := 17) hx hb dX2_giveKeys_8 (by decide) (fun c2 => ?_) (fun c2 => ?_)
  · have c2 : z1 ≤ 5 := (i_le (rb rz1 (by decide) (by decide)) ⟨by decide, by decide⟩).mp c2
    refine lv_iconst (v := iI 1) hx hb dX2_giveKeys_17 (by decide +kernel) ?_
    exact RET 1 _ _ _ _ _ ⟨hI, fk.rf, ⟨by decide, by decide⟩⟩ hP hS dX2_giveKeys_18
  · have c2 : ¬ z1 ≤ 5 := mt (i_le (rb rz1 (by decide) (by decide)) ⟨by decide, by decide⟩).mpr c2
    refine lv_iload_n hx hb dX2_giveKeys_11 rfl (lv_at hl 2 rfl) ?_
    refine lv_bipush (v := iI 6) hx hb dX2_giveKeys_12 (by decide +kernel) ?_
    refine lv_icmp_lt (tgt := 19) hx hb dX2_giveKeys_14 (by decide) (fun _ => ?_) (fun c3 => absurd c3 (by decide +kernel))
    refine lv_iconst (v := iI 0) hx hb dX2_giveKeys_19 (by decide +kernel) ?_
    refine lv_istore (lv' := [(4, .int (iI 0)), (0, .ref (q 20)), (1, .ref (q ta)), (2, .int (iI 5)), (3, .int (iI x3))]) hx hb dX2_giveKeys_20 hl (by decide) rfl (fun ls hl => ?_)
    have L22_7 : ∀ (n10 : Nat) (z4 : Int) (A6 : St) (H : Heap) (locs : List Loc) (ls : Array Slot), (0 ≤ z4 ∧ z4 ≤ 2147483647) → ((2147483648 - z4).toNat = n10) → IK A6 → fk [21] [] A A6 → va_P (dC, dI) vwCl (WK cB cI cJ cZ cQ q A6) H → va_S AS s.heap H locs → lv_has ls 5 [(4, .int (iI z4)), (0, .ref (q 20)), (1, .ref (q ta)), (2, .int (iI 5)), (3, .int (iI x3))] → W p l e (headSpec ws_kc_X2_giveKeys_2_5 ({ frames := 3, cells := 0, slots := 0, locals := 72 } : Room)).room s m [.ref (q 20), .ref (q ta), .int (iI 5), .int (iI x3)].toArray below meth c H locs 0 0 Q (F0 m 22 ls []) := by
      intro n10
      induction n10 using Nat.strongRecOn with
      | ind n10 ih8 =>
        intro z4 A6 H locs ls f9 hn10 hI hj5 hP hS hl
        refine lv_iload hx hb dX2_giveKeys_22 (lv_at hl 0 rfl) ?_
        refine lv_iload_n hx hb dX2_giveKeys_24 rfl (lv_at hl 4 rfl) ?_
        refine lv_icmp_ge (tgt := 67) hx hb dX2_giveKeys_25 (by decide) (fun c11 => ?_) (fun c11 => ?_)
        · have c11 : x3 ≤ z4 := (i_le hx3 (rb f9 (by decide) (by decide))).mp c11
          refine lv_iconst (v := iI 0) hx hb dX2_giveKeys_67 (by decide +kernel) ?_
          exact RET 0 _ _ _ _ _ ⟨hI, fk.trans (fk.rf) hj5 rfl rfl, ⟨by decide, by decide⟩⟩ hP hS dX2_giveKeys_68
        · have c11 : ¬ x3 ≤ z4 := mt (i_le hx3 (rb f9 (by decide) (by decide))).mpr c11
          refine lv_aload_n hx hb dX2_giveKeys_28 rfl (lv_at hl 1 rfl) ?_
          refine lv_aload_n hx hb dX2_giveKeys_29 rfl (lv_at hl 2 rfl) ?_
          refine lv_iload_n hx hb dX2_giveKeys_30 rfl (lv_at hl 3 rfl) ?_
          refine lv_iload hx hb dX2_giveKeys_31 (lv_at hl 0 rfl) ?_
          refine k_calli (As := [.ref (q ta), .int (iI 5), .int (iI z4)]) (rest := []) ⟨hx, hb, hml, hown, hts⟩ hE (kc_X2_canTake l dC dI cB cI cJ cZ cQ aL aS q _ ta 5 z4 hI hta ⟨by decide, by decide⟩ (rb f9 (by decide) (by decide))) (cwV 3 hts (goodVk (wk_in_3 _ (List.mem_of_getElem? (i := 46) rfl)) (wk_in_3 _ (List.mem_of_getElem? (i := 47) rfl)) (wk_in_3 _ (List.mem_of_getElem? (i := 48) rfl)) (wk_in_3 _ (List.mem_of_getElem? (i := 34) rfl)) (wk_in_3 _ (List.mem_of_getElem? (i := 49) rfl))) rfl rfl rfl (by decide +kernel) ⟨Nat.le_of_ble_eq_true rfl, Nat.le_of_ble_eq_true rfl⟩) hK hDD hA0 hP hS 20 2 (wkHR) rfl rfl hl.1 (Nat.le_of_ble_eq_true rfl) dX2_giveKeys_33 (fun z12 A13 H locs hw14 hP hS => ?_)
          obtain ⟨rfl, hw14⟩ := hw14
          have J61_16 : ∀ (A24 : St) (H : Heap) (locs : List Loc) (ls : Array Slot), IK A24 → fk [21] [] A6 A24 → va_P (dC, dI) vwCl (WK cB cI cJ cZ cQ q A24) H → va_S AS s.heap H locs → lv_has ls 5 [(4, .int (iI z4)), (0, .ref (q 20)), (1, .ref (q ta)), (2, .int (iI 5)), (3, .int (iI x3))] → W p l e (headSpec ws_kc_X2_giveKeys_2_5 ({ frames := 3, cells := 0, slots := 0, locals := 72 } : Room)).room s m [.ref (q 20), .ref (q ta), .int (iI 5), .int (iI x3)].toArray below meth c H locs 0 0 Q (F0 m 61 ls []) := by
            intro A24 H locs ls hI hj23 hP hS hl
            refine lv_iinc (v := iI (z4 + 1)) (lv' := [(4, .int (iI (z4 + 1))), (0, .ref (q 20)), (1, .ref (q ta)), (2, .int (iI 5)), (3, .int (iI x3))]) hx hb dX2_giveKeys_61 hl (k := 0) rfl (i_inc (by omega)) (by decide) rfl (fun ls hl => ?_)
            refine lv_goto (tgt := 22) hx hb dX2_giveKeys_64 (by decide) ?_
            exact ih8 _ (by omega) (z4 + 1) _ _ _ _ (by omega) rfl hI (fk.trans (fk.trans (fk.rf) hj5 rfl rfl) hj23 rfl rfl) hP hS (lv_sub hl [0, 1, 2, 3, 4] rfl)
          refine lv_if_eq (tgt := 61) hx hb dX2_giveKeys_36 (by decide) (fun c15 => ?_) (fun c15 => ?_)
          · have c15 : z12 = 0 := (i_eq0 (rb hw14 (by decide) (by decide))).mp c15
            exact J61_16 _ _ _ _ hI (fk.rf) hP hS (lv_sub hl [0, 1, 2, 3, 4] rfl)
          · have c15 : ¬ z12 = 0 := mt (i_eq0 (rb hw14 (by decide) (by decide))).mpr c15
            refine lv_aload_n hx hb dX2_giveKeys_39 rfl (lv_at hl 1 rfl) ?_
            refine va_get (D := (dC, dI)) (ci := 2) (v := .ref (q 21)) (C := RX2) (T := TX2) (N := 1) hx hb hts hiX2 hown hK hP 20 (wkHR) rfl 0 (by decide) (hts _ (List.mem_cons_of_mem _ (wk_in_3 _ (List.mem_of_getElem? (i := 45) rfl)))) (fun _ h9 => h9) rfl dX2_giveKeys_40 ?_
            refine lv_iload_n hx hb dX2_giveKeys_43 rfl (lv_at hl 3 rfl) ?_
            refine lv_iload hx hb dX2_giveKeys_44 (lv_at hl 0 rfl) ?_
            refine k_iast (Wf := WK cB cI cJ cZ cQ q) hx hb hK hP hDD hS 21 1 (wkHRk) rfl (by decide) (by decide) dX2_giveKeys_46 (wsHRk) (fun H locs A17 hA17 hP hS => ?_)
            have hI := isHRk hA17 hI (show (-2147483648 : Int) ≤ z4 ∧ z4 ≤ 2147483647 from (rb f9 (by decide) (by decide)))
            refine lv_aload_n hx hb dX2_giveKeys_47 rfl (lv_at hl 1 rfl) ?_
            refine lv_aload_n hx hb dX2_giveKeys_48 rfl (lv_at hl 2 rfl) ?_
            refine lv_iload_n hx hb dX2_giveKeys_49 rfl (lv_at hl 3 rfl) ?_
            refine lv_iconst (v := iI 1) hx hb dX2_giveKeys_50 (by decide +kernel) ?_
            refine x_addv (v := 6) hx hb dX2_giveKeys_51 (by omega) ?_
            refine lv_iload_n hx hb dX2_giveKeys_52 rfl (lv_at hl 4 rfl) ?_
            refine k_calli (As := [.ref (q ta), .int (iI 6), .int (iI x3)]) (rest := []) ⟨hx, hb, hml, hown, hts⟩ hE (kc_X2_giveKeys_2_6 l dC dI cB cI cJ cZ cQ aL aS q _ ta x3 hI hta hx3) (cwV 3 hts (goodVk (wk_in_3 _ (List.mem_of_getElem? (i := 41) rfl)) (wk_in_3 _ (List.mem_of_getElem? (i := 42) rfl)) (wk_in_3 _ (List.mem_of_getElem? (i := 43) rfl)) (wk_in_3 _ (List.mem_of_getElem? (i := 34) rfl)) (wk_in_3 _ (List.mem_of_getElem? (i := 44) rfl))) rfl rfl rfl (by decide +kernel) ⟨Nat.le_of_ble_eq_true rfl, Nat.le_of_ble_eq_true rfl⟩) hK hDD hA0 hP hS 20 2 (wkHR) rfl rfl hl.1 (Nat.le_of_ble_eq_true rfl) dX2_giveKeys_53 (fun z18 A19 H locs hw20 hP hS => ?_)
            obtain ⟨hI, hf21, hw20⟩ := hw20
            refine lv_if_eq (tgt := 61) hx hb dX2_giveKeys_56 (by decide) (fun c22 => ?_) (fun c22 => ?_)
            · have c22 : z18 = 0 := (i_eq0 (rb hw20 (by decide) (by decide))).mp c22
              exact J61_16 _ _ _ _ hI (fk.trans (fk.da (fk.rf) hA17 rfl) hf21 rfl rfl) hP hS (lv_sub hl [0, 1, 2, 3, 4] rfl)
            · have c22 : ¬ z18 = 0 := mt (i_eq0 (rb hw20 (by decide) (by decide))).mpr c22
              refine lv_iconst (v := iI 1) hx hb dX2_giveKeys_59 (by decide +kernel) ?_
              exact RET 1 _ _ _ _ _ ⟨hI, fk.trans (fk.da (fk.trans (fk.rf) hj5 rfl rfl) hA17 rfl) hf21 rfl rfl, ⟨by decide, by decide⟩⟩ hP hS dX2_giveKeys_60
    exact L22_7 _ 0 _ _ _ _ (by omega) rfl hI (fk.rf) hP hS (lv_sub hl [0, 1, 2, 3, 4] rfl)

def ws_kc_X2_giveKeys_2_4 : List Cond := .code yX2_giveKeys cX2_giveKeys 5 (some .boolean) :: WY
set_option maxHeartbeats 4000000 in
set_option maxRecDepth 100000 in
theorem kc_X2_giveKeys_2_4 (l : Launch) (dC : Nat → ClassId) (dI : Nat → Nat → Nat) (cB cI cJ cZ cQ : ClassId) (aL aS : Nat) (q : Nat → Nat) (A : St) (ta : Nat) (x3 : Int) (hI : IK A) (hta : isT ta) (hx3 : (-2147483648 : Int) ≤ x3 ∧ x3 ≤ 2147483647) : KMi l yX2_giveKeys ws_kc_X2_giveKeys_2_4 ({ frames := 4, cells := 0, slots := 0, locals := 96 } : Room) aL aS (dC, dI) (tyA cB cI cJ cZ cQ) (WK cB cI cJ cZ cQ q) A [.ref (q 20), .ref (q ta), .int (iI 4), .int (iI x3)] (fun z u => IK u ∧ fk [21] [] A u ∧ (0 ≤ z ∧ z ≤ 1)) := by
  refine k_metz (cc := cX2_giveKeys) (maxL := 5) WK_adr (plainFor_of_name (by decide +kernel)) rfl (Nat.le_of_ble_eq_true rfl) (fun z u h => h.2.2) (fun p e s m below meth c Q AS ls hx hb hml hown hts hK hDD hA0 hE RET H locs hP hS hl => ?_)
  have hown : s.vm.findClass RX2 = some m.cls := hown
  have hl : lv_has ls 5 [(0, .ref (q 20)), (1, .ref (q ta)), (2, .int (iI 4)), (3, .int (iI x3))] := hl
  have hiX9 : ∀ w ∈ u_ws RX9 TX9 16, w ∈ ws_kc_X2_giveKeys_2_4 := fun w h => List.mem_cons_of_mem _ (wy_layX9 w h)
  have hiX2 : ∀ w ∈ u_ws RX2 TX2 1, w ∈ ws_kc_X2_giveKeys_2_4 := fun w h => List.mem_cons_of_mem _ (wy_layX2 w h)
  refine lv_iload_n hx hb dX2_giveKeys_0 rfl (lv_at hl 2 rfl) ?_
  refine lv_aload_n hx hb dX2_giveKeys_1 rfl (lv_at hl 1 rfl) ?_
  refine va_get (D := (dC, dI)) (ci := 9) (v := .ref (q (ta + 1))) (C := RX9) (T := TX9) (N := 16) hx hb hts hiX9 hown hK hP ta (wkT hta) rfl 0 (by decide) (hts _ (List.mem_cons_of_mem _ (wk_in_3 _ (List.mem_of_getElem? (i := 31) rfl)))) (fun _ h9 => h9) rfl dX2_giveKeys_2 ?_
  refine lv_bipush (v := iI 6) hx hb dX2_giveKeys_5 (by decide +kernel) ?_
  refine x_iald (Wf := WK cB cI cJ cZ cQ q) hx hb hK hP (ta + 1) 1 (wkTc hta) rfl (by decide) (by decide) dX2_giveKeys_7 (fun z1 hz1 => ?_)
  have rz1 : (0 : Int) ≤ z1 ∧ z1 ≤ 6 := by rw [hz1]; exact irTc6 hta hI
  refine lv_icmp_ge (tgt := 17) hx hb dX2_giveKeys_8 (by decide) (fun c2 => ?_) (fun c2 => ?_)
  · have c2 : z1 ≤ 4 := (i_le (rb rz1 (by decide) (by decide)) ⟨by decide, by decide⟩).mp c2
    refine lv_iconst (v := iI 1) hx hb dX2_giveKeys_17 (by decide +kernel) ?_
    exact RET 1 _ _ _ _ _ ⟨hI, fk.rf, ⟨by decide, by decide⟩⟩ hP hS dX2_giveKeys_18
  · have c2 : ¬ z1 ≤ 4 := mt (i_le (rb rz1 (by decide) (by decide)) ⟨by decide, by decide⟩).mpr c2
    refine lv_iload_n hx hb dX2_giveKeys_11 rfl (lv_at hl 2 rfl) ?_
    refine lv_bipush (v := iI 6) hx hb dX2_giveKeys_12 (by decide +kernel) ?_
    refine lv_icmp_lt (tgt := 19) hx hb dX2_giveKeys_14 (by decide) (fun _ => ?_) (fun c3 => absurd c3 (by decide +kernel))
    refine lv_iconst (v := iI 0) hx hb dX2_giveKeys_19 (by decide +kernel) ?_
    refine lv_istore (lv' := [(4, .int (iI 0)), (0, .ref (q 20)), (1, .ref (q ta)), (2, .int (iI 4)), (3, .int (iI x3))]) hx hb dX2_giveKeys_20 hl (by decide) rfl (fun ls hl => ?_)
    have L22_7 : ∀ (n10 : Nat) (z4 : Int) (A6 : St) (H : Heap) (locs : List Loc) (ls : Array Slot), (0 ≤ z4 ∧ z4 ≤ 2147483647) → ((2147483648 - z4).toNat = n10) → IK A6 → fk [21] [] A A6 → va_P (dC, dI) vwCl (WK cB cI cJ cZ cQ q A6) H → va_S AS s.heap H locs → lv_has ls 5 [(4, .int (iI z4)), (0, .ref (q 20)), (1, .ref (q ta)), (2, .int (iI 4)), (3, .int (iI x3))] → W p l e (headSpec ws_kc_X2_giveKeys_2_4 ({ frames := 4, cells := 0, slots := 0, locals := 96 } : Room)).room s m [.ref (q 20), .ref (q ta), .int (iI 4), .int (iI x3)].toArray below meth c H locs 0 0 Q (F0 m 22 ls []) := by
      intro n10
      induction n10 using Nat.strongRecOn with
      | ind n10 ih8 =>
        intro z4 A6 H locs ls f9 hn10 hI hj5 hP hS hl
        refine lv_iload hx hb dX2_giveKeys_22 (lv_at hl 0 rfl) ?_
        refine lv_iload_n hx hb dX2_giveKeys_24 rfl (lv_at hl 4 rfl) ?_
        refine lv_icmp_ge (tgt := 67) hx hb dX2_giveKeys_25 (by decide) (fun c11 => ?_) (fun c11 => ?_)
        · have c11 : x3 ≤ z4 := (i_le hx3 (rb f9 (by decide) (by decide))).mp c11
          refine lv_iconst (v := iI 0) hx hb dX2_giveKeys_67 (by decide +kernel) ?_
          exact RET 0 _ _ _ _ _ ⟨hI, fk.trans (fk.rf) hj5 rfl rfl, ⟨by decide, by decide⟩⟩ hP hS dX2_giveKeys_68
        · have c11 : ¬ x3 ≤ z4 := mt (i_le hx3 (rb f9 (by decide) (by decide))).mpr c11
          refine lv_aload_n hx hb dX2_giveKeys_28 rfl (lv_at hl 1 rfl) ?_
          refine lv_aload_n hx hb dX2_giveKeys_29 rfl (lv_at hl 2 rfl) ?_
          refine lv_iload_n hx hb dX2_giveKeys_30 rfl (lv_at hl 3 rfl) ?_
          refine lv_iload hx hb dX2_giveKeys_31 (lv_at hl 0 rfl) ?_
          refine k_calli (As := [.ref (q ta), .int (iI 4), .int (iI z4)]) (rest := []) ⟨hx, hb, hml, hown, hts⟩ hE (kc_X2_canTake l dC dI cB cI cJ cZ cQ aL aS q _ ta 4 z4 hI hta ⟨by decide, by decide⟩ (rb f9 (by decide) (by decide))) (cwV 3 hts (goodVk (wk_in_3 _ (List.mem_of_getElem? (i := 46) rfl)) (wk_in_3 _ (List.mem_of_getElem? (i := 47) rfl)) (wk_in_3 _ (List.mem_of_getElem? (i := 48) rfl)) (wk_in_3 _ (List.mem_of_getElem? (i := 34) rfl)) (wk_in_3 _ (List.mem_of_getElem? (i := 49) rfl))) rfl rfl rfl (by decide +kernel) ⟨Nat.le_of_ble_eq_true rfl, Nat.le_of_ble_eq_true rfl⟩) hK hDD hA0 hP hS 20 2 (wkHR) rfl rfl hl.1 (Nat.le_of_ble_eq_true rfl) dX2_giveKeys_33 (fun z12 A13 H locs hw14 hP hS => ?_)
          obtain ⟨rfl, hw14⟩ := hw14
          have J61_16 : ∀ (A24 : St) (H : Heap) (locs : List Loc) (ls : Array Slot), IK A24 → fk [21] [] A6 A24 → va_P (dC, dI) vwCl (WK cB cI cJ cZ cQ q A24) H → va_S AS s.heap H locs → lv_has ls 5 [(4, .int (iI z4)), (0, .ref (q 20)), (1, .ref (q ta)), (2, .int (iI 4)), (3, .int (iI x3))] → W p l e (headSpec ws_kc_X2_giveKeys_2_4 ({ frames := 4, cells := 0, slots := 0, locals := 96 } : Room)).room s m [.ref (q 20), .ref (q ta), .int (iI 4), .int (iI x3)].toArray below meth c H locs 0 0 Q (F0 m 61 ls []) := by
            intro A24 H locs ls hI hj23 hP hS hl
            refine lv_iinc (v := iI (z4 + 1)) (lv' := [(4, .int (iI (z4 + 1))), (0, .ref (q 20)), (1, .ref (q ta)), (2, .int (iI 4)), (3, .int (iI x3))]) hx hb dX2_giveKeys_61 hl (k := 0) rfl (i_inc (by omega)) (by decide) rfl (fun ls hl => ?_)
            refine lv_goto (tgt := 22) hx hb dX2_giveKeys_64 (by decide) ?_
            exact ih8 _ (by omega) (z4 + 1) _ _ _ _ (by omega) rfl hI (fk.trans (fk.trans (fk.rf) hj5 rfl rfl) hj23 rfl rfl) hP hS (lv_sub hl [0, 1, 2, 3, 4] rfl)
          refine lv_if_eq (tgt := 61) hx hb dX2_giveKeys_36 (by decide) (fun c15 => ?_) (fun c15 => ?_)
          · have c15 : z12 = 0 := (i_eq0 (rb hw14 (by decide) (by decide))).mp c15
            exact J61_16 _ _ _ _ hI (fk.rf) hP hS (lv_sub hl [0, 1, 2, 3, 4] rfl)
          · have c15 : ¬ z12 = 0 := mt (i_eq0 (rb hw14 (by decide) (by decide))).mpr c15
            refine lv_aload_n hx hb dX2_giveKeys_39 rfl (lv_at hl 1 rfl) ?_
            refine va_get (D := (dC, dI)) (ci := 2) (v := .ref (q 21)) (C := RX2) (T := TX2) (N := 1) hx hb hts hiX2 hown hK hP 20 (wkHR) rfl 0 (by decide) (hts _ (List.mem_cons_of_mem _ (wk_in_3 _ (List.mem_of_getElem? (i := 45) rfl)))) (fun _ h9 => h9) rfl dX2_giveKeys_40 ?_
            refine lv_iload_n hx hb dX2_giveKeys_43 rfl (lv_at hl 3 rfl) ?_
            refine lv_iload hx hb dX2_giveKeys_44 (lv_at hl 0 rfl) ?_
            refine k_iast (Wf := WK cB cI cJ cZ cQ q) hx hb hK hP hDD hS 21 1 (wkHRk) rfl (by decide) (by decide) dX2_giveKeys_46 (wsHRk) (fun H locs A17 hA17 hP hS => ?_)
            have hI := isHRk hA17 hI (show (-2147483648 : Int) ≤ z4 ∧ z4 ≤ 2147483647 from (rb f9 (by decide) (by decide)))
            refine lv_aload_n hx hb dX2_giveKeys_47 rfl (lv_at hl 1 rfl) ?_
            refine lv_aload_n hx hb dX2_giveKeys_48 rfl (lv_at hl 2 rfl) ?_
            refine lv_iload_n hx hb dX2_giveKeys_49 rfl (lv_at hl 3 rfl) ?_
            refine lv_iconst (v := iI 1) hx hb dX2_giveKeys_50 (by decide +kernel) ?_
            refine x_addv (v := 5) hx hb dX2_giveKeys_51 (by omega) ?_
            refine lv_iload_n hx hb dX2_giveKeys_52 rfl (lv_at hl 4 rfl) ?_
            refine k_calli (As := [.ref (q ta), .int (iI 5), .int (iI x3)]) (rest := []) ⟨hx, hb, hml, hown, hts⟩ hE (kc_X2_giveKeys_2_5 l dC dI cB cI cJ cZ cQ aL aS q _ ta x3 hI hta hx3) (cwV 3 hts (goodVk (wk_in_3 _ (List.mem_of_getElem? (i := 41) rfl)) (wk_in_3 _ (List.mem_of_getElem? (i := 42) rfl)) (wk_in_3 _ (List.mem_of_getElem? (i := 43) rfl)) (wk_in_3 _ (List.mem_of_getElem? (i := 34) rfl)) (wk_in_3 _ (List.mem_of_getElem? (i := 44) rfl))) rfl rfl rfl (by decide +kernel) ⟨Nat.le_of_ble_eq_true rfl, Nat.le_of_ble_eq_true rfl⟩) hK hDD hA0 hP hS 20 2 (wkHR) rfl rfl hl.1 (Nat.le_of_ble_eq_true rfl) dX2_giveKeys_53 (fun z18 A19 H locs hw20 hP hS => ?_)
            obtain ⟨hI, hf21, hw20⟩ := hw20
            refine lv_if_eq (tgt := 61) hx hb dX2_giveKeys_56 (by decide) (fun c22 => ?_) (fun c22 => ?_)
            · have c22 : z18 = 0 := (i_eq0 (rb hw20 (by decide) (by decide))).mp c22
              exact J61_16 _ _ _ _ hI (fk.trans (fk.da (fk.rf) hA17 rfl) hf21 rfl rfl) hP hS (lv_sub hl [0, 1, 2, 3, 4] rfl)
            · have c22 : ¬ z18 = 0 := mt (i_eq0 (rb hw20 (by decide) (by decide))).mpr c22
              refine lv_iconst (v := iI 1) hx hb dX2_giveKeys_59 (by decide +kernel) ?_
              exact RET 1 _ _ _ _ _ ⟨hI, fk.trans (fk.da (fk.trans (fk.rf) hj5 rfl rfl) hA17 rfl) hf21 rfl rfl, ⟨by decide, by decide⟩⟩ hP hS dX2_giveKeys_60
    exact L22_7 _ 0 _ _ _ _ (by omega) rfl hI (fk.rf) hP hS (lv_sub hl [0, 1, 2, 3, 4] rfl)

def ws_kc_X2_giveKeys_2_3 : List Cond := .code yX2_giveKeys cX2_giveKeys 5 (some .boolean) :: WY
set_option maxHeartbeats 4000000 in
set_option maxRecDepth 100000 in
theorem kc_X2_giveKeys_2_3 (l : Launch) (dC : Nat → ClassId) (dI : Nat → Nat → Nat) (cB cI cJ cZ cQ : ClassId) (aL aS : Nat) (q : Nat → Nat) (A : St) (ta : Nat) (x3 : Int) (hI : IK A) (hta : isT ta) (hx3 : (-2147483648 : Int) ≤ x3 ∧ x3 ≤ 2147483647) : KMi l yX2_giveKeys ws_kc_X2_giveKeys_2_3 ({ frames := 5, cells := 0, slots := 0, locals := 120 } : Room) aL aS (dC, dI) (tyA cB cI cJ cZ cQ) (WK cB cI cJ cZ cQ q) A [.ref (q 20), .ref (q ta), .int (iI 3), .int (iI x3)] (fun z u => IK u ∧ fk [21] [] A u ∧ (0 ≤ z ∧ z ≤ 1)) := by
  refine k_metz (cc := cX2_giveKeys) (maxL := 5) WK_adr (plainFor_of_name (by decide +kernel)) rfl (Nat.le_of_ble_eq_true rfl) (fun z u h => h.2.2) (fun p e s m below meth c Q AS ls hx hb hml hown hts hK hDD hA0 hE RET H locs hP hS hl => ?_)
  have hown : s.vm.findClass RX2 = some m.cls := hown
  have hl : lv_has ls 5 [(0, .ref (q 20)), (1, .ref (q ta)), (2, .int (iI 3)), (3, .int (iI x3))] := hl
  have hiX9 : ∀ w ∈ u_ws RX9 TX9 16, w ∈ ws_kc_X2_giveKeys_2_3 := fun w h => List.mem_cons_of_mem _ (wy_layX9 w h)
  have hiX2 : ∀ w ∈ u_ws RX2 TX2 1, w ∈ ws_kc_X2_giveKeys_2_3 := fun w h => List.mem_cons_of_mem _ (wy_layX2 w h)
  refine lv_iload_n hx hb dX2_giveKeys_0 rfl (lv_at hl 2 rfl) ?_
  refine lv_aload_n hx hb dX2_giveKeys_1 rfl (lv_at hl 1 rfl) ?_
  refine va_get (D := (dC, dI)) (ci := 9) (v := .ref (q (ta + 1))) (C := RX9) (T := TX9) (N := 16) hx hb hts hiX9 hown hK hP ta (wkT hta) rfl 0 (by decide) (hts _ (List.mem_cons_of_mem _ (wk_in_3 _ (List.mem_of_getElem? (i := 31) rfl)))) (fun _ h9 => h9) rfl dX2_giveKeys_2 ?_
  refine lv_bipush (v := iI 6) hx hb dX2_giveKeys_5 (by decide +kernel) ?_
  refine x_iald (Wf := WK cB cI cJ cZ cQ q) hx hb hK hP (ta + 1) 1 (wkTc hta) rfl (by decide) (by decide) dX2_giveKeys_7 (fun z1 hz1 => ?_)
  have rz1 : (0 : Int) ≤ z1 ∧ z1 ≤ 6 := by rw [hz1]; exact irTc6 hta hI
  refine lv_icmp_ge (tgt := 17) hx hb dX2_giveKeys_8 (by decide) (fun c2 => ?_) (fun c2 => ?_)
  · have c2 : z1 ≤ 3 := (i_le (rb rz1 (by decide) (by decide)) ⟨by decide, by decide⟩).mp c2
    refine lv_iconst (v := iI 1) hx hb dX2_giveKeys_17 (by decide +kernel) ?_
    exact RET 1 _ _ _ _ _ ⟨hI, fk.rf, ⟨by decide, by decide⟩⟩ hP hS dX2_giveKeys_18
  · have c2 : ¬ z1 ≤ 3 := mt (i_le (rb rz1 (by decide) (by decide)) ⟨by decide, by decide⟩).mpr c2
    refine lv_iload_n hx hb dX2_giveKeys_11 rfl (lv_at hl 2 rfl) ?_
    refine lv_bipush (v := iI 6) hx hb dX2_giveKeys_12 (by decide +kernel) ?_
    refine lv_icmp_lt (tgt := 19) hx hb dX2_giveKeys_14 (by decide) (fun _ => ?_) (fun c3 => absurd c3 (by decide +kernel))
    refine lv_iconst (v := iI 0) hx hb dX2_giveKeys_19 (by decide +kernel) ?_
    refine lv_istore (lv' := [(4, .int (iI 0)), (0, .ref (q 20)), (1, .ref (q ta)), (2, .int (iI 3)), (3, .int (iI x3))]) hx hb dX2_giveKeys_20 hl (by decide) rfl (fun ls hl => ?_)
    have L22_7 : ∀ (n10 : Nat) (z4 : Int) (A6 : St) (H : Heap) (locs : List Loc) (ls : Array Slot), (0 ≤ z4 ∧ z4 ≤ 2147483647) → ((2147483648 - z4).toNat = n10) → IK A6 → fk [21] [] A A6 → va_P (dC, dI) vwCl (WK cB cI cJ cZ cQ q A6) H → va_S AS s.heap H locs → lv_has ls 5 [(4, .int (iI z4)), (0, .ref (q 20)), (1, .ref (q ta)), (2, .int (iI 3)), (3, .int (iI x3))] → W p l e (headSpec ws_kc_X2_giveKeys_2_3 ({ frames := 5, cells := 0, slots := 0, locals := 120 } : Room)).room s m [.ref (q 20), .ref (q ta), .int (iI 3), .int (iI x3)].toArray below meth c H locs 0 0 Q (F0 m 22 ls []) := by
      intro n10
      induction n10 using Nat.strongRecOn with
      | ind n10 ih8 =>
        intro z4 A6 H locs ls f9 hn10 hI hj5 hP hS hl
        refine lv_iload hx hb dX2_giveKeys_22 (lv_at hl 0 rfl) ?_
        refine lv_iload_n hx hb dX2_giveKeys_24 rfl (lv_at hl 4 rfl) ?_
        refine lv_icmp_ge (tgt := 67) hx hb dX2_giveKeys_25 (by decide) (fun c11 => ?_) (fun c11 => ?_)
        · have c11 : x3 ≤ z4 := (i_le hx3 (rb f9 (by decide) (by decide))).mp c11
          refine lv_iconst (v := iI 0) hx hb dX2_giveKeys_67 (by decide +kernel) ?_
          exact RET 0 _ _ _ _ _ ⟨hI, fk.trans (fk.rf) hj5 rfl rfl, ⟨by decide, by decide⟩⟩ hP hS dX2_giveKeys_68
        · have c11 : ¬ x3 ≤ z4 := mt (i_le hx3 (rb f9 (by decide) (by decide))).mpr c11
          refine lv_aload_n hx hb dX2_giveKeys_28 rfl (lv_at hl 1 rfl) ?_
          refine lv_aload_n hx hb dX2_giveKeys_29 rfl (lv_at hl 2 rfl) ?_
          refine lv_iload_n hx hb dX2_giveKeys_30 rfl (lv_at hl 3 rfl) ?_
          refine lv_iload hx hb dX2_giveKeys_31 (lv_at hl 0 rfl) ?_
          refine k_calli (As := [.ref (q ta), .int (iI 3), .int (iI z4)]) (rest := []) ⟨hx, hb, hml, hown, hts⟩ hE (kc_X2_canTake l dC dI cB cI cJ cZ cQ aL aS q _ ta 3 z4 hI hta ⟨by decide, by decide⟩ (rb f9 (by decide) (by decide))) (cwV 3 hts (goodVk (wk_in_3 _ (List.mem_of_getElem? (i := 46) rfl)) (wk_in_3 _ (List.mem_of_getElem? (i := 47) rfl)) (wk_in_3 _ (List.mem_of_getElem? (i := 48) rfl)) (wk_in_3 _ (List.mem_of_getElem? (i := 34) rfl)) (wk_in_3 _ (List.mem_of_getElem? (i := 49) rfl))) rfl rfl rfl (by decide +kernel) ⟨Nat.le_of_ble_eq_true rfl, Nat.le_of_ble_eq_true rfl⟩) hK hDD hA0 hP hS 20 2 (wkHR) rfl rfl hl.1 (Nat.le_of_ble_eq_true rfl) dX2_giveKeys_33 (fun z12 A13 H locs hw14 hP hS => ?_)
          obtain ⟨rfl, hw14⟩ := hw14
          have J61_16 : ∀ (A24 : St) (H : Heap) (locs : List Loc) (ls : Array Slot), IK A24 → fk [21] [] A6 A24 → va_P (dC, dI) vwCl (WK cB cI cJ cZ cQ q A24) H → va_S AS s.heap H locs → lv_has ls 5 [(4, .int (iI z4)), (0, .ref (q 20)), (1, .ref (q ta)), (2, .int (iI 3)), (3, .int (iI x3))] → W p l e (headSpec ws_kc_X2_giveKeys_2_3 ({ frames := 5, cells := 0, slots := 0, locals := 120 } : Room)).room s m [.ref (q 20), .ref (q ta), .int (iI 3), .int (iI x3)].toArray below meth c H locs 0 0 Q (F0 m 61 ls []) := by
            intro A24 H locs ls hI hj23 hP hS hl
            refine lv_iinc (v := iI (z4 + 1)) (lv' := [(4, .int (iI (z4 + 1))), (0, .ref (q 20)), (1, .ref (q ta)), (2, .int (iI 3)), (3, .int (iI x3))]) hx hb dX2_giveKeys_61 hl (k := 0) rfl (i_inc (by omega)) (by decide) rfl (fun ls hl => ?_)
            refine lv_goto (tgt := 22) hx hb dX2_giveKeys_64 (by decide) ?_
            exact ih8 _ (by omega) (z4 + 1) _ _ _ _ (by omega) rfl hI (fk.trans (fk.trans (fk.rf) hj5 rfl rfl) hj23 rfl rfl) hP hS (lv_sub hl [0, 1, 2, 3, 4] rfl)
          refine lv_if_eq (tgt := 61) hx hb dX2_giveKeys_36 (by decide) (fun c15 => ?_) (fun c15 => ?_)
          · have c15 : z12 = 0 := (i_eq0 (rb hw14 (by decide) (by decide))).mp c15
            exact J61_16 _ _ _ _ hI (fk.rf) hP hS (lv_sub hl [0, 1, 2, 3, 4] rfl)
          · have c15 : ¬ z12 = 0 := mt (i_eq0 (rb hw14 (by decide) (by decide))).mpr c15
            refine lv_aload_n hx hb dX2_giveKeys_39 rfl (lv_at hl 1 rfl) ?_
            refine va_get (D := (dC, dI)) (ci := 2) (v := .ref (q 21)) (C := RX2) (T := TX2) (N := 1) hx hb hts hiX2 hown hK hP 20 (wkHR) rfl 0 (by decide) (hts _ (List.mem_cons_of_mem _ (wk_in_3 _ (List.mem_of_getElem? (i := 45) rfl)))) (fun _ h9 => h9) rfl dX2_giveKeys_40 ?_
            refine lv_iload_n hx hb dX2_giveKeys_43 rfl (lv_at hl 3 rfl) ?_
            refine lv_iload hx hb dX2_giveKeys_44 (lv_at hl 0 rfl) ?_
            refine k_iast (Wf := WK cB cI cJ cZ cQ q) hx hb hK hP hDD hS 21 1 (wkHRk) rfl (by decide) (by decide) dX2_giveKeys_46 (wsHRk) (fun H locs A17 hA17 hP hS => ?_)
            have hI := isHRk hA17 hI (show (-2147483648 : Int) ≤ z4 ∧ z4 ≤ 2147483647 from (rb f9 (by decide) (by decide)))
            refine lv_aload_n hx hb dX2_giveKeys_47 rfl (lv_at hl 1 rfl) ?_
            refine lv_aload_n hx hb dX2_giveKeys_48 rfl (lv_at hl 2 rfl) ?_
            refine lv_iload_n hx hb dX2_giveKeys_49 rfl (lv_at hl 3 rfl) ?_
            refine lv_iconst (v := iI 1) hx hb dX2_giveKeys_50 (by decide +kernel) ?_
            refine x_addv (v := 4) hx hb dX2_giveKeys_51 (by omega) ?_
            refine lv_iload_n hx hb dX2_giveKeys_52 rfl (lv_at hl 4 rfl) ?_
            refine k_calli (As := [.ref (q ta), .int (iI 4), .int (iI x3)]) (rest := []) ⟨hx, hb, hml, hown, hts⟩ hE (kc_X2_giveKeys_2_4 l dC dI cB cI cJ cZ cQ aL aS q _ ta x3 hI hta hx3) (cwV 3 hts (goodVk (wk_in_3 _ (List.mem_of_getElem? (i := 41) rfl)) (wk_in_3 _ (List.mem_of_getElem? (i := 42) rfl)) (wk_in_3 _ (List.mem_of_getElem? (i := 43) rfl)) (wk_in_3 _ (List.mem_of_getElem? (i := 34) rfl)) (wk_in_3 _ (List.mem_of_getElem? (i := 44) rfl))) rfl rfl rfl (by decide +kernel) ⟨Nat.le_of_ble_eq_true rfl, Nat.le_of_ble_eq_true rfl⟩) hK hDD hA0 hP hS 20 2 (wkHR) rfl rfl hl.1 (Nat.le_of_ble_eq_true rfl) dX2_giveKeys_53 (fun z18 A19 H locs hw20 hP hS => ?_)
            obtain ⟨hI, hf21, hw20⟩ := hw20
            refine lv_if_eq (tgt := 61) hx hb dX2_giveKeys_56 (by decide) (fun c22 => ?_) (fun c22 => ?_)
            · have c22 : z18 = 0 := (i_eq0 (rb hw20 (by decide) (by decide))).mp c22
              exact J61_16 _ _ _ _ hI (fk.trans (fk.da (fk.rf) hA17 rfl) hf21 rfl rfl) hP hS (lv_sub hl [0, 1, 2, 3, 4] rfl)
            · have c22 : ¬ z18 = 0 := mt (i_eq0 (rb hw20 (by decide) (by decide))).mpr c22
              refine lv_iconst (v := iI 1) hx hb dX2_giveKeys_59 (by decide +kernel) ?_
              exact RET 1 _ _ _ _ _ ⟨hI, fk.trans (fk.da (fk.trans (fk.rf) hj5 rfl rfl) hA17 rfl) hf21 rfl rfl, ⟨by decide, by decide⟩⟩ hP hS dX2_giveKeys_60
    exact L22_7 _ 0 _ _ _ _ (by omega) rfl hI (fk.rf) hP hS (lv_sub hl [0, 1, 2, 3, 4] rfl)

def ws_kc_X2_giveKeys_2_2 : List Cond := .code yX2_giveKeys cX2_giveKeys 5 (some .boolean) :: WY
set_option maxHeartbeats 4000000 in
set_option maxRecDepth 100000 in
theorem kc_X2_giveKeys_2_2 (l : Launch) (dC : Nat → ClassId) (dI : Nat → Nat → Nat) (cB cI cJ cZ cQ : ClassId) (aL aS : Nat) (q : Nat → Nat) (A : St) (ta : Nat) (x3 : Int) (hI : IK A) (hta : isT ta) (hx3 : (-2147483648 : Int) ≤ x3 ∧ x3 ≤ 2147483647) : KMi l yX2_giveKeys ws_kc_X2_giveKeys_2_2 ({ frames := 6, cells := 0, slots := 0, locals := 144 } : Room) aL aS (dC, dI) (tyA cB cI cJ cZ cQ) (WK cB cI cJ cZ cQ q) A [.ref (q 20), .ref (q ta), .int (iI 2), .int (iI x3)] (fun z u => IK u ∧ fk [21] [] A u ∧ (0 ≤ z ∧ z ≤ 1)) := by
  refine k_metz (cc := cX2_giveKeys) (maxL := 5) WK_adr (plainFor_of_name (by decide +kernel)) rfl (Nat.le_of_ble_eq_true rfl) (fun z u h => h.2.2) (fun p e s m below meth c Q AS ls hx hb hml hown hts hK hDD hA0 hE RET H locs hP hS hl => ?_)
  have hown : s.vm.findClass RX2 = some m.cls := hown
  have hl : lv_has ls 5 [(0, .ref (q 20)), (1, .ref (q ta)), (2, .int (iI 2)), (3, .int (iI x3))] := hl
  have hiX9 : ∀ w ∈ u_ws RX9 TX9 16, w ∈ ws_kc_X2_giveKeys_2_2 := fun w h => List.mem_cons_of_mem _ (wy_layX9 w h)
  have hiX2 : ∀ w ∈ u_ws RX2 TX2 1, w ∈ ws_kc_X2_giveKeys_2_2 := fun w h => List.mem_cons_of_mem _ (wy_layX2 w h)
  refine lv_iload_n hx hb dX2_giveKeys_0 rfl (lv_at hl 2 rfl) ?_
  refine lv_aload_n hx hb dX2_giveKeys_1 rfl (lv_at hl 1 rfl) ?_
  refine va_get (D := (dC, dI)) (ci := 9) (v := .ref (q (ta + 1))) (C := RX9) (T := TX9) (N := 16) hx hb hts hiX9 hown hK hP ta (wkT hta) rfl 0 (by decide) (hts _ (List.mem_cons_of_mem _ (wk_in_3 _ (List.mem_of_getElem? (i := 31) rfl)))) (fun _ h9 => h9) rfl dX2_giveKeys_2 ?_
  refine lv_bipush (v := iI 6) hx hb dX2_giveKeys_5 (by decide +kernel) ?_
  refine x_iald (Wf := WK cB cI cJ cZ cQ q) hx hb hK hP (ta + 1) 1 (wkTc hta) rfl (by decide) (by decide) dX2_giveKeys_7 (fun z1 hz1 => ?_)
  have rz1 : (0 : Int) ≤ z1 ∧ z1 ≤ 6 := by rw [hz1]; exact irTc6 hta hI
  refine lv_icmp_ge (tgt := 17) hx hb dX2_giveKeys_8 (by decide) (fun c2 => ?_) (fun c2 => ?_)
  · have c2 : z1 ≤ 2 := (i_le (rb rz1 (by decide) (by decide)) ⟨by decide, by decide⟩).mp c2
    refine lv_iconst (v := iI 1) hx hb dX2_giveKeys_17 (by decide +kernel) ?_
    exact RET 1 _ _ _ _ _ ⟨hI, fk.rf, ⟨by decide, by decide⟩⟩ hP hS dX2_giveKeys_18
  · have c2 : ¬ z1 ≤ 2 := mt (i_le (rb rz1 (by decide) (by decide)) ⟨by decide, by decide⟩).mpr c2
    refine lv_iload_n hx hb dX2_giveKeys_11 rfl (lv_at hl 2 rfl) ?_
    refine lv_bipush (v := iI 6) hx hb dX2_giveKeys_12 (by decide +kernel) ?_
    refine lv_icmp_lt (tgt := 19) hx hb dX2_giveKeys_14 (by decide) (fun _ => ?_) (fun c3 => absurd c3 (by decide +kernel))
    refine lv_iconst (v := iI 0) hx hb dX2_giveKeys_19 (by decide +kernel) ?_
    refine lv_istore (lv' := [(4, .int (iI 0)), (0, .ref (q 20)), (1, .ref (q ta)), (2, .int (iI 2)), (3, .int (iI x3))]) hx hb dX2_giveKeys_20 hl (by decide) rfl (fun ls hl => ?_)
    have L22_7 : ∀ (n10 : Nat) (z4 : Int) (A6 : St) (H : Heap) (locs : List Loc) (ls : Array Slot), (0 ≤ z4 ∧ z4 ≤ 2147483647) → ((2147483648 - z4).toNat = n10) → IK A6 → fk [21] [] A A6 → va_P (dC, dI) vwCl (WK cB cI cJ cZ cQ q A6) H → va_S AS s.heap H locs → lv_has ls 5 [(4, .int (iI z4)), (0, .ref (q 20)), (1, .ref (q ta)), (2, .int (iI 2)), (3, .int (iI x3))] → W p l e (headSpec ws_kc_X2_giveKeys_2_2 ({ frames := 6, cells := 0, slots := 0, locals := 144 } : Room)).room s m [.ref (q 20), .ref (q ta), .int (iI 2), .int (iI x3)].toArray below meth c H locs 0 0 Q (F0 m 22 ls []) := by
      intro n10
      induction n10 using Nat.strongRecOn with
      | ind n10 ih8 =>
        intro z4 A6 H locs ls f9 hn10 hI hj5 hP hS hl
        refine lv_iload hx hb dX2_giveKeys_22 (lv_at hl 0 rfl) ?_
        refine lv_iload_n hx hb dX2_giveKeys_24 rfl (lv_at hl 4 rfl) ?_
        refine lv_icmp_ge (tgt := 67) hx hb dX2_giveKeys_25 (by decide) (fun c11 => ?_) (fun c11 => ?_)
        · have c11 : x3 ≤ z4 := (i_le hx3 (rb f9 (by decide) (by decide))).mp c11
          refine lv_iconst (v := iI 0) hx hb dX2_giveKeys_67 (by decide +kernel) ?_
          exact RET 0 _ _ _ _ _ ⟨hI, fk.trans (fk.rf) hj5 rfl rfl, ⟨by decide, by decide⟩⟩ hP hS dX2_giveKeys_68
        · have c11 : ¬ x3 ≤ z4 := mt (i_le hx3 (rb f9 (by decide) (by decide))).mpr c11
          refine lv_aload_n hx hb dX2_giveKeys_28 rfl (lv_at hl 1 rfl) ?_
          refine lv_aload_n hx hb dX2_giveKeys_29 rfl (lv_at hl 2 rfl) ?_
          refine lv_iload_n hx hb dX2_giveKeys_30 rfl (lv_at hl 3 rfl) ?_
          refine lv_iload hx hb dX2_giveKeys_31 (lv_at hl 0 rfl) ?_
          refine k_calli (As := [.ref (q ta), .int (iI 2), .int (iI z4)]) (rest := []) ⟨hx, hb, hml, hown, hts⟩ hE (kc_X2_canTake l dC dI cB cI cJ cZ cQ aL aS q _ ta 2 z4 hI hta ⟨by decide, by decide⟩ (rb f9 (by decide) (by decide))) (cwV 3 hts (goodVk (wk_in_3 _ (List.mem_of_getElem? (i := 46) rfl)) (wk_in_3 _ (List.mem_of_getElem? (i := 47) rfl)) (wk_in_3 _ (List.mem_of_getElem? (i := 48) rfl)) (wk_in_3 _ (List.mem_of_getElem? (i := 34) rfl)) (wk_in_3 _ (List.mem_of_getElem? (i := 49) rfl))) rfl rfl rfl (by decide +kernel) ⟨Nat.le_of_ble_eq_true rfl, Nat.le_of_ble_eq_true rfl⟩) hK hDD hA0 hP hS 20 2 (wkHR) rfl rfl hl.1 (Nat.le_of_ble_eq_true rfl) dX2_giveKeys_33 (fun z12 A13 H locs hw14 hP hS => ?_)
          obtain ⟨rfl, hw14⟩ := hw14
          have J61_16 : ∀ (A24 : St) (H : Heap) (locs : List Loc) (ls : Array Slot), IK A24 → fk [21] [] A6 A24 → va_P (dC, dI) vwCl (WK cB cI cJ cZ cQ q A24) H → va_S AS s.heap H locs → lv_has ls 5 [(4, .int (iI z4)), (0, .ref (q 20)), (1, .ref (q ta)), (2, .int (iI 2)), (3, .int (iI x3))] → W p l e (headSpec ws_kc_X2_giveKeys_2_2 ({ frames := 6, cells := 0, slots := 0, locals := 144 } : Room)).room s m [.ref (q 20), .ref (q ta), .int (iI 2), .int (iI x3)].toArray below meth c H locs 0 0 Q (F0 m 61 ls []) := by
            intro A24 H locs ls hI hj23 hP hS hl
            refine lv_iinc (v := iI (z4 + 1)) (lv' := [(4, .int (iI (z4 + 1))), (0, .ref (q 20)), (1, .ref (q ta)), (2, .int (iI 2)), (3, .int (iI x3))]) hx hb dX2_giveKeys_61 hl (k := 0) rfl (i_inc (by omega)) (by decide) rfl (fun ls hl => ?_)
            refine lv_goto (tgt := 22) hx hb dX2_giveKeys_64 (by decide) ?_
            exact ih8 _ (by omega) (z4 + 1) _ _ _ _ (by omega) rfl hI (fk.trans (fk.trans (fk.rf) hj5 rfl rfl) hj23 rfl rfl) hP hS (lv_sub hl [0, 1, 2, 3, 4] rfl)
          refine lv_if_eq (tgt := 61) hx hb dX2_giveKeys_36 (by decide) (fun c15 => ?_) (fun c15 => ?_)
          · have c15 : z12 = 0 := (i_eq0 (rb hw14 (by decide) (by decide))).mp c15
            exact J61_16 _ _ _ _ hI (fk.rf) hP hS (lv_sub hl [0, 1, 2, 3, 4] rfl)
          · have c15 : ¬ z12 = 0 := mt (i_eq0 (rb hw14 (by decide) (by decide))).mpr c15
            refine lv_aload_n hx hb dX2_giveKeys_39 rfl (lv_at hl 1 rfl) ?_
            refine va_get (D := (dC, dI)) (ci := 2) (v := .ref (q 21)) (C := RX2) (T := TX2) (N := 1) hx hb hts hiX2 hown hK hP 20 (wkHR) rfl 0 (by decide) (hts _ (List.mem_cons_of_mem _ (wk_in_3 _ (List.mem_of_getElem? (i := 45) rfl)))) (fun _ h9 => h9) rfl dX2_giveKeys_40 ?_
            refine lv_iload_n hx hb dX2_giveKeys_43 rfl (lv_at hl 3 rfl) ?_
            refine lv_iload hx hb dX2_giveKeys_44 (lv_at hl 0 rfl) ?_
            refine k_iast (Wf := WK cB cI cJ cZ cQ q) hx hb hK hP hDD hS 21 1 (wkHRk) rfl (by decide) (by decide) dX2_giveKeys_46 (wsHRk) (fun H locs A17 hA17 hP hS => ?_)
            have hI := isHRk hA17 hI (show (-2147483648 : Int) ≤ z4 ∧ z4 ≤ 2147483647 from (rb f9 (by decide) (by decide)))
            refine lv_aload_n hx hb dX2_giveKeys_47 rfl (lv_at hl 1 rfl) ?_
            refine lv_aload_n hx hb dX2_giveKeys_48 rfl (lv_at hl 2 rfl) ?_
            refine lv_iload_n hx hb dX2_giveKeys_49 rfl (lv_at hl 3 rfl) ?_
            refine lv_iconst (v := iI 1) hx hb dX2_giveKeys_50 (by decide +kernel) ?_
            refine x_addv (v := 3) hx hb dX2_giveKeys_51 (by omega) ?_
            refine lv_iload_n hx hb dX2_giveKeys_52 rfl (lv_at hl 4 rfl) ?_
            refine k_calli (As := [.ref (q ta), .int (iI 3), .int (iI x3)]) (rest := []) ⟨hx, hb, hml, hown, hts⟩ hE (kc_X2_giveKeys_2_3 l dC dI cB cI cJ cZ cQ aL aS q _ ta x3 hI hta hx3) (cwV 3 hts (goodVk (wk_in_3 _ (List.mem_of_getElem? (i := 41) rfl)) (wk_in_3 _ (List.mem_of_getElem? (i := 42) rfl)) (wk_in_3 _ (List.mem_of_getElem? (i := 43) rfl)) (wk_in_3 _ (List.mem_of_getElem? (i := 34) rfl)) (wk_in_3 _ (List.mem_of_getElem? (i := 44) rfl))) rfl rfl rfl (by decide +kernel) ⟨Nat.le_of_ble_eq_true rfl, Nat.le_of_ble_eq_true rfl⟩) hK hDD hA0 hP hS 20 2 (wkHR) rfl rfl hl.1 (Nat.le_of_ble_eq_true rfl) dX2_giveKeys_53 (fun z18 A19 H locs hw20 hP hS => ?_)
            obtain ⟨hI, hf21, hw20⟩ := hw20
            refine lv_if_eq (tgt := 61) hx hb dX2_giveKeys_56 (by decide) (fun c22 => ?_) (fun c22 => ?_)
            · have c22 : z18 = 0 := (i_eq0 (rb hw20 (by decide) (by decide))).mp c22
              exact J61_16 _ _ _ _ hI (fk.trans (fk.da (fk.rf) hA17 rfl) hf21 rfl rfl) hP hS (lv_sub hl [0, 1, 2, 3, 4] rfl)
            · have c22 : ¬ z18 = 0 := mt (i_eq0 (rb hw20 (by decide) (by decide))).mpr c22
              refine lv_iconst (v := iI 1) hx hb dX2_giveKeys_59 (by decide +kernel) ?_
              exact RET 1 _ _ _ _ _ ⟨hI, fk.trans (fk.da (fk.trans (fk.rf) hj5 rfl rfl) hA17 rfl) hf21 rfl rfl, ⟨by decide, by decide⟩⟩ hP hS dX2_giveKeys_60
    exact L22_7 _ 0 _ _ _ _ (by omega) rfl hI (fk.rf) hP hS (lv_sub hl [0, 1, 2, 3, 4] rfl)

def ws_kc_X2_giveKeys_2_1 : List Cond := .code yX2_giveKeys cX2_giveKeys 5 (some .boolean) :: WY
set_option maxHeartbeats 4000000 in
set_option maxRecDepth 100000 in
theorem kc_X2_giveKeys_2_1 (l : Launch) (dC : Nat → ClassId) (dI : Nat → Nat → Nat) (cB cI cJ cZ cQ : ClassId) (aL aS : Nat) (q : Nat → Nat) (A : St) (ta : Nat) (x3 : Int) (hI : IK A) (hta : isT ta) (hx3 : (-2147483648 : Int) ≤ x3 ∧ x3 ≤ 2147483647) : KMi l yX2_giveKeys ws_kc_X2_giveKeys_2_1 ({ frames := 7, cells := 0, slots := 0, locals := 168 } : Room) aL aS (dC, dI) (tyA cB cI cJ cZ cQ) (WK cB cI cJ cZ cQ q) A [.ref (q 20), .ref (q ta), .int (iI 1), .int (iI x3)] (fun z u => IK u ∧ fk [21] [] A u ∧ (0 ≤ z ∧ z ≤ 1)) := by
  refine k_metz (cc := cX2_giveKeys) (maxL := 5) WK_adr (plainFor_of_name (by decide +kernel)) rfl (Nat.le_of_ble_eq_true rfl) (fun z u h => h.2.2) (fun p e s m below meth c Q AS ls hx hb hml hown hts hK hDD hA0 hE RET H locs hP hS hl => ?_)
  have hown : s.vm.findClass RX2 = some m.cls := hown
  have hl : lv_has ls 5 [(0, .ref (q 20)), (1, .ref (q ta)), (2, .int (iI 1)), (3, .int (iI x3))] := hl
  have hiX9 : ∀ w ∈ u_ws RX9 TX9 16, w ∈ ws_kc_X2_giveKeys_2_1 := fun w h => List.mem_cons_of_mem _ (wy_layX9 w h)
  have hiX2 : ∀ w ∈ u_ws RX2 TX2 1, w ∈ ws_kc_X2_giveKeys_2_1 := fun w h => List.mem_cons_of_mem _ (wy_layX2 w h)
  refine lv_iload_n hx hb dX2_giveKeys_0 rfl (lv_at hl 2 rfl) ?_
  refine lv_aload_n hx hb dX2_giveKeys_1 rfl (lv_at hl 1 rfl) ?_
  refine va_get (D := (dC, dI)) (ci := 9) (v := .ref (q (ta + 1))) (C := RX9) (T := TX9) (N := 16) hx hb hts hiX9 hown hK hP ta (wkT hta) rfl 0 (by decide) (hts _ (List.mem_cons_of_mem _ (wk_in_3 _ (List.mem_of_getElem? (i := 31) rfl)))) (fun _ h9 => h9) rfl dX2_giveKeys_2 ?_
  refine lv_bipush (v := iI 6) hx hb dX2_giveKeys_5 (by decide +kernel) ?_
  refine x_iald (Wf := WK cB cI cJ cZ cQ q) hx hb hK hP (ta + 1) 1 (wkTc hta) rfl (by decide) (by decide) dX2_giveKeys_7 (fun z1 hz1 => ?_)
  have rz1 : (0 : Int) ≤ z1 ∧ z1 ≤ 6 := by rw [hz1]; exact irTc6 hta hI
  refine lv_icmp_ge (tgt := 17) hx hb dX2_giveKeys_8 (by decide) (fun c2 => ?_) (fun c2 => ?_)
  · have c2 : z1 ≤ 1 := (i_le (rb rz1 (by decide) (by decide)) ⟨by decide, by decide⟩).mp c2
    refine lv_iconst (v := iI 1) hx hb dX2_giveKeys_17 (by decide +kernel) ?_
    exact RET 1 _ _ _ _ _ ⟨hI, fk.rf, ⟨by decide, by decide⟩⟩ hP hS dX2_giveKeys_18
  · have c2 : ¬ z1 ≤ 1 := mt (i_le (rb rz1 (by decide) (by decide)) ⟨by decide, by decide⟩).mpr c2
    refine lv_iload_n hx hb dX2_giveKeys_11 rfl (lv_at hl 2 rfl) ?_
    refine lv_bipush (v := iI 6) hx hb dX2_giveKeys_12 (by decide +kernel) ?_
    refine lv_icmp_lt (tgt := 19) hx hb dX2_giveKeys_14 (by decide) (fun _ => ?_) (fun c3 => absurd c3 (by decide +kernel))
    refine lv_iconst (v := iI 0) hx hb dX2_giveKeys_19 (by decide +kernel) ?_
    refine lv_istore (lv' := [(4, .int (iI 0)), (0, .ref (q 20)), (1, .ref (q ta)), (2, .int (iI 1)), (3, .int (iI x3))]) hx hb dX2_giveKeys_20 hl (by decide) rfl (fun ls hl => ?_)
    have L22_7 : ∀ (n10 : Nat) (z4 : Int) (A6 : St) (H : Heap) (locs : List Loc) (ls : Array Slot), (0 ≤ z4 ∧ z4 ≤ 2147483647) → ((2147483648 - z4).toNat = n10) → IK A6 → fk [21] [] A A6 → va_P (dC, dI) vwCl (WK cB cI cJ cZ cQ q A6) H → va_S AS s.heap H locs → lv_has ls 5 [(4, .int (iI z4)), (0, .ref (q 20)), (1, .ref (q ta)), (2, .int (iI 1)), (3, .int (iI x3))] → W p l e (headSpec ws_kc_X2_giveKeys_2_1 ({ frames := 7, cells := 0, slots := 0, locals := 168 } : Room)).room s m [.ref (q 20), .ref (q ta), .int (iI 1), .int (iI x3)].toArray below meth c H locs 0 0 Q (F0 m 22 ls []) := by
      intro n10
      induction n10 using Nat.strongRecOn with
      | ind n10 ih8 =>
        intro z4 A6 H locs ls f9 hn10 hI hj5 hP hS hl
        refine lv_iload hx hb dX2_giveKeys_22 (lv_at hl 0 rfl) ?_
        refine lv_iload_n hx hb dX2_giveKeys_24 rfl (lv_at hl 4 rfl) ?_
        refine lv_icmp_ge (tgt := 67) hx hb dX2_giveKeys_25 (by decide) (fun c11 => ?_) (fun c11 => ?_)
        · have c11 : x3 ≤ z4 := (i_le hx3 (rb f9 (by decide) (by decide))).mp c11
          refine lv_iconst (v := iI 0) hx hb dX2_giveKeys_67 (by decide +kernel) ?_
          exact RET 0 _ _ _ _ _ ⟨hI, fk.trans (fk.rf) hj5 rfl rfl, ⟨by decide, by decide⟩⟩ hP hS dX2_giveKeys_68
        · have c11 : ¬ x3 ≤ z4 := mt (i_le hx3 (rb f9 (by decide) (by decide))).mpr c11
          refine lv_aload_n hx hb dX2_giveKeys_28 rfl (lv_at hl 1 rfl) ?_
          refine lv_aload_n hx hb dX2_giveKeys_29 rfl (lv_at hl 2 rfl) ?_
          refine lv_iload_n hx hb dX2_giveKeys_30 rfl (lv_at hl 3 rfl) ?_
          refine lv_iload hx hb dX2_giveKeys_31 (lv_at hl 0 rfl) ?_
          refine k_calli (As := [.ref (q ta), .int (iI 1), .int (iI z4)]) (rest := []) ⟨hx, hb, hml, hown, hts⟩ hE (kc_X2_canTake l dC dI cB cI cJ cZ cQ aL aS q _ ta 1 z4 hI hta ⟨by decide, by decide⟩ (rb f9 (by decide) (by decide))) (cwV 3 hts (goodVk (wk_in_3 _ (List.mem_of_getElem? (i := 46) rfl)) (wk_in_3 _ (List.mem_of_getElem? (i := 47) rfl)) (wk_in_3 _ (List.mem_of_getElem? (i := 48) rfl)) (wk_in_3 _ (List.mem_of_getElem? (i := 34) rfl)) (wk_in_3 _ (List.mem_of_getElem? (i := 49) rfl))) rfl rfl rfl (by decide +kernel) ⟨Nat.le_of_ble_eq_true rfl, Nat.le_of_ble_eq_true rfl⟩) hK hDD hA0 hP hS 20 2 (wkHR) rfl rfl hl.1 (Nat.le_of_ble_eq_true rfl) dX2_giveKeys_33 (fun z12 A13 H locs hw14 hP hS => ?_)
          obtain ⟨rfl, hw14⟩ := hw14
          have J61_16 : ∀ (A24 : St) (H : Heap) (locs : List Loc) (ls : Array Slot), IK A24 → fk [21] [] A6 A24 → va_P (dC, dI) vwCl (WK cB cI cJ cZ cQ q A24) H → va_S AS s.heap H locs → lv_has ls 5 [(4, .int (iI z4)), (0, .ref (q 20)), (1, .ref (q ta)), (2, .int (iI 1)), (3, .int (iI x3))] → W p l e (headSpec ws_kc_X2_giveKeys_2_1 ({ frames := 7, cells := 0, slots := 0, locals := 168 } : Room)).room s m [.ref (q 20), .ref (q ta), .int (iI 1), .int (iI x3)].toArray below meth c H locs 0 0 Q (F0 m 61 ls []) := by
            intro A24 H locs ls hI hj23 hP hS hl
            refine lv_iinc (v := iI (z4 + 1)) (lv' := [(4, .int (iI (z4 + 1))), (0, .ref (q 20)), (1, .ref (q ta)), (2, .int (iI 1)), (3, .int (iI x3))]) hx hb dX2_giveKeys_61 hl (k := 0) rfl (i_inc (by omega)) (by decide) rfl (fun ls hl => ?_)
            refine lv_goto (tgt := 22) hx hb dX2_giveKeys_64 (by decide) ?_
            exact ih8 _ (by omega) (z4 + 1) _ _ _ _ (by omega) rfl hI (fk.trans (fk.trans (fk.rf) hj5 rfl rfl) hj23 rfl rfl) hP hS (lv_sub hl [0, 1, 2, 3, 4] rfl)
          refine lv_if_eq (tgt := 61) hx hb dX2_giveKeys_36 (by decide) (fun c15 => ?_) (fun c15 => ?_)
          · have c15 : z12 = 0 := (i_eq0 (rb hw14 (by decide) (by decide))).mp c15
            exact J61_16 _ _ _ _ hI (fk.rf) hP hS (lv_sub hl [0, 1, 2, 3, 4] rfl)
          · have c15 : ¬ z12 = 0 := mt (i_eq0 (rb hw14 (by decide) (by decide))).mpr c15
            refine lv_aload_n hx hb dX2_giveKeys_39 rfl (lv_at hl 1 rfl) ?_
            refine va_get (D := (dC, dI)) (ci := 2) (v := .ref (q 21)) (C := RX2) (T := TX2) (N := 1) hx hb hts hiX2 hown hK hP 20 (wkHR) rfl 0 (by decide) (hts _ (List.mem_cons_of_mem _ (wk_in_3 _ (List.mem_of_getElem? (i := 45) rfl)))) (fun _ h9 => h9) rfl dX2_giveKeys_40 ?_
            refine lv_iload_n hx hb dX2_giveKeys_43 rfl (lv_at hl 3 rfl) ?_
            refine lv_iload hx hb dX2_giveKeys_44 (lv_at hl 0 rfl) ?_
            refine k_iast (Wf := WK cB cI cJ cZ cQ q) hx hb hK hP hDD hS 21 1 (wkHRk) rfl (by decide) (by decide) dX2_giveKeys_46 (wsHRk) (fun H locs A17 hA17 hP hS => ?_)
            have hI := isHRk hA17 hI (show (-2147483648 : Int) ≤ z4 ∧ z4 ≤ 2147483647 from (rb f9 (by decide) (by decide)))
            refine lv_aload_n hx hb dX2_giveKeys_47 rfl (lv_at hl 1 rfl) ?_
            refine lv_aload_n hx hb dX2_giveKeys_48 rfl (lv_at hl 2 rfl) ?_
            refine lv_iload_n hx hb dX2_giveKeys_49 rfl (lv_at hl 3 rfl) ?_
            refine lv_iconst (v := iI 1) hx hb dX2_giveKeys_50 (by decide +kernel) ?_
            refine x_addv (v := 2) hx hb dX2_giveKeys_51 (by omega) ?_
            refine lv_iload_n hx hb dX2_giveKeys_52 rfl (lv_at hl 4 rfl) ?_
            refine k_calli (As := [.ref (q ta), .int (iI 2), .int (iI x3)]) (rest := []) ⟨hx, hb, hml, hown, hts⟩ hE (kc_X2_giveKeys_2_2 l dC dI cB cI cJ cZ cQ aL aS q _ ta x3 hI hta hx3) (cwV 3 hts (goodVk (wk_in_3 _ (List.mem_of_getElem? (i := 41) rfl)) (wk_in_3 _ (List.mem_of_getElem? (i := 42) rfl)) (wk_in_3 _ (List.mem_of_getElem? (i := 43) rfl)) (wk_in_3 _ (List.mem_of_getElem? (i := 34) rfl)) (wk_in_3 _ (List.mem_of_getElem? (i := 44) rfl))) rfl rfl rfl (by decide +kernel) ⟨Nat.le_of_ble_eq_true rfl, Nat.le_of_ble_eq_true rfl⟩) hK hDD hA0 hP hS 20 2 (wkHR) rfl rfl hl.1 (Nat.le_of_ble_eq_true rfl) dX2_giveKeys_53 (fun z18 A19 H locs hw20 hP hS => ?_)
            obtain ⟨hI, hf21, hw20⟩ := hw20
            refine lv_if_eq (tgt := 61) hx hb dX2_giveKeys_56 (by decide) (fun c22 => ?_) (fun c22 => ?_)
            · have c22 : z18 = 0 := (i_eq0 (rb hw20 (by decide) (by decide))).mp c22
              exact J61_16 _ _ _ _ hI (fk.trans (fk.da (fk.rf) hA17 rfl) hf21 rfl rfl) hP hS (lv_sub hl [0, 1, 2, 3, 4] rfl)
            · have c22 : ¬ z18 = 0 := mt (i_eq0 (rb hw20 (by decide) (by decide))).mpr c22
              refine lv_iconst (v := iI 1) hx hb dX2_giveKeys_59 (by decide +kernel) ?_
              exact RET 1 _ _ _ _ _ ⟨hI, fk.trans (fk.da (fk.trans (fk.rf) hj5 rfl rfl) hA17 rfl) hf21 rfl rfl, ⟨by decide, by decide⟩⟩ hP hS dX2_giveKeys_60
    exact L22_7 _ 0 _ _ _ _ (by omega) rfl hI (fk.rf) hP hS (lv_sub hl [0, 1, 2, 3, 4] rfl)

def ws_kc_X2_giveKeys_2_0 : List Cond := .code yX2_giveKeys cX2_giveKeys 5 (some .boolean) :: WY
set_option maxHeartbeats 4000000 in
set_option maxRecDepth 100000 in
theorem kc_X2_giveKeys_2_0 (l : Launch) (dC : Nat → ClassId) (dI : Nat → Nat → Nat) (cB cI cJ cZ cQ : ClassId) (aL aS : Nat) (q : Nat → Nat) (A : St) (ta : Nat) (x3 : Int) (hI : IK A) (hta : isT ta) (hx3 : (-2147483648 : Int) ≤ x3 ∧ x3 ≤ 2147483647) : KMi l yX2_giveKeys ws_kc_X2_giveKeys_2_0 ({ frames := 8, cells := 0, slots := 0, locals := 192 } : Room) aL aS (dC, dI) (tyA cB cI cJ cZ cQ) (WK cB cI cJ cZ cQ q) A [.ref (q 20), .ref (q ta), .int (iI 0), .int (iI x3)] (fun z u => IK u ∧ fk [21] [] A u ∧ (0 ≤ z ∧ z ≤ 1)) := by
  refine k_metz (cc := cX2_giveKeys) (maxL := 5) WK_adr (plainFor_of_name (by decide +kernel)) rfl (Nat.le_of_ble_eq_true rfl) (fun z u h => h.2.2) (fun p e s m below meth c Q AS ls hx hb hml hown hts hK hDD hA0 hE RET H locs hP hS hl => ?_)
  have hown : s.vm.findClass RX2 = some m.cls := hown
  have hl : lv_has ls 5 [(0, .ref (q 20)), (1, .ref (q ta)), (2, .int (iI 0)), (3, .int (iI x3))] := hl
  have hiX9 : ∀ w ∈ u_ws RX9 TX9 16, w ∈ ws_kc_X2_giveKeys_2_0 := fun w h => List.mem_cons_of_mem _ (wy_layX9 w h)
  have hiX2 : ∀ w ∈ u_ws RX2 TX2 1, w ∈ ws_kc_X2_giveKeys_2_0 := fun w h => List.mem_cons_of_mem _ (wy_layX2 w h)
  refine lv_iload_n hx hb dX2_giveKeys_0 rfl (lv_at hl 2 rfl) ?_
  refine lv_aload_n hx hb dX2_giveKeys_1 rfl (lv_at hl 1 rfl) ?_
  refine va_get (D := (dC, dI)) (ci := 9) (v := .ref (q (ta + 1))) (C := RX9) (T := TX9) (N := 16) hx hb hts hiX9 hown hK hP ta (wkT hta) rfl 0 (by decide) (hts _ (List.mem_cons_of_mem _ (wk_in_3 _ (List.mem_of_getElem? (i := 31) rfl)))) (fun _ h9 => h9) rfl dX2_giveKeys_2 ?_
  refine lv_bipush (v := iI 6) hx hb dX2_giveKeys_5 (by decide +kernel) ?_
  refine x_iald (Wf := WK cB cI cJ cZ cQ q) hx hb hK hP (ta + 1) 1 (wkTc hta) rfl (by decide) (by decide) dX2_giveKeys_7 (fun z1 hz1 => ?_)
  have rz1 : (0 : Int) ≤ z1 ∧ z1 ≤ 6 := by rw [hz1]; exact irTc6 hta hI
  refine lv_icmp_ge (tgt := 17) hx hb dX2_giveKeys_8 (by decide) (fun c2 => ?_) (fun c2 => ?_)
  · have c2 : z1 ≤ 0 := (i_le (rb rz1 (by decide) (by decide)) ⟨by decide, by decide⟩).mp c2
    refine lv_iconst (v := iI 1) hx hb dX2_giveKeys_17 (by decide +kernel) ?_
    exact RET 1 _ _ _ _ _ ⟨hI, fk.rf, ⟨by decide, by decide⟩⟩ hP hS dX2_giveKeys_18
  · have c2 : ¬ z1 ≤ 0 := mt (i_le (rb rz1 (by decide) (by decide)) ⟨by decide, by decide⟩).mpr c2
    refine lv_iload_n hx hb dX2_giveKeys_11 rfl (lv_at hl 2 rfl) ?_
    refine lv_bipush (v := iI 6) hx hb dX2_giveKeys_12 (by decide +kernel) ?_
    refine lv_icmp_lt (tgt := 19) hx hb dX2_giveKeys_14 (by decide) (fun _ => ?_) (fun c3 => absurd c3 (by decide +kernel))
    refine lv_iconst (v := iI 0) hx hb dX2_giveKeys_19 (by decide +kernel) ?_
    refine lv_istore (lv' := [(4, .int (iI 0)), (0, .ref (q 20)), (1, .ref (q ta)), (2, .int (iI 0)), (3, .int (iI x3))]) hx hb dX2_giveKeys_20 hl (by decide) rfl (fun ls hl => ?_)
    have L22_7 : ∀ (n10 : Nat) (z4 : Int) (A6 : St) (H : Heap) (locs : List Loc) (ls : Array Slot), (0 ≤ z4 ∧ z4 ≤ 2147483647) → ((2147483648 - z4).toNat = n10) → IK A6 → fk [21] [] A A6 → va_P (dC, dI) vwCl (WK cB cI cJ cZ cQ q A6) H → va_S AS s.heap H locs → lv_has ls 5 [(4, .int (iI z4)), (0, .ref (q 20)), (1, .ref (q ta)), (2, .int (iI 0)), (3, .int (iI x3))] → W p l e (headSpec ws_kc_X2_giveKeys_2_0 ({ frames := 8, cells := 0, slots := 0, locals := 192 } : Room)).room s m [.ref (q 20), .ref (q ta), .int (iI 0), .int (iI x3)].toArray below meth c H locs 0 0 Q (F0 m 22 ls []) := by
      intro n10
      induction n10 using Nat.strongRecOn with
      | ind n10 ih8 =>
        intro z4 A6 H locs ls f9 hn10 hI hj5 hP hS hl
        refine lv_iload hx hb dX2_giveKeys_22 (lv_at hl 0 rfl) ?_
        refine lv_iload_n hx hb dX2_giveKeys_24 rfl (lv_at hl 4 rfl) ?_
        refine lv_icmp_ge (tgt := 67) hx hb dX2_giveKeys_25 (by decide) (fun c11 => ?_) (fun c11 => ?_)
        · have c11 : x3 ≤ z4 := (i_le hx3 (rb f9 (by decide) (by decide))).mp c11
          refine lv_iconst (v := iI 0) hx hb dX2_giveKeys_67 (by decide +kernel) ?_
          exact RET 0 _ _ _ _ _ ⟨hI, fk.trans (fk.rf) hj5 rfl rfl, ⟨by decide, by decide⟩⟩ hP hS dX2_giveKeys_68
        · have c11 : ¬ x3 ≤ z4 := mt (i_le hx3 (rb f9 (by decide) (by decide))).mpr c11
          refine lv_aload_n hx hb dX2_giveKeys_28 rfl (lv_at hl 1 rfl) ?_
          refine lv_aload_n hx hb dX2_giveKeys_29 rfl (lv_at hl 2 rfl) ?_
          refine lv_iload_n hx hb dX2_giveKeys_30 rfl (lv_at hl 3 rfl) ?_
          refine lv_iload hx hb dX2_giveKeys_31 (lv_at hl 0 rfl) ?_
          refine k_calli (As := [.ref (q ta), .int (iI 0), .int (iI z4)]) (rest := []) ⟨hx, hb, hml, hown, hts⟩ hE (kc_X2_canTake l dC dI cB cI cJ cZ cQ aL aS q _ ta 0 z4 hI hta ⟨by decide, by decide⟩ (rb f9 (by decide) (by decide))) (cwV 3 hts (goodVk (wk_in_3 _ (List.mem_of_getElem? (i := 46) rfl)) (wk_in_3 _ (List.mem_of_getElem? (i := 47) rfl)) (wk_in_3 _ (List.mem_of_getElem? (i := 48) rfl)) (wk_in_3 _ (List.mem_of_getElem? (i := 34) rfl)) (wk_in_3 _ (List.mem_of_getElem? (i := 49) rfl))) rfl rfl rfl (by decide +kernel) ⟨Nat.le_of_ble_eq_true rfl, Nat.le_of_ble_eq_true rfl⟩) hK hDD hA0 hP hS 20 2 (wkHR) rfl rfl hl.1 (Nat.le_of_ble_eq_true rfl) dX2_giveKeys_33 (fun z12 A13 H locs hw14 hP hS => ?_)
          obtain ⟨rfl, hw14⟩ := hw14
          have J61_16 : ∀ (A24 : St) (H : Heap) (locs : List Loc) (ls : Array Slot), IK A24 → fk [21] [] A6 A24 → va_P (dC, dI) vwCl (WK cB cI cJ cZ cQ q A24) H → va_S AS s.heap H locs → lv_has ls 5 [(4, .int (iI z4)), (0, .ref (q 20)), (1, .ref (q ta)), (2, .int (iI 0)), (3, .int (iI x3))] → W p l e (headSpec ws_kc_X2_giveKeys_2_0 ({ frames := 8, cells := 0, slots := 0, locals := 192 } : Room)).room s m [.ref (q 20), .ref (q ta), .int (iI 0), .int (iI x3)].toArray below meth c H locs 0 0 Q (F0 m 61 ls []) := by
            intro A24 H locs ls hI hj23 hP hS hl
            refine lv_iinc (v := iI (z4 + 1)) (lv' := [(4, .int (iI (z4 + 1))), (0, .ref (q 20)), (1, .ref (q ta)), (2, .int (iI 0)), (3, .int (iI x3))]) hx hb dX2_giveKeys_61 hl (k := 0) rfl (i_inc (by omega)) (by decide) rfl (fun ls hl => ?_)
            refine lv_goto (tgt := 22) hx hb dX2_giveKeys_64 (by decide) ?_
            exact ih8 _ (by omega) (z4 + 1) _ _ _ _ (by omega) rfl hI (fk.trans (fk.trans (fk.rf) hj5 rfl rfl) hj23 rfl rfl) hP hS (lv_sub hl [0, 1, 2, 3, 4] rfl)
          refine lv_if_eq (tgt := 61) hx hb dX2_giveKeys_36 (by decide) (fun c15 => ?_) (fun c15 => ?_)
          · have c15 : z12 = 0 := (i_eq0 (rb hw14 (by decide) (by decide))).mp c15
            exact J61_16 _ _ _ _ hI (fk.rf) hP hS (lv_sub hl [0, 1, 2, 3, 4] rfl)
          · have c15 : ¬ z12 = 0 := mt (i_eq0 (rb hw14 (by decide) (by decide))).mpr c15
            refine lv_aload_n hx hb dX2_giveKeys_39 rfl (lv_at hl 1 rfl) ?_
            refine va_get (D := (dC, dI)) (ci := 2) (v := .ref (q 21)) (C := RX2) (T := TX2) (N := 1) hx hb hts hiX2 hown hK hP 20 (wkHR) rfl 0 (by decide) (hts _ (List.mem_cons_of_mem _ (wk_in_3 _ (List.mem_of_getElem? (i := 45) rfl)))) (fun _ h9 => h9) rfl dX2_giveKeys_40 ?_
            refine lv_iload_n hx hb dX2_giveKeys_43 rfl (lv_at hl 3 rfl) ?_
            refine lv_iload hx hb dX2_giveKeys_44 (lv_at hl 0 rfl) ?_
            refine k_iast (Wf := WK cB cI cJ cZ cQ q) hx hb hK hP hDD hS 21 1 (wkHRk) rfl (by decide) (by decide) dX2_giveKeys_46 (wsHRk) (fun H locs A17 hA17 hP hS => ?_)
            have hI := isHRk hA17 hI (show (-2147483648 : Int) ≤ z4 ∧ z4 ≤ 2147483647 from (rb f9 (by decide) (by decide)))
            refine lv_aload_n hx hb dX2_giveKeys_47 rfl (lv_at hl 1 rfl) ?_
            refine lv_aload_n hx hb dX2_giveKeys_48 rfl (lv_at hl 2 rfl) ?_
            refine lv_iload_n hx hb dX2_giveKeys_49 rfl (lv_at hl 3 rfl) ?_
            refine lv_iconst (v := iI 1) hx hb dX2_giveKeys_50 (by decide +kernel) ?_
            refine x_addv (v := 1) hx hb dX2_giveKeys_51 (by omega) ?_
            refine lv_iload_n hx hb dX2_giveKeys_52 rfl (lv_at hl 4 rfl) ?_
            refine k_calli (As := [.ref (q ta), .int (iI 1), .int (iI x3)]) (rest := []) ⟨hx, hb, hml, hown, hts⟩ hE (kc_X2_giveKeys_2_1 l dC dI cB cI cJ cZ cQ aL aS q _ ta x3 hI hta hx3) (cwV 3 hts (goodVk (wk_in_3 _ (List.mem_of_getElem? (i := 41) rfl)) (wk_in_3 _ (List.mem_of_getElem? (i := 42) rfl)) (wk_in_3 _ (List.mem_of_getElem? (i := 43) rfl)) (wk_in_3 _ (List.mem_of_getElem? (i := 34) rfl)) (wk_in_3 _ (List.mem_of_getElem? (i := 44) rfl))) rfl rfl rfl (by decide +kernel) ⟨Nat.le_of_ble_eq_true rfl, Nat.le_of_ble_eq_true rfl⟩) hK hDD hA0 hP hS 20 2 (wkHR) rfl rfl hl.1 (Nat.le_of_ble_eq_true rfl) dX2_giveKeys_53 (fun z18 A19 H locs hw20 hP hS => ?_)
            obtain ⟨hI, hf21, hw20⟩ := hw20
            refine lv_if_eq (tgt := 61) hx hb dX2_giveKeys_56 (by decide) (fun c22 => ?_) (fun c22 => ?_)
            · have c22 : z18 = 0 := (i_eq0 (rb hw20 (by decide) (by decide))).mp c22
              exact J61_16 _ _ _ _ hI (fk.trans (fk.da (fk.rf) hA17 rfl) hf21 rfl rfl) hP hS (lv_sub hl [0, 1, 2, 3, 4] rfl)
            · have c22 : ¬ z18 = 0 := mt (i_eq0 (rb hw20 (by decide) (by decide))).mpr c22
              refine lv_iconst (v := iI 1) hx hb dX2_giveKeys_59 (by decide +kernel) ?_
              exact RET 1 _ _ _ _ _ ⟨hI, fk.trans (fk.da (fk.trans (fk.rf) hj5 rfl rfl) hA17 rfl) hf21 rfl rfl, ⟨by decide, by decide⟩⟩ hP hS dX2_giveKeys_60
    exact L22_7 _ 0 _ _ _ _ (by omega) rfl hI (fk.rf) hP hS (lv_sub hl [0, 1, 2, 3, 4] rfl)

def ws_kc_X2_fewestKeys : List Cond := .code yX2_fewestKeys cX2_fewestKeys 3 (some .int) :: WY
set_option maxHeartbeats 4000000 in
set_option maxRecDepth 100000 in
theorem kc_X2_fewestKeys (l : Launch) (dC : Nat → ClassId) (dI : Nat → Nat → Nat) (cB cI cJ cZ cQ : ClassId) (aL aS : Nat) (q : Nat → Nat) (A : St) (ta : Nat) (hI : IK A) (hta : isT ta) : KMi l yX2_fewestKeys ws_kc_X2_fewestKeys ({ frames := 9, cells := 0, slots := 0, locals := 216 } : Room) aL aS (dC, dI) (tyA cB cI cJ cZ cQ) (WK cB cI cJ cZ cQ q) A [.ref (q 20), .ref (q ta)] (fun z u => IK u ∧ fk [21] [] A u ∧ (-2147483648 ≤ z ∧ z ≤ 2147483647)) := by
  refine k_meti (cc := cX2_fewestKeys) (maxL := 3) WK_adr (plainFor_of_name (by decide +kernel)) rfl (Nat.le_of_ble_eq_true rfl) (fun p e s m below meth c Q AS ls hx hb hml hown hts hK hDD hA0 hE RET H locs hP hS hl => ?_)
  have hown : s.vm.findClass RX2 = some m.cls := hown
  have hl : lv_has ls 3 [(0, .ref (q 20)), (1, .ref (q ta))] := hl
  refine lv_iconst (v := iI 0) hx hb dX2_fewestKeys_0 (by decide +kernel) ?_
  refine lv_istore_n (lv' := [(2, .int (iI 0)), (0, .ref (q 20)), (1, .ref (q ta))]) hx hb dX2_fewestKeys_1 rfl hl (by decide) rfl (fun ls hl => ?_)
  have L2_4 : ∀ (n7 : Nat) (z1 : Int) (A3 : St) (H : Heap) (locs : List Loc) (ls : Array Slot), (0 ≤ z1 ∧ z1 ≤ 2147483647) → ((7 - z1).toNat = n7) → IK A3 → fk [21] [] A A3 → va_P (dC, dI) vwCl (WK cB cI cJ cZ cQ q A3) H → va_S AS s.heap H locs → lv_has ls 3 [(2, .int (iI z1)), (0, .ref (q 20)), (1, .ref (q ta))] → W p l e (headSpec ws_kc_X2_fewestKeys ({ frames := 9, cells := 0, slots := 0, locals := 216 } : Room)).room s m [.ref (q 20), .ref (q ta)].toArray below meth c H locs 0 0 Q (F0 m 2 ls []) := by
    intro n7
    induction n7 using Nat.strongRecOn with
    | ind n7 ih5 =>
      intro z1 A3 H locs ls f6 hn7 hI hj2 hP hS hl
      refine lv_iload_n hx hb dX2_fewestKeys_2 rfl (lv_at hl 0 rfl) ?_
      refine lv_bipush (v := iI 6) hx hb dX2_fewestKeys_3 (by decide +kernel) ?_
      refine lv_icmp_gt (tgt := 26) hx hb dX2_fewestKeys_5 (by decide) (fun c8 => ?_) (fun c8 => ?_)
      · have c8 : 6 < z1 := (i_lt ⟨by decide, by decide⟩ (rb f6 (by decide) (by decide))).mp c8
        refine lv_iconst (v := iI (-1)) hx hb dX2_fewestKeys_26 (by decide +kernel) ?_
        exact RET (-1) _ _ _ _ _ ⟨hI, fk.trans (fk.rf) hj2 rfl rfl, ⟨by decide, by decide⟩⟩ hP hS dX2_fewestKeys_27
      · have c8 : ¬ 6 < z1 := mt (i_lt ⟨by decide, by decide⟩ (rb f6 (by decide) (by decide))).mpr c8
        refine lv_aload_n hx hb dX2_fewestKeys_8 rfl (lv_at hl 1 rfl) ?_
        refine lv_aload_n hx hb dX2_fewestKeys_9 rfl (lv_at hl 2 rfl) ?_
        refine lv_iconst (v := iI 0) hx hb dX2_fewestKeys_10 (by decide +kernel) ?_
        refine lv_iload_n hx hb dX2_fewestKeys_11 rfl (lv_at hl 0 rfl) ?_
        refine k_calli (As := [.ref (q ta), .int (iI 0), .int (iI z1)]) (rest := []) ⟨hx, hb, hml, hown, hts⟩ hE (kc_X2_giveKeys_2_0 l dC dI cB cI cJ cZ cQ aL aS q _ ta z1 hI hta (rb f6 (by decide) (by decide))) (cwV 3 hts (goodVk (wk_in_3 _ (List.mem_of_getElem? (i := 41) rfl)) (wk_in_3 _ (List.mem_of_getElem? (i := 42) rfl)) (wk_in_3 _ (List.mem_of_getElem? (i := 43) rfl)) (wk_in_3 _ (List.mem_of_getElem? (i := 34) rfl)) (wk_in_3 _ (List.mem_of_getElem? (i := 44) rfl))) rfl rfl rfl (by decide +kernel) ⟨Nat.le_of_ble_eq_true rfl, Nat.le_of_ble_eq_true rfl⟩) hK hDD hA0 hP hS 20 2 (wkHR) rfl rfl hl.1 (Nat.le_of_ble_eq_true rfl) dX2_fewestKeys_12 (fun z9 A10 H locs hw11 hP hS => ?_)
        obtain ⟨hI, hf12, hw11⟩ := hw11
        refine lv_if_eq (tgt := 20) hx hb dX2_fewestKeys_15 (by decide) (fun c13 => ?_) (fun c13 => ?_)
        · have c13 : z9 = 0 := (i_eq0 (rb hw11 (by decide) (by decide))).mp c13
          refine lv_iinc (v := iI (z1 + 1)) (lv' := [(2, .int (iI (z1 + 1))), (0, .ref (q 20)), (1, .ref (q ta))]) hx hb dX2_fewestKeys_20 hl (k := 0) rfl (i_inc (by omega)) (by decide) rfl (fun ls hl => ?_)
          refine lv_goto (tgt := 2) hx hb dX2_fewestKeys_23 (by decide) ?_
          exact ih5 _ (by omega) (z1 + 1) _ _ _ _ (by omega) rfl hI (fk.trans (fk.trans (fk.rf) hj2 rfl rfl) hf12 rfl rfl) hP hS (lv_sub hl [0, 1, 2] rfl)
        · have c13 : ¬ z9 = 0 := mt (i_eq0 (rb hw11 (by decide) (by decide))).mpr c13
          refine lv_iload_n hx hb dX2_fewestKeys_18 rfl (lv_at hl 0 rfl) ?_
          exact RET z1 _ _ _ _ _ ⟨hI, fk.trans (fk.trans (fk.rf) hj2 rfl rfl) hf12 rfl rfl, (rb f6 (by decide) (by decide))⟩ hP hS dX2_fewestKeys_19
  exact L2_4 _ 0 _ _ _ _ (by omega) rfl hI (fk.rf) hP hS (lv_sub hl [0, 1, 2] rfl)

def ws_kc_X2_isAhead : List Cond := .code yX2_isAhead cX2_isAhead 3 (some .boolean) :: WY
set_option maxHeartbeats 4000000 in
set_option maxRecDepth 100000 in
theorem kc_X2_isAhead (l : Launch) (dC : Nat → ClassId) (dI : Nat → Nat → Nat) (cB cI cJ cZ cQ : ClassId) (aL aS : Nat) (q : Nat → Nat) (A : St) (ta : Nat) (x2 x3 : Int) (hI : IK A) (hta : isT ta) (hx2 : (0 : Int) ≤ x2 ∧ x2 ≤ 5) (hx3 : (0 : Int) ≤ x3 ∧ x3 ≤ 5) : KMi l yX2_isAhead ws_kc_X2_isAhead ({ frames := 0, cells := 0, slots := 0, locals := 0 } : Room) aL aS (dC, dI) (tyA cB cI cJ cZ cQ) (WK cB cI cJ cZ cQ q) A [.ref (q ta), .int (iI x2), .int (iI x3)] (fun z u => A = u ∧ (0 ≤ z ∧ z ≤ 1)) := by
  refine k_metz (cc := cX2_isAhead) (maxL := 3) WK_adr (plainFor_of_name (by decide +kernel)) rfl (Nat.le_of_ble_eq_true rfl) (fun z u h => h.2) (fun p e s m below meth c Q AS ls hx hb hml hown hts hK hDD hA0 hE RET H locs hP hS hl => ?_)
  have hown : s.vm.findClass RX2 = some m.cls := hown
  have hl : lv_has ls 3 [(0, .ref (q ta)), (1, .int (iI x2)), (2, .int (iI x3))] := hl
  have hiX9 : ∀ w ∈ u_ws RX9 TX9 16, w ∈ ws_kc_X2_isAhead := fun w h => List.mem_cons_of_mem _ (wy_layX9 w h)
  refine lv_aload_n hx hb dX2_isAhead_0 rfl (lv_at hl 0 rfl) ?_
  refine va_get (D := (dC, dI)) (ci := 9) (v := .ref (q (ta + 14))) (C := RX9) (T := TX9) (N := 16) hx hb hts hiX9 hown hK hP ta (wkT hta) rfl 8 (by decide) (hts _ (List.mem_cons_of_mem _ (wk_in_3 _ (List.mem_of_getElem? (i := 36) rfl)))) (fun _ h9 => h9) rfl dX2_isAhead_1 ?_
  refine lv_iload_n hx hb dX2_isAhead_4 rfl (lv_at hl 1 rfl) ?_
  refine x_iald (Wf := WK cB cI cJ cZ cQ q) hx hb hK hP (ta + 14) 1 (wkTmb hta) rfl (by omega) (by decide) dX2_isAhead_5 (fun z1 hz1 => ?_)
  have rz1 : (-2147483648 : Int) ≤ z1 ∧ z1 ≤ 2147483647 := by rw [hz1]; exact irTmb hta hI
  refine lv_aload_n hx hb dX2_isAhead_6 rfl (lv_at hl 0 rfl) ?_
  refine va_get (D := (dC, dI)) (ci := 9) (v := .ref (q (ta + 14))) (C := RX9) (T := TX9) (N := 16) hx hb hts hiX9 hown hK hP ta (wkT hta) rfl 8 (by decide) (hts _ (List.mem_cons_of_mem _ (wk_in_3 _ (List.mem_of_getElem? (i := 36) rfl)))) (fun _ h9 => h9) rfl dX2_isAhead_7 ?_
  refine lv_iload_n hx hb dX2_isAhead_10 rfl (lv_at hl 2 rfl) ?_
  refine x_iald (Wf := WK cB cI cJ cZ cQ q) hx hb hK hP (ta + 14) 1 (wkTmb hta) rfl (by omega) (by decide) dX2_isAhead_11 (fun z2 hz2 => ?_)
  have rz2 : (-2147483648 : Int) ≤ z2 ∧ z2 ≤ 2147483647 := by rw [hz2]; exact irTmb hta hI
  refine lv_icmp_eq (tgt := 36) hx hb dX2_isAhead_12 (by decide) (fun c3 => ?_) (fun c3 => ?_)
  · have c3 : z1 = z2 := (i_eq rz1 rz2).mp c3
    refine lv_aload_n hx hb dX2_isAhead_36 rfl (lv_at hl 0 rfl) ?_
    refine va_get (D := (dC, dI)) (ci := 9) (v := .ref (q (ta + 15))) (C := RX9) (T := TX9) (N := 16) hx hb hts hiX9 hown hK hP ta (wkT hta) rfl 9 (by decide) (hts _ (List.mem_cons_of_mem _ (wk_in_3 _ (List.mem_of_getElem? (i := 37) rfl)))) (fun _ h9 => h9) rfl dX2_isAhead_37 ?_
    refine lv_iload_n hx hb dX2_isAhead_40 rfl (lv_at hl 1 rfl) ?_
    refine x_iald (Wf := WK cB cI cJ cZ cQ q) hx hb hK hP (ta + 15) 1 (wkTme hta) rfl (by omega) (by decide) dX2_isAhead_41 (fun z4 hz4 => ?_)
    have rz4 : (-2147483648 : Int) ≤ z4 ∧ z4 ≤ 2147483647 := by rw [hz4]; exact irTme hta hI
    refine lv_aload_n hx hb dX2_isAhead_42 rfl (lv_at hl 0 rfl) ?_
    refine va_get (D := (dC, dI)) (ci := 9) (v := .ref (q (ta + 15))) (C := RX9) (T := TX9) (N := 16) hx hb hts hiX9 hown hK hP ta (wkT hta) rfl 9 (by decide) (hts _ (List.mem_cons_of_mem _ (wk_in_3 _ (List.mem_of_getElem? (i := 37) rfl)))) (fun _ h9 => h9) rfl dX2_isAhead_43 ?_
    refine lv_iload_n hx hb dX2_isAhead_46 rfl (lv_at hl 2 rfl) ?_
    refine x_iald (Wf := WK cB cI cJ cZ cQ q) hx hb hK hP (ta + 15) 1 (wkTme hta) rfl (by omega) (by decide) dX2_isAhead_47 (fun z5 hz5 => ?_)
    have rz5 : (-2147483648 : Int) ≤ z5 ∧ z5 ≤ 2147483647 := by rw [hz5]; exact irTme hta hI
    refine lv_icmp_eq (tgt := 72) hx hb dX2_isAhead_48 (by decide) (fun c6 => ?_) (fun c6 => ?_)
    · have c6 : z4 = z5 := (i_eq rz4 rz5).mp c6
      refine lv_iload_n hx hb dX2_isAhead_72 rfl (lv_at hl 1 rfl) ?_
      refine lv_iload_n hx hb dX2_isAhead_73 rfl (lv_at hl 2 rfl) ?_
      refine lv_icmp_ge (tgt := 81) hx hb dX2_isAhead_74 (by decide) (fun c7 => ?_) (fun c7 => ?_)
      · have c7 : x3 ≤ x2 := (i_le (rb hx3 (by decide) (by decide)) (rb hx2 (by decide) (by decide))).mp c7
        refine lv_iconst (v := iI 0) hx hb dX2_isAhead_81 (by decide +kernel) ?_
        exact RET 0 _ _ _ _ _ ⟨rfl, ⟨by decide, by decide⟩⟩ hP hS dX2_isAhead_82
      · have c7 : ¬ x3 ≤ x2 := mt (i_le (rb hx3 (by decide) (by decide)) (rb hx2 (by decide) (by decide))).mpr c7
        refine lv_iconst (v := iI 1) hx hb dX2_isAhead_77 (by decide +kernel) ?_
        refine lv_goto (tgt := 82) hx hb dX2_isAhead_78 (by decide) ?_
        exact RET 1 _ _ _ _ _ ⟨rfl, ⟨by decide, by decide⟩⟩ hP hS dX2_isAhead_82
    · have c6 : ¬ z4 = z5 := mt (i_eq rz4 rz5).mpr c6
      refine lv_aload_n hx hb dX2_isAhead_51 rfl (lv_at hl 0 rfl) ?_
      refine va_get (D := (dC, dI)) (ci := 9) (v := .ref (q (ta + 15))) (C := RX9) (T := TX9) (N := 16) hx hb hts hiX9 hown hK hP ta (wkT hta) rfl 9 (by decide) (hts _ (List.mem_cons_of_mem _ (wk_in_3 _ (List.mem_of_getElem? (i := 37) rfl)))) (fun _ h9 => h9) rfl dX2_isAhead_52 ?_
      refine lv_iload_n hx hb dX2_isAhead_55 rfl (lv_at hl 1 rfl) ?_
      refine x_iald (Wf := WK cB cI cJ cZ cQ q) hx hb hK hP (ta + 15) 1 (wkTme hta) rfl (by omega) (by decide) dX2_isAhead_56 (fun z8 hz8 => ?_)
      have rz8 : (-2147483648 : Int) ≤ z8 ∧ z8 ≤ 2147483647 := by rw [hz8]; exact irTme hta hI
      have ez8 : z8 = z4 := hz8.trans hz4.symm
      refine tp_i (y := iI z4) (congrArg iI ez8) ?_
      refine lv_aload_n hx hb dX2_isAhead_57 rfl (lv_at hl 0 rfl) ?_
      refine va_get (D := (dC, dI)) (ci := 9) (v := .ref (q (ta + 15))) (C := RX9) (T := TX9) (N := 16) hx hb hts hiX9 hown hK hP ta (wkT hta) rfl 9 (by decide) (hts _ (List.mem_cons_of_mem _ (wk_in_3 _ (List.mem_of_getElem? (i := 37) rfl)))) (fun _ h9 => h9) rfl dX2_isAhead_58 ?_
      refine lv_iload_n hx hb dX2_isAhead_61 rfl (lv_at hl 2 rfl) ?_
      refine x_iald (Wf := WK cB cI cJ cZ cQ q) hx hb hK hP (ta + 15) 1 (wkTme hta) rfl (by omega) (by decide) dX2_isAhead_62 (fun z9 hz9 => ?_)
      have rz9 : (-2147483648 : Int) ≤ z9 ∧ z9 ≤ 2147483647 := by rw [hz9]; exact irTme hta hI
      have ez9 : z9 = z5 := hz9.trans hz5.symm
      refine tp_i (y := iI z5) (congrArg iI ez9) ?_
      refine lv_icmp_le (tgt := 70) hx hb dX2_isAhead_63 (by decide) (fun c10 => ?_) (fun c10 => ?_)
      · have c10 : z4 ≤ z5 := (i_le rz4 rz5).mp c10
        refine lv_iconst (v := iI 0) hx hb dX2_isAhead_70 (by decide +kernel) ?_
        exact RET 0 _ _ _ _ _ ⟨rfl, ⟨by decide, by decide⟩⟩ hP hS dX2_isAhead_71
      · have c10 : ¬ z4 ≤ z5 := mt (i_le rz4 rz5).mpr c10
        refine lv_iconst (v := iI 1) hx hb dX2_isAhead_66 (by decide +kernel) ?_
        refine lv_goto (tgt := 71) hx hb dX2_isAhead_67 (by decide) ?_
        exact RET 1 _ _ _ _ _ ⟨rfl, ⟨by decide, by decide⟩⟩ hP hS dX2_isAhead_71
  · have c3 : ¬ z1 = z2 := mt (i_eq rz1 rz2).mpr c3
    refine lv_aload_n hx hb dX2_isAhead_15 rfl (lv_at hl 0 rfl) ?_
    refine va_get (D := (dC, dI)) (ci := 9) (v := .ref (q (ta + 14))) (C := RX9) (T := TX9) (N := 16) hx hb hts hiX9 hown hK hP ta (wkT hta) rfl 8 (by decide) (hts _ (List.mem_cons_of_mem _ (wk_in_3 _ (List.mem_of_getElem? (i := 36) rfl)))) (fun _ h9 => h9) rfl dX2_isAhead_16 ?_
    refine lv_iload_n hx hb dX2_isAhead_19 rfl (lv_at hl 1 rfl) ?_
    refine x_iald (Wf := WK cB cI cJ cZ cQ q) hx hb hK hP (ta + 14) 1 (wkTmb hta) rfl (by omega) (by decide) dX2_isAhead_20 (fun z11 hz11 => ?_)
    have rz11 : (-2147483648 : Int) ≤ z11 ∧ z11 ≤ 2147483647 := by rw [hz11]; exact irTmb hta hI
    have ez11 : z11 = z1 := hz11.trans hz1.symm
    refine tp_i (y := iI z1) (congrArg iI ez11) ?_
    refine lv_aload_n hx hb dX2_isAhead_21 rfl (lv_at hl 0 rfl) ?_
    refine va_get (D := (dC, dI)) (ci := 9) (v := .ref (q (ta + 14))) (C := RX9) (T := TX9) (N := 16) hx hb hts hiX9 hown hK hP ta (wkT hta) rfl 8 (by decide) (hts _ (List.mem_cons_of_mem _ (wk_in_3 _ (List.mem_of_getElem? (i := 36) rfl)))) (fun _ h9 => h9) rfl dX2_isAhead_22 ?_
    refine lv_iload_n hx hb dX2_isAhead_25 rfl (lv_at hl 2 rfl) ?_
    refine x_iald (Wf := WK cB cI cJ cZ cQ q) hx hb hK hP (ta + 14) 1 (wkTmb hta) rfl (by omega) (by decide) dX2_isAhead_26 (fun z12 hz12 => ?_)
    have rz12 : (-2147483648 : Int) ≤ z12 ∧ z12 ≤ 2147483647 := by rw [hz12]; exact irTmb hta hI
    have ez12 : z12 = z2 := hz12.trans hz2.symm
    refine tp_i (y := iI z2) (congrArg iI ez12) ?_
    refine lv_icmp_ge (tgt := 34) hx hb dX2_isAhead_27 (by decide) (fun c13 => ?_) (fun c13 => ?_)
    · have c13 : z2 ≤ z1 := (i_le rz2 rz1).mp c13
      refine lv_iconst (v := iI 0) hx hb dX2_isAhead_34 (by decide +kernel) ?_
      exact RET 0 _ _ _ _ _ ⟨rfl, ⟨by decide, by decide⟩⟩ hP hS dX2_isAhead_35
    · have c13 : ¬ z2 ≤ z1 := mt (i_le rz2 rz1).mpr c13
      refine lv_iconst (v := iI 1) hx hb dX2_isAhead_30 (by decide +kernel) ?_
      refine lv_goto (tgt := 35) hx hb dX2_isAhead_31 (by decide) ?_
      exact RET 1 _ _ _ _ _ ⟨rfl, ⟨by decide, by decide⟩⟩ hP hS dX2_isAhead_35

def ws_kc_X2_inOrder : List Cond := .code yX2_inOrder cX2_inOrder 6 (some .int) :: WY
set_option maxHeartbeats 4000000 in
set_option maxRecDepth 100000 in
theorem kc_X2_inOrder (l : Launch) (dC : Nat → ClassId) (dI : Nat → Nat → Nat) (cB cI cJ cZ cQ : ClassId) (aL aS : Nat) (q : Nat → Nat) (A : St) (ta : Nat) (x2 : Int) (hI : IK A) (hta : isT ta) (hx2 : (-2147483648 : Int) ≤ x2 ∧ x2 ≤ 2147483647) : KMi l yX2_inOrder ws_kc_X2_inOrder ({ frames := 1, cells := 0, slots := 0, locals := 22 } : Room) aL aS (dC, dI) (tyA cB cI cJ cZ cQ) (WK cB cI cJ cZ cQ q) A [.ref (q 20), .ref (q ta), .int (iI x2)] (fun z u => A = u ∧ (-2147483648 ≤ z ∧ z ≤ 2147483647)) := by
  refine k_meti (cc := cX2_inOrder) (maxL := 6) WK_adr (plainFor_of_name (by decide +kernel)) rfl (Nat.le_of_ble_eq_true rfl) (fun p e s m below meth c Q AS ls hx hb hml hown hts hK hDD hA0 hE RET H locs hP hS hl => ?_)
  have hown : s.vm.findClass RX2 = some m.cls := hown
  have hl : lv_has ls 6 [(0, .ref (q 20)), (1, .ref (q ta)), (2, .int (iI x2))] := hl
  have hiX9 : ∀ w ∈ u_ws RX9 TX9 16, w ∈ ws_kc_X2_inOrder := fun w h => List.mem_cons_of_mem _ (wy_layX9 w h)
  refine lv_iconst (v := iI 0) hx hb dX2_inOrder_0 (by decide +kernel) ?_
  refine lv_istore_n (lv' := [(3, .int (iI 0)), (0, .ref (q 20)), (1, .ref (q ta)), (2, .int (iI x2))]) hx hb dX2_inOrder_1 rfl hl (by decide) rfl (fun ls hl => ?_)
  have L2_3 : ∀ (n7 : Nat) (z1 : Int) (H : Heap) (locs : List Loc) (ls : Array Slot), (0 ≤ z1 ∧ z1 ≤ 2147483647) → ((7 - z1).toNat = n7) → va_P (dC, dI) vwCl (WK cB cI cJ cZ cQ q A) H → va_S AS s.heap H locs → lv_has ls 6 [(3, .int (iI z1)), (0, .ref (q 20)), (1, .ref (q ta)), (2, .int (iI x2))] → W p l e (headSpec ws_kc_X2_inOrder ({ frames := 1, cells := 0, slots := 0, locals := 22 } : Room)).room s m [.ref (q 20), .ref (q ta), .int (iI x2)].toArray below meth c H locs 0 0 Q (F0 m 2 ls []) := by
    intro n7
    induction n7 using Nat.strongRecOn with
    | ind n7 ih4 =>
      intro z1 H locs ls f5 hn7 hP hS hl
      refine lv_iload_n hx hb dX2_inOrder_2 rfl (lv_at hl 0 rfl) ?_
      refine lv_aload_n hx hb dX2_inOrder_3 rfl (lv_at hl 2 rfl) ?_
      refine va_get (D := (dC, dI)) (ci := 9) (v := .ref (q (ta + 1))) (C := RX9) (T := TX9) (N := 16) hx hb hts hiX9 hown hK hP ta (wkT hta) rfl 0 (by decide) (hts _ (List.mem_cons_of_mem _ (wk_in_3 _ (List.mem_of_getElem? (i := 31) rfl)))) (fun _ h9 => h9) rfl dX2_inOrder_4 ?_
      refine lv_bipush (v := iI 6) hx hb dX2_inOrder_7 (by decide +kernel) ?_
      refine x_iald (Wf := WK cB cI cJ cZ cQ q) hx hb hK hP (ta + 1) 1 (wkTc hta) rfl (by decide) (by decide) dX2_inOrder_9 (fun z8 hz8 => ?_)
      have rz8 : (0 : Int) ≤ z8 ∧ z8 ≤ 6 := by rw [hz8]; exact irTc6 hta hI
      refine lv_icmp_ge (tgt := 64) hx hb dX2_inOrder_10 (by decide) (fun c9 => ?_) (fun c9 => ?_)
      · have c9 : z8 ≤ z1 := (i_le (rb rz8 (by decide) (by decide)) (rb f5 (by decide) (by decide))).mp c9
        refine lv_iconst (v := iI (-1)) hx hb dX2_inOrder_64 (by decide +kernel) ?_
        exact RET (-1) _ _ _ _ _ ⟨rfl, ⟨by decide, by decide⟩⟩ hP hS dX2_inOrder_65
      · have c9 : ¬ z8 ≤ z1 := mt (i_le (rb rz8 (by decide) (by decide)) (rb f5 (by decide) (by decide))).mpr c9
        refine lv_iconst (v := iI 0) hx hb dX2_inOrder_13 (by decide +kernel) ?_
        refine lv_istore (lv' := [(4, .int (iI 0)), (3, .int (iI z1)), (0, .ref (q 20)), (1, .ref (q ta)), (2, .int (iI x2))]) hx hb dX2_inOrder_14 hl (by decide) rfl (fun ls hl => ?_)
        refine lv_iconst (v := iI 0) hx hb dX2_inOrder_16 (by decide +kernel) ?_
        refine lv_istore (lv' := [(5, .int (iI 0)), (4, .int (iI 0)), (3, .int (iI z1)), (0, .ref (q 20)), (1, .ref (q ta)), (2, .int (iI x2))]) hx hb dX2_inOrder_17 hl (by decide) rfl (fun ls hl => ?_)
        have L19_13 : ∀ (n18 : Nat) (z10 z11 : Int) (H : Heap) (locs : List Loc) (ls : Array Slot), (0 ≤ z10 ∧ z10 ≤ 2147483647) → (-2147483648 ≤ z11 ∧ z11 ≤ 2147483647) → ((7 - z10).toNat = n18) → va_P (dC, dI) vwCl (WK cB cI cJ cZ cQ q A) H → va_S AS s.heap H locs → lv_has ls 6 [(5, .int (iI z10)), (4, .int (iI z11)), (3, .int (iI z1)), (0, .ref (q 20)), (1, .ref (q ta)), (2, .int (iI x2))] → W p l e (headSpec ws_kc_X2_inOrder ({ frames := 1, cells := 0, slots := 0, locals := 22 } : Room)).room s m [.ref (q 20), .ref (q ta), .int (iI x2)].toArray below meth c H locs 0 0 Q (F0 m 19 ls []) := by
          intro n18
          induction n18 using Nat.strongRecOn with
          | ind n18 ih14 =>
            intro z10 z11 H locs ls f15 f16 hn18 hP hS hl
            refine lv_iload hx hb dX2_inOrder_19 (lv_at hl 0 rfl) ?_
            refine lv_aload_n hx hb dX2_inOrder_21 rfl (lv_at hl 4 rfl) ?_
            refine va_get (D := (dC, dI)) (ci := 9) (v := .ref (q (ta + 1))) (C := RX9) (T := TX9) (N := 16) hx hb hts hiX9 hown hK hP ta (wkT hta) rfl 0 (by decide) (hts _ (List.mem_cons_of_mem _ (wk_in_3 _ (List.mem_of_getElem? (i := 31) rfl)))) (fun _ h9 => h9) rfl dX2_inOrder_22 ?_
            refine lv_bipush (v := iI 6) hx hb dX2_inOrder_25 (by decide +kernel) ?_
            refine x_iald (Wf := WK cB cI cJ cZ cQ q) hx hb hK hP (ta + 1) 1 (wkTc hta) rfl (by decide) (by decide) dX2_inOrder_27 (fun z19 hz19 => ?_)
            have rz19 : (0 : Int) ≤ z19 ∧ z19 ≤ 6 := by rw [hz19]; exact irTc6 hta hI
            have ez19 : z19 = z8 := hz19.trans hz8.symm
            refine tp_i (y := iI z8) (congrArg iI ez19) ?_
            refine lv_icmp_ge (tgt := 50) hx hb dX2_inOrder_28 (by decide) (fun c20 => ?_) (fun c20 => ?_)
            · have c20 : z8 ≤ z10 := (i_le (rb rz8 (by decide) (by decide)) (rb f15 (by decide) (by decide))).mp c20
              refine lv_iload hx hb dX2_inOrder_50 (lv_at hl 1 rfl) ?_
              refine lv_iload_n hx hb dX2_inOrder_52 rfl (lv_at hl 5 rfl) ?_
              refine lv_icmp_ne (tgt := 58) hx hb dX2_inOrder_53 (by decide) (fun c21 => ?_) (fun c21 => ?_)
              · have c21 : ¬ z11 = x2 := mt (i_eq f16 hx2).mpr c21
                refine lv_iinc (v := iI (z1 + 1)) (lv' := [(3, .int (iI (z1 + 1))), (5, .int (iI z10)), (4, .int (iI z11)), (0, .ref (q 20)), (1, .ref (q ta)), (2, .int (iI x2))]) hx hb dX2_inOrder_58 hl (k := 2) rfl (i_inc (by omega)) (by decide) rfl (fun ls hl => ?_)
                refine lv_goto (tgt := 2) hx hb dX2_inOrder_61 (by decide) ?_
                exact ih4 _ (by omega) (z1 + 1) _ _ _ (by omega) rfl hP hS (lv_sub hl [0, 3, 4, 5] rfl)
              · have c21 : z11 = x2 := (i_eq f16 hx2).mp c21
                refine lv_iload_n hx hb dX2_inOrder_56 rfl (lv_at hl 2 rfl) ?_
                exact RET z1 _ _ _ _ _ ⟨rfl, (rb f5 (by decide) (by decide))⟩ hP hS dX2_inOrder_57
            · have c20 : ¬ z8 ≤ z10 := mt (i_le (rb rz8 (by decide) (by decide)) (rb f15 (by decide) (by decide))).mpr c20
              refine lv_aload_n hx hb dX2_inOrder_31 rfl (lv_at hl 4 rfl) ?_
              refine lv_iload hx hb dX2_inOrder_32 (lv_at hl 0 rfl) ?_
              refine lv_iload_n hx hb dX2_inOrder_34 rfl (lv_at hl 2 rfl) ?_
              refine k_callSi (As := [.ref (q ta), .int (iI z10), .int (iI z1)]) (rest := []) ⟨hx, hb, hml, hown, hts⟩ hE (kc_X2_isAhead l dC dI cB cI cJ cZ cQ aL aS q _ ta z10 z1 hI hta (by omega) (by omega)) (va_cwS 3 hts (goodSk (wk_in_3 _ (List.mem_of_getElem? (i := 51) rfl)) (wk_in_3 _ (List.mem_of_getElem? (i := 52) rfl)) (wk_in_3 _ (List.mem_of_getElem? (i := 34) rfl)) (wk_in_3 _ (List.mem_of_getElem? (i := 53) rfl))) rfl rfl rfl (by decide +kernel) ⟨Nat.le_of_ble_eq_true rfl, Nat.le_of_ble_eq_true rfl⟩) hK hDD hA0 hP hS rfl hl.1 (Nat.le_of_ble_eq_true rfl) dX2_inOrder_35 (fun z22 A23 H locs hw24 hP hS => ?_)
              obtain ⟨rfl, hw24⟩ := hw24
              have J44_26 : ∀ (z28 : Int) (H : Heap) (locs : List Loc) (ls : Array Slot), (-2147483648 ≤ z28 ∧ z28 ≤ 2147483647) → va_P (dC, dI) vwCl (WK cB cI cJ cZ cQ q A) H → va_S AS s.heap H locs → lv_has ls 6 [(5, .int (iI z10)), (4, .int (iI z28)), (3, .int (iI z1)), (0, .ref (q 20)), (1, .ref (q ta)), (2, .int (iI x2))] → W p l e (headSpec ws_kc_X2_inOrder ({ frames := 1, cells := 0, slots := 0, locals := 22 } : Room)).room s m [.ref (q 20), .ref (q ta), .int (iI x2)].toArray below meth c H locs 0 0 Q (F0 m 44 ls []) := by
                intro z28 H locs ls f30 hP hS hl
                refine lv_iinc (v := iI (z10 + 1)) (lv' := [(5, .int (iI (z10 + 1))), (4, .int (iI z28)), (3, .int (iI z1)), (0, .ref (q 20)), (1, .ref (q ta)), (2, .int (iI x2))]) hx hb dX2_inOrder_44 hl (k := 0) rfl (i_inc (by omega)) (by decide) rfl (fun ls hl => ?_)
                refine lv_goto (tgt := 19) hx hb dX2_inOrder_47 (by decide) ?_
                exact ih14 _ (by omega) (z10 + 1) z28 _ _ _ (by omega) (by omega) rfl hP hS (lv_sub hl [0, 1, 2, 3, 4, 5] rfl)
              refine lv_if_eq (tgt := 44) hx hb dX2_inOrder_38 (by decide) (fun c25 => ?_) (fun c25 => ?_)
              · have c25 : z22 = 0 := (i_eq0 (rb hw24 (by decide) (by decide))).mp c25
                exact J44_26 z11 _ _ _ (by omega) hP hS (lv_sub hl [0, 1, 2, 3, 4, 5] rfl)
              · have c25 : ¬ z22 = 0 := mt (i_eq0 (rb hw24 (by decide) (by decide))).mpr c25
                obtain ⟨z27, hz27, ez27⟩ := i_wrap (z11 + 1)
                refine lv_iinc (v := iI z27) (lv' := [(4, .int (iI z27)), (5, .int (iI z10)), (3, .int (iI z1)), (0, .ref (q 20)), (1, .ref (q ta)), (2, .int (iI x2))]) hx hb dX2_inOrder_41 hl (k := 1) rfl ((i_inc (by omega)).trans ez27) (by decide) rfl (fun ls hl => ?_)
                exact J44_26 z27 _ _ _ (by omega) hP hS (lv_sub hl [1, 0, 2, 3, 4, 5] rfl)
        exact L19_13 _ 0 0 _ _ _ (by omega) (by omega) rfl hP hS (lv_sub hl [0, 1, 2, 3, 4, 5] rfl)
  exact L2_3 _ 0 _ _ _ (by omega) rfl hP hS (lv_sub hl [0, 1, 2, 3] rfl)
