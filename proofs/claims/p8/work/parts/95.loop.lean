set_option maxHeartbeats 4000000 in
theorem law_out {p : Program} {e : Env} {s : State} {m : MethodId} {below : List Frame} {meth : Method} {c : Code} (l : Launch) {b L : Nat} {xs : Nat → Int32} (C0 : lw_At p s m meth c b L xs) {H : Heap} {locs : List Loc} {cells slots : Nat} (hc : cells ≤ 600000) (hs : slots ≤ 7302250) {ls : Array Slot} (hS : va_S (fun b : Nat => s.heap.size ≤ b) s.heap H locs) : W p l e room_1 s m #[Value.ref b] below meth c H locs cells slots (lw_Z below #[Value.ref b] s) (F0 m 1279 ls []) := by
  obtain ⟨hx, hb, hr, hml, hown, hts, hX, hbl, hlocks, hgv⟩ := id C0
  refine lv_iconst (v := 1) hx hb dL_law_1279 (by decide +kernel) ?_
  refine va_forget (fun a ha => hS.2.2 a ha) ?_
  refine W.widen (k := 600000) (n := 7302250) hc hs ?_
  exact lw_ret hx hb hr hlocks dL_law_1280
theorem ofNat_iI (L : Nat) : Int32.ofNat L = iI (L : Int) := (Int32.ofInt_eq_ofNat (n := L)).symm
set_option maxHeartbeats 8000000 in
set_option maxRecDepth 100000 in
theorem law_loop {p : Program} {e : Env} {s : State} {m : MethodId} {below : List Frame} {meth : Method} {c : Code} (l : Launch) {b L : Nat} {xs : Nat → Int32} (C0 : lw_At p s m meth c b L xs) (hL : L ≤ 3072) (dC : Nat → ClassId) (dI : Nat → Nat → Nat) (cB cI cJ cZ cQ : ClassId) (aL aS : Nat) (q r : Nat → Nat) (F : LF dC dI cB cI cJ cZ cQ aL aS q r s) {cells slots : Nat} (hcs : cells ≤ room_1.cells ∧ slots ≤ room_1.slots) : ∀ (n : Nat) (i : Int) (B A : St) (H : Heap) (locs : List Loc) (ls : Array Slot), ((L : Int) - i).toNat = n → 0 ≤ i ∧ i ≤ L → LJ B A → LW dC dI cB cI cJ cZ cQ q r s B A H locs → lv_has ls 4 [(0, .ref b), (1, .ref (q 0)), (2, .ref (r 0)), (3, .int (iI i))] → W p l e room_1 s m #[Value.ref b] below meth c H locs cells slots (lw_Z below #[Value.ref b] s) (F0 m 18 ls []) := by
  obtain ⟨hx, hb, hr, hml, hown, hts, hX, hbl, hlocks, hgv⟩ := id C0
  have hbA : ¬ (fun b : Nat => s.heap.size ≤ b) b := Nat.not_le.mpr hbl
  intro n
  induction n using Nat.strongRecOn with
  | ind n ih =>
    intro i B A H locs ls hn hi hJ hW hl
    have hS := hW.2.2
    refine lv_iload_n hx hb dL_law_18 rfl (lv_at hl 3 rfl) ?_
    refine lv_aload_n hx hb dL_law_19 rfl (lv_at hl 0 rfl) ?_
    refine va_slen hx hb hX hbl hbA hS dL_law_20 ?_
    refine tp_i (y := iI (L : Int)) (ofNat_iI L) ?_
    refine lv_bipush (v := iI 6) hx hb dL_law_21 (by decide +kernel) ?_
    refine x_subv (v := (L : Int) - 6) hx hb dL_law_23 rfl ?_
    refine lv_icmp_gt (tgt := 1279) hx hb dL_law_24 (by decide) (fun _ => law_out l C0 hcs.1 hcs.2 hS) (fun c0 => ?_)
    have c0 : i + 6 ≤ (L : Int) := by
      have c1 := mt (i_lt (a := (L : Int) - 6) (b := i) ⟨by omega, by omega⟩ ⟨by omega, by omega⟩).mpr c0
      omega
    refine lv_aload_n hx hb dL_law_27 rfl (lv_at hl 0 rfl) ?_
    refine lv_iload_n hx hb dL_law_28 rfl (lv_at hl 3 rfl) ?_
    refine x_sld (i := i) hx hb hX hbl hbA hS hL (by omega) dL_law_29 ?_
    refine lv_bipush (v := 63) hx hb dL_law_30 (by decide +kernel) ?_
    refine lv_iand hx hb dL_law_32 ?_
    obtain ⟨j, hj, ej⟩ := pk_andE (iI (sx xs i)) (m := 63) 6 (by decide +kernel)
    have hj : j < 64 := hj
    refine tp_i (y := nI j) ej ?_
    have K : ∀ (B A : St) (H : Heap) (locs : List Loc) (ls : Array Slot), LJ B A → LW dC dI cB cI cJ cZ cQ q r s B A H locs → lv_has ls 4 [(0, .ref b), (1, .ref (q 0)), (2, .ref (r 0)), (3, .int (iI i))] → W p l e room_1 s m #[Value.ref b] below meth c H locs cells slots (lw_Z below #[Value.ref b] s) (F0 m 1273 ls []) := by
      intro B A H locs ls hJ hW hl
      refine lv_iinc (v := iI (i + 6)) (lv' := [(3, .int (iI (i + 6))), (0, .ref b), (1, .ref (q 0)), (2, .ref (r 0))]) hx hb dL_law_1273 hl (k := 3) rfl (iI_add i 6) (by decide) rfl (fun ls hl => ?_)
      refine lv_goto (tgt := 18) hx hb dL_law_1276 (by decide) ?_
      exact ih _ (by omega) (i + 6) B A H locs ls rfl (by omega) hJ hW (lv_sub hl [1, 2, 3, 0] rfl)
    by_cases h37 : j < 37
    · rcases (show j = 0 ∨ j = 1 ∨ j = 2 ∨ j = 3 ∨ j = 4 ∨ j = 5 ∨ j = 6 ∨ j = 7 ∨ j = 8 ∨ j = 9 ∨ j = 10 ∨ j = 11 ∨ j = 12 ∨ j = 13 ∨ j = 14 ∨ j = 15 ∨ j = 16 ∨ j = 17 ∨ j = 18 ∨ j = 19 ∨ j = 20 ∨ j = 21 ∨ j = 22 ∨ j = 23 ∨ j = 24 ∨ j = 25 ∨ j = 26 ∨ j = 27 ∨ j = 28 ∨ j = 29 ∨ j = 30 ∨ j = 31 ∨ j = 32 ∨ j = 33 ∨ j = 34 ∨ j = 35 ∨ j = 36 by omega) with rfl | rfl | rfl | rfl | rfl | rfl | rfl | rfl | rfl | rfl | rfl | rfl | rfl | rfl | rfl | rfl | rfl | rfl | rfl | rfl | rfl | rfl | rfl | rfl | rfl | rfl | rfl | rfl | rfl | rfl | rfl | rfl | rfl | rfl | rfl | rfl | rfl
      · refine lv_tableIn (off := 163) (tgt := 196) hx hb dL_law_33 (by decide +kernel) (by decide +kernel) (by decide +kernel) (by decide) ?_
        exact law_case_0 l C0 hL dC dI cB cI cJ cZ cQ aL aS q r F ⟨hi.1, c0⟩ hJ hcs hW hl K
      · refine lv_tableIn (off := 226) (tgt := 259) hx hb dL_law_33 (by decide +kernel) (by decide +kernel) (by decide +kernel) (by decide) ?_
        exact law_case_1 l C0 hL dC dI cB cI cJ cZ cQ aL aS q r F ⟨hi.1, c0⟩ hJ hcs hW hl K
      · refine lv_tableIn (off := 249) (tgt := 282) hx hb dL_law_33 (by decide +kernel) (by decide +kernel) (by decide +kernel) (by decide) ?_
        exact law_case_2 l C0 hL dC dI cB cI cJ cZ cQ aL aS q r F ⟨hi.1, c0⟩ hJ hcs hW hl K
      · refine lv_tableIn (off := 262) (tgt := 295) hx hb dL_law_33 (by decide +kernel) (by decide +kernel) (by decide +kernel) (by decide) ?_
        exact law_case_3 l C0 hL dC dI cB cI cJ cZ cQ aL aS q r F ⟨hi.1, c0⟩ hJ hcs hW hl K
      · refine lv_tableIn (off := 285) (tgt := 318) hx hb dL_law_33 (by decide +kernel) (by decide +kernel) (by decide +kernel) (by decide) ?_
        exact law_case_4 l C0 hL dC dI cB cI cJ cZ cQ aL aS q r F ⟨hi.1, c0⟩ hJ hcs hW hl K
      · refine lv_tableIn (off := 308) (tgt := 341) hx hb dL_law_33 (by decide +kernel) (by decide +kernel) (by decide +kernel) (by decide) ?_
        exact law_case_5 l C0 hL dC dI cB cI cJ cZ cQ aL aS q r F ⟨hi.1, c0⟩ hJ hcs hW hl K
      · refine lv_tableIn (off := 351) (tgt := 384) hx hb dL_law_33 (by decide +kernel) (by decide +kernel) (by decide +kernel) (by decide) ?_
        exact law_case_6 l C0 hL dC dI cB cI cJ cZ cQ aL aS q r F ⟨hi.1, c0⟩ hJ hcs hW hl K
      · refine lv_tableIn (off := 384) (tgt := 417) hx hb dL_law_33 (by decide +kernel) (by decide +kernel) (by decide +kernel) (by decide) ?_
        exact law_case_7 l C0 hL dC dI cB cI cJ cZ cQ aL aS q r F ⟨hi.1, c0⟩ hJ hcs hW hl K
      · refine lv_tableIn (off := 417) (tgt := 450) hx hb dL_law_33 (by decide +kernel) (by decide +kernel) (by decide +kernel) (by decide) ?_
        exact law_case_8 l C0 hL dC dI cB cI cJ cZ cQ aL aS q r F ⟨hi.1, c0⟩ hJ hcs hW hl K
      · refine lv_tableIn (off := 450) (tgt := 483) hx hb dL_law_33 (by decide +kernel) (by decide +kernel) (by decide +kernel) (by decide) ?_
        exact law_case_9 l C0 hL dC dI cB cI cJ cZ cQ aL aS q r F ⟨hi.1, c0⟩ hJ hcs hW hl K
      · refine lv_tableIn (off := 483) (tgt := 516) hx hb dL_law_33 (by decide +kernel) (by decide +kernel) (by decide +kernel) (by decide) ?_
        exact law_case_10 l C0 hL dC dI cB cI cJ cZ cQ aL aS q r F ⟨hi.1, c0⟩ hJ hcs hW hl K
      · refine lv_tableIn (off := 516) (tgt := 549) hx hb dL_law_33 (by decide +kernel) (by decide +kernel) (by decide +kernel) (by decide) ?_
        exact law_case_11 l C0 hL dC dI cB cI cJ cZ cQ aL aS q r F ⟨hi.1, c0⟩ hJ hcs hW hl K
      · refine lv_tableIn (off := 549) (tgt := 582) hx hb dL_law_33 (by decide +kernel) (by decide +kernel) (by decide +kernel) (by decide) ?_
        exact law_case_12 l C0 hL dC dI cB cI cJ cZ cQ aL aS q r F ⟨hi.1, c0⟩ hJ hcs hW hl K
      · refine lv_tableIn (off := 592) (tgt := 625) hx hb dL_law_33 (by decide +kernel) (by decide +kernel) (by decide +kernel) (by decide) ?_
        exact law_case_13 l C0 hL dC dI cB cI cJ cZ cQ aL aS q r F ⟨hi.1, c0⟩ hJ hcs hW hl K
      · refine lv_tableIn (off := 635) (tgt := 668) hx hb dL_law_33 (by decide +kernel) (by decide +kernel) (by decide +kernel) (by decide) ?_
        exact law_case_14 l C0 hL dC dI cB cI cJ cZ cQ aL aS q r F ⟨hi.1, c0⟩ hJ hcs hW hl K
      · refine lv_tableIn (off := 668) (tgt := 701) hx hb dL_law_33 (by decide +kernel) (by decide +kernel) (by decide +kernel) (by decide) ?_
        exact law_case_15 l C0 hL dC dI cB cI cJ cZ cQ aL aS q r F ⟨hi.1, c0⟩ hJ hcs hW hl K
      · refine lv_tableIn (off := 711) (tgt := 744) hx hb dL_law_33 (by decide +kernel) (by decide +kernel) (by decide +kernel) (by decide) ?_
        exact law_case_16 l C0 hL dC dI cB cI cJ cZ cQ aL aS q r F ⟨hi.1, c0⟩ hJ hcs hW hl K
      · refine lv_tableIn (off := 734) (tgt := 767) hx hb dL_law_33 (by decide +kernel) (by decide +kernel) (by decide +kernel) (by decide) ?_
        exact law_case_17 l C0 hL dC dI cB cI cJ cZ cQ aL aS q r F ⟨hi.1, c0⟩ hJ hcs hW hl K
      · refine lv_tableIn (off := 747) (tgt := 780) hx hb dL_law_33 (by decide +kernel) (by decide +kernel) (by decide +kernel) (by decide) ?_
        exact law_case_18 l C0 hL dC dI cB cI cJ cZ cQ aL aS q r F ⟨hi.1, c0⟩ hJ hcs hW hl K
      · refine lv_tableIn (off := 780) (tgt := 813) hx hb dL_law_33 (by decide +kernel) (by decide +kernel) (by decide +kernel) (by decide) ?_
        exact law_case_19 l C0 hL dC dI cB cI cJ cZ cQ aL aS q r F ⟨hi.1, c0⟩ hJ hcs hW hl K
      · refine lv_tableIn (off := 813) (tgt := 846) hx hb dL_law_33 (by decide +kernel) (by decide +kernel) (by decide +kernel) (by decide) ?_
        exact law_case_20 l C0 hL dC dI cB cI cJ cZ cQ aL aS q r F ⟨hi.1, c0⟩ hJ hcs hW hl K
      · refine lv_tableIn (off := 836) (tgt := 869) hx hb dL_law_33 (by decide +kernel) (by decide +kernel) (by decide +kernel) (by decide) ?_
        exact law_case_21 l C0 hL dC dI cB cI cJ cZ cQ aL aS q r F ⟨hi.1, c0⟩ hJ hcs hW hl K
      · refine lv_tableIn (off := 879) (tgt := 912) hx hb dL_law_33 (by decide +kernel) (by decide +kernel) (by decide +kernel) (by decide) ?_
        exact law_case_22 l C0 hL dC dI cB cI cJ cZ cQ aL aS q r F ⟨hi.1, c0⟩ hJ hcs hW hl K
      · refine lv_tableIn (off := 892) (tgt := 925) hx hb dL_law_33 (by decide +kernel) (by decide +kernel) (by decide +kernel) (by decide) ?_
        exact law_case_23 l C0 hL dC dI cB cI cJ cZ cQ aL aS q r F ⟨hi.1, c0⟩ hJ hcs hW hl K
      · refine lv_tableIn (off := 925) (tgt := 958) hx hb dL_law_33 (by decide +kernel) (by decide +kernel) (by decide +kernel) (by decide) ?_
        exact law_case_24 l C0 hL dC dI cB cI cJ cZ cQ aL aS q r F ⟨hi.1, c0⟩ hJ hcs hW hl K
      · refine lv_tableIn (off := 958) (tgt := 991) hx hb dL_law_33 (by decide +kernel) (by decide +kernel) (by decide +kernel) (by decide) ?_
        exact law_case_25 l C0 hL dC dI cB cI cJ cZ cQ aL aS q r F ⟨hi.1, c0⟩ hJ hcs hW hl K
      · refine lv_tableIn (off := 981) (tgt := 1014) hx hb dL_law_33 (by decide +kernel) (by decide +kernel) (by decide +kernel) (by decide) ?_
        exact law_case_26 l C0 hL dC dI cB cI cJ cZ cQ aL aS q r F ⟨hi.1, c0⟩ hJ hcs hW hl K
      · refine lv_tableIn (off := 1004) (tgt := 1037) hx hb dL_law_33 (by decide +kernel) (by decide +kernel) (by decide +kernel) (by decide) ?_
        exact law_case_27 l C0 hL dC dI cB cI cJ cZ cQ aL aS q r F ⟨hi.1, c0⟩ hJ hcs hW hl K
      · refine lv_tableIn (off := 1027) (tgt := 1060) hx hb dL_law_33 (by decide +kernel) (by decide +kernel) (by decide +kernel) (by decide) ?_
        exact law_case_28 l C0 hL dC dI cB cI cJ cZ cQ aL aS q r F ⟨hi.1, c0⟩ hJ hcs hW hl K
      · refine lv_tableIn (off := 1076) (tgt := 1109) hx hb dL_law_33 (by decide +kernel) (by decide +kernel) (by decide +kernel) (by decide) ?_
        exact law_case_29 l C0 hL dC dI cB cI cJ cZ cQ aL aS q r F ⟨hi.1, c0⟩ hJ hcs hW hl K
      · refine lv_tableIn (off := 1099) (tgt := 1132) hx hb dL_law_33 (by decide +kernel) (by decide +kernel) (by decide +kernel) (by decide) ?_
        exact law_case_30 l C0 hL dC dI cB cI cJ cZ cQ aL aS q r F ⟨hi.1, c0⟩ hJ hcs hW hl K
      · refine lv_tableIn (off := 1122) (tgt := 1155) hx hb dL_law_33 (by decide +kernel) (by decide +kernel) (by decide +kernel) (by decide) ?_
        exact law_case_31 l C0 hL dC dI cB cI cJ cZ cQ aL aS q r F ⟨hi.1, c0⟩ hJ hcs hW hl K
      · refine lv_tableIn (off := 1135) (tgt := 1168) hx hb dL_law_33 (by decide +kernel) (by decide +kernel) (by decide +kernel) (by decide) ?_
        exact law_case_32 l C0 hL dC dI cB cI cJ cZ cQ aL aS q r F ⟨hi.1, c0⟩ hJ hcs hW hl K
      · refine lv_tableIn (off := 1168) (tgt := 1201) hx hb dL_law_33 (by decide +kernel) (by decide +kernel) (by decide +kernel) (by decide) ?_
        exact law_case_33 l C0 hL dC dI cB cI cJ cZ cQ aL aS q r F ⟨hi.1, c0⟩ hJ hcs hW hl K
      · refine lv_tableIn (off := 1181) (tgt := 1214) hx hb dL_law_33 (by decide +kernel) (by decide +kernel) (by decide +kernel) (by decide) ?_
        exact law_case_34 l C0 hL dC dI cB cI cJ cZ cQ aL aS q r F ⟨hi.1, c0⟩ hJ hcs hW hl K
      · refine lv_tableIn (off := 1204) (tgt := 1237) hx hb dL_law_33 (by decide +kernel) (by decide +kernel) (by decide +kernel) (by decide) ?_
        exact law_case_35 l C0 hL dC dI cB cI cJ cZ cQ aL aS q r F ⟨hi.1, c0⟩ hJ hcs hW hl K
      · refine lv_tableIn (off := 1217) (tgt := 1250) hx hb dL_law_33 (by decide +kernel) (by decide +kernel) (by decide +kernel) (by decide) ?_
        exact law_case_36 l C0 hL dC dI cB cI cJ cZ cQ aL aS q r F ⟨hi.1, c0⟩ hJ hcs hW hl K
    · refine lv_tableOut (tgt := 1273) hx hb dL_law_33 (Or.inr (by rw [nI_toInt (by omega)]; omega)) (by decide) ?_
      exact K B A H locs ls hJ hW hl
