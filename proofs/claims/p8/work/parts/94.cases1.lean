set_option maxRecDepth 100000 in
theorem gl_6_0 : GoodIn lw_tbl (wsV RL 42 RX11 yX11_door ws_kc_X11_door) := goodVL lt_WY wy_good (t_in_4 _ (List.mem_of_getElem? (i := 28) rfl)) (t_in_4 _ (List.mem_of_getElem? (i := 29) rfl)) (t_in_4 _ (List.mem_of_getElem? (i := 30) rfl)) (t_in_1 _ (List.mem_of_getElem? (i := 1) rfl)) (t_in_4 _ (List.mem_of_getElem? (i := 31) rfl)) (by decide +kernel)
set_option maxRecDepth 100000 in
theorem gl_6_1 : GoodIn lw_tbl (wsV RL 46 RX12 yX12_door_ ws_mc_X12_door_) := goodVL lt_WX wx_good (t_in_8 _ (List.mem_of_getElem? (i := 46) rfl)) (t_in_8 _ (List.mem_of_getElem? (i := 47) rfl)) (t_in_8 _ (List.mem_of_getElem? (i := 48) rfl)) (t_in_1 _ (List.mem_of_getElem? (i := 17) rfl)) (t_in_8 _ (List.mem_of_getElem? (i := 49) rfl)) (by decide +kernel)
set_option maxHeartbeats 4000000 in
set_option maxRecDepth 100000 in
theorem law_case_6 {p : Program} {e : Env} {s : State} {m : MethodId} {below : List Frame} {meth : Method} {c : Code} (l : Launch) {b L : Nat} {xs : Nat → Int32} (C0 : lw_At p s m meth c b L xs) (hL : L ≤ 3072) (dC : Nat → ClassId) (dI : Nat → Nat → Nat) (cB cI cJ cZ cQ : ClassId) (aL aS : Nat) (q r : Nat → Nat) (F : LF dC dI cB cI cJ cZ cQ aL aS q r s) {B A : St} {i : Int} (hi : 0 ≤ i ∧ i + 6 ≤ L) (hJ : LJ B A) {H : Heap} {locs : List Loc} {cells slots : Nat} {ls : Array Slot} (hcs : cells ≤ room_1.cells ∧ slots ≤ room_1.slots) (hW : LW dC dI cB cI cJ cZ cQ q r s B A H locs) (hl : lv_has ls 4 [(0, .ref b), (1, .ref (q 0)), (2, .ref (r 0)), (3, .int (iI i))]) (k : ∀ (B A : St) (H : Heap) (locs : List Loc) (ls : Array Slot), LJ B A → LW dC dI cB cI cJ cZ cQ q r s B A H locs → lv_has ls 4 [(0, .ref b), (1, .ref (q 0)), (2, .ref (r 0)), (3, .int (iI i))] → W p l e room_1 s m #[Value.ref b] below meth c H locs cells slots (lw_Z below #[Value.ref b] s) (F0 m 1273 ls [])) : W p l e room_1 s m #[Value.ref b] below meth c H locs cells slots (lw_Z below #[Value.ref b] s) (F0 m 384 ls []) := by
  obtain ⟨hx, hb, hr, hml, hown, hts, hX, hbl, hlocks, hgv⟩ := id C0
  obtain ⟨hK, hDK, hDM, hap, hE⟩ := F
  obtain ⟨hPK, hPM, hS⟩ := hW
  obtain ⟨hIK, hIM, hcCI, hcWI, hJ, hTB, hOW, hPS, hTR, hAC⟩ := hJ
  have hIK0 := hIK
  have hIM0 := hIM
  have r01 : (0 : Int) ≤ A 0 1 := (hIM 0 1).1
  have hbA : ¬ (fun b : Nat => s.heap.size ≤ b) b := Nat.not_le.mpr hbl
  have hA0 : ∀ b : Nat, s.heap.size ≤ b → (fun b : Nat => s.heap.size ≤ b) b := fun _ h => h
  refine lv_aload_n hx hb dL_law_384 rfl (lv_at hl 1 rfl) ?_
  refine lv_aload_n hx hb dL_law_385 rfl (lv_at hl 0 rfl) ?_
  refine lv_iload_n hx hb dL_law_386 rfl (lv_at hl 3 rfl) ?_
  refine lv_iconst (v := iI 1) hx hb dL_law_387 (by decide +kernel) ?_
  refine x_addv (v := i + 1) hx hb dL_law_388 rfl ?_
  refine x_sld (i := i + 1) hx hb hX hbl hbA hS hL (by omega) dL_law_389 ?_
  refine lv_aload_n hx hb dL_law_390 rfl (lv_at hl 0 rfl) ?_
  refine lv_iload_n hx hb dL_law_391 rfl (lv_at hl 3 rfl) ?_
  refine lv_iconst (v := iI 2) hx hb dL_law_392 (by decide +kernel) ?_
  refine x_addv (v := i + 2) hx hb dL_law_393 rfl ?_
  refine x_sld (i := i + 2) hx hb hX hbl hbA hS hL (by omega) dL_law_394 ?_
  refine l_callK (As := [.int (iI (sx xs (i + 1))), .int (iI (sx xs (i + 2)))]) (rest := []) (Wo := WM cI cJ cZ r A) ⟨hx, hb, hml, hown, hts⟩ hE (kc_X11_door l dC dI cB cI cJ cZ cQ aL aS q B (sx xs (i + 1)) (sx xs (i + 2)) hIK (sx_r xs _) (sx_r xs _)) (cwV 2 hts gl_6_0 rfl rfl rfl (by decide +kernel) ⟨Nat.le_of_ble_eq_true rfl, Nat.le_of_ble_eq_true rfl⟩) hK hDK hA0 hPK hPM (hap B A) hS 0 11 wkK rfl rfl hl.1 (Nat.le_of_ble_eq_true rfl) hcs dL_law_395 (fun z1 B2 H locs hw1 hPK hPM hS => ?_)
  obtain ⟨rfl, hr1, hw1⟩ := hw1
  refine lv_aload_n hx hb dL_law_398 rfl (lv_at hl 2 rfl) ?_
  refine lv_aload_n hx hb dL_law_399 rfl (lv_at hl 0 rfl) ?_
  refine lv_iload_n hx hb dL_law_400 rfl (lv_at hl 3 rfl) ?_
  refine lv_iconst (v := iI 1) hx hb dL_law_401 (by decide +kernel) ?_
  refine x_addv (v := i + 1) hx hb dL_law_402 rfl ?_
  refine x_sld (i := i + 1) hx hb hX hbl hbA hS hL (by omega) dL_law_403 ?_
  refine lv_aload_n hx hb dL_law_404 rfl (lv_at hl 0 rfl) ?_
  refine lv_iload_n hx hb dL_law_405 rfl (lv_at hl 3 rfl) ?_
  refine lv_iconst (v := iI 2) hx hb dL_law_406 (by decide +kernel) ?_
  refine x_addv (v := i + 2) hx hb dL_law_407 rfl ?_
  refine x_sld (i := i + 2) hx hb hX hbl hbA hS hL (by omega) dL_law_408 ?_
  refine l_callX (As := [.int (iI (sx xs (i + 1))), .int (iI (sx xs (i + 2)))]) (rest := [.int (iI z1)]) (Wo := WK cB cI cJ cZ cQ q B) ⟨hx, hb, hml, hown, hts⟩ (mc_X12_door_ l dC dI cB cI cJ cZ cQ r A (sx xs (i + 1)) (sx xs (i + 2)) hIM (sx_r xs _) (sx_r xs _)) (cwV 2 hts gl_6_1 rfl rfl rfl (by decide +kernel) ⟨Nat.le_of_ble_eq_true rfl, Nat.le_of_ble_eq_true rfl⟩) hK hDM hA0 hPM hPK (hap B A).sym hS 0 12 wm0 rfl rfl hl.1 (Nat.le_of_ble_eq_true rfl) hcs dL_law_409 (fun z2 A2 H locs hw2 hPM hPK hS => ?_)
  have hq2 := hw2
  obtain ⟨rfl, hr2, hw2⟩ := hw2
  have hzz : z1 = z2 := door_eq hIK0 hIM0 hPS hAC hr1 hr2
  refine lv_icmp_eq (tgt := 1273) hx hb dL_law_412 (by decide) (fun _ => ?_) (fun c9 => absurd (congrArg iI (by omega)) c9)
  exact k _ _ _ _ _ ⟨hIK, hIM, hcCI, hcWI, by omega, hTB, hOW, hPS, hTR, hAC⟩ ⟨hPK, hPM, hS⟩ hl
set_option maxRecDepth 100000 in
theorem gl_7_0 : GoodIn lw_tbl (wsV RL 47 RX11 yX11_key ws_kc_X11_key) := goodVL lt_WY wy_good (t_in_4 _ (List.mem_of_getElem? (i := 38) rfl)) (t_in_4 _ (List.mem_of_getElem? (i := 39) rfl)) (t_in_4 _ (List.mem_of_getElem? (i := 40) rfl)) (t_in_1 _ (List.mem_of_getElem? (i := 1) rfl)) (t_in_4 _ (List.mem_of_getElem? (i := 41) rfl)) (by decide +kernel)
set_option maxRecDepth 100000 in
theorem gl_7_1 : GoodIn lw_tbl (wsV RL 50 RX12 yX12_key_ ws_mc_X12_key_) := goodVL lt_WX wx_good (t_in_8 _ (List.mem_of_getElem? (i := 54) rfl)) (t_in_8 _ (List.mem_of_getElem? (i := 55) rfl)) (t_in_8 _ (List.mem_of_getElem? (i := 56) rfl)) (t_in_1 _ (List.mem_of_getElem? (i := 17) rfl)) (t_in_8 _ (List.mem_of_getElem? (i := 57) rfl)) (by decide +kernel)
set_option maxHeartbeats 4000000 in
set_option maxRecDepth 100000 in
theorem law_case_7 {p : Program} {e : Env} {s : State} {m : MethodId} {below : List Frame} {meth : Method} {c : Code} (l : Launch) {b L : Nat} {xs : Nat → Int32} (C0 : lw_At p s m meth c b L xs) (hL : L ≤ 3072) (dC : Nat → ClassId) (dI : Nat → Nat → Nat) (cB cI cJ cZ cQ : ClassId) (aL aS : Nat) (q r : Nat → Nat) (F : LF dC dI cB cI cJ cZ cQ aL aS q r s) {B A : St} {i : Int} (hi : 0 ≤ i ∧ i + 6 ≤ L) (hJ : LJ B A) {H : Heap} {locs : List Loc} {cells slots : Nat} {ls : Array Slot} (hcs : cells ≤ room_1.cells ∧ slots ≤ room_1.slots) (hW : LW dC dI cB cI cJ cZ cQ q r s B A H locs) (hl : lv_has ls 4 [(0, .ref b), (1, .ref (q 0)), (2, .ref (r 0)), (3, .int (iI i))]) (k : ∀ (B A : St) (H : Heap) (locs : List Loc) (ls : Array Slot), LJ B A → LW dC dI cB cI cJ cZ cQ q r s B A H locs → lv_has ls 4 [(0, .ref b), (1, .ref (q 0)), (2, .ref (r 0)), (3, .int (iI i))] → W p l e room_1 s m #[Value.ref b] below meth c H locs cells slots (lw_Z below #[Value.ref b] s) (F0 m 1273 ls [])) : W p l e room_1 s m #[Value.ref b] below meth c H locs cells slots (lw_Z below #[Value.ref b] s) (F0 m 417 ls []) := by
  obtain ⟨hx, hb, hr, hml, hown, hts, hX, hbl, hlocks, hgv⟩ := id C0
  obtain ⟨hK, hDK, hDM, hap, hE⟩ := F
  obtain ⟨hPK, hPM, hS⟩ := hW
  obtain ⟨hIK, hIM, hcCI, hcWI, hJ, hTB, hOW, hPS, hTR, hAC⟩ := hJ
  have hIK0 := hIK
  have hIM0 := hIM
  have r01 : (0 : Int) ≤ A 0 1 := (hIM 0 1).1
  have hbA : ¬ (fun b : Nat => s.heap.size ≤ b) b := Nat.not_le.mpr hbl
  have hA0 : ∀ b : Nat, s.heap.size ≤ b → (fun b : Nat => s.heap.size ≤ b) b := fun _ h => h
  refine lv_aload_n hx hb dL_law_417 rfl (lv_at hl 1 rfl) ?_
  refine lv_aload_n hx hb dL_law_418 rfl (lv_at hl 0 rfl) ?_
  refine lv_iload_n hx hb dL_law_419 rfl (lv_at hl 3 rfl) ?_
  refine lv_iconst (v := iI 1) hx hb dL_law_420 (by decide +kernel) ?_
  refine x_addv (v := i + 1) hx hb dL_law_421 rfl ?_
  refine x_sld (i := i + 1) hx hb hX hbl hbA hS hL (by omega) dL_law_422 ?_
  refine lv_aload_n hx hb dL_law_423 rfl (lv_at hl 0 rfl) ?_
  refine lv_iload_n hx hb dL_law_424 rfl (lv_at hl 3 rfl) ?_
  refine lv_iconst (v := iI 2) hx hb dL_law_425 (by decide +kernel) ?_
  refine x_addv (v := i + 2) hx hb dL_law_426 rfl ?_
  refine x_sld (i := i + 2) hx hb hX hbl hbA hS hL (by omega) dL_law_427 ?_
  refine l_callK (As := [.int (iI (sx xs (i + 1))), .int (iI (sx xs (i + 2)))]) (rest := []) (Wo := WM cI cJ cZ r A) ⟨hx, hb, hml, hown, hts⟩ hE (kc_X11_key l dC dI cB cI cJ cZ cQ aL aS q B (sx xs (i + 1)) (sx xs (i + 2)) hIK (sx_r xs _) (sx_r xs _)) (cwV 2 hts gl_7_0 rfl rfl rfl (by decide +kernel) ⟨Nat.le_of_ble_eq_true rfl, Nat.le_of_ble_eq_true rfl⟩) hK hDK hA0 hPK hPM (hap B A) hS 0 11 wkK rfl rfl hl.1 (Nat.le_of_ble_eq_true rfl) hcs dL_law_428 (fun z1 B2 H locs hw1 hPK hPM hS => ?_)
  obtain ⟨rfl, hr1, hw1⟩ := hw1
  refine lv_pop hx hb dL_law_431 rfl ?_
  refine lv_aload_n hx hb dL_law_432 rfl (lv_at hl 2 rfl) ?_
  refine lv_aload_n hx hb dL_law_433 rfl (lv_at hl 0 rfl) ?_
  refine lv_iload_n hx hb dL_law_434 rfl (lv_at hl 3 rfl) ?_
  refine lv_iconst (v := iI 1) hx hb dL_law_435 (by decide +kernel) ?_
  refine x_addv (v := i + 1) hx hb dL_law_436 rfl ?_
  refine x_sld (i := i + 1) hx hb hX hbl hbA hS hL (by omega) dL_law_437 ?_
  refine lv_aload_n hx hb dL_law_438 rfl (lv_at hl 0 rfl) ?_
  refine lv_iload_n hx hb dL_law_439 rfl (lv_at hl 3 rfl) ?_
  refine lv_iconst (v := iI 2) hx hb dL_law_440 (by decide +kernel) ?_
  refine x_addv (v := i + 2) hx hb dL_law_441 rfl ?_
  refine x_sld (i := i + 2) hx hb hX hbl hbA hS hL (by omega) dL_law_442 ?_
  refine l_callX (As := [.int (iI (sx xs (i + 1))), .int (iI (sx xs (i + 2)))]) (rest := []) (Wo := WK cB cI cJ cZ cQ q B) ⟨hx, hb, hml, hown, hts⟩ (mc_X12_key_ l dC dI cB cI cJ cZ cQ r A (sx xs (i + 1)) (sx xs (i + 2)) hIM (sx_r xs _) (sx_r xs _)) (cwV 2 hts gl_7_1 rfl rfl rfl (by decide +kernel) ⟨Nat.le_of_ble_eq_true rfl, Nat.le_of_ble_eq_true rfl⟩) hK hDM hA0 hPM hPK (hap B A).sym hS 0 12 wm0 rfl rfl hl.1 (Nat.le_of_ble_eq_true rfl) hcs dL_law_443 (fun z2 A2 H locs hw2 hPM hPK hS => ?_)
  have hq2 := hw2
  obtain ⟨rfl, hr2, hw2⟩ := hw2
  refine lv_pop hx hb dL_law_446 rfl ?_
  refine lv_goto (tgt := 1273) hx hb dL_law_447 (by decide) ?_
  exact k _ _ _ _ _ ⟨hIK, hIM, hcCI, hcWI, by omega, hTB, hOW, hPS, hTR, hAC⟩ ⟨hPK, hPM, hS⟩ hl
set_option maxRecDepth 100000 in
theorem gl_8_0 : GoodIn lw_tbl (wsV RL 51 RX11 yX11_in ws_kc_X11_in) := goodVL lt_WY wy_good (t_in_4 _ (List.mem_of_getElem? (i := 46) rfl)) (t_in_4 _ (List.mem_of_getElem? (i := 47) rfl)) (t_in_4 _ (List.mem_of_getElem? (i := 48) rfl)) (t_in_1 _ (List.mem_of_getElem? (i := 1) rfl)) (t_in_4 _ (List.mem_of_getElem? (i := 49) rfl)) (by decide +kernel)
set_option maxRecDepth 100000 in
theorem gl_8_1 : GoodIn lw_tbl (wsV RL 54 RX12 yX12_in ws_mc_X12_in) := goodVL lt_WX wx_good (t_in_8 _ (List.mem_of_getElem? (i := 66) rfl)) (t_in_8 _ (List.mem_of_getElem? (i := 67) rfl)) (t_in_8 _ (List.mem_of_getElem? (i := 68) rfl)) (t_in_1 _ (List.mem_of_getElem? (i := 17) rfl)) (t_in_8 _ (List.mem_of_getElem? (i := 69) rfl)) (by decide +kernel)
set_option maxHeartbeats 4000000 in
set_option maxRecDepth 100000 in
theorem law_case_8 {p : Program} {e : Env} {s : State} {m : MethodId} {below : List Frame} {meth : Method} {c : Code} (l : Launch) {b L : Nat} {xs : Nat → Int32} (C0 : lw_At p s m meth c b L xs) (hL : L ≤ 3072) (dC : Nat → ClassId) (dI : Nat → Nat → Nat) (cB cI cJ cZ cQ : ClassId) (aL aS : Nat) (q r : Nat → Nat) (F : LF dC dI cB cI cJ cZ cQ aL aS q r s) {B A : St} {i : Int} (hi : 0 ≤ i ∧ i + 6 ≤ L) (hJ : LJ B A) {H : Heap} {locs : List Loc} {cells slots : Nat} {ls : Array Slot} (hcs : cells ≤ room_1.cells ∧ slots ≤ room_1.slots) (hW : LW dC dI cB cI cJ cZ cQ q r s B A H locs) (hl : lv_has ls 4 [(0, .ref b), (1, .ref (q 0)), (2, .ref (r 0)), (3, .int (iI i))]) (k : ∀ (B A : St) (H : Heap) (locs : List Loc) (ls : Array Slot), LJ B A → LW dC dI cB cI cJ cZ cQ q r s B A H locs → lv_has ls 4 [(0, .ref b), (1, .ref (q 0)), (2, .ref (r 0)), (3, .int (iI i))] → W p l e room_1 s m #[Value.ref b] below meth c H locs cells slots (lw_Z below #[Value.ref b] s) (F0 m 1273 ls [])) : W p l e room_1 s m #[Value.ref b] below meth c H locs cells slots (lw_Z below #[Value.ref b] s) (F0 m 450 ls []) := by
  obtain ⟨hx, hb, hr, hml, hown, hts, hX, hbl, hlocks, hgv⟩ := id C0
  obtain ⟨hK, hDK, hDM, hap, hE⟩ := F
  obtain ⟨hPK, hPM, hS⟩ := hW
  obtain ⟨hIK, hIM, hcCI, hcWI, hJ, hTB, hOW, hPS, hTR, hAC⟩ := hJ
  have hIK0 := hIK
  have hIM0 := hIM
  have r01 : (0 : Int) ≤ A 0 1 := (hIM 0 1).1
  have hbA : ¬ (fun b : Nat => s.heap.size ≤ b) b := Nat.not_le.mpr hbl
  have hA0 : ∀ b : Nat, s.heap.size ≤ b → (fun b : Nat => s.heap.size ≤ b) b := fun _ h => h
  refine lv_aload_n hx hb dL_law_450 rfl (lv_at hl 1 rfl) ?_
  refine lv_aload_n hx hb dL_law_451 rfl (lv_at hl 0 rfl) ?_
  refine lv_iload_n hx hb dL_law_452 rfl (lv_at hl 3 rfl) ?_
  refine lv_iconst (v := iI 1) hx hb dL_law_453 (by decide +kernel) ?_
  refine x_addv (v := i + 1) hx hb dL_law_454 rfl ?_
  refine x_sld (i := i + 1) hx hb hX hbl hbA hS hL (by omega) dL_law_455 ?_
  refine lv_aload_n hx hb dL_law_456 rfl (lv_at hl 0 rfl) ?_
  refine lv_iload_n hx hb dL_law_457 rfl (lv_at hl 3 rfl) ?_
  refine lv_iconst (v := iI 2) hx hb dL_law_458 (by decide +kernel) ?_
  refine x_addv (v := i + 2) hx hb dL_law_459 rfl ?_
  refine x_sld (i := i + 2) hx hb hX hbl hbA hS hL (by omega) dL_law_460 ?_
  refine l_callK (As := [.int (iI (sx xs (i + 1))), .int (iI (sx xs (i + 2)))]) (rest := []) (Wo := WM cI cJ cZ r A) ⟨hx, hb, hml, hown, hts⟩ hE (kc_X11_in l dC dI cB cI cJ cZ cQ aL aS q B (sx xs (i + 1)) (sx xs (i + 2)) hIK (sx_r xs _) (sx_r xs _)) (cwV 2 hts gl_8_0 rfl rfl rfl (by decide +kernel) ⟨Nat.le_of_ble_eq_true rfl, Nat.le_of_ble_eq_true rfl⟩) hK hDK hA0 hPK hPM (hap B A) hS 0 11 wkK rfl rfl hl.1 (Nat.le_of_ble_eq_true rfl) hcs dL_law_461 (fun z1 B2 H locs hw1 hPK hPM hS => ?_)
  obtain ⟨rfl, hr1, hw1⟩ := hw1
  refine lv_pop hx hb dL_law_464 rfl ?_
  refine lv_aload_n hx hb dL_law_465 rfl (lv_at hl 2 rfl) ?_
  refine lv_aload_n hx hb dL_law_466 rfl (lv_at hl 0 rfl) ?_
  refine lv_iload_n hx hb dL_law_467 rfl (lv_at hl 3 rfl) ?_
  refine lv_iconst (v := iI 1) hx hb dL_law_468 (by decide +kernel) ?_
  refine x_addv (v := i + 1) hx hb dL_law_469 rfl ?_
  refine x_sld (i := i + 1) hx hb hX hbl hbA hS hL (by omega) dL_law_470 ?_
  refine lv_aload_n hx hb dL_law_471 rfl (lv_at hl 0 rfl) ?_
  refine lv_iload_n hx hb dL_law_472 rfl (lv_at hl 3 rfl) ?_
  refine lv_iconst (v := iI 2) hx hb dL_law_473 (by decide +kernel) ?_
  refine x_addv (v := i + 2) hx hb dL_law_474 rfl ?_
  refine x_sld (i := i + 2) hx hb hX hbl hbA hS hL (by omega) dL_law_475 ?_
  refine l_callX (As := [.int (iI (sx xs (i + 1))), .int (iI (sx xs (i + 2)))]) (rest := []) (Wo := WK cB cI cJ cZ cQ q B) ⟨hx, hb, hml, hown, hts⟩ (mc_X12_in l dC dI cB cI cJ cZ cQ r A (sx xs (i + 1)) (sx xs (i + 2)) hIM (sx_r xs _) (sx_r xs _)) (cwV 2 hts gl_8_1 rfl rfl rfl (by decide +kernel) ⟨Nat.le_of_ble_eq_true rfl, Nat.le_of_ble_eq_true rfl⟩) hK hDM hA0 hPM hPK (hap B A).sym hS 0 12 wm0 rfl rfl hl.1 (Nat.le_of_ble_eq_true rfl) hcs dL_law_476 (fun z2 A2 H locs hw2 hPM hPK hS => ?_)
  have hq2 := hw2
  obtain ⟨rfl, hr2, hw2⟩ := hw2
  refine lv_pop hx hb dL_law_479 rfl ?_
  refine lv_goto (tgt := 1273) hx hb dL_law_480 (by decide) ?_
  exact k _ _ _ _ _ ⟨hIK, hIM, hcCI, hcWI, by omega, hTB, hOW, hPS, hTR, hAC⟩ ⟨hPK, hPM, hS⟩ hl
set_option maxRecDepth 100000 in
theorem gl_9_0 : GoodIn lw_tbl (wsV RL 55 RX11 yX11_person ws_kc_X11_person) := goodVL lt_WY wy_good (t_in_4 _ (List.mem_of_getElem? (i := 51) rfl)) (t_in_4 _ (List.mem_of_getElem? (i := 52) rfl)) (t_in_4 _ (List.mem_of_getElem? (i := 53) rfl)) (t_in_1 _ (List.mem_of_getElem? (i := 1) rfl)) (t_in_4 _ (List.mem_of_getElem? (i := 54) rfl)) (by decide +kernel)
set_option maxRecDepth 100000 in
theorem gl_9_1 : GoodIn lw_tbl (wsV RL 58 RX12 yX12_person_ ws_mb_X12_person_) := goodVL lt_WX wx_good (t_in_8 _ (List.mem_of_getElem? (i := 176) rfl)) (t_in_8 _ (List.mem_of_getElem? (i := 177) rfl)) (t_in_8 _ (List.mem_of_getElem? (i := 178) rfl)) (t_in_1 _ (List.mem_of_getElem? (i := 17) rfl)) (t_in_8 _ (List.mem_of_getElem? (i := 179) rfl)) (by decide +kernel)
set_option maxHeartbeats 4000000 in
set_option maxRecDepth 100000 in
theorem law_case_9 {p : Program} {e : Env} {s : State} {m : MethodId} {below : List Frame} {meth : Method} {c : Code} (l : Launch) {b L : Nat} {xs : Nat → Int32} (C0 : lw_At p s m meth c b L xs) (hL : L ≤ 3072) (dC : Nat → ClassId) (dI : Nat → Nat → Nat) (cB cI cJ cZ cQ : ClassId) (aL aS : Nat) (q r : Nat → Nat) (F : LF dC dI cB cI cJ cZ cQ aL aS q r s) {B A : St} {i : Int} (hi : 0 ≤ i ∧ i + 6 ≤ L) (hJ : LJ B A) {H : Heap} {locs : List Loc} {cells slots : Nat} {ls : Array Slot} (hcs : cells ≤ room_1.cells ∧ slots ≤ room_1.slots) (hW : LW dC dI cB cI cJ cZ cQ q r s B A H locs) (hl : lv_has ls 4 [(0, .ref b), (1, .ref (q 0)), (2, .ref (r 0)), (3, .int (iI i))]) (k : ∀ (B A : St) (H : Heap) (locs : List Loc) (ls : Array Slot), LJ B A → LW dC dI cB cI cJ cZ cQ q r s B A H locs → lv_has ls 4 [(0, .ref b), (1, .ref (q 0)), (2, .ref (r 0)), (3, .int (iI i))] → W p l e room_1 s m #[Value.ref b] below meth c H locs cells slots (lw_Z below #[Value.ref b] s) (F0 m 1273 ls [])) : W p l e room_1 s m #[Value.ref b] below meth c H locs cells slots (lw_Z below #[Value.ref b] s) (F0 m 483 ls []) := by
  obtain ⟨hx, hb, hr, hml, hown, hts, hX, hbl, hlocks, hgv⟩ := id C0
  obtain ⟨hK, hDK, hDM, hap, hE⟩ := F
  obtain ⟨hPK, hPM, hS⟩ := hW
  obtain ⟨hIK, hIM, hcCI, hcWI, hJ, hTB, hOW, hPS, hTR, hAC⟩ := hJ
  have hIK0 := hIK
  have hIM0 := hIM
  have r01 : (0 : Int) ≤ A 0 1 := (hIM 0 1).1
  have hbA : ¬ (fun b : Nat => s.heap.size ≤ b) b := Nat.not_le.mpr hbl
  have hA0 : ∀ b : Nat, s.heap.size ≤ b → (fun b : Nat => s.heap.size ≤ b) b := fun _ h => h
  refine lv_aload_n hx hb dL_law_483 rfl (lv_at hl 1 rfl) ?_
  refine lv_aload_n hx hb dL_law_484 rfl (lv_at hl 0 rfl) ?_
  refine lv_iload_n hx hb dL_law_485 rfl (lv_at hl 3 rfl) ?_
  refine lv_iconst (v := iI 1) hx hb dL_law_486 (by decide +kernel) ?_
  refine x_addv (v := i + 1) hx hb dL_law_487 rfl ?_
  refine x_sld (i := i + 1) hx hb hX hbl hbA hS hL (by omega) dL_law_488 ?_
  refine lv_aload_n hx hb dL_law_489 rfl (lv_at hl 0 rfl) ?_
  refine lv_iload_n hx hb dL_law_490 rfl (lv_at hl 3 rfl) ?_
  refine lv_iconst (v := iI 2) hx hb dL_law_491 (by decide +kernel) ?_
  refine x_addv (v := i + 2) hx hb dL_law_492 rfl ?_
  refine x_sld (i := i + 2) hx hb hX hbl hbA hS hL (by omega) dL_law_493 ?_
  refine l_callK (As := [.int (iI (sx xs (i + 1))), .int (iI (sx xs (i + 2)))]) (rest := []) (Wo := WM cI cJ cZ r A) ⟨hx, hb, hml, hown, hts⟩ hE (kc_X11_person l dC dI cB cI cJ cZ cQ aL aS q B (sx xs (i + 1)) (sx xs (i + 2)) hIK (sx_r xs _) (sx_r xs _)) (cwV 2 hts gl_9_0 rfl rfl rfl (by decide +kernel) ⟨Nat.le_of_ble_eq_true rfl, Nat.le_of_ble_eq_true rfl⟩) hK hDK hA0 hPK hPM (hap B A) hS 0 11 wkK rfl rfl hl.1 (Nat.le_of_ble_eq_true rfl) hcs dL_law_494 (fun z1 B2 H locs hw1 hPK hPM hS => ?_)
  obtain ⟨hr1, hIK, hf1, hw1⟩ := hw1
  have e1 : B2 1 1 = B 1 1 := hf1 1 1 rfl rfl
  refine lv_pop hx hb dL_law_497 rfl ?_
  refine lv_aload_n hx hb dL_law_498 rfl (lv_at hl 2 rfl) ?_
  refine lv_aload_n hx hb dL_law_499 rfl (lv_at hl 0 rfl) ?_
  refine lv_iload_n hx hb dL_law_500 rfl (lv_at hl 3 rfl) ?_
  refine lv_iconst (v := iI 1) hx hb dL_law_501 (by decide +kernel) ?_
  refine x_addv (v := i + 1) hx hb dL_law_502 rfl ?_
  refine x_sld (i := i + 1) hx hb hX hbl hbA hS hL (by omega) dL_law_503 ?_
  refine lv_aload_n hx hb dL_law_504 rfl (lv_at hl 0 rfl) ?_
  refine lv_iload_n hx hb dL_law_505 rfl (lv_at hl 3 rfl) ?_
  refine lv_iconst (v := iI 2) hx hb dL_law_506 (by decide +kernel) ?_
  refine x_addv (v := i + 2) hx hb dL_law_507 rfl ?_
  refine x_sld (i := i + 2) hx hb hX hbl hbA hS hL (by omega) dL_law_508 ?_
  refine l_callX (As := [.int (iI (sx xs (i + 1))), .int (iI (sx xs (i + 2)))]) (rest := []) (Wo := WK cB cI cJ cZ cQ q B2) ⟨hx, hb, hml, hown, hts⟩ (mb_X12_person_ l dC dI cB cI cJ cZ cQ r A (sx xs (i + 1)) (sx xs (i + 2)) hIM (sx_r xs _) (sx_r xs _) hcCI hcWI) (cwV 2 hts gl_9_1 rfl rfl rfl (by decide +kernel) ⟨Nat.le_of_ble_eq_true rfl, Nat.le_of_ble_eq_true rfl⟩) hK hDM hA0 hPM hPK (hap B2 A).sym hS 0 12 wm0 rfl rfl hl.1 (Nat.le_of_ble_eq_true rfl) hcs dL_law_509 (fun z2 A2 H locs hw2 hPM hPK hS => ?_)
  have hq2 := hw2
  obtain ⟨hr2, hIM, hf2, hcCI2, hcWI2, hw2⟩ := hw2
  have hcCI : CI A2 := hcCI2
  have hcWI : WI A2 := hcWI2
  have e2 : A2 0 1 = A 0 1 := hf2.2 1 rfl
  refine lv_pop hx hb dL_law_512 rfl ?_
  refine lv_goto (tgt := 1273) hx hb dL_law_513 (by decide) ?_
  exact k _ _ _ _ _ ⟨hIK, hIM, hcCI, hcWI, by omega, hTB.fr (fun k => hf1 2 k rfl rfl) (hf2.1 1 (by decide) rfl) (by omega), (fun k hk => (hf1 4 k rfl rfl).trans (hOW k hk)), PSs.fr hIK0 hPS hf1 rfl rfl hf2 rfl rfl, ((hf1 22 4 rfl rfl).trans (hTR.trans (hf2.2 75 rfl).symm)), (ACS.fr hIK0 hIM0 hPS hAC hf1 rfl rfl hf2 rfl rfl)⟩ ⟨hPK, hPM, hS⟩ hl
set_option maxRecDepth 100000 in
theorem gl_10_0 : GoodIn lw_tbl (wsV RL 59 RX11 yX11_go ws_kc_X11_go) := goodVL lt_WY wy_good (t_in_4 _ (List.mem_of_getElem? (i := 173) rfl)) (t_in_4 _ (List.mem_of_getElem? (i := 174) rfl)) (t_in_4 _ (List.mem_of_getElem? (i := 175) rfl)) (t_in_1 _ (List.mem_of_getElem? (i := 1) rfl)) (t_in_4 _ (List.mem_of_getElem? (i := 176) rfl)) (by decide +kernel)
set_option maxRecDepth 100000 in
theorem gl_10_1 : GoodIn lw_tbl (wsV RL 62 RX12 yX12_go ws_mb_X12_go) := goodVL lt_WX wx_good (t_in_8 _ (List.mem_of_getElem? (i := 70) rfl)) (t_in_8 _ (List.mem_of_getElem? (i := 71) rfl)) (t_in_8 _ (List.mem_of_getElem? (i := 72) rfl)) (t_in_1 _ (List.mem_of_getElem? (i := 17) rfl)) (t_in_8 _ (List.mem_of_getElem? (i := 73) rfl)) (by decide +kernel)
set_option maxHeartbeats 4000000 in
set_option maxRecDepth 100000 in
theorem law_case_10 {p : Program} {e : Env} {s : State} {m : MethodId} {below : List Frame} {meth : Method} {c : Code} (l : Launch) {b L : Nat} {xs : Nat → Int32} (C0 : lw_At p s m meth c b L xs) (hL : L ≤ 3072) (dC : Nat → ClassId) (dI : Nat → Nat → Nat) (cB cI cJ cZ cQ : ClassId) (aL aS : Nat) (q r : Nat → Nat) (F : LF dC dI cB cI cJ cZ cQ aL aS q r s) {B A : St} {i : Int} (hi : 0 ≤ i ∧ i + 6 ≤ L) (hJ : LJ B A) {H : Heap} {locs : List Loc} {cells slots : Nat} {ls : Array Slot} (hcs : cells ≤ room_1.cells ∧ slots ≤ room_1.slots) (hW : LW dC dI cB cI cJ cZ cQ q r s B A H locs) (hl : lv_has ls 4 [(0, .ref b), (1, .ref (q 0)), (2, .ref (r 0)), (3, .int (iI i))]) (k : ∀ (B A : St) (H : Heap) (locs : List Loc) (ls : Array Slot), LJ B A → LW dC dI cB cI cJ cZ cQ q r s B A H locs → lv_has ls 4 [(0, .ref b), (1, .ref (q 0)), (2, .ref (r 0)), (3, .int (iI i))] → W p l e room_1 s m #[Value.ref b] below meth c H locs cells slots (lw_Z below #[Value.ref b] s) (F0 m 1273 ls [])) : W p l e room_1 s m #[Value.ref b] below meth c H locs cells slots (lw_Z below #[Value.ref b] s) (F0 m 516 ls []) := by
  obtain ⟨hx, hb, hr, hml, hown, hts, hX, hbl, hlocks, hgv⟩ := id C0
  obtain ⟨hK, hDK, hDM, hap, hE⟩ := F
  obtain ⟨hPK, hPM, hS⟩ := hW
  obtain ⟨hIK, hIM, hcCI, hcWI, hJ, hTB, hOW, hPS, hTR, hAC⟩ := hJ
  have hIK0 := hIK
  have hIM0 := hIM
  have r01 : (0 : Int) ≤ A 0 1 := (hIM 0 1).1
  have hbA : ¬ (fun b : Nat => s.heap.size ≤ b) b := Nat.not_le.mpr hbl
  have hA0 : ∀ b : Nat, s.heap.size ≤ b → (fun b : Nat => s.heap.size ≤ b) b := fun _ h => h
  refine lv_aload_n hx hb dL_law_516 rfl (lv_at hl 1 rfl) ?_
  refine lv_aload_n hx hb dL_law_517 rfl (lv_at hl 0 rfl) ?_
  refine lv_iload_n hx hb dL_law_518 rfl (lv_at hl 3 rfl) ?_
  refine lv_iconst (v := iI 1) hx hb dL_law_519 (by decide +kernel) ?_
  refine x_addv (v := i + 1) hx hb dL_law_520 rfl ?_
  refine x_sld (i := i + 1) hx hb hX hbl hbA hS hL (by omega) dL_law_521 ?_
  refine lv_aload_n hx hb dL_law_522 rfl (lv_at hl 0 rfl) ?_
  refine lv_iload_n hx hb dL_law_523 rfl (lv_at hl 3 rfl) ?_
  refine lv_iconst (v := iI 2) hx hb dL_law_524 (by decide +kernel) ?_
  refine x_addv (v := i + 2) hx hb dL_law_525 rfl ?_
  refine x_sld (i := i + 2) hx hb hX hbl hbA hS hL (by omega) dL_law_526 ?_
  refine l_callK (As := [.int (iI (sx xs (i + 1))), .int (iI (sx xs (i + 2)))]) (rest := []) (Wo := WM cI cJ cZ r A) ⟨hx, hb, hml, hown, hts⟩ hE (kc_X11_go l dC dI cB cI cJ cZ cQ aL aS q B (sx xs (i + 1)) (sx xs (i + 2)) hIK (sx_r xs _) (sx_r xs _)) (cwV 2 hts gl_10_0 rfl rfl rfl (by decide +kernel) ⟨Nat.le_of_ble_eq_true rfl, Nat.le_of_ble_eq_true rfl⟩) hK hDK hA0 hPK hPM (hap B A) hS 0 11 wkK rfl rfl hl.1 (Nat.le_of_ble_eq_true rfl) hcs dL_law_527 (fun z1 B2 H locs hw1 hPK hPM hS => ?_)
  obtain ⟨hr1, hIK, hf1, hw1⟩ := hw1
  have e1 : B2 1 1 = B 1 1 := hf1 1 1 rfl rfl
  refine lv_pop hx hb dL_law_530 rfl ?_
  refine lv_aload_n hx hb dL_law_531 rfl (lv_at hl 2 rfl) ?_
  refine lv_aload_n hx hb dL_law_532 rfl (lv_at hl 0 rfl) ?_
  refine lv_iload_n hx hb dL_law_533 rfl (lv_at hl 3 rfl) ?_
  refine lv_iconst (v := iI 1) hx hb dL_law_534 (by decide +kernel) ?_
  refine x_addv (v := i + 1) hx hb dL_law_535 rfl ?_
  refine x_sld (i := i + 1) hx hb hX hbl hbA hS hL (by omega) dL_law_536 ?_
  refine lv_aload_n hx hb dL_law_537 rfl (lv_at hl 0 rfl) ?_
  refine lv_iload_n hx hb dL_law_538 rfl (lv_at hl 3 rfl) ?_
  refine lv_iconst (v := iI 2) hx hb dL_law_539 (by decide +kernel) ?_
  refine x_addv (v := i + 2) hx hb dL_law_540 rfl ?_
  refine x_sld (i := i + 2) hx hb hX hbl hbA hS hL (by omega) dL_law_541 ?_
  refine l_callX (As := [.int (iI (sx xs (i + 1))), .int (iI (sx xs (i + 2)))]) (rest := []) (Wo := WK cB cI cJ cZ cQ q B2) ⟨hx, hb, hml, hown, hts⟩ (mb_X12_go l dC dI cB cI cJ cZ cQ r A (sx xs (i + 1)) (sx xs (i + 2)) hIM (sx_r xs _) (sx_r xs _) hcCI) (cwV 2 hts gl_10_1 rfl rfl rfl (by decide +kernel) ⟨Nat.le_of_ble_eq_true rfl, Nat.le_of_ble_eq_true rfl⟩) hK hDM hA0 hPM hPK (hap B2 A).sym hS 0 12 wm0 rfl rfl hl.1 (Nat.le_of_ble_eq_true rfl) hcs dL_law_542 (fun z2 A2 H locs hw2 hPM hPK hS => ?_)
  have hq2 := hw2
  obtain ⟨hr2, hIM, hf2, hcCI2, hw2⟩ := hw2
  have hcCI : CI A2 := hcCI2
  have hcWI : WI A2 := WI.fr hcWI hf2 rfl rfl
  have e2 : A2 0 1 = A 0 1 := hf2.2 1 rfl
  refine lv_pop hx hb dL_law_545 rfl ?_
  refine lv_goto (tgt := 1273) hx hb dL_law_546 (by decide) ?_
  exact k _ _ _ _ _ ⟨hIK, hIM, hcCI, hcWI, by omega, hTB.fr (fun k => hf1 2 k rfl rfl) (hf2.1 1 (by decide) rfl) (by omega), (fun k hk => (hf1 4 k rfl rfl).trans (hOW k hk)), PSs.fr hIK0 hPS hf1 rfl rfl hf2 rfl rfl, ((hf1 22 4 rfl rfl).trans (hTR.trans (hf2.2 75 rfl).symm)), (go_act hIK0 hIM0 hPS hAC hr1 hq2).2⟩ ⟨hPK, hPM, hS⟩ hl
set_option maxRecDepth 100000 in
theorem gl_11_0 : GoodIn lw_tbl (wsV RL 63 RX11 yX11_open ws_kc_X11_open) := goodVL lt_WY wy_good (t_in_4 _ (List.mem_of_getElem? (i := 196) rfl)) (t_in_4 _ (List.mem_of_getElem? (i := 197) rfl)) (t_in_4 _ (List.mem_of_getElem? (i := 198) rfl)) (t_in_1 _ (List.mem_of_getElem? (i := 1) rfl)) (t_in_4 _ (List.mem_of_getElem? (i := 199) rfl)) (by decide +kernel)
set_option maxRecDepth 100000 in
theorem gl_11_1 : GoodIn lw_tbl (wsV RL 66 RX12 yX12_open ws_mc_X12_open) := goodVL lt_WX wx_good (t_in_8 _ (List.mem_of_getElem? (i := 120) rfl)) (t_in_8 _ (List.mem_of_getElem? (i := 121) rfl)) (t_in_8 _ (List.mem_of_getElem? (i := 122) rfl)) (t_in_1 _ (List.mem_of_getElem? (i := 17) rfl)) (t_in_8 _ (List.mem_of_getElem? (i := 123) rfl)) (by decide +kernel)
set_option maxHeartbeats 4000000 in
set_option maxRecDepth 100000 in
theorem law_case_11 {p : Program} {e : Env} {s : State} {m : MethodId} {below : List Frame} {meth : Method} {c : Code} (l : Launch) {b L : Nat} {xs : Nat → Int32} (C0 : lw_At p s m meth c b L xs) (hL : L ≤ 3072) (dC : Nat → ClassId) (dI : Nat → Nat → Nat) (cB cI cJ cZ cQ : ClassId) (aL aS : Nat) (q r : Nat → Nat) (F : LF dC dI cB cI cJ cZ cQ aL aS q r s) {B A : St} {i : Int} (hi : 0 ≤ i ∧ i + 6 ≤ L) (hJ : LJ B A) {H : Heap} {locs : List Loc} {cells slots : Nat} {ls : Array Slot} (hcs : cells ≤ room_1.cells ∧ slots ≤ room_1.slots) (hW : LW dC dI cB cI cJ cZ cQ q r s B A H locs) (hl : lv_has ls 4 [(0, .ref b), (1, .ref (q 0)), (2, .ref (r 0)), (3, .int (iI i))]) (k : ∀ (B A : St) (H : Heap) (locs : List Loc) (ls : Array Slot), LJ B A → LW dC dI cB cI cJ cZ cQ q r s B A H locs → lv_has ls 4 [(0, .ref b), (1, .ref (q 0)), (2, .ref (r 0)), (3, .int (iI i))] → W p l e room_1 s m #[Value.ref b] below meth c H locs cells slots (lw_Z below #[Value.ref b] s) (F0 m 1273 ls [])) : W p l e room_1 s m #[Value.ref b] below meth c H locs cells slots (lw_Z below #[Value.ref b] s) (F0 m 549 ls []) := by
  obtain ⟨hx, hb, hr, hml, hown, hts, hX, hbl, hlocks, hgv⟩ := id C0
  obtain ⟨hK, hDK, hDM, hap, hE⟩ := F
  obtain ⟨hPK, hPM, hS⟩ := hW
  obtain ⟨hIK, hIM, hcCI, hcWI, hJ, hTB, hOW, hPS, hTR, hAC⟩ := hJ
  have hIK0 := hIK
  have hIM0 := hIM
  have r01 : (0 : Int) ≤ A 0 1 := (hIM 0 1).1
  have hbA : ¬ (fun b : Nat => s.heap.size ≤ b) b := Nat.not_le.mpr hbl
  have hA0 : ∀ b : Nat, s.heap.size ≤ b → (fun b : Nat => s.heap.size ≤ b) b := fun _ h => h
  refine lv_aload_n hx hb dL_law_549 rfl (lv_at hl 1 rfl) ?_
  refine lv_aload_n hx hb dL_law_550 rfl (lv_at hl 0 rfl) ?_
  refine lv_iload_n hx hb dL_law_551 rfl (lv_at hl 3 rfl) ?_
  refine lv_iconst (v := iI 1) hx hb dL_law_552 (by decide +kernel) ?_
  refine x_addv (v := i + 1) hx hb dL_law_553 rfl ?_
  refine x_sld (i := i + 1) hx hb hX hbl hbA hS hL (by omega) dL_law_554 ?_
  refine lv_aload_n hx hb dL_law_555 rfl (lv_at hl 0 rfl) ?_
  refine lv_iload_n hx hb dL_law_556 rfl (lv_at hl 3 rfl) ?_
  refine lv_iconst (v := iI 2) hx hb dL_law_557 (by decide +kernel) ?_
  refine x_addv (v := i + 2) hx hb dL_law_558 rfl ?_
  refine x_sld (i := i + 2) hx hb hX hbl hbA hS hL (by omega) dL_law_559 ?_
  refine l_callK (As := [.int (iI (sx xs (i + 1))), .int (iI (sx xs (i + 2)))]) (rest := []) (Wo := WM cI cJ cZ r A) ⟨hx, hb, hml, hown, hts⟩ hE (kc_X11_open l dC dI cB cI cJ cZ cQ aL aS q B (sx xs (i + 1)) (sx xs (i + 2)) hIK (sx_r xs _) (sx_r xs _)) (cwV 2 hts gl_11_0 rfl rfl rfl (by decide +kernel) ⟨Nat.le_of_ble_eq_true rfl, Nat.le_of_ble_eq_true rfl⟩) hK hDK hA0 hPK hPM (hap B A) hS 0 11 wkK rfl rfl hl.1 (Nat.le_of_ble_eq_true rfl) hcs dL_law_560 (fun z1 B2 H locs hw1 hPK hPM hS => ?_)
  obtain ⟨hr1, hIK, hf1, hw1⟩ := hw1
  have e1 : B2 1 1 = B 1 1 := hf1 1 1 rfl rfl
  refine lv_pop hx hb dL_law_563 rfl ?_
  refine lv_aload_n hx hb dL_law_564 rfl (lv_at hl 2 rfl) ?_
  refine lv_aload_n hx hb dL_law_565 rfl (lv_at hl 0 rfl) ?_
  refine lv_iload_n hx hb dL_law_566 rfl (lv_at hl 3 rfl) ?_
  refine lv_iconst (v := iI 1) hx hb dL_law_567 (by decide +kernel) ?_
  refine x_addv (v := i + 1) hx hb dL_law_568 rfl ?_
  refine x_sld (i := i + 1) hx hb hX hbl hbA hS hL (by omega) dL_law_569 ?_
  refine lv_aload_n hx hb dL_law_570 rfl (lv_at hl 0 rfl) ?_
  refine lv_iload_n hx hb dL_law_571 rfl (lv_at hl 3 rfl) ?_
  refine lv_iconst (v := iI 2) hx hb dL_law_572 (by decide +kernel) ?_
  refine x_addv (v := i + 2) hx hb dL_law_573 rfl ?_
  refine x_sld (i := i + 2) hx hb hX hbl hbA hS hL (by omega) dL_law_574 ?_
  refine l_callX (As := [.int (iI (sx xs (i + 1))), .int (iI (sx xs (i + 2)))]) (rest := []) (Wo := WK cB cI cJ cZ cQ q B2) ⟨hx, hb, hml, hown, hts⟩ (mc_X12_open l dC dI cB cI cJ cZ cQ r A (sx xs (i + 1)) (sx xs (i + 2)) hIM (sx_r xs _) (sx_r xs _)) (cwV 2 hts gl_11_1 rfl rfl rfl (by decide +kernel) ⟨Nat.le_of_ble_eq_true rfl, Nat.le_of_ble_eq_true rfl⟩) hK hDM hA0 hPM hPK (hap B2 A).sym hS 0 12 wm0 rfl rfl hl.1 (Nat.le_of_ble_eq_true rfl) hcs dL_law_575 (fun z2 A2 H locs hw2 hPM hPK hS => ?_)
  have hq2 := hw2
  obtain ⟨hr2, hIM, hf2, hw2⟩ := hw2
  have hcCI : CI A2 := CI.fr hcCI hf2 rfl rfl
  have hcWI : WI A2 := WI.fr hcWI hf2 rfl rfl
  have e2 : A2 0 1 = A 0 1 := hf2.2 1 rfl
  refine lv_pop hx hb dL_law_578 rfl ?_
  refine lv_goto (tgt := 1273) hx hb dL_law_579 (by decide) ?_
  exact k _ _ _ _ _ ⟨hIK, hIM, hcCI, hcWI, by omega, hTB.fr (fun k => hf1 2 k rfl rfl) (hf2.1 1 (by decide) rfl) (by omega), (fun k hk => (hf1 4 k rfl rfl).trans (hOW k hk)), PSs.fr hIK0 hPS hf1 rfl rfl hf2 rfl rfl, ((hf1 22 4 rfl rfl).trans (hTR.trans (hf2.2 75 rfl).symm)), (open_act hIK0 hIM0 hPS hAC hr1 hq2).2⟩ ⟨hPK, hPM, hS⟩ hl
