set_option maxRecDepth 100000 in
theorem gl_24_0 : GoodIn lw_tbl (wsV RL 117 RX11 yX11_needs ws_kc_X11_needs) := goodVL lt_WY wy_good (t_in_5 _ (List.mem_of_getElem? (i := 82) rfl)) (t_in_5 _ (List.mem_of_getElem? (i := 83) rfl)) (t_in_5 _ (List.mem_of_getElem? (i := 84) rfl)) (t_in_1 _ (List.mem_of_getElem? (i := 1) rfl)) (t_in_5 _ (List.mem_of_getElem? (i := 85) rfl)) (by decide +kernel)
set_option maxRecDepth 100000 in
theorem gl_24_1 : GoodIn lw_tbl (wsV RL 120 RX12 yX12_needs ws_mc_X12_needs) := goodVL lt_WX wx_good (t_in_9 _ (List.mem_of_getElem? (i := 16) rfl)) (t_in_9 _ (List.mem_of_getElem? (i := 17) rfl)) (t_in_9 _ (List.mem_of_getElem? (i := 18) rfl)) (t_in_1 _ (List.mem_of_getElem? (i := 17) rfl)) (t_in_9 _ (List.mem_of_getElem? (i := 19) rfl)) (by decide +kernel)
set_option maxHeartbeats 4000000 in
set_option maxRecDepth 100000 in
theorem law_case_24 {p : Program} {e : Env} {s : State} {m : MethodId} {below : List Frame} {meth : Method} {c : Code} (l : Launch) {b L : Nat} {xs : Nat → Int32} (C0 : lw_At p s m meth c b L xs) (hL : L ≤ 3072) (dC : Nat → ClassId) (dI : Nat → Nat → Nat) (cB cI cJ cZ cQ : ClassId) (aL aS : Nat) (q r : Nat → Nat) (F : LF dC dI cB cI cJ cZ cQ aL aS q r s) {B A : St} {i : Int} (hi : 0 ≤ i ∧ i + 6 ≤ L) (hJ : LJ B A) {H : Heap} {locs : List Loc} {cells slots : Nat} {ls : Array Slot} (hcs : cells ≤ room_1.cells ∧ slots ≤ room_1.slots) (hW : LW dC dI cB cI cJ cZ cQ q r s B A H locs) (hl : lv_has ls 4 [(0, .ref b), (1, .ref (q 0)), (2, .ref (r 0)), (3, .int (iI i))]) (k : ∀ (B A : St) (H : Heap) (locs : List Loc) (ls : Array Slot), LJ B A → LW dC dI cB cI cJ cZ cQ q r s B A H locs → lv_has ls 4 [(0, .ref b), (1, .ref (q 0)), (2, .ref (r 0)), (3, .int (iI i))] → W p l e room_1 s m #[Value.ref b] below meth c H locs cells slots (lw_Z below #[Value.ref b] s) (F0 m 1273 ls [])) : W p l e room_1 s m #[Value.ref b] below meth c H locs cells slots (lw_Z below #[Value.ref b] s) (F0 m 958 ls []) := by
  obtain ⟨hx, hb, hr, hml, hown, hts, hX, hbl, hlocks, hgv⟩ := id C0
  obtain ⟨hK, hDK, hDM, hap, hE⟩ := F
  obtain ⟨hPK, hPM, hS⟩ := hW
  obtain ⟨hIK, hIM, hcCI, hcWI, hJ, hTB, hOW, hPS, hTR, hAC⟩ := hJ
  have hIK0 := hIK
  have hIM0 := hIM
  have r01 : (0 : Int) ≤ A 0 1 := (hIM 0 1).1
  have hbA : ¬ (fun b : Nat => s.heap.size ≤ b) b := Nat.not_le.mpr hbl
  have hA0 : ∀ b : Nat, s.heap.size ≤ b → (fun b : Nat => s.heap.size ≤ b) b := fun _ h => h
  refine lv_aload_n hx hb dL_law_958 rfl (lv_at hl 1 rfl) ?_
  refine lv_aload_n hx hb dL_law_959 rfl (lv_at hl 0 rfl) ?_
  refine lv_iload_n hx hb dL_law_960 rfl (lv_at hl 3 rfl) ?_
  refine lv_iconst (v := iI 1) hx hb dL_law_961 (by decide +kernel) ?_
  refine x_addv (v := i + 1) hx hb dL_law_962 rfl ?_
  refine x_sld (i := i + 1) hx hb hX hbl hbA hS hL (by omega) dL_law_963 ?_
  refine lv_aload_n hx hb dL_law_964 rfl (lv_at hl 0 rfl) ?_
  refine lv_iload_n hx hb dL_law_965 rfl (lv_at hl 3 rfl) ?_
  refine lv_iconst (v := iI 2) hx hb dL_law_966 (by decide +kernel) ?_
  refine x_addv (v := i + 2) hx hb dL_law_967 rfl ?_
  refine x_sld (i := i + 2) hx hb hX hbl hbA hS hL (by omega) dL_law_968 ?_
  refine l_callK (As := [.int (iI (sx xs (i + 1))), .int (iI (sx xs (i + 2)))]) (rest := []) (Wo := WM cI cJ cZ r A) ⟨hx, hb, hml, hown, hts⟩ hE (kc_X11_needs l dC dI cB cI cJ cZ cQ aL aS q B (sx xs (i + 1)) (sx xs (i + 2)) hIK (sx_r xs _) (sx_r xs _)) (cwV 2 hts gl_24_0 rfl rfl rfl (by decide +kernel) ⟨Nat.le_of_ble_eq_true rfl, Nat.le_of_ble_eq_true rfl⟩) hK hDK hA0 hPK hPM (hap B A) hS 0 11 wkK rfl rfl hl.1 (Nat.le_of_ble_eq_true rfl) hcs dL_law_969 (fun z1 B2 H locs hw1 hPK hPM hS => ?_)
  obtain ⟨rfl, hr1, hw1⟩ := hw1
  refine lv_pop hx hb dL_law_972 rfl ?_
  refine lv_aload_n hx hb dL_law_973 rfl (lv_at hl 2 rfl) ?_
  refine lv_aload_n hx hb dL_law_974 rfl (lv_at hl 0 rfl) ?_
  refine lv_iload_n hx hb dL_law_975 rfl (lv_at hl 3 rfl) ?_
  refine lv_iconst (v := iI 1) hx hb dL_law_976 (by decide +kernel) ?_
  refine x_addv (v := i + 1) hx hb dL_law_977 rfl ?_
  refine x_sld (i := i + 1) hx hb hX hbl hbA hS hL (by omega) dL_law_978 ?_
  refine lv_aload_n hx hb dL_law_979 rfl (lv_at hl 0 rfl) ?_
  refine lv_iload_n hx hb dL_law_980 rfl (lv_at hl 3 rfl) ?_
  refine lv_iconst (v := iI 2) hx hb dL_law_981 (by decide +kernel) ?_
  refine x_addv (v := i + 2) hx hb dL_law_982 rfl ?_
  refine x_sld (i := i + 2) hx hb hX hbl hbA hS hL (by omega) dL_law_983 ?_
  refine l_callX (As := [.int (iI (sx xs (i + 1))), .int (iI (sx xs (i + 2)))]) (rest := []) (Wo := WK cB cI cJ cZ cQ q B) ⟨hx, hb, hml, hown, hts⟩ (mc_X12_needs l dC dI cB cI cJ cZ cQ r A (sx xs (i + 1)) (sx xs (i + 2)) hIM (sx_r xs _) (sx_r xs _)) (cwV 2 hts gl_24_1 rfl rfl rfl (by decide +kernel) ⟨Nat.le_of_ble_eq_true rfl, Nat.le_of_ble_eq_true rfl⟩) hK hDM hA0 hPM hPK (hap B A).sym hS 0 12 wm0 rfl rfl hl.1 (Nat.le_of_ble_eq_true rfl) hcs dL_law_984 (fun z2 A2 H locs hw2 hPM hPK hS => ?_)
  have hq2 := hw2
  obtain ⟨rfl, hr2, hw2⟩ := hw2
  refine lv_pop hx hb dL_law_987 rfl ?_
  refine lv_goto (tgt := 1273) hx hb dL_law_988 (by decide) ?_
  exact k _ _ _ _ _ ⟨hIK, hIM, hcCI, hcWI, by omega, hTB, hOW, hPS, hTR, hAC⟩ ⟨hPK, hPM, hS⟩ hl
set_option maxRecDepth 100000 in
theorem gl_25_0 : GoodIn lw_tbl (wsV RL 121 RX11 yX11_cross ws_kc_X11_cross) := goodVL lt_WY wy_good (t_in_5 _ (List.mem_of_getElem? (i := 90) rfl)) (t_in_5 _ (List.mem_of_getElem? (i := 91) rfl)) (t_in_5 _ (List.mem_of_getElem? (i := 92) rfl)) (t_in_1 _ (List.mem_of_getElem? (i := 1) rfl)) (t_in_5 _ (List.mem_of_getElem? (i := 93) rfl)) (by decide +kernel)
set_option maxRecDepth 100000 in
theorem gl_25_1 : GoodIn lw_tbl (wsV RL 124 RX12 yX12_cross ws_mc_X12_cross) := goodVL lt_WX wx_good (t_in_9 _ (List.mem_of_getElem? (i := 20) rfl)) (t_in_9 _ (List.mem_of_getElem? (i := 21) rfl)) (t_in_9 _ (List.mem_of_getElem? (i := 22) rfl)) (t_in_1 _ (List.mem_of_getElem? (i := 17) rfl)) (t_in_9 _ (List.mem_of_getElem? (i := 23) rfl)) (by decide +kernel)
set_option maxHeartbeats 4000000 in
set_option maxRecDepth 100000 in
theorem law_case_25 {p : Program} {e : Env} {s : State} {m : MethodId} {below : List Frame} {meth : Method} {c : Code} (l : Launch) {b L : Nat} {xs : Nat → Int32} (C0 : lw_At p s m meth c b L xs) (hL : L ≤ 3072) (dC : Nat → ClassId) (dI : Nat → Nat → Nat) (cB cI cJ cZ cQ : ClassId) (aL aS : Nat) (q r : Nat → Nat) (F : LF dC dI cB cI cJ cZ cQ aL aS q r s) {B A : St} {i : Int} (hi : 0 ≤ i ∧ i + 6 ≤ L) (hJ : LJ B A) {H : Heap} {locs : List Loc} {cells slots : Nat} {ls : Array Slot} (hcs : cells ≤ room_1.cells ∧ slots ≤ room_1.slots) (hW : LW dC dI cB cI cJ cZ cQ q r s B A H locs) (hl : lv_has ls 4 [(0, .ref b), (1, .ref (q 0)), (2, .ref (r 0)), (3, .int (iI i))]) (k : ∀ (B A : St) (H : Heap) (locs : List Loc) (ls : Array Slot), LJ B A → LW dC dI cB cI cJ cZ cQ q r s B A H locs → lv_has ls 4 [(0, .ref b), (1, .ref (q 0)), (2, .ref (r 0)), (3, .int (iI i))] → W p l e room_1 s m #[Value.ref b] below meth c H locs cells slots (lw_Z below #[Value.ref b] s) (F0 m 1273 ls [])) : W p l e room_1 s m #[Value.ref b] below meth c H locs cells slots (lw_Z below #[Value.ref b] s) (F0 m 991 ls []) := by
  obtain ⟨hx, hb, hr, hml, hown, hts, hX, hbl, hlocks, hgv⟩ := id C0
  obtain ⟨hK, hDK, hDM, hap, hE⟩ := F
  obtain ⟨hPK, hPM, hS⟩ := hW
  obtain ⟨hIK, hIM, hcCI, hcWI, hJ, hTB, hOW, hPS, hTR, hAC⟩ := hJ
  have hIK0 := hIK
  have hIM0 := hIM
  have r01 : (0 : Int) ≤ A 0 1 := (hIM 0 1).1
  have hbA : ¬ (fun b : Nat => s.heap.size ≤ b) b := Nat.not_le.mpr hbl
  have hA0 : ∀ b : Nat, s.heap.size ≤ b → (fun b : Nat => s.heap.size ≤ b) b := fun _ h => h
  refine lv_aload_n hx hb dL_law_991 rfl (lv_at hl 1 rfl) ?_
  refine lv_aload_n hx hb dL_law_992 rfl (lv_at hl 0 rfl) ?_
  refine lv_iload_n hx hb dL_law_993 rfl (lv_at hl 3 rfl) ?_
  refine lv_iconst (v := iI 1) hx hb dL_law_994 (by decide +kernel) ?_
  refine x_addv (v := i + 1) hx hb dL_law_995 rfl ?_
  refine x_sld (i := i + 1) hx hb hX hbl hbA hS hL (by omega) dL_law_996 ?_
  refine l_callK (As := [.int (iI (sx xs (i + 1)))]) (rest := []) (Wo := WM cI cJ cZ r A) ⟨hx, hb, hml, hown, hts⟩ hE (kc_X11_cross l dC dI cB cI cJ cZ cQ aL aS q B (sx xs (i + 1)) hIK (sx_r xs _)) (cwV 1 hts gl_25_0 rfl rfl rfl (by decide +kernel) ⟨Nat.le_of_ble_eq_true rfl, Nat.le_of_ble_eq_true rfl⟩) hK hDK hA0 hPK hPM (hap B A) hS 0 11 wkK rfl rfl hl.1 (Nat.le_of_ble_eq_true rfl) hcs dL_law_997 (fun z1 B2 H locs hw1 hPK hPM hS => ?_)
  obtain ⟨rfl, hr1, hw1⟩ := hw1
  refine lv_pop hx hb dL_law_1000 rfl ?_
  refine lv_aload_n hx hb dL_law_1001 rfl (lv_at hl 2 rfl) ?_
  refine lv_aload_n hx hb dL_law_1002 rfl (lv_at hl 0 rfl) ?_
  refine lv_iload_n hx hb dL_law_1003 rfl (lv_at hl 3 rfl) ?_
  refine lv_iconst (v := iI 1) hx hb dL_law_1004 (by decide +kernel) ?_
  refine x_addv (v := i + 1) hx hb dL_law_1005 rfl ?_
  refine x_sld (i := i + 1) hx hb hX hbl hbA hS hL (by omega) dL_law_1006 ?_
  refine l_callX (As := [.int (iI (sx xs (i + 1)))]) (rest := []) (Wo := WK cB cI cJ cZ cQ q B) ⟨hx, hb, hml, hown, hts⟩ (mc_X12_cross l dC dI cB cI cJ cZ cQ r A (sx xs (i + 1)) hIM (sx_r xs _)) (cwV 1 hts gl_25_1 rfl rfl rfl (by decide +kernel) ⟨Nat.le_of_ble_eq_true rfl, Nat.le_of_ble_eq_true rfl⟩) hK hDM hA0 hPM hPK (hap B A).sym hS 0 12 wm0 rfl rfl hl.1 (Nat.le_of_ble_eq_true rfl) hcs dL_law_1007 (fun z2 A2 H locs hw2 hPM hPK hS => ?_)
  have hq2 := hw2
  obtain ⟨rfl, hr2, hw2⟩ := hw2
  refine lv_pop hx hb dL_law_1010 rfl ?_
  refine lv_goto (tgt := 1273) hx hb dL_law_1011 (by decide) ?_
  exact k _ _ _ _ _ ⟨hIK, hIM, hcCI, hcWI, by omega, hTB, hOW, hPS, hTR, hAC⟩ ⟨hPK, hPM, hS⟩ hl
set_option maxRecDepth 100000 in
theorem gl_26_0 : GoodIn lw_tbl (wsV RL 125 RX11 yX11_fewest ws_kc_X11_fewest) := goodVL lt_WY wy_good (t_in_5 _ (List.mem_of_getElem? (i := 102) rfl)) (t_in_5 _ (List.mem_of_getElem? (i := 103) rfl)) (t_in_5 _ (List.mem_of_getElem? (i := 104) rfl)) (t_in_1 _ (List.mem_of_getElem? (i := 1) rfl)) (t_in_5 _ (List.mem_of_getElem? (i := 105) rfl)) (by decide +kernel)
set_option maxRecDepth 100000 in
theorem gl_26_1 : GoodIn lw_tbl (wsV RL 128 RX12 yX12_fewest ws_mb_X12_fewest) := goodVL lt_WX wx_good (t_in_9 _ (List.mem_of_getElem? (i := 28) rfl)) (t_in_9 _ (List.mem_of_getElem? (i := 29) rfl)) (t_in_9 _ (List.mem_of_getElem? (i := 30) rfl)) (t_in_1 _ (List.mem_of_getElem? (i := 17) rfl)) (t_in_9 _ (List.mem_of_getElem? (i := 31) rfl)) (by decide +kernel)
set_option maxHeartbeats 4000000 in
set_option maxRecDepth 100000 in
theorem law_case_26 {p : Program} {e : Env} {s : State} {m : MethodId} {below : List Frame} {meth : Method} {c : Code} (l : Launch) {b L : Nat} {xs : Nat → Int32} (C0 : lw_At p s m meth c b L xs) (hL : L ≤ 3072) (dC : Nat → ClassId) (dI : Nat → Nat → Nat) (cB cI cJ cZ cQ : ClassId) (aL aS : Nat) (q r : Nat → Nat) (F : LF dC dI cB cI cJ cZ cQ aL aS q r s) {B A : St} {i : Int} (hi : 0 ≤ i ∧ i + 6 ≤ L) (hJ : LJ B A) {H : Heap} {locs : List Loc} {cells slots : Nat} {ls : Array Slot} (hcs : cells ≤ room_1.cells ∧ slots ≤ room_1.slots) (hW : LW dC dI cB cI cJ cZ cQ q r s B A H locs) (hl : lv_has ls 4 [(0, .ref b), (1, .ref (q 0)), (2, .ref (r 0)), (3, .int (iI i))]) (k : ∀ (B A : St) (H : Heap) (locs : List Loc) (ls : Array Slot), LJ B A → LW dC dI cB cI cJ cZ cQ q r s B A H locs → lv_has ls 4 [(0, .ref b), (1, .ref (q 0)), (2, .ref (r 0)), (3, .int (iI i))] → W p l e room_1 s m #[Value.ref b] below meth c H locs cells slots (lw_Z below #[Value.ref b] s) (F0 m 1273 ls [])) : W p l e room_1 s m #[Value.ref b] below meth c H locs cells slots (lw_Z below #[Value.ref b] s) (F0 m 1014 ls []) := by
  obtain ⟨hx, hb, hr, hml, hown, hts, hX, hbl, hlocks, hgv⟩ := id C0
  obtain ⟨hK, hDK, hDM, hap, hE⟩ := F
  obtain ⟨hPK, hPM, hS⟩ := hW
  obtain ⟨hIK, hIM, hcCI, hcWI, hJ, hTB, hOW, hPS, hTR, hAC⟩ := hJ
  have hIK0 := hIK
  have hIM0 := hIM
  have r01 : (0 : Int) ≤ A 0 1 := (hIM 0 1).1
  have hbA : ¬ (fun b : Nat => s.heap.size ≤ b) b := Nat.not_le.mpr hbl
  have hA0 : ∀ b : Nat, s.heap.size ≤ b → (fun b : Nat => s.heap.size ≤ b) b := fun _ h => h
  refine lv_aload_n hx hb dL_law_1014 rfl (lv_at hl 1 rfl) ?_
  refine lv_aload_n hx hb dL_law_1015 rfl (lv_at hl 0 rfl) ?_
  refine lv_iload_n hx hb dL_law_1016 rfl (lv_at hl 3 rfl) ?_
  refine lv_iconst (v := iI 1) hx hb dL_law_1017 (by decide +kernel) ?_
  refine x_addv (v := i + 1) hx hb dL_law_1018 rfl ?_
  refine x_sld (i := i + 1) hx hb hX hbl hbA hS hL (by omega) dL_law_1019 ?_
  refine l_callK (As := [.int (iI (sx xs (i + 1)))]) (rest := []) (Wo := WM cI cJ cZ r A) ⟨hx, hb, hml, hown, hts⟩ hE (kc_X11_fewest l dC dI cB cI cJ cZ cQ aL aS q B (sx xs (i + 1)) hIK (sx_r xs _)) (cwV 1 hts gl_26_0 rfl rfl rfl (by decide +kernel) ⟨Nat.le_of_ble_eq_true rfl, Nat.le_of_ble_eq_true rfl⟩) hK hDK hA0 hPK hPM (hap B A) hS 0 11 wkK rfl rfl hl.1 (Nat.le_of_ble_eq_true rfl) hcs dL_law_1020 (fun z1 B2 H locs hw1 hPK hPM hS => ?_)
  obtain ⟨hr1, hIK, hf1, hw1⟩ := hw1
  have e1 : B2 1 1 = B 1 1 := hf1 1 1 rfl rfl
  refine lv_pop hx hb dL_law_1023 rfl ?_
  refine lv_aload_n hx hb dL_law_1024 rfl (lv_at hl 2 rfl) ?_
  refine lv_aload_n hx hb dL_law_1025 rfl (lv_at hl 0 rfl) ?_
  refine lv_iload_n hx hb dL_law_1026 rfl (lv_at hl 3 rfl) ?_
  refine lv_iconst (v := iI 1) hx hb dL_law_1027 (by decide +kernel) ?_
  refine x_addv (v := i + 1) hx hb dL_law_1028 rfl ?_
  refine x_sld (i := i + 1) hx hb hX hbl hbA hS hL (by omega) dL_law_1029 ?_
  refine l_callX (As := [.int (iI (sx xs (i + 1)))]) (rest := []) (Wo := WK cB cI cJ cZ cQ q B2) ⟨hx, hb, hml, hown, hts⟩ (mb_X12_fewest l dC dI cB cI cJ cZ cQ r A (sx xs (i + 1)) hIM (sx_r xs _)) (cwV 1 hts gl_26_1 rfl rfl rfl (by decide +kernel) ⟨Nat.le_of_ble_eq_true rfl, Nat.le_of_ble_eq_true rfl⟩) hK hDM hA0 hPM hPK (hap B2 A).sym hS 0 12 wm0 rfl rfl hl.1 (Nat.le_of_ble_eq_true rfl) hcs dL_law_1030 (fun z2 A2 H locs hw2 hPM hPK hS => ?_)
  have hq2 := hw2
  obtain ⟨hr2, hIM, hf2, hw2⟩ := hw2
  have hcCI : CI A2 := CI.fr hcCI hf2 rfl rfl
  have hcWI : WI A2 := WI.fr hcWI hf2 rfl rfl
  have e2 : A2 0 1 = A 0 1 := hf2.2 1 rfl
  refine lv_pop hx hb dL_law_1033 rfl ?_
  refine lv_goto (tgt := 1273) hx hb dL_law_1034 (by decide) ?_
  exact k _ _ _ _ _ ⟨hIK, hIM, hcCI, hcWI, by omega, hTB.fr (fun k => hf1 2 k rfl rfl) (hf2.1 1 (by decide) rfl) (by omega), (fun k hk => (hf1 4 k rfl rfl).trans (hOW k hk)), PSs.fr hIK0 hPS hf1 rfl rfl hf2 rfl rfl, ((hf1 22 4 rfl rfl).trans (hTR.trans (hf2.2 75 rfl).symm)), (ACS.fr hIK0 hIM0 hPS hAC hf1 rfl rfl hf2 rfl rfl)⟩ ⟨hPK, hPM, hS⟩ hl
set_option maxRecDepth 100000 in
theorem gl_27_0 : GoodIn lw_tbl (wsV RL 129 RX11 yX11_order ws_kc_X11_order) := goodVL lt_WY wy_good (t_in_5 _ (List.mem_of_getElem? (i := 118) rfl)) (t_in_5 _ (List.mem_of_getElem? (i := 119) rfl)) (t_in_5 _ (List.mem_of_getElem? (i := 120) rfl)) (t_in_1 _ (List.mem_of_getElem? (i := 1) rfl)) (t_in_5 _ (List.mem_of_getElem? (i := 121) rfl)) (by decide +kernel)
set_option maxRecDepth 100000 in
theorem gl_27_1 : GoodIn lw_tbl (wsV RL 132 RX12 yX12_order ws_mc_X12_order) := goodVL lt_WX wx_good (t_in_9 _ (List.mem_of_getElem? (i := 40) rfl)) (t_in_9 _ (List.mem_of_getElem? (i := 41) rfl)) (t_in_9 _ (List.mem_of_getElem? (i := 42) rfl)) (t_in_1 _ (List.mem_of_getElem? (i := 17) rfl)) (t_in_9 _ (List.mem_of_getElem? (i := 43) rfl)) (by decide +kernel)
set_option maxHeartbeats 4000000 in
set_option maxRecDepth 100000 in
theorem law_case_27 {p : Program} {e : Env} {s : State} {m : MethodId} {below : List Frame} {meth : Method} {c : Code} (l : Launch) {b L : Nat} {xs : Nat → Int32} (C0 : lw_At p s m meth c b L xs) (hL : L ≤ 3072) (dC : Nat → ClassId) (dI : Nat → Nat → Nat) (cB cI cJ cZ cQ : ClassId) (aL aS : Nat) (q r : Nat → Nat) (F : LF dC dI cB cI cJ cZ cQ aL aS q r s) {B A : St} {i : Int} (hi : 0 ≤ i ∧ i + 6 ≤ L) (hJ : LJ B A) {H : Heap} {locs : List Loc} {cells slots : Nat} {ls : Array Slot} (hcs : cells ≤ room_1.cells ∧ slots ≤ room_1.slots) (hW : LW dC dI cB cI cJ cZ cQ q r s B A H locs) (hl : lv_has ls 4 [(0, .ref b), (1, .ref (q 0)), (2, .ref (r 0)), (3, .int (iI i))]) (k : ∀ (B A : St) (H : Heap) (locs : List Loc) (ls : Array Slot), LJ B A → LW dC dI cB cI cJ cZ cQ q r s B A H locs → lv_has ls 4 [(0, .ref b), (1, .ref (q 0)), (2, .ref (r 0)), (3, .int (iI i))] → W p l e room_1 s m #[Value.ref b] below meth c H locs cells slots (lw_Z below #[Value.ref b] s) (F0 m 1273 ls [])) : W p l e room_1 s m #[Value.ref b] below meth c H locs cells slots (lw_Z below #[Value.ref b] s) (F0 m 1037 ls []) := by
  obtain ⟨hx, hb, hr, hml, hown, hts, hX, hbl, hlocks, hgv⟩ := id C0
  obtain ⟨hK, hDK, hDM, hap, hE⟩ := F
  obtain ⟨hPK, hPM, hS⟩ := hW
  obtain ⟨hIK, hIM, hcCI, hcWI, hJ, hTB, hOW, hPS, hTR, hAC⟩ := hJ
  have hIK0 := hIK
  have hIM0 := hIM
  have r01 : (0 : Int) ≤ A 0 1 := (hIM 0 1).1
  have hbA : ¬ (fun b : Nat => s.heap.size ≤ b) b := Nat.not_le.mpr hbl
  have hA0 : ∀ b : Nat, s.heap.size ≤ b → (fun b : Nat => s.heap.size ≤ b) b := fun _ h => h
  refine lv_aload_n hx hb dL_law_1037 rfl (lv_at hl 1 rfl) ?_
  refine lv_aload_n hx hb dL_law_1038 rfl (lv_at hl 0 rfl) ?_
  refine lv_iload_n hx hb dL_law_1039 rfl (lv_at hl 3 rfl) ?_
  refine lv_iconst (v := iI 1) hx hb dL_law_1040 (by decide +kernel) ?_
  refine x_addv (v := i + 1) hx hb dL_law_1041 rfl ?_
  refine x_sld (i := i + 1) hx hb hX hbl hbA hS hL (by omega) dL_law_1042 ?_
  refine l_callK (As := [.int (iI (sx xs (i + 1)))]) (rest := []) (Wo := WM cI cJ cZ r A) ⟨hx, hb, hml, hown, hts⟩ hE (kc_X11_order l dC dI cB cI cJ cZ cQ aL aS q B (sx xs (i + 1)) hIK (sx_r xs _)) (cwV 1 hts gl_27_0 rfl rfl rfl (by decide +kernel) ⟨Nat.le_of_ble_eq_true rfl, Nat.le_of_ble_eq_true rfl⟩) hK hDK hA0 hPK hPM (hap B A) hS 0 11 wkK rfl rfl hl.1 (Nat.le_of_ble_eq_true rfl) hcs dL_law_1043 (fun z1 B2 H locs hw1 hPK hPM hS => ?_)
  obtain ⟨rfl, hr1, hw1⟩ := hw1
  refine lv_pop hx hb dL_law_1046 rfl ?_
  refine lv_aload_n hx hb dL_law_1047 rfl (lv_at hl 2 rfl) ?_
  refine lv_aload_n hx hb dL_law_1048 rfl (lv_at hl 0 rfl) ?_
  refine lv_iload_n hx hb dL_law_1049 rfl (lv_at hl 3 rfl) ?_
  refine lv_iconst (v := iI 1) hx hb dL_law_1050 (by decide +kernel) ?_
  refine x_addv (v := i + 1) hx hb dL_law_1051 rfl ?_
  refine x_sld (i := i + 1) hx hb hX hbl hbA hS hL (by omega) dL_law_1052 ?_
  refine l_callX (As := [.int (iI (sx xs (i + 1)))]) (rest := []) (Wo := WK cB cI cJ cZ cQ q B) ⟨hx, hb, hml, hown, hts⟩ (mc_X12_order l dC dI cB cI cJ cZ cQ r A (sx xs (i + 1)) hIM (sx_r xs _)) (cwV 1 hts gl_27_1 rfl rfl rfl (by decide +kernel) ⟨Nat.le_of_ble_eq_true rfl, Nat.le_of_ble_eq_true rfl⟩) hK hDM hA0 hPM hPK (hap B A).sym hS 0 12 wm0 rfl rfl hl.1 (Nat.le_of_ble_eq_true rfl) hcs dL_law_1053 (fun z2 A2 H locs hw2 hPM hPK hS => ?_)
  have hq2 := hw2
  obtain ⟨rfl, hr2, hw2⟩ := hw2
  refine lv_pop hx hb dL_law_1056 rfl ?_
  refine lv_goto (tgt := 1273) hx hb dL_law_1057 (by decide) ?_
  exact k _ _ _ _ _ ⟨hIK, hIM, hcCI, hcWI, by omega, hTB, hOW, hPS, hTR, hAC⟩ ⟨hPK, hPM, hS⟩ hl
set_option maxRecDepth 100000 in
theorem gl_28_0 : GoodIn lw_tbl (wsV RL 133 RX11 yX11_trial ws_kc_X11_trial) := goodVL lt_WY wy_good (t_in_5 _ (List.mem_of_getElem? (i := 129) rfl)) (t_in_5 _ (List.mem_of_getElem? (i := 130) rfl)) (t_in_5 _ (List.mem_of_getElem? (i := 131) rfl)) (t_in_1 _ (List.mem_of_getElem? (i := 1) rfl)) (t_in_5 _ (List.mem_of_getElem? (i := 132) rfl)) (by decide +kernel)
set_option maxRecDepth 100000 in
theorem gl_28_1 : GoodIn lw_tbl (wsV RL 137 RX12 yX12_trial ws_mc_X12_trial) := goodVL lt_WX wx_good (t_in_9 _ (List.mem_of_getElem? (i := 48) rfl)) (t_in_9 _ (List.mem_of_getElem? (i := 49) rfl)) (t_in_9 _ (List.mem_of_getElem? (i := 50) rfl)) (t_in_1 _ (List.mem_of_getElem? (i := 17) rfl)) (t_in_9 _ (List.mem_of_getElem? (i := 51) rfl)) (by decide +kernel)
set_option maxHeartbeats 4000000 in
set_option maxRecDepth 100000 in
theorem law_case_28 {p : Program} {e : Env} {s : State} {m : MethodId} {below : List Frame} {meth : Method} {c : Code} (l : Launch) {b L : Nat} {xs : Nat → Int32} (C0 : lw_At p s m meth c b L xs) (hL : L ≤ 3072) (dC : Nat → ClassId) (dI : Nat → Nat → Nat) (cB cI cJ cZ cQ : ClassId) (aL aS : Nat) (q r : Nat → Nat) (F : LF dC dI cB cI cJ cZ cQ aL aS q r s) {B A : St} {i : Int} (hi : 0 ≤ i ∧ i + 6 ≤ L) (hJ : LJ B A) {H : Heap} {locs : List Loc} {cells slots : Nat} {ls : Array Slot} (hcs : cells ≤ room_1.cells ∧ slots ≤ room_1.slots) (hW : LW dC dI cB cI cJ cZ cQ q r s B A H locs) (hl : lv_has ls 4 [(0, .ref b), (1, .ref (q 0)), (2, .ref (r 0)), (3, .int (iI i))]) (k : ∀ (B A : St) (H : Heap) (locs : List Loc) (ls : Array Slot), LJ B A → LW dC dI cB cI cJ cZ cQ q r s B A H locs → lv_has ls 4 [(0, .ref b), (1, .ref (q 0)), (2, .ref (r 0)), (3, .int (iI i))] → W p l e room_1 s m #[Value.ref b] below meth c H locs cells slots (lw_Z below #[Value.ref b] s) (F0 m 1273 ls [])) : W p l e room_1 s m #[Value.ref b] below meth c H locs cells slots (lw_Z below #[Value.ref b] s) (F0 m 1060 ls []) := by
  obtain ⟨hx, hb, hr, hml, hown, hts, hX, hbl, hlocks, hgv⟩ := id C0
  obtain ⟨hK, hDK, hDM, hap, hE⟩ := F
  obtain ⟨hPK, hPM, hS⟩ := hW
  obtain ⟨hIK, hIM, hcCI, hcWI, hJ, hTB, hOW, hPS, hTR, hAC⟩ := hJ
  have hIK0 := hIK
  have hIM0 := hIM
  have r01 : (0 : Int) ≤ A 0 1 := (hIM 0 1).1
  have hbA : ¬ (fun b : Nat => s.heap.size ≤ b) b := Nat.not_le.mpr hbl
  have hA0 : ∀ b : Nat, s.heap.size ≤ b → (fun b : Nat => s.heap.size ≤ b) b := fun _ h => h
  refine lv_aload_n hx hb dL_law_1060 rfl (lv_at hl 1 rfl) ?_
  refine lv_aload_n hx hb dL_law_1061 rfl (lv_at hl 0 rfl) ?_
  refine lv_iload_n hx hb dL_law_1062 rfl (lv_at hl 3 rfl) ?_
  refine lv_iconst (v := iI 1) hx hb dL_law_1063 (by decide +kernel) ?_
  refine x_addv (v := i + 1) hx hb dL_law_1064 rfl ?_
  refine x_sld (i := i + 1) hx hb hX hbl hbA hS hL (by omega) dL_law_1065 ?_
  refine lv_aload_n hx hb dL_law_1066 rfl (lv_at hl 0 rfl) ?_
  refine lv_iload_n hx hb dL_law_1067 rfl (lv_at hl 3 rfl) ?_
  refine lv_iconst (v := iI 2) hx hb dL_law_1068 (by decide +kernel) ?_
  refine x_addv (v := i + 2) hx hb dL_law_1069 rfl ?_
  refine x_sld (i := i + 2) hx hb hX hbl hbA hS hL (by omega) dL_law_1070 ?_
  refine lv_if_eq (tgt := 1078) hx hb dL_law_1071 (by decide) (fun cb0 => ?_) (fun cb0 => ?_)
  · refine lv_iconst (v := iI 0) hx hb dL_law_1078 (by decide +kernel) ?_
    refine l_callK (As := [.int (iI (sx xs (i + 1))), .int (iI 0)]) (rest := []) (Wo := WM cI cJ cZ r A) ⟨hx, hb, hml, hown, hts⟩ hE (kc_X11_trial l dC dI cB cI cJ cZ cQ aL aS q B (sx xs (i + 1)) 0 hIK (sx_r xs _) ⟨by decide, by decide⟩) (cwV 2 hts gl_28_0 rfl rfl rfl (by decide +kernel) ⟨Nat.le_of_ble_eq_true rfl, Nat.le_of_ble_eq_true rfl⟩) hK hDK hA0 hPK hPM (hap B A) hS 0 11 wkK rfl rfl hl.1 (Nat.le_of_ble_eq_true rfl) hcs dL_law_1079 (fun z1 B2 H locs hw1 hPK hPM hS => ?_)
    obtain ⟨hr1, hIK, hf1, hw1⟩ := hw1
    have e1 : B2 1 1 = B 1 1 := hf1 1 1 rfl rfl
    refine lv_pop hx hb dL_law_1082 rfl ?_
    refine lv_aload_n hx hb dL_law_1083 rfl (lv_at hl 2 rfl) ?_
    refine lv_aload_n hx hb dL_law_1084 rfl (lv_at hl 0 rfl) ?_
    refine lv_iload_n hx hb dL_law_1085 rfl (lv_at hl 3 rfl) ?_
    refine lv_iconst (v := iI 1) hx hb dL_law_1086 (by decide +kernel) ?_
    refine x_addv (v := i + 1) hx hb dL_law_1087 rfl ?_
    refine x_sld (i := i + 1) hx hb hX hbl hbA hS hL (by omega) dL_law_1088 ?_
    refine lv_aload_n hx hb dL_law_1089 rfl (lv_at hl 0 rfl) ?_
    refine lv_iload_n hx hb dL_law_1090 rfl (lv_at hl 3 rfl) ?_
    refine lv_iconst (v := iI 2) hx hb dL_law_1091 (by decide +kernel) ?_
    refine x_addv (v := i + 2) hx hb dL_law_1092 rfl ?_
    refine x_sld (i := i + 2) hx hb hX hbl hbA hS hL (by omega) dL_law_1093 ?_
    refine lv_if_eq (tgt := 1101) hx hb dL_law_1094 (by decide) (fun cb1 => ?_) (fun cb1 => ?_)
    · refine lv_iconst (v := iI 0) hx hb dL_law_1101 (by decide +kernel) ?_
      refine l_callX (As := [.int (iI (sx xs (i + 1))), .int (iI 0)]) (rest := []) (Wo := WK cB cI cJ cZ cQ q B2) ⟨hx, hb, hml, hown, hts⟩ (mc_X12_trial l dC dI cB cI cJ cZ cQ r A (sx xs (i + 1)) 0 hIM (sx_r xs _) ⟨by decide, by decide⟩) (cwV 2 hts gl_28_1 rfl rfl rfl (by decide +kernel) ⟨Nat.le_of_ble_eq_true rfl, Nat.le_of_ble_eq_true rfl⟩) hK hDM hA0 hPM hPK (hap B2 A).sym hS 0 12 wm0 rfl rfl hl.1 (Nat.le_of_ble_eq_true rfl) hcs dL_law_1102 (fun z2 A2 H locs hw2 hPM hPK hS => ?_)
      have hq2 := hw2
      obtain ⟨hr2, hIM, hf2, hw2⟩ := hw2
      have hcCI : CI A2 := CI.fr hcCI hf2 rfl rfl
      have hcWI : WI A2 := WI.fr hcWI hf2 rfl rfl
      have e2 : A2 0 1 = A 0 1 := hf2.2 1 rfl
      refine lv_pop hx hb dL_law_1105 rfl ?_
      refine lv_goto (tgt := 1273) hx hb dL_law_1106 (by decide) ?_
      exact k _ _ _ _ _ ⟨hIK, hIM, hcCI, hcWI, by omega, hTB.fr (fun k => hf1 2 k rfl rfl) (hf2.1 1 (by decide) rfl) (by omega), (fun k hk => (hf1 4 k rfl rfl).trans (hOW k hk)), PSs.fr hIK0 hPS hf1 rfl rfl hf2 rfl rfl, trial_tr hIK0 hIM0 hPS hTR hr1 hr2, (ACS.fr hIK0 hIM0 hPS hAC hf1 rfl rfl hf2 rfl rfl)⟩ ⟨hPK, hPM, hS⟩ hl
    · exact absurd cb0 cb1
  · refine lv_iconst (v := iI 1) hx hb dL_law_1074 (by decide +kernel) ?_
    refine lv_goto (tgt := 1079) hx hb dL_law_1075 (by decide) ?_
    refine l_callK (As := [.int (iI (sx xs (i + 1))), .int (iI 1)]) (rest := []) (Wo := WM cI cJ cZ r A) ⟨hx, hb, hml, hown, hts⟩ hE (kc_X11_trial l dC dI cB cI cJ cZ cQ aL aS q B (sx xs (i + 1)) 1 hIK (sx_r xs _) ⟨by decide, by decide⟩) (cwV 2 hts gl_28_0 rfl rfl rfl (by decide +kernel) ⟨Nat.le_of_ble_eq_true rfl, Nat.le_of_ble_eq_true rfl⟩) hK hDK hA0 hPK hPM (hap B A) hS 0 11 wkK rfl rfl hl.1 (Nat.le_of_ble_eq_true rfl) hcs dL_law_1079 (fun z1 B2 H locs hw1 hPK hPM hS => ?_)
    obtain ⟨hr1, hIK, hf1, hw1⟩ := hw1
    have e1 : B2 1 1 = B 1 1 := hf1 1 1 rfl rfl
    refine lv_pop hx hb dL_law_1082 rfl ?_
    refine lv_aload_n hx hb dL_law_1083 rfl (lv_at hl 2 rfl) ?_
    refine lv_aload_n hx hb dL_law_1084 rfl (lv_at hl 0 rfl) ?_
    refine lv_iload_n hx hb dL_law_1085 rfl (lv_at hl 3 rfl) ?_
    refine lv_iconst (v := iI 1) hx hb dL_law_1086 (by decide +kernel) ?_
    refine x_addv (v := i + 1) hx hb dL_law_1087 rfl ?_
    refine x_sld (i := i + 1) hx hb hX hbl hbA hS hL (by omega) dL_law_1088 ?_
    refine lv_aload_n hx hb dL_law_1089 rfl (lv_at hl 0 rfl) ?_
    refine lv_iload_n hx hb dL_law_1090 rfl (lv_at hl 3 rfl) ?_
    refine lv_iconst (v := iI 2) hx hb dL_law_1091 (by decide +kernel) ?_
    refine x_addv (v := i + 2) hx hb dL_law_1092 rfl ?_
    refine x_sld (i := i + 2) hx hb hX hbl hbA hS hL (by omega) dL_law_1093 ?_
    refine lv_if_eq (tgt := 1101) hx hb dL_law_1094 (by decide) (fun cb1 => ?_) (fun cb1 => ?_)
    · exact absurd cb1 cb0
    · refine lv_iconst (v := iI 1) hx hb dL_law_1097 (by decide +kernel) ?_
      refine lv_goto (tgt := 1102) hx hb dL_law_1098 (by decide) ?_
      refine l_callX (As := [.int (iI (sx xs (i + 1))), .int (iI 1)]) (rest := []) (Wo := WK cB cI cJ cZ cQ q B2) ⟨hx, hb, hml, hown, hts⟩ (mc_X12_trial l dC dI cB cI cJ cZ cQ r A (sx xs (i + 1)) 1 hIM (sx_r xs _) ⟨by decide, by decide⟩) (cwV 2 hts gl_28_1 rfl rfl rfl (by decide +kernel) ⟨Nat.le_of_ble_eq_true rfl, Nat.le_of_ble_eq_true rfl⟩) hK hDM hA0 hPM hPK (hap B2 A).sym hS 0 12 wm0 rfl rfl hl.1 (Nat.le_of_ble_eq_true rfl) hcs dL_law_1102 (fun z2 A2 H locs hw2 hPM hPK hS => ?_)
      have hq2 := hw2
      obtain ⟨hr2, hIM, hf2, hw2⟩ := hw2
      have hcCI : CI A2 := CI.fr hcCI hf2 rfl rfl
      have hcWI : WI A2 := WI.fr hcWI hf2 rfl rfl
      have e2 : A2 0 1 = A 0 1 := hf2.2 1 rfl
      refine lv_pop hx hb dL_law_1105 rfl ?_
      refine lv_goto (tgt := 1273) hx hb dL_law_1106 (by decide) ?_
      exact k _ _ _ _ _ ⟨hIK, hIM, hcCI, hcWI, by omega, hTB.fr (fun k => hf1 2 k rfl rfl) (hf2.1 1 (by decide) rfl) (by omega), (fun k hk => (hf1 4 k rfl rfl).trans (hOW k hk)), PSs.fr hIK0 hPS hf1 rfl rfl hf2 rfl rfl, trial_tr hIK0 hIM0 hPS hTR hr1 hr2, (ACS.fr hIK0 hIM0 hPS hAC hf1 rfl rfl hf2 rfl rfl)⟩ ⟨hPK, hPM, hS⟩ hl
set_option maxRecDepth 100000 in
theorem gl_29_0 : GoodIn lw_tbl (wsV RL 138 RX11 yX11_fits ws_kc_X11_fits) := goodVL lt_WY wy_good (t_in_5 _ (List.mem_of_getElem? (i := 157) rfl)) (t_in_5 _ (List.mem_of_getElem? (i := 158) rfl)) (t_in_5 _ (List.mem_of_getElem? (i := 159) rfl)) (t_in_1 _ (List.mem_of_getElem? (i := 1) rfl)) (t_in_5 _ (List.mem_of_getElem? (i := 160) rfl)) (by decide +kernel)
set_option maxRecDepth 100000 in
theorem gl_29_1 : GoodIn lw_tbl (wsV RL 141 RX12 yX12_fits ws_mc_X12_fits) := goodVL lt_WX wx_good (t_in_9 _ (List.mem_of_getElem? (i := 64) rfl)) (t_in_9 _ (List.mem_of_getElem? (i := 65) rfl)) (t_in_9 _ (List.mem_of_getElem? (i := 66) rfl)) (t_in_1 _ (List.mem_of_getElem? (i := 17) rfl)) (t_in_9 _ (List.mem_of_getElem? (i := 67) rfl)) (by decide +kernel)
set_option maxHeartbeats 4000000 in
set_option maxRecDepth 100000 in
theorem law_case_29 {p : Program} {e : Env} {s : State} {m : MethodId} {below : List Frame} {meth : Method} {c : Code} (l : Launch) {b L : Nat} {xs : Nat → Int32} (C0 : lw_At p s m meth c b L xs) (hL : L ≤ 3072) (dC : Nat → ClassId) (dI : Nat → Nat → Nat) (cB cI cJ cZ cQ : ClassId) (aL aS : Nat) (q r : Nat → Nat) (F : LF dC dI cB cI cJ cZ cQ aL aS q r s) {B A : St} {i : Int} (hi : 0 ≤ i ∧ i + 6 ≤ L) (hJ : LJ B A) {H : Heap} {locs : List Loc} {cells slots : Nat} {ls : Array Slot} (hcs : cells ≤ room_1.cells ∧ slots ≤ room_1.slots) (hW : LW dC dI cB cI cJ cZ cQ q r s B A H locs) (hl : lv_has ls 4 [(0, .ref b), (1, .ref (q 0)), (2, .ref (r 0)), (3, .int (iI i))]) (k : ∀ (B A : St) (H : Heap) (locs : List Loc) (ls : Array Slot), LJ B A → LW dC dI cB cI cJ cZ cQ q r s B A H locs → lv_has ls 4 [(0, .ref b), (1, .ref (q 0)), (2, .ref (r 0)), (3, .int (iI i))] → W p l e room_1 s m #[Value.ref b] below meth c H locs cells slots (lw_Z below #[Value.ref b] s) (F0 m 1273 ls [])) : W p l e room_1 s m #[Value.ref b] below meth c H locs cells slots (lw_Z below #[Value.ref b] s) (F0 m 1109 ls []) := by
  obtain ⟨hx, hb, hr, hml, hown, hts, hX, hbl, hlocks, hgv⟩ := id C0
  obtain ⟨hK, hDK, hDM, hap, hE⟩ := F
  obtain ⟨hPK, hPM, hS⟩ := hW
  obtain ⟨hIK, hIM, hcCI, hcWI, hJ, hTB, hOW, hPS, hTR, hAC⟩ := hJ
  have hIK0 := hIK
  have hIM0 := hIM
  have r01 : (0 : Int) ≤ A 0 1 := (hIM 0 1).1
  have hbA : ¬ (fun b : Nat => s.heap.size ≤ b) b := Nat.not_le.mpr hbl
  have hA0 : ∀ b : Nat, s.heap.size ≤ b → (fun b : Nat => s.heap.size ≤ b) b := fun _ h => h
  refine lv_aload_n hx hb dL_law_1109 rfl (lv_at hl 1 rfl) ?_
  refine lv_aload_n hx hb dL_law_1110 rfl (lv_at hl 0 rfl) ?_
  refine lv_iload_n hx hb dL_law_1111 rfl (lv_at hl 3 rfl) ?_
  refine lv_iconst (v := iI 1) hx hb dL_law_1112 (by decide +kernel) ?_
  refine x_addv (v := i + 1) hx hb dL_law_1113 rfl ?_
  refine x_sld (i := i + 1) hx hb hX hbl hbA hS hL (by omega) dL_law_1114 ?_
  refine l_callK (As := [.int (iI (sx xs (i + 1)))]) (rest := []) (Wo := WM cI cJ cZ r A) ⟨hx, hb, hml, hown, hts⟩ hE (kc_X11_fits l dC dI cB cI cJ cZ cQ aL aS q B (sx xs (i + 1)) hIK (sx_r xs _)) (cwV 1 hts gl_29_0 rfl rfl rfl (by decide +kernel) ⟨Nat.le_of_ble_eq_true rfl, Nat.le_of_ble_eq_true rfl⟩) hK hDK hA0 hPK hPM (hap B A) hS 0 11 wkK rfl rfl hl.1 (Nat.le_of_ble_eq_true rfl) hcs dL_law_1115 (fun z1 B2 H locs hw1 hPK hPM hS => ?_)
  obtain ⟨hr1, hIK, hf1, hw1⟩ := hw1
  have e1 : B2 1 1 = B 1 1 := hf1 1 1 rfl rfl
  refine lv_pop hx hb dL_law_1118 rfl ?_
  refine lv_aload_n hx hb dL_law_1119 rfl (lv_at hl 2 rfl) ?_
  refine lv_aload_n hx hb dL_law_1120 rfl (lv_at hl 0 rfl) ?_
  refine lv_iload_n hx hb dL_law_1121 rfl (lv_at hl 3 rfl) ?_
  refine lv_iconst (v := iI 1) hx hb dL_law_1122 (by decide +kernel) ?_
  refine x_addv (v := i + 1) hx hb dL_law_1123 rfl ?_
  refine x_sld (i := i + 1) hx hb hX hbl hbA hS hL (by omega) dL_law_1124 ?_
  refine l_callX (As := [.int (iI (sx xs (i + 1)))]) (rest := []) (Wo := WK cB cI cJ cZ cQ q B2) ⟨hx, hb, hml, hown, hts⟩ (mc_X12_fits l dC dI cB cI cJ cZ cQ r A (sx xs (i + 1)) hIM (sx_r xs _)) (cwV 1 hts gl_29_1 rfl rfl rfl (by decide +kernel) ⟨Nat.le_of_ble_eq_true rfl, Nat.le_of_ble_eq_true rfl⟩) hK hDM hA0 hPM hPK (hap B2 A).sym hS 0 12 wm0 rfl rfl hl.1 (Nat.le_of_ble_eq_true rfl) hcs dL_law_1125 (fun z2 A2 H locs hw2 hPM hPK hS => ?_)
  have hq2 := hw2
  obtain ⟨hr2, hIM, hf2, hw2⟩ := hw2
  have hcCI : CI A2 := CI.fr hcCI hf2 rfl rfl
  have hcWI : WI A2 := WI.fr hcWI hf2 rfl rfl
  have e2 : A2 0 1 = A 0 1 := hf2.2 1 rfl
  refine lv_pop hx hb dL_law_1128 rfl ?_
  refine lv_goto (tgt := 1273) hx hb dL_law_1129 (by decide) ?_
  exact k _ _ _ _ _ ⟨hIK, hIM, hcCI, hcWI, by omega, hTB.fr (fun k => hf1 2 k rfl rfl) (hf2.1 1 (by decide) rfl) (by omega), (fun k hk => (hf1 4 k rfl rfl).trans (hOW k hk)), PSs.fr hIK0 hPS hf1 rfl rfl hf2 rfl rfl, ((hf1 22 4 rfl rfl).trans (hTR.trans (hf2.2 75 rfl).symm)), (ACS.fr hIK0 hIM0 hPS hAC hf1 rfl rfl hf2 rfl rfl)⟩ ⟨hPK, hPM, hS⟩ hl
