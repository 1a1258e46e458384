set_option maxRecDepth 100000 in
theorem gl_36_0 : GoodIn lw_tbl (wsV RL 167 RX11 yX11_status ws_kc_X11_status) := goodVL lt_WY wy_good (t_in_6 _ (List.mem_of_getElem? (i := 5) rfl)) (t_in_6 _ (List.mem_of_getElem? (i := 6) rfl)) (t_in_6 _ (List.mem_of_getElem? (i := 7) rfl)) (t_in_1 _ (List.mem_of_getElem? (i := 1) rfl)) (t_in_6 _ (List.mem_of_getElem? (i := 8) rfl)) (by decide +kernel)
set_option maxRecDepth 100000 in
theorem gl_36_1 : GoodIn lw_tbl (wsV RL 170 RX12 yX12_status ws_mc_X12_status) := goodVL lt_WX wx_good (t_in_8 _ (List.mem_of_getElem? (i := 5) rfl)) (t_in_8 _ (List.mem_of_getElem? (i := 6) rfl)) (t_in_8 _ (List.mem_of_getElem? (i := 7) rfl)) (t_in_1 _ (List.mem_of_getElem? (i := 17) rfl)) (t_in_8 _ (List.mem_of_getElem? (i := 8) rfl)) (by decide +kernel)
set_option maxHeartbeats 4000000 in
set_option maxRecDepth 100000 in
theorem law_case_36 {p : Program} {e : Env} {s : State} {m : MethodId} {below : List Frame} {meth : Method} {c : Code} (l : Launch) {b L : Nat} {xs : Nat → Int32} (C0 : lw_At p s m meth c b L xs) (hL : L ≤ 3072) (dC : Nat → ClassId) (dI : Nat → Nat → Nat) (cB cI cJ cZ cQ : ClassId) (aL aS : Nat) (q r : Nat → Nat) (F : LF dC dI cB cI cJ cZ cQ aL aS q r s) {B A : St} {i : Int} (hi : 0 ≤ i ∧ i + 6 ≤ L) (hJ : LJ B A) {H : Heap} {locs : List Loc} {cells slots : Nat} {ls : Array Slot} (hcs : cells ≤ room_1.cells ∧ slots ≤ room_1.slots) (hW : LW dC dI cB cI cJ cZ cQ q r s B A H locs) (hl : lv_has ls 4 [(0, .ref b), (1, .ref (q 0)), (2, .ref (r 0)), (3, .int (iI i))]) (k : ∀ (B A : St) (H : Heap) (locs : List Loc) (ls : Array Slot), LJ B A → LW dC dI cB cI cJ cZ cQ q r s B A H locs → lv_has ls 4 [(0, .ref b), (1, .ref (q 0)), (2, .ref (r 0)), (3, .int (iI i))] → W p l e room_1 s m #[Value.ref b] below meth c H locs cells slots (lw_Z below #[Value.ref b] s) (F0 m 1273 ls [])) : W p l e room_1 s m #[Value.ref b] below meth c H locs cells slots (lw_Z below #[Value.ref b] s) (F0 m 1250 ls []) := by
  obtain ⟨hx, hb, hr, hml, hown, hts, hX, hbl, hlocks, hgv⟩ := id C0
  obtain ⟨hK, hDK, hDM, hap, hE⟩ := F
  obtain ⟨hPK, hPM, hS⟩ := hW
  obtain ⟨hIK, hIM, hcCI, hcWI, hJ, hTB, hOW, hPS, hTR, hAC⟩ := hJ
  have hIK0 := hIK
  have hIM0 := hIM
  have r01 : (0 : Int) ≤ A 0 1 := (hIM 0 1).1
  have hbA : ¬ (fun b : Nat => s.heap.size ≤ b) b := Nat.not_le.mpr hbl
  have hA0 : ∀ b : Nat, s.heap.size ≤ b → (fun b : Nat => s.heap.size ≤ b) b := fun _ h => h
  refine lv_aload_n hx hb dL_law_1250 rfl (lv_at hl 1 rfl) ?_
  refine lv_aload_n hx hb dL_law_1251 rfl (lv_at hl 0 rfl) ?_
  refine lv_iload_n hx hb dL_law_1252 rfl (lv_at hl 3 rfl) ?_
  refine lv_iconst (v := iI 1) hx hb dL_law_1253 (by decide +kernel) ?_
  refine x_addv (v := i + 1) hx hb dL_law_1254 rfl ?_
  refine x_sld (i := i + 1) hx hb hX hbl hbA hS hL (by omega) dL_law_1255 ?_
  refine l_callK (As := [.int (iI (sx xs (i + 1)))]) (rest := []) (Wo := WM cI cJ cZ r A) ⟨hx, hb, hml, hown, hts⟩ hE (kc_X11_status l dC dI cB cI cJ cZ cQ aL aS q B (sx xs (i + 1)) hIK (sx_r xs _)) (cwV 1 hts gl_36_0 rfl rfl rfl (by decide +kernel) ⟨Nat.le_of_ble_eq_true rfl, Nat.le_of_ble_eq_true rfl⟩) hK hDK hA0 hPK hPM (hap B A) hS 0 11 wkK rfl rfl hl.1 (Nat.le_of_ble_eq_true rfl) hcs dL_law_1256 (fun z1 B2 H locs hw1 hPK hPM hS => ?_)
  obtain ⟨rfl, hr1, hw1⟩ := hw1
  refine lv_pop hx hb dL_law_1259 rfl ?_
  refine lv_aload_n hx hb dL_law_1260 rfl (lv_at hl 2 rfl) ?_
  refine lv_aload_n hx hb dL_law_1261 rfl (lv_at hl 0 rfl) ?_
  refine lv_iload_n hx hb dL_law_1262 rfl (lv_at hl 3 rfl) ?_
  refine lv_iconst (v := iI 1) hx hb dL_law_1263 (by decide +kernel) ?_
  refine x_addv (v := i + 1) hx hb dL_law_1264 rfl ?_
  refine x_sld (i := i + 1) hx hb hX hbl hbA hS hL (by omega) dL_law_1265 ?_
  refine l_callX (As := [.int (iI (sx xs (i + 1)))]) (rest := []) (Wo := WK cB cI cJ cZ cQ q B) ⟨hx, hb, hml, hown, hts⟩ (mc_X12_status l dC dI cB cI cJ cZ cQ r A (sx xs (i + 1)) hIM (sx_r xs _)) (cwV 1 hts gl_36_1 rfl rfl rfl (by decide +kernel) ⟨Nat.le_of_ble_eq_true rfl, Nat.le_of_ble_eq_true rfl⟩) hK hDM hA0 hPM hPK (hap B A).sym hS 0 12 wm0 rfl rfl hl.1 (Nat.le_of_ble_eq_true rfl) hcs dL_law_1266 (fun z2 A2 H locs hw2 hPM hPK hS => ?_)
  have hq2 := hw2
  obtain ⟨rfl, hr2, hw2⟩ := hw2
  refine lv_pop hx hb dL_law_1269 rfl ?_
  refine lv_goto (tgt := 1273) hx hb dL_law_1270 (by decide) ?_
  exact k _ _ _ _ _ ⟨hIK, hIM, hcCI, hcWI, by omega, hTB, hOW, hPS, hTR, hAC⟩ ⟨hPK, hPM, hS⟩ hl
