set_option maxRecDepth 100000 in
theorem gl_30_0 : GoodIn lw_tbl (wsV RL 142 RX11 yX11_would ws_kc_X11_would) := goodVL lt_WY wy_good (t_in_5 _ (List.mem_of_getElem? (i := 161) rfl)) (t_in_5 _ (List.mem_of_getElem? (i := 162) rfl)) (t_in_5 _ (List.mem_of_getElem? (i := 163) rfl)) (t_in_1 _ (List.mem_of_getElem? (i := 1) rfl)) (t_in_5 _ (List.mem_of_getElem? (i := 164) rfl)) (by decide +kernel)
set_option maxRecDepth 100000 in
theorem gl_30_1 : GoodIn lw_tbl (wsV RL 145 RX12 yX12_would ws_mc_X12_would) := goodVL lt_WX wx_good (t_in_9 _ (List.mem_of_getElem? (i := 68) rfl)) (t_in_9 _ (List.mem_of_getElem? (i := 69) rfl)) (t_in_9 _ (List.mem_of_getElem? (i := 70) rfl)) (t_in_1 _ (List.mem_of_getElem? (i := 17) rfl)) (t_in_9 _ (List.mem_of_getElem? (i := 71) rfl)) (by decide +kernel)
set_option maxHeartbeats 4000000 in
set_option maxRecDepth 100000 in
theorem law_case_30 {p : Program} {e : Env} {s : State} {m : MethodId} {below : List Frame} {meth : Method} {c : Code} (l : Launch) {b L : Nat} {xs : Nat → Int32} (C0 : lw_At p s m meth c b L xs) (hL : L ≤ 3072) (dC : Nat → ClassId) (dI : Nat → Nat → Nat) (cB cI cJ cZ cQ : ClassId) (aL aS : Nat) (q r : Nat → Nat) (F : LF dC dI cB cI cJ cZ cQ aL aS q r s) {B A : St} {i : Int} (hi : 0 ≤ i ∧ i + 6 ≤ L) (hJ : LJ B A) {H : Heap} {locs : List Loc} {cells slots : Nat} {ls : Array Slot} (hcs : cells ≤ room_1.cells ∧ slots ≤ room_1.slots) (hW : LW dC dI cB cI cJ cZ cQ q r s B A H locs) (hl : lv_has ls 4 [(0, .ref b), (1, .ref (q 0)), (2, .ref (r 0)), (3, .int (iI i))]) (k : ∀ (B A : St) (H : Heap) (locs : List Loc) (ls : Array Slot), LJ B A → LW dC dI cB cI cJ cZ cQ q r s B A H locs → lv_has ls 4 [(0, .ref b), (1, .ref (q 0)), (2, .ref (r 0)), (3, .int (iI i))] → W p l e room_1 s m #[Value.ref b] below meth c H locs cells slots (lw_Z below #[Value.ref b] s) (F0 m 1273 ls [])) : W p l e room_1 s m #[Value.ref b] below meth c H locs cells slots (lw_Z below #[Value.ref b] s) (F0 m 1132 ls []) := by
  obtain ⟨hx, hb, hr, hml, hown, hts, hX, hbl, hlocks, hgv⟩ := id C0
  obtain ⟨hK, hDK, hDM, hap, hE⟩ := F
  obtain ⟨hPK, hPM, hS⟩ := hW
  obtain ⟨hIK, hIM, hcCI, hcWI, hJ, hTB, hOW, hPS, hTR, hAC⟩ := hJ
  have hIK0 := hIK
  have hIM0 := hIM
  have r01 : (0 : Int) ≤ A 0 1 := (hIM 0 1).1
  have hbA : ¬ (fun b : Nat => s.heap.size ≤ b) b := Nat.not_le.mpr hbl
  have hA0 : ∀ b : Nat, s.heap.size ≤ b → (fun b : Nat => s.heap.size ≤ b) b := fun _ h => h
  refine lv_aload_n hx hb dL_law_1132 rfl (lv_at hl 1 rfl) ?_
  refine lv_aload_n hx hb dL_law_1133 rfl (lv_at hl 0 rfl) ?_
  refine lv_iload_n hx hb dL_law_1134 rfl (lv_at hl 3 rfl) ?_
  refine lv_iconst (v := iI 1) hx hb dL_law_1135 (by decide +kernel) ?_
  refine x_addv (v := i + 1) hx hb dL_law_1136 rfl ?_
  refine x_sld (i := i + 1) hx hb hX hbl hbA hS hL (by omega) dL_law_1137 ?_
  refine l_callK (As := [.int (iI (sx xs (i + 1)))]) (rest := []) (Wo := WM cI cJ cZ r A) ⟨hx, hb, hml, hown, hts⟩ hE (kc_X11_would l dC dI cB cI cJ cZ cQ aL aS q B (sx xs (i + 1)) hIK (sx_r xs _)) (cwV 1 hts gl_30_0 rfl rfl rfl (by decide +kernel) ⟨Nat.le_of_ble_eq_true rfl, Nat.le_of_ble_eq_true rfl⟩) hK hDK hA0 hPK hPM (hap B A) hS 0 11 wkK rfl rfl hl.1 (Nat.le_of_ble_eq_true rfl) hcs dL_law_1138 (fun z1 B2 H locs hw1 hPK hPM hS => ?_)
  obtain ⟨hr1, hIK, hf1, hw1⟩ := hw1
  have e1 : B2 1 1 = B 1 1 := hf1 1 1 rfl rfl
  refine lv_pop hx hb dL_law_1141 rfl ?_
  refine lv_aload_n hx hb dL_law_1142 rfl (lv_at hl 2 rfl) ?_
  refine lv_aload_n hx hb dL_law_1143 rfl (lv_at hl 0 rfl) ?_
  refine lv_iload_n hx hb dL_law_1144 rfl (lv_at hl 3 rfl) ?_
  refine lv_iconst (v := iI 1) hx hb dL_law_1145 (by decide +kernel) ?_
  refine x_addv (v := i + 1) hx hb dL_law_1146 rfl ?_
  refine x_sld (i := i + 1) hx hb hX hbl hbA hS hL (by omega) dL_law_1147 ?_
  refine l_callX (As := [.int (iI (sx xs (i + 1)))]) (rest := []) (Wo := WK cB cI cJ cZ cQ q B2) ⟨hx, hb, hml, hown, hts⟩ (mc_X12_would l dC dI cB cI cJ cZ cQ r A (sx xs (i + 1)) hIM (sx_r xs _)) (cwV 1 hts gl_30_1 rfl rfl rfl (by decide +kernel) ⟨Nat.le_of_ble_eq_true rfl, Nat.le_of_ble_eq_true rfl⟩) hK hDM hA0 hPM hPK (hap B2 A).sym hS 0 12 wm0 rfl rfl hl.1 (Nat.le_of_ble_eq_true rfl) hcs dL_law_1148 (fun z2 A2 H locs hw2 hPM hPK hS => ?_)
  have hq2 := hw2
  obtain ⟨hr2, hIM, hf2, hw2⟩ := hw2
  have hcCI : CI A2 := CI.fr hcCI hf2 rfl rfl
  have hcWI : WI A2 := WI.fr hcWI hf2 rfl rfl
  have e2 : A2 0 1 = A 0 1 := hf2.2 1 rfl
  refine lv_pop hx hb dL_law_1151 rfl ?_
  refine lv_goto (tgt := 1273) hx hb dL_law_1152 (by decide) ?_
  exact k _ _ _ _ _ ⟨hIK, hIM, hcCI, hcWI, by omega, hTB.fr (fun k => hf1 2 k rfl rfl) (hf2.1 1 (by decide) rfl) (by omega), (fun k hk => (hf1 4 k rfl rfl).trans (hOW k hk)), PSs.fr hIK0 hPS hf1 rfl rfl hf2 rfl rfl, ((hf1 22 4 rfl rfl).trans (hTR.trans (hf2.2 75 rfl).symm)), (ACS.fr hIK0 hIM0 hPS hAC hf1 rfl rfl hf2 rfl rfl)⟩ ⟨hPK, hPM, hS⟩ hl
set_option maxRecDepth 100000 in
theorem gl_31_0 : GoodIn lw_tbl (wsV RL 146 RX11 yX11_unsay ws_kc_X11_unsay) := goodVL lt_WY wy_good (t_in_5 _ (List.mem_of_getElem? (i := 165) rfl)) (t_in_5 _ (List.mem_of_getElem? (i := 166) rfl)) (t_in_5 _ (List.mem_of_getElem? (i := 167) rfl)) (t_in_1 _ (List.mem_of_getElem? (i := 1) rfl)) (t_in_5 _ (List.mem_of_getElem? (i := 168) rfl)) (by decide +kernel)
set_option maxRecDepth 100000 in
theorem gl_31_1 : GoodIn lw_tbl (wsV RL 149 RX12 yX12_unsay ws_mc_X12_unsay) := goodVL lt_WX wx_good (t_in_9 _ (List.mem_of_getElem? (i := 72) rfl)) (t_in_9 _ (List.mem_of_getElem? (i := 73) rfl)) (t_in_9 _ (List.mem_of_getElem? (i := 74) rfl)) (t_in_1 _ (List.mem_of_getElem? (i := 17) rfl)) (t_in_9 _ (List.mem_of_getElem? (i := 75) rfl)) (by decide +kernel)
set_option maxHeartbeats 4000000 in
set_option maxRecDepth 100000 in
theorem law_case_31 {p : Program} {e : Env} {s : State} {m : MethodId} {below : List Frame} {meth : Method} {c : Code} (l : Launch) {b L : Nat} {xs : Nat → Int32} (C0 : lw_At p s m meth c b L xs) (hL : L ≤ 3072) (dC : Nat → ClassId) (dI : Nat → Nat → Nat) (cB cI cJ cZ cQ : ClassId) (aL aS : Nat) (q r : Nat → Nat) (F : LF dC dI cB cI cJ cZ cQ aL aS q r s) {B A : St} {i : Int} (hi : 0 ≤ i ∧ i + 6 ≤ L) (hJ : LJ B A) {H : Heap} {locs : List Loc} {cells slots : Nat} {ls : Array Slot} (hcs : cells ≤ room_1.cells ∧ slots ≤ room_1.slots) (hW : LW dC dI cB cI cJ cZ cQ q r s B A H locs) (hl : lv_has ls 4 [(0, .ref b), (1, .ref (q 0)), (2, .ref (r 0)), (3, .int (iI i))]) (k : ∀ (B A : St) (H : Heap) (locs : List Loc) (ls : Array Slot), LJ B A → LW dC dI cB cI cJ cZ cQ q r s B A H locs → lv_has ls 4 [(0, .ref b), (1, .ref (q 0)), (2, .ref (r 0)), (3, .int (iI i))] → W p l e room_1 s m #[Value.ref b] below meth c H locs cells slots (lw_Z below #[Value.ref b] s) (F0 m 1273 ls [])) : W p l e room_1 s m #[Value.ref b] below meth c H locs cells slots (lw_Z below #[Value.ref b] s) (F0 m 1155 ls []) := by
  obtain ⟨hx, hb, hr, hml, hown, hts, hX, hbl, hlocks, hgv⟩ := id C0
  obtain ⟨hK, hDK, hDM, hap, hE⟩ := F
  obtain ⟨hPK, hPM, hS⟩ := hW
  obtain ⟨hIK, hIM, hcCI, hcWI, hJ, hTB, hOW, hPS, hTR, hAC⟩ := hJ
  have hIK0 := hIK
  have hIM0 := hIM
  have r01 : (0 : Int) ≤ A 0 1 := (hIM 0 1).1
  have hbA : ¬ (fun b : Nat => s.heap.size ≤ b) b := Nat.not_le.mpr hbl
  have hA0 : ∀ b : Nat, s.heap.size ≤ b → (fun b : Nat => s.heap.size ≤ b) b := fun _ h => h
  refine lv_aload_n hx hb dL_law_1155 rfl (lv_at hl 1 rfl) ?_
  refine l_callK (As := []) (rest := []) (Wo := WM cI cJ cZ r A) ⟨hx, hb, hml, hown, hts⟩ hE (kc_X11_unsay l dC dI cB cI cJ cZ cQ aL aS q B  hIK) (cwV 0 hts gl_31_0 rfl rfl rfl (by decide +kernel) ⟨Nat.le_of_ble_eq_true rfl, Nat.le_of_ble_eq_true rfl⟩) hK hDK hA0 hPK hPM (hap B A) hS 0 11 wkK rfl rfl hl.1 (Nat.le_of_ble_eq_true rfl) hcs dL_law_1156 (fun z1 B2 H locs hw1 hPK hPM hS => ?_)
  obtain ⟨hr1, hIK, hf1, hw1⟩ := hw1
  have e1 : B2 1 1 = B 1 1 := hf1 1 1 rfl rfl
  refine lv_pop hx hb dL_law_1159 rfl ?_
  refine lv_aload_n hx hb dL_law_1160 rfl (lv_at hl 2 rfl) ?_
  refine l_callX (As := []) (rest := []) (Wo := WK cB cI cJ cZ cQ q B2) ⟨hx, hb, hml, hown, hts⟩ (mc_X12_unsay l dC dI cB cI cJ cZ cQ r A  hIM) (cwV 0 hts gl_31_1 rfl rfl rfl (by decide +kernel) ⟨Nat.le_of_ble_eq_true rfl, Nat.le_of_ble_eq_true rfl⟩) hK hDM hA0 hPM hPK (hap B2 A).sym hS 0 12 wm0 rfl rfl hl.1 (Nat.le_of_ble_eq_true rfl) hcs dL_law_1161 (fun z2 A2 H locs hw2 hPM hPK hS => ?_)
  have hq2 := hw2
  obtain ⟨hr2, hIM, hf2, hw2⟩ := hw2
  have hcCI : CI A2 := CI.fr hcCI hf2 rfl rfl
  have hcWI : WI A2 := WI.fr hcWI hf2 rfl rfl
  have e2 : A2 0 1 = A 0 1 := hf2.2 1 rfl
  refine lv_pop hx hb dL_law_1164 rfl ?_
  refine lv_goto (tgt := 1273) hx hb dL_law_1165 (by decide) ?_
  exact k _ _ _ _ _ ⟨hIK, hIM, hcCI, hcWI, by omega, hTB.fr (fun k => hf1 2 k rfl rfl) (hf2.1 1 (by decide) rfl) (by omega), (fun k hk => (hf1 4 k rfl rfl).trans (hOW k hk)), PSs.fr hIK0 hPS hf1 rfl rfl hf2 rfl rfl, (unsay_eq hTR hr1 hr2).2, (ACS.fr hIK0 hIM0 hPS hAC hf1 rfl rfl hf2 rfl rfl)⟩ ⟨hPK, hPM, hS⟩ hl
set_option maxRecDepth 100000 in
theorem gl_32_0 : GoodIn lw_tbl (wsV RL 150 RX11 yX11_round ws_kc_X11_round) := goodVL lt_WY wy_good (t_in_5 _ (List.mem_of_getElem? (i := 169) rfl)) (t_in_5 _ (List.mem_of_getElem? (i := 170) rfl)) (t_in_5 _ (List.mem_of_getElem? (i := 171) rfl)) (t_in_1 _ (List.mem_of_getElem? (i := 1) rfl)) (t_in_5 _ (List.mem_of_getElem? (i := 172) rfl)) (by decide +kernel)
set_option maxRecDepth 100000 in
theorem gl_32_1 : GoodIn lw_tbl (wsV RL 153 RX12 yX12_round ws_mc_X12_round) := goodVL lt_WX wx_good (t_in_9 _ (List.mem_of_getElem? (i := 76) rfl)) (t_in_9 _ (List.mem_of_getElem? (i := 77) rfl)) (t_in_9 _ (List.mem_of_getElem? (i := 78) rfl)) (t_in_1 _ (List.mem_of_getElem? (i := 17) rfl)) (t_in_9 _ (List.mem_of_getElem? (i := 79) rfl)) (by decide +kernel)
set_option maxHeartbeats 4000000 in
set_option maxRecDepth 100000 in
theorem law_case_32 {p : Program} {e : Env} {s : State} {m : MethodId} {below : List Frame} {meth : Method} {c : Code} (l : Launch) {b L : Nat} {xs : Nat → Int32} (C0 : lw_At p s m meth c b L xs) (hL : L ≤ 3072) (dC : Nat → ClassId) (dI : Nat → Nat → Nat) (cB cI cJ cZ cQ : ClassId) (aL aS : Nat) (q r : Nat → Nat) (F : LF dC dI cB cI cJ cZ cQ aL aS q r s) {B A : St} {i : Int} (hi : 0 ≤ i ∧ i + 6 ≤ L) (hJ : LJ B A) {H : Heap} {locs : List Loc} {cells slots : Nat} {ls : Array Slot} (hcs : cells ≤ room_1.cells ∧ slots ≤ room_1.slots) (hW : LW dC dI cB cI cJ cZ cQ q r s B A H locs) (hl : lv_has ls 4 [(0, .ref b), (1, .ref (q 0)), (2, .ref (r 0)), (3, .int (iI i))]) (k : ∀ (B A : St) (H : Heap) (locs : List Loc) (ls : Array Slot), LJ B A → LW dC dI cB cI cJ cZ cQ q r s B A H locs → lv_has ls 4 [(0, .ref b), (1, .ref (q 0)), (2, .ref (r 0)), (3, .int (iI i))] → W p l e room_1 s m #[Value.ref b] below meth c H locs cells slots (lw_Z below #[Value.ref b] s) (F0 m 1273 ls [])) : W p l e room_1 s m #[Value.ref b] below meth c H locs cells slots (lw_Z below #[Value.ref b] s) (F0 m 1168 ls []) := by
  obtain ⟨hx, hb, hr, hml, hown, hts, hX, hbl, hlocks, hgv⟩ := id C0
  obtain ⟨hK, hDK, hDM, hap, hE⟩ := F
  obtain ⟨hPK, hPM, hS⟩ := hW
  obtain ⟨hIK, hIM, hcCI, hcWI, hJ, hTB, hOW, hPS, hTR, hAC⟩ := hJ
  have hIK0 := hIK
  have hIM0 := hIM
  have r01 : (0 : Int) ≤ A 0 1 := (hIM 0 1).1
  have hbA : ¬ (fun b : Nat => s.heap.size ≤ b) b := Nat.not_le.mpr hbl
  have hA0 : ∀ b : Nat, s.heap.size ≤ b → (fun b : Nat => s.heap.size ≤ b) b := fun _ h => h
  refine lv_aload_n hx hb dL_law_1168 rfl (lv_at hl 1 rfl) ?_
  refine lv_aload_n hx hb dL_law_1169 rfl (lv_at hl 0 rfl) ?_
  refine lv_iload_n hx hb dL_law_1170 rfl (lv_at hl 3 rfl) ?_
  refine lv_iconst (v := iI 1) hx hb dL_law_1171 (by decide +kernel) ?_
  refine x_addv (v := i + 1) hx hb dL_law_1172 rfl ?_
  refine x_sld (i := i + 1) hx hb hX hbl hbA hS hL (by omega) dL_law_1173 ?_
  refine lv_aload_n hx hb dL_law_1174 rfl (lv_at hl 0 rfl) ?_
  refine lv_iload_n hx hb dL_law_1175 rfl (lv_at hl 3 rfl) ?_
  refine lv_iconst (v := iI 2) hx hb dL_law_1176 (by decide +kernel) ?_
  refine x_addv (v := i + 2) hx hb dL_law_1177 rfl ?_
  refine x_sld (i := i + 2) hx hb hX hbl hbA hS hL (by omega) dL_law_1178 ?_
  refine l_callK (As := [.int (iI (sx xs (i + 1))), .int (iI (sx xs (i + 2)))]) (rest := []) (Wo := WM cI cJ cZ r A) ⟨hx, hb, hml, hown, hts⟩ hE (kc_X11_round l dC dI cB cI cJ cZ cQ aL aS q B (sx xs (i + 1)) (sx xs (i + 2)) hIK (sx_r xs _) (sx_r xs _)) (cwV 2 hts gl_32_0 rfl rfl rfl (by decide +kernel) ⟨Nat.le_of_ble_eq_true rfl, Nat.le_of_ble_eq_true rfl⟩) hK hDK hA0 hPK hPM (hap B A) hS 0 11 wkK rfl rfl hl.1 (Nat.le_of_ble_eq_true rfl) hcs dL_law_1179 (fun z1 B2 H locs hw1 hPK hPM hS => ?_)
  obtain ⟨hr1, hIK, hf1, hw1⟩ := hw1
  have e1 : B2 1 1 = B 1 1 := hf1 1 1 rfl rfl
  refine lv_pop hx hb dL_law_1182 rfl ?_
  refine lv_aload_n hx hb dL_law_1183 rfl (lv_at hl 2 rfl) ?_
  refine lv_aload_n hx hb dL_law_1184 rfl (lv_at hl 0 rfl) ?_
  refine lv_iload_n hx hb dL_law_1185 rfl (lv_at hl 3 rfl) ?_
  refine lv_iconst (v := iI 1) hx hb dL_law_1186 (by decide +kernel) ?_
  refine x_addv (v := i + 1) hx hb dL_law_1187 rfl ?_
  refine x_sld (i := i + 1) hx hb hX hbl hbA hS hL (by omega) dL_law_1188 ?_
  refine lv_aload_n hx hb dL_law_1189 rfl (lv_at hl 0 rfl) ?_
  refine lv_iload_n hx hb dL_law_1190 rfl (lv_at hl 3 rfl) ?_
  refine lv_iconst (v := iI 2) hx hb dL_law_1191 (by decide +kernel) ?_
  refine x_addv (v := i + 2) hx hb dL_law_1192 rfl ?_
  refine x_sld (i := i + 2) hx hb hX hbl hbA hS hL (by omega) dL_law_1193 ?_
  refine l_callX (As := [.int (iI (sx xs (i + 1))), .int (iI (sx xs (i + 2)))]) (rest := []) (Wo := WK cB cI cJ cZ cQ q B2) ⟨hx, hb, hml, hown, hts⟩ (mc_X12_round l dC dI cB cI cJ cZ cQ r A (sx xs (i + 1)) (sx xs (i + 2)) hIM (sx_r xs _) (sx_r xs _)) (cwV 2 hts gl_32_1 rfl rfl rfl (by decide +kernel) ⟨Nat.le_of_ble_eq_true rfl, Nat.le_of_ble_eq_true rfl⟩) hK hDM hA0 hPM hPK (hap B2 A).sym hS 0 12 wm0 rfl rfl hl.1 (Nat.le_of_ble_eq_true rfl) hcs dL_law_1194 (fun z2 A2 H locs hw2 hPM hPK hS => ?_)
  have hq2 := hw2
  obtain ⟨hr2, hIM, hf2, hw2⟩ := hw2
  have hcCI : CI A2 := CI.fr hcCI hf2 rfl rfl
  have hcWI : WI A2 := WI.fr hcWI hf2 rfl rfl
  have e2 : A2 0 1 = A 0 1 := hf2.2 1 rfl
  refine lv_pop hx hb dL_law_1197 rfl ?_
  refine lv_goto (tgt := 1273) hx hb dL_law_1198 (by decide) ?_
  exact k _ _ _ _ _ ⟨hIK, hIM, hcCI, hcWI, by omega, hTB.fr (fun k => hf1 2 k rfl rfl) (hf2.1 1 (by decide) rfl) (by omega), (fun k hk => (hf1 4 k rfl rfl).trans (hOW k hk)), PSs.fr hIK0 hPS hf1 rfl rfl hf2 rfl rfl, ((hf1 22 4 rfl rfl).trans (hTR.trans (hf2.2 75 rfl).symm)), (ACS.fr hIK0 hIM0 hPS hAC hf1 rfl rfl hf2 rfl rfl)⟩ ⟨hPK, hPM, hS⟩ hl
set_option maxRecDepth 100000 in
theorem gl_33_0 : GoodIn lw_tbl (wsV RL 154 RX11 yX11_image ws_kc_X11_image) := goodVL lt_WY wy_good (t_in_5 _ (List.mem_of_getElem? (i := 202) rfl)) (t_in_5 _ (List.mem_of_getElem? (i := 203) rfl)) (t_in_5 _ (List.mem_of_getElem? (i := 204) rfl)) (t_in_1 _ (List.mem_of_getElem? (i := 1) rfl)) (t_in_5 _ (List.mem_of_getElem? (i := 205) rfl)) (by decide +kernel)
set_option maxRecDepth 100000 in
theorem gl_33_1 : GoodIn lw_tbl (wsV RL 157 RX12 yX12_image ws_mc_X12_image) := goodVL lt_WX wx_good (t_in_9 _ (List.mem_of_getElem? (i := 85) rfl)) (t_in_9 _ (List.mem_of_getElem? (i := 86) rfl)) (t_in_9 _ (List.mem_of_getElem? (i := 87) rfl)) (t_in_1 _ (List.mem_of_getElem? (i := 17) rfl)) (t_in_9 _ (List.mem_of_getElem? (i := 88) rfl)) (by decide +kernel)
set_option maxHeartbeats 4000000 in
set_option maxRecDepth 100000 in
theorem law_case_33 {p : Program} {e : Env} {s : State} {m : MethodId} {below : List Frame} {meth : Method} {c : Code} (l : Launch) {b L : Nat} {xs : Nat → Int32} (C0 : lw_At p s m meth c b L xs) (hL : L ≤ 3072) (dC : Nat → ClassId) (dI : Nat → Nat → Nat) (cB cI cJ cZ cQ : ClassId) (aL aS : Nat) (q r : Nat → Nat) (F : LF dC dI cB cI cJ cZ cQ aL aS q r s) {B A : St} {i : Int} (hi : 0 ≤ i ∧ i + 6 ≤ L) (hJ : LJ B A) {H : Heap} {locs : List Loc} {cells slots : Nat} {ls : Array Slot} (hcs : cells ≤ room_1.cells ∧ slots ≤ room_1.slots) (hW : LW dC dI cB cI cJ cZ cQ q r s B A H locs) (hl : lv_has ls 4 [(0, .ref b), (1, .ref (q 0)), (2, .ref (r 0)), (3, .int (iI i))]) (k : ∀ (B A : St) (H : Heap) (locs : List Loc) (ls : Array Slot), LJ B A → LW dC dI cB cI cJ cZ cQ q r s B A H locs → lv_has ls 4 [(0, .ref b), (1, .ref (q 0)), (2, .ref (r 0)), (3, .int (iI i))] → W p l e room_1 s m #[Value.ref b] below meth c H locs cells slots (lw_Z below #[Value.ref b] s) (F0 m 1273 ls [])) : W p l e room_1 s m #[Value.ref b] below meth c H locs cells slots (lw_Z below #[Value.ref b] s) (F0 m 1201 ls []) := by
  obtain ⟨hx, hb, hr, hml, hown, hts, hX, hbl, hlocks, hgv⟩ := id C0
  obtain ⟨hK, hDK, hDM, hap, hE⟩ := F
  obtain ⟨hPK, hPM, hS⟩ := hW
  obtain ⟨hIK, hIM, hcCI, hcWI, hJ, hTB, hOW, hPS, hTR, hAC⟩ := hJ
  have hIK0 := hIK
  have hIM0 := hIM
  have r01 : (0 : Int) ≤ A 0 1 := (hIM 0 1).1
  have hbA : ¬ (fun b : Nat => s.heap.size ≤ b) b := Nat.not_le.mpr hbl
  have hA0 : ∀ b : Nat, s.heap.size ≤ b → (fun b : Nat => s.heap.size ≤ b) b := fun _ h => h
  refine lv_aload_n hx hb dL_law_1201 rfl (lv_at hl 1 rfl) ?_
  refine l_callK (As := []) (rest := []) (Wo := WM cI cJ cZ r A) ⟨hx, hb, hml, hown, hts⟩ hE (kc_X11_image l dC dI cB cI cJ cZ cQ aL aS q B  hIK) (cwV 0 hts gl_33_0 rfl rfl rfl (by decide +kernel) ⟨Nat.le_of_ble_eq_true rfl, Nat.le_of_ble_eq_true rfl⟩) hK hDK hA0 hPK hPM (hap B A) hS 0 11 wkK rfl rfl hl.1 (Nat.le_of_ble_eq_true rfl) hcs dL_law_1202 (fun z1 B2 H locs hw1 hPK hPM hS => ?_)
  obtain ⟨hr1, hIK, hf1, hw1⟩ := hw1
  have e1 : B2 1 1 = B 1 1 := hf1 1 1 rfl rfl
  refine lv_pop hx hb dL_law_1205 rfl ?_
  refine lv_aload_n hx hb dL_law_1206 rfl (lv_at hl 2 rfl) ?_
  refine l_callX (As := []) (rest := []) (Wo := WK cB cI cJ cZ cQ q B2) ⟨hx, hb, hml, hown, hts⟩ (mc_X12_image l dC dI cB cI cJ cZ cQ r A  hIM) (cwV 0 hts gl_33_1 rfl rfl rfl (by decide +kernel) ⟨Nat.le_of_ble_eq_true rfl, Nat.le_of_ble_eq_true rfl⟩) hK hDM hA0 hPM hPK (hap B2 A).sym hS 0 12 wm0 rfl rfl hl.1 (Nat.le_of_ble_eq_true rfl) hcs dL_law_1207 (fun z2 A2 H locs hw2 hPM hPK hS => ?_)
  have hq2 := hw2
  obtain ⟨hr2, hIM, hf2, hw2⟩ := hw2
  have hcCI : CI A2 := CI.fr hcCI hf2 rfl rfl
  have hcWI : WI A2 := WI.fr hcWI hf2 rfl rfl
  have e2 : A2 0 1 = A 0 1 := hf2.2 1 rfl
  refine lv_pop hx hb dL_law_1210 rfl ?_
  refine lv_goto (tgt := 1273) hx hb dL_law_1211 (by decide) ?_
  exact k _ _ _ _ _ ⟨hIK, hIM, hcCI, hcWI, by omega, hTB.fr (fun k => hf1 2 k rfl rfl) (hf2.1 1 (by decide) rfl) (by omega), (fun k hk => (hf1 4 k rfl rfl).trans (hOW k hk)), PSs.fr hIK0 hPS hf1 rfl rfl hf2 rfl rfl, ((hf1 22 4 rfl rfl).trans (hTR.trans (hf2.2 75 rfl).symm)), (ACS.fr hIK0 hIM0 hPS hAC hf1 rfl rfl hf2 rfl rfl)⟩ ⟨hPK, hPM, hS⟩ hl
set_option maxRecDepth 100000 in
theorem gl_34_0 : GoodIn lw_tbl (wsV RL 158 RX11 yX11_octet ws_kc_X11_octet) := goodVL lt_WY wy_good (t_in_5 _ (List.mem_of_getElem? (i := 218) rfl)) (t_in_5 _ (List.mem_of_getElem? (i := 219) rfl)) (t_in_5 _ (List.mem_of_getElem? (i := 220) rfl)) (t_in_1 _ (List.mem_of_getElem? (i := 1) rfl)) (t_in_5 _ (List.mem_of_getElem? (i := 221) rfl)) (by decide +kernel)
set_option maxRecDepth 100000 in
theorem gl_34_1 : GoodIn lw_tbl (wsV RL 161 RX12 yX12_octet ws_mc_X12_octet) := goodVL lt_WX wx_good (t_in_9 _ (List.mem_of_getElem? (i := 93) rfl)) (t_in_9 _ (List.mem_of_getElem? (i := 94) rfl)) (t_in_9 _ (List.mem_of_getElem? (i := 95) rfl)) (t_in_1 _ (List.mem_of_getElem? (i := 17) rfl)) (t_in_9 _ (List.mem_of_getElem? (i := 96) rfl)) (by decide +kernel)
set_option maxHeartbeats 4000000 in
set_option maxRecDepth 100000 in
theorem law_case_34 {p : Program} {e : Env} {s : State} {m : MethodId} {below : List Frame} {meth : Method} {c : Code} (l : Launch) {b L : Nat} {xs : Nat → Int32} (C0 : lw_At p s m meth c b L xs) (hL : L ≤ 3072) (dC : Nat → ClassId) (dI : Nat → Nat → Nat) (cB cI cJ cZ cQ : ClassId) (aL aS : Nat) (q r : Nat → Nat) (F : LF dC dI cB cI cJ cZ cQ aL aS q r s) {B A : St} {i : Int} (hi : 0 ≤ i ∧ i + 6 ≤ L) (hJ : LJ B A) {H : Heap} {locs : List Loc} {cells slots : Nat} {ls : Array Slot} (hcs : cells ≤ room_1.cells ∧ slots ≤ room_1.slots) (hW : LW dC dI cB cI cJ cZ cQ q r s B A H locs) (hl : lv_has ls 4 [(0, .ref b), (1, .ref (q 0)), (2, .ref (r 0)), (3, .int (iI i))]) (k : ∀ (B A : St) (H : Heap) (locs : List Loc) (ls : Array Slot), LJ B A → LW dC dI cB cI cJ cZ cQ q r s B A H locs → lv_has ls 4 [(0, .ref b), (1, .ref (q 0)), (2, .ref (r 0)), (3, .int (iI i))] → W p l e room_1 s m #[Value.ref b] below meth c H locs cells slots (lw_Z below #[Value.ref b] s) (F0 m 1273 ls [])) : W p l e room_1 s m #[Value.ref b] below meth c H locs cells slots (lw_Z below #[Value.ref b] s) (F0 m 1214 ls []) := by
  obtain ⟨hx, hb, hr, hml, hown, hts, hX, hbl, hlocks, hgv⟩ := id C0
  obtain ⟨hK, hDK, hDM, hap, hE⟩ := F
  obtain ⟨hPK, hPM, hS⟩ := hW
  obtain ⟨hIK, hIM, hcCI, hcWI, hJ, hTB, hOW, hPS, hTR, hAC⟩ := hJ
  have hIK0 := hIK
  have hIM0 := hIM
  have r01 : (0 : Int) ≤ A 0 1 := (hIM 0 1).1
  have hbA : ¬ (fun b : Nat => s.heap.size ≤ b) b := Nat.not_le.mpr hbl
  have hA0 : ∀ b : Nat, s.heap.size ≤ b → (fun b : Nat => s.heap.size ≤ b) b := fun _ h => h
  refine lv_aload_n hx hb dL_law_1214 rfl (lv_at hl 1 rfl) ?_
  refine lv_aload_n hx hb dL_law_1215 rfl (lv_at hl 0 rfl) ?_
  refine lv_iload_n hx hb dL_law_1216 rfl (lv_at hl 3 rfl) ?_
  refine lv_iconst (v := iI 1) hx hb dL_law_1217 (by decide +kernel) ?_
  refine x_addv (v := i + 1) hx hb dL_law_1218 rfl ?_
  refine x_sld (i := i + 1) hx hb hX hbl hbA hS hL (by omega) dL_law_1219 ?_
  refine l_callK (As := [.int (iI (sx xs (i + 1)))]) (rest := []) (Wo := WM cI cJ cZ r A) ⟨hx, hb, hml, hown, hts⟩ hE (kc_X11_octet l dC dI cB cI cJ cZ cQ aL aS q B (sx xs (i + 1)) hIK (sx_r xs _)) (cwV 1 hts gl_34_0 rfl rfl rfl (by decide +kernel) ⟨Nat.le_of_ble_eq_true rfl, Nat.le_of_ble_eq_true rfl⟩) hK hDK hA0 hPK hPM (hap B A) hS 0 11 wkK rfl rfl hl.1 (Nat.le_of_ble_eq_true rfl) hcs dL_law_1220 (fun z1 B2 H locs hw1 hPK hPM hS => ?_)
  obtain ⟨rfl, hr1, hw1⟩ := hw1
  refine lv_pop hx hb dL_law_1223 rfl ?_
  refine lv_aload_n hx hb dL_law_1224 rfl (lv_at hl 2 rfl) ?_
  refine lv_aload_n hx hb dL_law_1225 rfl (lv_at hl 0 rfl) ?_
  refine lv_iload_n hx hb dL_law_1226 rfl (lv_at hl 3 rfl) ?_
  refine lv_iconst (v := iI 1) hx hb dL_law_1227 (by decide +kernel) ?_
  refine x_addv (v := i + 1) hx hb dL_law_1228 rfl ?_
  refine x_sld (i := i + 1) hx hb hX hbl hbA hS hL (by omega) dL_law_1229 ?_
  refine l_callX (As := [.int (iI (sx xs (i + 1)))]) (rest := []) (Wo := WK cB cI cJ cZ cQ q B) ⟨hx, hb, hml, hown, hts⟩ (mc_X12_octet l dC dI cB cI cJ cZ cQ r A (sx xs (i + 1)) hIM (sx_r xs _)) (cwV 1 hts gl_34_1 rfl rfl rfl (by decide +kernel) ⟨Nat.le_of_ble_eq_true rfl, Nat.le_of_ble_eq_true rfl⟩) hK hDM hA0 hPM hPK (hap B A).sym hS 0 12 wm0 rfl rfl hl.1 (Nat.le_of_ble_eq_true rfl) hcs dL_law_1230 (fun z2 A2 H locs hw2 hPM hPK hS => ?_)
  have hq2 := hw2
  obtain ⟨rfl, hr2, hw2⟩ := hw2
  refine lv_pop hx hb dL_law_1233 rfl ?_
  refine lv_goto (tgt := 1273) hx hb dL_law_1234 (by decide) ?_
  exact k _ _ _ _ _ ⟨hIK, hIM, hcCI, hcWI, by omega, hTB, hOW, hPS, hTR, hAC⟩ ⟨hPK, hPM, hS⟩ hl
set_option maxRecDepth 100000 in
theorem gl_35_0 : GoodIn lw_tbl (wsV RL 162 RX11 yX11_on ws_kc_X11_on) := goodVL lt_WY wy_good (t_in_5 _ (List.mem_of_getElem? (i := 222) rfl)) (t_in_5 _ (List.mem_of_getElem? (i := 223) rfl)) (t_in_5 _ (List.mem_of_getElem? (i := 224) rfl)) (t_in_1 _ (List.mem_of_getElem? (i := 1) rfl)) (t_in_5 _ (List.mem_of_getElem? (i := 225) rfl)) (by decide +kernel)
set_option maxRecDepth 100000 in
theorem gl_35_1 : GoodIn lw_tbl (wsV RL 166 RX12 yX12_on ws_mb_X12_on) := goodVL lt_WX wx_good (t_in_9 _ (List.mem_of_getElem? (i := 97) rfl)) (t_in_9 _ (List.mem_of_getElem? (i := 98) rfl)) (t_in_9 _ (List.mem_of_getElem? (i := 99) rfl)) (t_in_1 _ (List.mem_of_getElem? (i := 17) rfl)) (t_in_9 _ (List.mem_of_getElem? (i := 100) rfl)) (by decide +kernel)
set_option maxHeartbeats 4000000 in
set_option maxRecDepth 100000 in
theorem law_case_35 {p : Program} {e : Env} {s : State} {m : MethodId} {below : List Frame} {meth : Method} {c : Code} (l : Launch) {b L : Nat} {xs : Nat → Int32} (C0 : lw_At p s m meth c b L xs) (hL : L ≤ 3072) (dC : Nat → ClassId) (dI : Nat → Nat → Nat) (cB cI cJ cZ cQ : ClassId) (aL aS : Nat) (q r : Nat → Nat) (F : LF dC dI cB cI cJ cZ cQ aL aS q r s) {B A : St} {i : Int} (hi : 0 ≤ i ∧ i + 6 ≤ L) (hJ : LJ B A) {H : Heap} {locs : List Loc} {cells slots : Nat} {ls : Array Slot} (hcs : cells ≤ room_1.cells ∧ slots ≤ room_1.slots) (hW : LW dC dI cB cI cJ cZ cQ q r s B A H locs) (hl : lv_has ls 4 [(0, .ref b), (1, .ref (q 0)), (2, .ref (r 0)), (3, .int (iI i))]) (k : ∀ (B A : St) (H : Heap) (locs : List Loc) (ls : Array Slot), LJ B A → LW dC dI cB cI cJ cZ cQ q r s B A H locs → lv_has ls 4 [(0, .ref b), (1, .ref (q 0)), (2, .ref (r 0)), (3, .int (iI i))] → W p l e room_1 s m #[Value.ref b] below meth c H locs cells slots (lw_Z below #[Value.ref b] s) (F0 m 1273 ls [])) : W p l e room_1 s m #[Value.ref b] below meth c H locs cells slots (lw_Z below #[Value.ref b] s) (F0 m 1237 ls []) := by
  obtain ⟨hx, hb, hr, hml, hown, hts, hX, hbl, hlocks, hgv⟩ := id C0
  obtain ⟨hK, hDK, hDM, hap, hE⟩ := F
  obtain ⟨hPK, hPM, hS⟩ := hW
  obtain ⟨hIK, hIM, hcCI, hcWI, hJ, hTB, hOW, hPS, hTR, hAC⟩ := hJ
  have hIK0 := hIK
  have hIM0 := hIM
  have r01 : (0 : Int) ≤ A 0 1 := (hIM 0 1).1
  have hbA : ¬ (fun b : Nat => s.heap.size ≤ b) b := Nat.not_le.mpr hbl
  have hA0 : ∀ b : Nat, s.heap.size ≤ b → (fun b : Nat => s.heap.size ≤ b) b := fun _ h => h
  refine lv_aload_n hx hb dL_law_1237 rfl (lv_at hl 1 rfl) ?_
  refine l_callK (As := []) (rest := []) (Wo := WM cI cJ cZ r A) ⟨hx, hb, hml, hown, hts⟩ hE (kc_X11_on l dC dI cB cI cJ cZ cQ aL aS q B  hIK) (cwV 0 hts gl_35_0 rfl rfl rfl (by decide +kernel) ⟨Nat.le_of_ble_eq_true rfl, Nat.le_of_ble_eq_true rfl⟩) hK hDK hA0 hPK hPM (hap B A) hS 0 11 wkK rfl rfl hl.1 (Nat.le_of_ble_eq_true rfl) hcs dL_law_1238 (fun z1 B2 H locs hw1 hPK hPM hS => ?_)
  obtain ⟨hr1, hIK, hf1, hw1⟩ := hw1
  refine lv_pop hx hb dL_law_1241 rfl ?_
  refine lv_aload_n hx hb dL_law_1242 rfl (lv_at hl 2 rfl) ?_
  refine l_callX (As := []) (rest := []) (Wo := WK cB cI cJ cZ cQ q B2) ⟨hx, hb, hml, hown, hts⟩ (mb_X12_on l dC dI cB cI cJ cZ cQ r A  hIM) (cwV 0 hts gl_35_1 rfl rfl rfl (by decide +kernel) ⟨Nat.le_of_ble_eq_true rfl, Nat.le_of_ble_eq_true rfl⟩) hK hDM hA0 hPM hPK (hap B2 A).sym hS 0 12 wm0 rfl rfl hl.1 (Nat.le_of_ble_eq_true rfl) hcs dL_law_1243 (fun z2 A2 H locs hw2 hPM hPK hS => ?_)
  have hq2 := hw2
  obtain ⟨hr2, hIM, hf2, hw2⟩ := hw2
  have hcCI : CI A2 := CI.fr hcCI hf2 rfl rfl
  have hcWI : WI A2 := WI.fr hcWI hf2 rfl rfl
  refine lv_pop hx hb dL_law_1246 rfl ?_
  refine lv_goto (tgt := 1273) hx hb dL_law_1247 (by decide) ?_
  exact k _ _ _ _ _ ⟨hIK, hIM, hcCI, hcWI, by omega, hTB.fr (fun k => hf1 2 k rfl rfl) (hf2.1 1 (by decide) rfl) (by omega), (fun k hk => (hf1 4 k rfl rfl).trans (hOW k hk)), PSs.fr hIK0 hPS hf1 rfl rfl hf2 rfl rfl, ((hf1 22 4 rfl rfl).trans (hTR.trans (hf2.2 75 rfl).symm)), (on_act hIK0 hIM0 hJ hTB hPS hAC hr1 hf1 hq2).2⟩ ⟨hPK, hPM, hS⟩ hl
