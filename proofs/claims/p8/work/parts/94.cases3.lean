set_option maxRecDepth 100000 in
theorem gl_18_0 : GoodIn lw_tbl (wsV RL 93 RX11 yX11_reach ws_kc_X11_reach) := goodVL lt_WY wy_good (t_in_5 _ (List.mem_of_getElem? (i := 45) rfl)) (t_in_5 _ (List.mem_of_getElem? (i := 46) rfl)) (t_in_5 _ (List.mem_of_getElem? (i := 47) rfl)) (t_in_1 _ (List.mem_of_getElem? (i := 1) rfl)) (t_in_5 _ (List.mem_of_getElem? (i := 48) rfl)) (by decide +kernel)
set_option maxRecDepth 100000 in
theorem gl_18_1 : GoodIn lw_tbl (wsV RL 96 RX12 yX12_reach ws_mb_X12_reach) := goodVL lt_WX wx_good (t_in_8 _ (List.mem_of_getElem? (i := 216) rfl)) (t_in_8 _ (List.mem_of_getElem? (i := 217) rfl)) (t_in_8 _ (List.mem_of_getElem? (i := 218) rfl)) (t_in_1 _ (List.mem_of_getElem? (i := 17) rfl)) (t_in_8 _ (List.mem_of_getElem? (i := 219) rfl)) (by decide +kernel)
set_option maxHeartbeats 4000000 in
set_option maxRecDepth 100000 in
theorem law_case_18 {p : Program} {e : Env} {s : State} {m : MethodId} {below : List Frame} {meth : Method} {c : Code} (l : Launch) {b L : Nat} {xs : Nat → Int32} (C0 : lw_At p s m meth c b L xs) (hL : L ≤ 3072) (dC : Nat → ClassId) (dI : Nat → Nat → Nat) (cB cI cJ cZ cQ : ClassId) (aL aS : Nat) (q r : Nat → Nat) (F : LF dC dI cB cI cJ cZ cQ aL aS q r s) {B A : St} {i : Int} (hi : 0 ≤ i ∧ i + 6 ≤ L) (hJ : LJ B A) {H : Heap} {locs : List Loc} {cells slots : Nat} {ls : Array Slot} (hcs : cells ≤ room_1.cells ∧ slots ≤ room_1.slots) (hW : LW dC dI cB cI cJ cZ cQ q r s B A H locs) (hl : lv_has ls 4 [(0, .ref b), (1, .ref (q 0)), (2, .ref (r 0)), (3, .int (iI i))]) (k : ∀ (B A : St) (H : Heap) (locs : List Loc) (ls : Array Slot), LJ B A → LW dC dI cB cI cJ cZ cQ q r s B A H locs → lv_has ls 4 [(0, .ref b), (1, .ref (q 0)), (2, .ref (r 0)), (3, .int (iI i))] → W p l e room_1 s m #[Value.ref b] below meth c H locs cells slots (lw_Z below #[Value.ref b] s) (F0 m 1273 ls [])) : W p l e room_1 s m #[Value.ref b] below meth c H locs cells slots (lw_Z below #[Value.ref b] s) (F0 m 780 ls []) := by
  obtain ⟨hx, hb, hr, hml, hown, hts, hX, hbl, hlocks, hgv⟩ := id C0
  obtain ⟨hK, hDK, hDM, hap, hE⟩ := F
  obtain ⟨hPK, hPM, hS⟩ := hW
  obtain ⟨hIK, hIM, hcCI, hcWI, hJ, hTB, hOW, hPS, hTR, hAC⟩ := hJ
  have hIK0 := hIK
  have hIM0 := hIM
  have r01 : (0 : Int) ≤ A 0 1 := (hIM 0 1).1
  have hbA : ¬ (fun b : Nat => s.heap.size ≤ b) b := Nat.not_le.mpr hbl
  have hA0 : ∀ b : Nat, s.heap.size ≤ b → (fun b : Nat => s.heap.size ≤ b) b := fun _ h => h
  refine lv_aload_n hx hb dL_law_780 rfl (lv_at hl 1 rfl) ?_
  refine lv_aload_n hx hb dL_law_781 rfl (lv_at hl 0 rfl) ?_
  refine lv_iload_n hx hb dL_law_782 rfl (lv_at hl 3 rfl) ?_
  refine lv_iconst (v := iI 1) hx hb dL_law_783 (by decide +kernel) ?_
  refine x_addv (v := i + 1) hx hb dL_law_784 rfl ?_
  refine x_sld (i := i + 1) hx hb hX hbl hbA hS hL (by omega) dL_law_785 ?_
  refine lv_aload_n hx hb dL_law_786 rfl (lv_at hl 0 rfl) ?_
  refine lv_iload_n hx hb dL_law_787 rfl (lv_at hl 3 rfl) ?_
  refine lv_iconst (v := iI 2) hx hb dL_law_788 (by decide +kernel) ?_
  refine x_addv (v := i + 2) hx hb dL_law_789 rfl ?_
  refine x_sld (i := i + 2) hx hb hX hbl hbA hS hL (by omega) dL_law_790 ?_
  refine l_callK (As := [.int (iI (sx xs (i + 1))), .int (iI (sx xs (i + 2)))]) (rest := []) (Wo := WM cI cJ cZ r A) ⟨hx, hb, hml, hown, hts⟩ hE (kc_X11_reach l dC dI cB cI cJ cZ cQ aL aS q B (sx xs (i + 1)) (sx xs (i + 2)) hIK (sx_r xs _) (sx_r xs _)) (cwV 2 hts gl_18_0 rfl rfl rfl (by decide +kernel) ⟨Nat.le_of_ble_eq_true rfl, Nat.le_of_ble_eq_true rfl⟩) hK hDK hA0 hPK hPM (hap B A) hS 0 11 wkK rfl rfl hl.1 (Nat.le_of_ble_eq_true rfl) hcs dL_law_791 (fun z1 B2 H locs hw1 hPK hPM hS => ?_)
  obtain ⟨hr1, hIK, hf1, hw1⟩ := hw1
  have e1 : B2 1 1 = B 1 1 := hf1 1 1 rfl rfl
  refine lv_pop hx hb dL_law_794 rfl ?_
  refine lv_aload_n hx hb dL_law_795 rfl (lv_at hl 2 rfl) ?_
  refine lv_aload_n hx hb dL_law_796 rfl (lv_at hl 0 rfl) ?_
  refine lv_iload_n hx hb dL_law_797 rfl (lv_at hl 3 rfl) ?_
  refine lv_iconst (v := iI 1) hx hb dL_law_798 (by decide +kernel) ?_
  refine x_addv (v := i + 1) hx hb dL_law_799 rfl ?_
  refine x_sld (i := i + 1) hx hb hX hbl hbA hS hL (by omega) dL_law_800 ?_
  refine lv_aload_n hx hb dL_law_801 rfl (lv_at hl 0 rfl) ?_
  refine lv_iload_n hx hb dL_law_802 rfl (lv_at hl 3 rfl) ?_
  refine lv_iconst (v := iI 2) hx hb dL_law_803 (by decide +kernel) ?_
  refine x_addv (v := i + 2) hx hb dL_law_804 rfl ?_
  refine x_sld (i := i + 2) hx hb hX hbl hbA hS hL (by omega) dL_law_805 ?_
  refine l_callX (As := [.int (iI (sx xs (i + 1))), .int (iI (sx xs (i + 2)))]) (rest := []) (Wo := WK cB cI cJ cZ cQ q B2) ⟨hx, hb, hml, hown, hts⟩ (mb_X12_reach l dC dI cB cI cJ cZ cQ r A (sx xs (i + 1)) (sx xs (i + 2)) hIM (sx_r xs _) (sx_r xs _) hcCI hcWI) (cwV 2 hts gl_18_1 rfl rfl rfl (by decide +kernel) ⟨Nat.le_of_ble_eq_true rfl, Nat.le_of_ble_eq_true rfl⟩) hK hDM hA0 hPM hPK (hap B2 A).sym hS 0 12 wm0 rfl rfl hl.1 (Nat.le_of_ble_eq_true rfl) hcs dL_law_806 (fun z2 A2 H locs hw2 hPM hPK hS => ?_)
  have hq2 := hw2
  obtain ⟨hr2, hIM, hf2, hcCI2, hcWI2, hw2⟩ := hw2
  have hcCI : CI A2 := hcCI2
  have hcWI : WI A2 := hcWI2
  have e2 : A2 0 1 = A 0 1 := hf2.2 1 rfl
  refine lv_pop hx hb dL_law_809 rfl ?_
  refine lv_goto (tgt := 1273) hx hb dL_law_810 (by decide) ?_
  exact k _ _ _ _ _ ⟨hIK, hIM, hcCI, hcWI, by omega, hTB.fr (fun k => hf1 2 k rfl rfl) (hf2.1 1 (by decide) rfl) (by omega), (fun k hk => (hf1 4 k rfl rfl).trans (hOW k hk)), PSs.fr hIK0 hPS hf1 rfl rfl hf2 rfl rfl, ((hf1 22 4 rfl rfl).trans (hTR.trans (hf2.2 75 rfl).symm)), (ACS.fr hIK0 hIM0 hPS hAC hf1 rfl rfl hf2 rfl rfl)⟩ ⟨hPK, hPM, hS⟩ hl
set_option maxRecDepth 100000 in
theorem gl_19_0 : GoodIn lw_tbl (wsV RL 97 RX11 yX11_opens ws_kc_X11_opens) := goodVL lt_WY wy_good (t_in_5 _ (List.mem_of_getElem? (i := 50) rfl)) (t_in_5 _ (List.mem_of_getElem? (i := 51) rfl)) (t_in_5 _ (List.mem_of_getElem? (i := 52) rfl)) (t_in_1 _ (List.mem_of_getElem? (i := 1) rfl)) (t_in_5 _ (List.mem_of_getElem? (i := 53) rfl)) (by decide +kernel)
set_option maxRecDepth 100000 in
theorem gl_19_1 : GoodIn lw_tbl (wsV RL 100 RX12 yX12_opens_ ws_mb_X12_opens_) := goodVL lt_WX wx_good (t_in_8 _ (List.mem_of_getElem? (i := 228) rfl)) (t_in_8 _ (List.mem_of_getElem? (i := 229) rfl)) (t_in_8 _ (List.mem_of_getElem? (i := 230) rfl)) (t_in_1 _ (List.mem_of_getElem? (i := 17) rfl)) (t_in_8 _ (List.mem_of_getElem? (i := 231) rfl)) (by decide +kernel)
set_option maxHeartbeats 4000000 in
set_option maxRecDepth 100000 in
theorem law_case_19 {p : Program} {e : Env} {s : State} {m : MethodId} {below : List Frame} {meth : Method} {c : Code} (l : Launch) {b L : Nat} {xs : Nat → Int32} (C0 : lw_At p s m meth c b L xs) (hL : L ≤ 3072) (dC : Nat → ClassId) (dI : Nat → Nat → Nat) (cB cI cJ cZ cQ : ClassId) (aL aS : Nat) (q r : Nat → Nat) (F : LF dC dI cB cI cJ cZ cQ aL aS q r s) {B A : St} {i : Int} (hi : 0 ≤ i ∧ i + 6 ≤ L) (hJ : LJ B A) {H : Heap} {locs : List Loc} {cells slots : Nat} {ls : Array Slot} (hcs : cells ≤ room_1.cells ∧ slots ≤ room_1.slots) (hW : LW dC dI cB cI cJ cZ cQ q r s B A H locs) (hl : lv_has ls 4 [(0, .ref b), (1, .ref (q 0)), (2, .ref (r 0)), (3, .int (iI i))]) (k : ∀ (B A : St) (H : Heap) (locs : List Loc) (ls : Array Slot), LJ B A → LW dC dI cB cI cJ cZ cQ q r s B A H locs → lv_has ls 4 [(0, .ref b), (1, .ref (q 0)), (2, .ref (r 0)), (3, .int (iI i))] → W p l e room_1 s m #[Value.ref b] below meth c H locs cells slots (lw_Z below #[Value.ref b] s) (F0 m 1273 ls [])) : W p l e room_1 s m #[Value.ref b] below meth c H locs cells slots (lw_Z below #[Value.ref b] s) (F0 m 813 ls []) := by
  obtain ⟨hx, hb, hr, hml, hown, hts, hX, hbl, hlocks, hgv⟩ := id C0
  obtain ⟨hK, hDK, hDM, hap, hE⟩ := F
  obtain ⟨hPK, hPM, hS⟩ := hW
  obtain ⟨hIK, hIM, hcCI, hcWI, hJ, hTB, hOW, hPS, hTR, hAC⟩ := hJ
  have hIK0 := hIK
  have hIM0 := hIM
  have r01 : (0 : Int) ≤ A 0 1 := (hIM 0 1).1
  have hbA : ¬ (fun b : Nat => s.heap.size ≤ b) b := Nat.not_le.mpr hbl
  have hA0 : ∀ b : Nat, s.heap.size ≤ b → (fun b : Nat => s.heap.size ≤ b) b := fun _ h => h
  refine lv_aload_n hx hb dL_law_813 rfl (lv_at hl 1 rfl) ?_
  refine lv_aload_n hx hb dL_law_814 rfl (lv_at hl 0 rfl) ?_
  refine lv_iload_n hx hb dL_law_815 rfl (lv_at hl 3 rfl) ?_
  refine lv_iconst (v := iI 1) hx hb dL_law_816 (by decide +kernel) ?_
  refine x_addv (v := i + 1) hx hb dL_law_817 rfl ?_
  refine x_sld (i := i + 1) hx hb hX hbl hbA hS hL (by omega) dL_law_818 ?_
  refine lv_aload_n hx hb dL_law_819 rfl (lv_at hl 0 rfl) ?_
  refine lv_iload_n hx hb dL_law_820 rfl (lv_at hl 3 rfl) ?_
  refine lv_iconst (v := iI 2) hx hb dL_law_821 (by decide +kernel) ?_
  refine x_addv (v := i + 2) hx hb dL_law_822 rfl ?_
  refine x_sld (i := i + 2) hx hb hX hbl hbA hS hL (by omega) dL_law_823 ?_
  refine l_callK (As := [.int (iI (sx xs (i + 1))), .int (iI (sx xs (i + 2)))]) (rest := []) (Wo := WM cI cJ cZ r A) ⟨hx, hb, hml, hown, hts⟩ hE (kc_X11_opens l dC dI cB cI cJ cZ cQ aL aS q B (sx xs (i + 1)) (sx xs (i + 2)) hIK (sx_r xs _) (sx_r xs _)) (cwV 2 hts gl_19_0 rfl rfl rfl (by decide +kernel) ⟨Nat.le_of_ble_eq_true rfl, Nat.le_of_ble_eq_true rfl⟩) hK hDK hA0 hPK hPM (hap B A) hS 0 11 wkK rfl rfl hl.1 (Nat.le_of_ble_eq_true rfl) hcs dL_law_824 (fun z1 B2 H locs hw1 hPK hPM hS => ?_)
  obtain ⟨hr1, hIK, hf1, hw1⟩ := hw1
  have e1 : B2 1 1 = B 1 1 := hf1 1 1 rfl rfl
  refine lv_pop hx hb dL_law_827 rfl ?_
  refine lv_aload_n hx hb dL_law_828 rfl (lv_at hl 2 rfl) ?_
  refine lv_aload_n hx hb dL_law_829 rfl (lv_at hl 0 rfl) ?_
  refine lv_iload_n hx hb dL_law_830 rfl (lv_at hl 3 rfl) ?_
  refine lv_iconst (v := iI 1) hx hb dL_law_831 (by decide +kernel) ?_
  refine x_addv (v := i + 1) hx hb dL_law_832 rfl ?_
  refine x_sld (i := i + 1) hx hb hX hbl hbA hS hL (by omega) dL_law_833 ?_
  refine lv_aload_n hx hb dL_law_834 rfl (lv_at hl 0 rfl) ?_
  refine lv_iload_n hx hb dL_law_835 rfl (lv_at hl 3 rfl) ?_
  refine lv_iconst (v := iI 2) hx hb dL_law_836 (by decide +kernel) ?_
  refine x_addv (v := i + 2) hx hb dL_law_837 rfl ?_
  refine x_sld (i := i + 2) hx hb hX hbl hbA hS hL (by omega) dL_law_838 ?_
  refine l_callX (As := [.int (iI (sx xs (i + 1))), .int (iI (sx xs (i + 2)))]) (rest := []) (Wo := WK cB cI cJ cZ cQ q B2) ⟨hx, hb, hml, hown, hts⟩ (mb_X12_opens_ l dC dI cB cI cJ cZ cQ r A (sx xs (i + 1)) (sx xs (i + 2)) hIM (sx_r xs _) (sx_r xs _) hcCI hcWI) (cwV 2 hts gl_19_1 rfl rfl rfl (by decide +kernel) ⟨Nat.le_of_ble_eq_true rfl, Nat.le_of_ble_eq_true rfl⟩) hK hDM hA0 hPM hPK (hap B2 A).sym hS 0 12 wm0 rfl rfl hl.1 (Nat.le_of_ble_eq_true rfl) hcs dL_law_839 (fun z2 A2 H locs hw2 hPM hPK hS => ?_)
  have hq2 := hw2
  obtain ⟨hr2, hIM, hf2, hcCI2, hcWI2, hw2⟩ := hw2
  have hcCI : CI A2 := hcCI2
  have hcWI : WI A2 := hcWI2
  have e2 : A2 0 1 = A 0 1 := hf2.2 1 rfl
  refine lv_pop hx hb dL_law_842 rfl ?_
  refine lv_goto (tgt := 1273) hx hb dL_law_843 (by decide) ?_
  exact k _ _ _ _ _ ⟨hIK, hIM, hcCI, hcWI, by omega, hTB.fr (fun k => hf1 2 k rfl rfl) (hf2.1 1 (by decide) rfl) (by omega), (fun k hk => (hf1 4 k rfl rfl).trans (hOW k hk)), PSs.fr hIK0 hPS hf1 rfl rfl hf2 rfl rfl, ((hf1 22 4 rfl rfl).trans (hTR.trans (hf2.2 75 rfl).symm)), (ACS.fr hIK0 hIM0 hPS hAC hf1 rfl rfl hf2 rfl rfl)⟩ ⟨hPK, hPM, hS⟩ hl
set_option maxRecDepth 100000 in
theorem gl_20_0 : GoodIn lw_tbl (wsV RL 101 RX11 yX11_errands ws_kc_X11_errands) := goodVL lt_WY wy_good (t_in_5 _ (List.mem_of_getElem? (i := 54) rfl)) (t_in_5 _ (List.mem_of_getElem? (i := 55) rfl)) (t_in_5 _ (List.mem_of_getElem? (i := 56) rfl)) (t_in_1 _ (List.mem_of_getElem? (i := 1) rfl)) (t_in_5 _ (List.mem_of_getElem? (i := 57) rfl)) (by decide +kernel)
set_option maxRecDepth 100000 in
theorem gl_20_1 : GoodIn lw_tbl (wsV RL 104 RX12 yX12_errands ws_mb_X12_errands) := goodVL lt_WX wx_good (t_in_8 _ (List.mem_of_getElem? (i := 232) rfl)) (t_in_8 _ (List.mem_of_getElem? (i := 233) rfl)) (t_in_8 _ (List.mem_of_getElem? (i := 234) rfl)) (t_in_1 _ (List.mem_of_getElem? (i := 17) rfl)) (t_in_8 _ (List.mem_of_getElem? (i := 235) rfl)) (by decide +kernel)
set_option maxHeartbeats 4000000 in
set_option maxRecDepth 100000 in
theorem law_case_20 {p : Program} {e : Env} {s : State} {m : MethodId} {below : List Frame} {meth : Method} {c : Code} (l : Launch) {b L : Nat} {xs : Nat → Int32} (C0 : lw_At p s m meth c b L xs) (hL : L ≤ 3072) (dC : Nat → ClassId) (dI : Nat → Nat → Nat) (cB cI cJ cZ cQ : ClassId) (aL aS : Nat) (q r : Nat → Nat) (F : LF dC dI cB cI cJ cZ cQ aL aS q r s) {B A : St} {i : Int} (hi : 0 ≤ i ∧ i + 6 ≤ L) (hJ : LJ B A) {H : Heap} {locs : List Loc} {cells slots : Nat} {ls : Array Slot} (hcs : cells ≤ room_1.cells ∧ slots ≤ room_1.slots) (hW : LW dC dI cB cI cJ cZ cQ q r s B A H locs) (hl : lv_has ls 4 [(0, .ref b), (1, .ref (q 0)), (2, .ref (r 0)), (3, .int (iI i))]) (k : ∀ (B A : St) (H : Heap) (locs : List Loc) (ls : Array Slot), LJ B A → LW dC dI cB cI cJ cZ cQ q r s B A H locs → lv_has ls 4 [(0, .ref b), (1, .ref (q 0)), (2, .ref (r 0)), (3, .int (iI i))] → W p l e room_1 s m #[Value.ref b] below meth c H locs cells slots (lw_Z below #[Value.ref b] s) (F0 m 1273 ls [])) : W p l e room_1 s m #[Value.ref b] below meth c H locs cells slots (lw_Z below #[Value.ref b] s) (F0 m 846 ls []) := by
  obtain ⟨hx, hb, hr, hml, hown, hts, hX, hbl, hlocks, hgv⟩ := id C0
  obtain ⟨hK, hDK, hDM, hap, hE⟩ := F
  obtain ⟨hPK, hPM, hS⟩ := hW
  obtain ⟨hIK, hIM, hcCI, hcWI, hJ, hTB, hOW, hPS, hTR, hAC⟩ := hJ
  have hIK0 := hIK
  have hIM0 := hIM
  have r01 : (0 : Int) ≤ A 0 1 := (hIM 0 1).1
  have hbA : ¬ (fun b : Nat => s.heap.size ≤ b) b := Nat.not_le.mpr hbl
  have hA0 : ∀ b : Nat, s.heap.size ≤ b → (fun b : Nat => s.heap.size ≤ b) b := fun _ h => h
  refine lv_aload_n hx hb dL_law_846 rfl (lv_at hl 1 rfl) ?_
  refine lv_aload_n hx hb dL_law_847 rfl (lv_at hl 0 rfl) ?_
  refine lv_iload_n hx hb dL_law_848 rfl (lv_at hl 3 rfl) ?_
  refine lv_iconst (v := iI 1) hx hb dL_law_849 (by decide +kernel) ?_
  refine x_addv (v := i + 1) hx hb dL_law_850 rfl ?_
  refine x_sld (i := i + 1) hx hb hX hbl hbA hS hL (by omega) dL_law_851 ?_
  refine l_callK (As := [.int (iI (sx xs (i + 1)))]) (rest := []) (Wo := WM cI cJ cZ r A) ⟨hx, hb, hml, hown, hts⟩ hE (kc_X11_errands l dC dI cB cI cJ cZ cQ aL aS q B (sx xs (i + 1)) hIK (sx_r xs _)) (cwV 1 hts gl_20_0 rfl rfl rfl (by decide +kernel) ⟨Nat.le_of_ble_eq_true rfl, Nat.le_of_ble_eq_true rfl⟩) hK hDK hA0 hPK hPM (hap B A) hS 0 11 wkK rfl rfl hl.1 (Nat.le_of_ble_eq_true rfl) hcs dL_law_852 (fun z1 B2 H locs hw1 hPK hPM hS => ?_)
  obtain ⟨hr1, hIK, hf1, hw1⟩ := hw1
  have e1 : B2 1 1 = B 1 1 := hf1 1 1 rfl rfl
  refine lv_pop hx hb dL_law_855 rfl ?_
  refine lv_aload_n hx hb dL_law_856 rfl (lv_at hl 2 rfl) ?_
  refine lv_aload_n hx hb dL_law_857 rfl (lv_at hl 0 rfl) ?_
  refine lv_iload_n hx hb dL_law_858 rfl (lv_at hl 3 rfl) ?_
  refine lv_iconst (v := iI 1) hx hb dL_law_859 (by decide +kernel) ?_
  refine x_addv (v := i + 1) hx hb dL_law_860 rfl ?_
  refine x_sld (i := i + 1) hx hb hX hbl hbA hS hL (by omega) dL_law_861 ?_
  refine l_callX (As := [.int (iI (sx xs (i + 1)))]) (rest := []) (Wo := WK cB cI cJ cZ cQ q B2) ⟨hx, hb, hml, hown, hts⟩ (mb_X12_errands l dC dI cB cI cJ cZ cQ r A (sx xs (i + 1)) hIM (sx_r xs _) hcCI hcWI) (cwV 1 hts gl_20_1 rfl rfl rfl (by decide +kernel) ⟨Nat.le_of_ble_eq_true rfl, Nat.le_of_ble_eq_true rfl⟩) hK hDM hA0 hPM hPK (hap B2 A).sym hS 0 12 wm0 rfl rfl hl.1 (Nat.le_of_ble_eq_true rfl) hcs dL_law_862 (fun z2 A2 H locs hw2 hPM hPK hS => ?_)
  have hq2 := hw2
  obtain ⟨hr2, hIM, hf2, hcCI2, hcWI2, hw2⟩ := hw2
  have hcCI : CI A2 := hcCI2
  have hcWI : WI A2 := hcWI2
  have e2 : A2 0 1 = A 0 1 := hf2.2 1 rfl
  refine lv_pop hx hb dL_law_865 rfl ?_
  refine lv_goto (tgt := 1273) hx hb dL_law_866 (by decide) ?_
  exact k _ _ _ _ _ ⟨hIK, hIM, hcCI, hcWI, by omega, hTB.fr (fun k => hf1 2 k rfl rfl) (hf2.1 1 (by decide) rfl) (by omega), (fun k hk => (hf1 4 k rfl rfl).trans (hOW k hk)), PSs.fr hIK0 hPS hf1 rfl rfl hf2 rfl rfl, ((hf1 22 4 rfl rfl).trans (hTR.trans (hf2.2 75 rfl).symm)), (ACS.fr hIK0 hIM0 hPS hAC hf1 rfl rfl hf2 rfl rfl)⟩ ⟨hPK, hPM, hS⟩ hl
set_option maxRecDepth 100000 in
theorem gl_21_0 : GoodIn lw_tbl (wsV RL 105 RX11 yX11_lent ws_kc_X11_lent) := goodVL lt_WY wy_good (t_in_5 _ (List.mem_of_getElem? (i := 58) rfl)) (t_in_5 _ (List.mem_of_getElem? (i := 59) rfl)) (t_in_5 _ (List.mem_of_getElem? (i := 60) rfl)) (t_in_1 _ (List.mem_of_getElem? (i := 1) rfl)) (t_in_5 _ (List.mem_of_getElem? (i := 61) rfl)) (by decide +kernel)
set_option maxRecDepth 100000 in
theorem gl_21_1 : GoodIn lw_tbl (wsV RL 108 RX12 yX12_lent ws_mb_X12_lent) := goodVL lt_WX wx_good (t_in_8 _ (List.mem_of_getElem? (i := 236) rfl)) (t_in_8 _ (List.mem_of_getElem? (i := 237) rfl)) (t_in_8 _ (List.mem_of_getElem? (i := 238) rfl)) (t_in_1 _ (List.mem_of_getElem? (i := 17) rfl)) (t_in_8 _ (List.mem_of_getElem? (i := 239) rfl)) (by decide +kernel)
set_option maxHeartbeats 4000000 in
set_option maxRecDepth 100000 in
theorem law_case_21 {p : Program} {e : Env} {s : State} {m : MethodId} {below : List Frame} {meth : Method} {c : Code} (l : Launch) {b L : Nat} {xs : Nat → Int32} (C0 : lw_At p s m meth c b L xs) (hL : L ≤ 3072) (dC : Nat → ClassId) (dI : Nat → Nat → Nat) (cB cI cJ cZ cQ : ClassId) (aL aS : Nat) (q r : Nat → Nat) (F : LF dC dI cB cI cJ cZ cQ aL aS q r s) {B A : St} {i : Int} (hi : 0 ≤ i ∧ i + 6 ≤ L) (hJ : LJ B A) {H : Heap} {locs : List Loc} {cells slots : Nat} {ls : Array Slot} (hcs : cells ≤ room_1.cells ∧ slots ≤ room_1.slots) (hW : LW dC dI cB cI cJ cZ cQ q r s B A H locs) (hl : lv_has ls 4 [(0, .ref b), (1, .ref (q 0)), (2, .ref (r 0)), (3, .int (iI i))]) (k : ∀ (B A : St) (H : Heap) (locs : List Loc) (ls : Array Slot), LJ B A → LW dC dI cB cI cJ cZ cQ q r s B A H locs → lv_has ls 4 [(0, .ref b), (1, .ref (q 0)), (2, .ref (r 0)), (3, .int (iI i))] → W p l e room_1 s m #[Value.ref b] below meth c H locs cells slots (lw_Z below #[Value.ref b] s) (F0 m 1273 ls [])) : W p l e room_1 s m #[Value.ref b] below meth c H locs cells slots (lw_Z below #[Value.ref b] s) (F0 m 869 ls []) := by
  obtain ⟨hx, hb, hr, hml, hown, hts, hX, hbl, hlocks, hgv⟩ := id C0
  obtain ⟨hK, hDK, hDM, hap, hE⟩ := F
  obtain ⟨hPK, hPM, hS⟩ := hW
  obtain ⟨hIK, hIM, hcCI, hcWI, hJ, hTB, hOW, hPS, hTR, hAC⟩ := hJ
  have hIK0 := hIK
  have hIM0 := hIM
  have r01 : (0 : Int) ≤ A 0 1 := (hIM 0 1).1
  have hbA : ¬ (fun b : Nat => s.heap.size ≤ b) b := Nat.not_le.mpr hbl
  have hA0 : ∀ b : Nat, s.heap.size ≤ b → (fun b : Nat => s.heap.size ≤ b) b := fun _ h => h
  refine lv_aload_n hx hb dL_law_869 rfl (lv_at hl 1 rfl) ?_
  refine lv_aload_n hx hb dL_law_870 rfl (lv_at hl 0 rfl) ?_
  refine lv_iload_n hx hb dL_law_871 rfl (lv_at hl 3 rfl) ?_
  refine lv_iconst (v := iI 1) hx hb dL_law_872 (by decide +kernel) ?_
  refine x_addv (v := i + 1) hx hb dL_law_873 rfl ?_
  refine x_sld (i := i + 1) hx hb hX hbl hbA hS hL (by omega) dL_law_874 ?_
  refine lv_aload_n hx hb dL_law_875 rfl (lv_at hl 0 rfl) ?_
  refine lv_iload_n hx hb dL_law_876 rfl (lv_at hl 3 rfl) ?_
  refine lv_iconst (v := iI 2) hx hb dL_law_877 (by decide +kernel) ?_
  refine x_addv (v := i + 2) hx hb dL_law_878 rfl ?_
  refine x_sld (i := i + 2) hx hb hX hbl hbA hS hL (by omega) dL_law_879 ?_
  refine lv_aload_n hx hb dL_law_880 rfl (lv_at hl 0 rfl) ?_
  refine lv_iload_n hx hb dL_law_881 rfl (lv_at hl 3 rfl) ?_
  refine lv_iconst (v := iI 3) hx hb dL_law_882 (by decide +kernel) ?_
  refine x_addv (v := i + 3) hx hb dL_law_883 rfl ?_
  refine x_sld (i := i + 3) hx hb hX hbl hbA hS hL (by omega) dL_law_884 ?_
  refine l_callK (As := [.int (iI (sx xs (i + 1))), .int (iI (sx xs (i + 2))), .int (iI (sx xs (i + 3)))]) (rest := []) (Wo := WM cI cJ cZ r A) ⟨hx, hb, hml, hown, hts⟩ hE (kc_X11_lent l dC dI cB cI cJ cZ cQ aL aS q B (sx xs (i + 1)) (sx xs (i + 2)) (sx xs (i + 3)) hIK (sx_r xs _) (sx_r xs _) (sx_r xs _)) (cwV 3 hts gl_21_0 rfl rfl rfl (by decide +kernel) ⟨Nat.le_of_ble_eq_true rfl, Nat.le_of_ble_eq_true rfl⟩) hK hDK hA0 hPK hPM (hap B A) hS 0 11 wkK rfl rfl hl.1 (Nat.le_of_ble_eq_true rfl) hcs dL_law_885 (fun z1 B2 H locs hw1 hPK hPM hS => ?_)
  obtain ⟨hr1, hIK, hf1, hw1⟩ := hw1
  have e1 : B2 1 1 = B 1 1 := hf1 1 1 rfl rfl
  refine lv_pop hx hb dL_law_888 rfl ?_
  refine lv_aload_n hx hb dL_law_889 rfl (lv_at hl 2 rfl) ?_
  refine lv_aload_n hx hb dL_law_890 rfl (lv_at hl 0 rfl) ?_
  refine lv_iload_n hx hb dL_law_891 rfl (lv_at hl 3 rfl) ?_
  refine lv_iconst (v := iI 1) hx hb dL_law_892 (by decide +kernel) ?_
  refine x_addv (v := i + 1) hx hb dL_law_893 rfl ?_
  refine x_sld (i := i + 1) hx hb hX hbl hbA hS hL (by omega) dL_law_894 ?_
  refine lv_aload_n hx hb dL_law_895 rfl (lv_at hl 0 rfl) ?_
  refine lv_iload_n hx hb dL_law_896 rfl (lv_at hl 3 rfl) ?_
  refine lv_iconst (v := iI 2) hx hb dL_law_897 (by decide +kernel) ?_
  refine x_addv (v := i + 2) hx hb dL_law_898 rfl ?_
  refine x_sld (i := i + 2) hx hb hX hbl hbA hS hL (by omega) dL_law_899 ?_
  refine lv_aload_n hx hb dL_law_900 rfl (lv_at hl 0 rfl) ?_
  refine lv_iload_n hx hb dL_law_901 rfl (lv_at hl 3 rfl) ?_
  refine lv_iconst (v := iI 3) hx hb dL_law_902 (by decide +kernel) ?_
  refine x_addv (v := i + 3) hx hb dL_law_903 rfl ?_
  refine x_sld (i := i + 3) hx hb hX hbl hbA hS hL (by omega) dL_law_904 ?_
  refine l_callX (As := [.int (iI (sx xs (i + 1))), .int (iI (sx xs (i + 2))), .int (iI (sx xs (i + 3)))]) (rest := []) (Wo := WK cB cI cJ cZ cQ q B2) ⟨hx, hb, hml, hown, hts⟩ (mb_X12_lent l dC dI cB cI cJ cZ cQ r A (sx xs (i + 1)) (sx xs (i + 2)) (sx xs (i + 3)) hIM (sx_r xs _) (sx_r xs _) (sx_r xs _) hcCI hcWI) (cwV 3 hts gl_21_1 rfl rfl rfl (by decide +kernel) ⟨Nat.le_of_ble_eq_true rfl, Nat.le_of_ble_eq_true rfl⟩) hK hDM hA0 hPM hPK (hap B2 A).sym hS 0 12 wm0 rfl rfl hl.1 (Nat.le_of_ble_eq_true rfl) hcs dL_law_905 (fun z2 A2 H locs hw2 hPM hPK hS => ?_)
  have hq2 := hw2
  obtain ⟨hr2, hIM, hf2, hcCI2, hcWI2, hw2⟩ := hw2
  have hcCI : CI A2 := hcCI2
  have hcWI : WI A2 := hcWI2
  have e2 : A2 0 1 = A 0 1 := hf2.2 1 rfl
  refine lv_pop hx hb dL_law_908 rfl ?_
  refine lv_goto (tgt := 1273) hx hb dL_law_909 (by decide) ?_
  exact k _ _ _ _ _ ⟨hIK, hIM, hcCI, hcWI, by omega, hTB.fr (fun k => hf1 2 k rfl rfl) (hf2.1 1 (by decide) rfl) (by omega), (fun k hk => (hf1 4 k rfl rfl).trans (hOW k hk)), PSs.fr hIK0 hPS hf1 rfl rfl hf2 rfl rfl, ((hf1 22 4 rfl rfl).trans (hTR.trans (hf2.2 75 rfl).symm)), (ACS.fr hIK0 hIM0 hPS hAC hf1 rfl rfl hf2 rfl rfl)⟩ ⟨hPK, hPM, hS⟩ hl
set_option maxRecDepth 100000 in
theorem gl_22_0 : GoodIn lw_tbl (wsV RL 109 RX11 yX11_locked ws_kc_X11_locked) := goodVL lt_WY wy_good (t_in_5 _ (List.mem_of_getElem? (i := 66) rfl)) (t_in_5 _ (List.mem_of_getElem? (i := 67) rfl)) (t_in_5 _ (List.mem_of_getElem? (i := 68) rfl)) (t_in_1 _ (List.mem_of_getElem? (i := 1) rfl)) (t_in_5 _ (List.mem_of_getElem? (i := 69) rfl)) (by decide +kernel)
set_option maxRecDepth 100000 in
theorem gl_22_1 : GoodIn lw_tbl (wsV RL 112 RX12 yX12_locked ws_mb_X12_locked) := goodVL lt_WX wx_good (t_in_9 _ (List.mem_of_getElem? (i := 0) rfl)) (t_in_9 _ (List.mem_of_getElem? (i := 1) rfl)) (t_in_9 _ (List.mem_of_getElem? (i := 2) rfl)) (t_in_1 _ (List.mem_of_getElem? (i := 17) rfl)) (t_in_9 _ (List.mem_of_getElem? (i := 3) rfl)) (by decide +kernel)
set_option maxHeartbeats 4000000 in
set_option maxRecDepth 100000 in
theorem law_case_22 {p : Program} {e : Env} {s : State} {m : MethodId} {below : List Frame} {meth : Method} {c : Code} (l : Launch) {b L : Nat} {xs : Nat → Int32} (C0 : lw_At p s m meth c b L xs) (hL : L ≤ 3072) (dC : Nat → ClassId) (dI : Nat → Nat → Nat) (cB cI cJ cZ cQ : ClassId) (aL aS : Nat) (q r : Nat → Nat) (F : LF dC dI cB cI cJ cZ cQ aL aS q r s) {B A : St} {i : Int} (hi : 0 ≤ i ∧ i + 6 ≤ L) (hJ : LJ B A) {H : Heap} {locs : List Loc} {cells slots : Nat} {ls : Array Slot} (hcs : cells ≤ room_1.cells ∧ slots ≤ room_1.slots) (hW : LW dC dI cB cI cJ cZ cQ q r s B A H locs) (hl : lv_has ls 4 [(0, .ref b), (1, .ref (q 0)), (2, .ref (r 0)), (3, .int (iI i))]) (k : ∀ (B A : St) (H : Heap) (locs : List Loc) (ls : Array Slot), LJ B A → LW dC dI cB cI cJ cZ cQ q r s B A H locs → lv_has ls 4 [(0, .ref b), (1, .ref (q 0)), (2, .ref (r 0)), (3, .int (iI i))] → W p l e room_1 s m #[Value.ref b] below meth c H locs cells slots (lw_Z below #[Value.ref b] s) (F0 m 1273 ls [])) : W p l e room_1 s m #[Value.ref b] below meth c H locs cells slots (lw_Z below #[Value.ref b] s) (F0 m 912 ls []) := by
  obtain ⟨hx, hb, hr, hml, hown, hts, hX, hbl, hlocks, hgv⟩ := id C0
  obtain ⟨hK, hDK, hDM, hap, hE⟩ := F
  obtain ⟨hPK, hPM, hS⟩ := hW
  obtain ⟨hIK, hIM, hcCI, hcWI, hJ, hTB, hOW, hPS, hTR, hAC⟩ := hJ
  have hIK0 := hIK
  have hIM0 := hIM
  have r01 : (0 : Int) ≤ A 0 1 := (hIM 0 1).1
  have hbA : ¬ (fun b : Nat => s.heap.size ≤ b) b := Nat.not_le.mpr hbl
  have hA0 : ∀ b : Nat, s.heap.size ≤ b → (fun b : Nat => s.heap.size ≤ b) b := fun _ h => h
  refine lv_aload_n hx hb dL_law_912 rfl (lv_at hl 1 rfl) ?_
  refine l_callK (As := []) (rest := []) (Wo := WM cI cJ cZ r A) ⟨hx, hb, hml, hown, hts⟩ hE (kc_X11_locked l dC dI cB cI cJ cZ cQ aL aS q B  hIK) (cwV 0 hts gl_22_0 rfl rfl rfl (by decide +kernel) ⟨Nat.le_of_ble_eq_true rfl, Nat.le_of_ble_eq_true rfl⟩) hK hDK hA0 hPK hPM (hap B A) hS 0 11 wkK rfl rfl hl.1 (Nat.le_of_ble_eq_true rfl) hcs dL_law_913 (fun z1 B2 H locs hw1 hPK hPM hS => ?_)
  obtain ⟨hr1, hIK, hf1, hw1⟩ := hw1
  have e1 : B2 1 1 = B 1 1 := hf1 1 1 rfl rfl
  refine lv_pop hx hb dL_law_916 rfl ?_
  refine lv_aload_n hx hb dL_law_917 rfl (lv_at hl 2 rfl) ?_
  refine l_callX (As := []) (rest := []) (Wo := WK cB cI cJ cZ cQ q B2) ⟨hx, hb, hml, hown, hts⟩ (mb_X12_locked l dC dI cB cI cJ cZ cQ r A  hIM hcCI hcWI) (cwV 0 hts gl_22_1 rfl rfl rfl (by decide +kernel) ⟨Nat.le_of_ble_eq_true rfl, Nat.le_of_ble_eq_true rfl⟩) hK hDM hA0 hPM hPK (hap B2 A).sym hS 0 12 wm0 rfl rfl hl.1 (Nat.le_of_ble_eq_true rfl) hcs dL_law_918 (fun z2 A2 H locs hw2 hPM hPK hS => ?_)
  have hq2 := hw2
  obtain ⟨hr2, hIM, hf2, hcCI2, hcWI2, hw2⟩ := hw2
  have hcCI : CI A2 := hcCI2
  have hcWI : WI A2 := hcWI2
  have e2 : A2 0 1 = A 0 1 := hf2.2 1 rfl
  refine lv_pop hx hb dL_law_921 rfl ?_
  refine lv_goto (tgt := 1273) hx hb dL_law_922 (by decide) ?_
  exact k _ _ _ _ _ ⟨hIK, hIM, hcCI, hcWI, by omega, hTB.fr (fun k => hf1 2 k rfl rfl) (hf2.1 1 (by decide) rfl) (by omega), (fun k hk => (hf1 4 k rfl rfl).trans (hOW k hk)), PSs.fr hIK0 hPS hf1 rfl rfl hf2 rfl rfl, ((hf1 22 4 rfl rfl).trans (hTR.trans (hf2.2 75 rfl).symm)), (ACS.fr hIK0 hIM0 hPS hAC hf1 rfl rfl hf2 rfl rfl)⟩ ⟨hPK, hPM, hS⟩ hl
set_option maxRecDepth 100000 in
theorem gl_23_0 : GoodIn lw_tbl (wsV RL 113 RX11 yX11_can ws_kc_X11_can) := goodVL lt_WY wy_good (t_in_5 _ (List.mem_of_getElem? (i := 74) rfl)) (t_in_5 _ (List.mem_of_getElem? (i := 75) rfl)) (t_in_5 _ (List.mem_of_getElem? (i := 76) rfl)) (t_in_1 _ (List.mem_of_getElem? (i := 1) rfl)) (t_in_5 _ (List.mem_of_getElem? (i := 77) rfl)) (by decide +kernel)
set_option maxRecDepth 100000 in
theorem gl_23_1 : GoodIn lw_tbl (wsV RL 116 RX12 yX12_can ws_mc_X12_can) := goodVL lt_WX wx_good (t_in_9 _ (List.mem_of_getElem? (i := 8) rfl)) (t_in_9 _ (List.mem_of_getElem? (i := 9) rfl)) (t_in_9 _ (List.mem_of_getElem? (i := 10) rfl)) (t_in_1 _ (List.mem_of_getElem? (i := 17) rfl)) (t_in_9 _ (List.mem_of_getElem? (i := 11) rfl)) (by decide +kernel)
set_option maxHeartbeats 4000000 in
set_option maxRecDepth 100000 in
theorem law_case_23 {p : Program} {e : Env} {s : State} {m : MethodId} {below : List Frame} {meth : Method} {c : Code} (l : Launch) {b L : Nat} {xs : Nat → Int32} (C0 : lw_At p s m meth c b L xs) (hL : L ≤ 3072) (dC : Nat → ClassId) (dI : Nat → Nat → Nat) (cB cI cJ cZ cQ : ClassId) (aL aS : Nat) (q r : Nat → Nat) (F : LF dC dI cB cI cJ cZ cQ aL aS q r s) {B A : St} {i : Int} (hi : 0 ≤ i ∧ i + 6 ≤ L) (hJ : LJ B A) {H : Heap} {locs : List Loc} {cells slots : Nat} {ls : Array Slot} (hcs : cells ≤ room_1.cells ∧ slots ≤ room_1.slots) (hW : LW dC dI cB cI cJ cZ cQ q r s B A H locs) (hl : lv_has ls 4 [(0, .ref b), (1, .ref (q 0)), (2, .ref (r 0)), (3, .int (iI i))]) (k : ∀ (B A : St) (H : Heap) (locs : List Loc) (ls : Array Slot), LJ B A → LW dC dI cB cI cJ cZ cQ q r s B A H locs → lv_has ls 4 [(0, .ref b), (1, .ref (q 0)), (2, .ref (r 0)), (3, .int (iI i))] → W p l e room_1 s m #[Value.ref b] below meth c H locs cells slots (lw_Z below #[Value.ref b] s) (F0 m 1273 ls [])) : W p l e room_1 s m #[Value.ref b] below meth c H locs cells slots (lw_Z below #[Value.ref b] s) (F0 m 925 ls []) := by
  obtain ⟨hx, hb, hr, hml, hown, hts, hX, hbl, hlocks, hgv⟩ := id C0
  obtain ⟨hK, hDK, hDM, hap, hE⟩ := F
  obtain ⟨hPK, hPM, hS⟩ := hW
  obtain ⟨hIK, hIM, hcCI, hcWI, hJ, hTB, hOW, hPS, hTR, hAC⟩ := hJ
  have hIK0 := hIK
  have hIM0 := hIM
  have r01 : (0 : Int) ≤ A 0 1 := (hIM 0 1).1
  have hbA : ¬ (fun b : Nat => s.heap.size ≤ b) b := Nat.not_le.mpr hbl
  have hA0 : ∀ b : Nat, s.heap.size ≤ b → (fun b : Nat => s.heap.size ≤ b) b := fun _ h => h
  refine lv_aload_n hx hb dL_law_925 rfl (lv_at hl 1 rfl) ?_
  refine lv_aload_n hx hb dL_law_926 rfl (lv_at hl 0 rfl) ?_
  refine lv_iload_n hx hb dL_law_927 rfl (lv_at hl 3 rfl) ?_
  refine lv_iconst (v := iI 1) hx hb dL_law_928 (by decide +kernel) ?_
  refine x_addv (v := i + 1) hx hb dL_law_929 rfl ?_
  refine x_sld (i := i + 1) hx hb hX hbl hbA hS hL (by omega) dL_law_930 ?_
  refine lv_aload_n hx hb dL_law_931 rfl (lv_at hl 0 rfl) ?_
  refine lv_iload_n hx hb dL_law_932 rfl (lv_at hl 3 rfl) ?_
  refine lv_iconst (v := iI 2) hx hb dL_law_933 (by decide +kernel) ?_
  refine x_addv (v := i + 2) hx hb dL_law_934 rfl ?_
  refine x_sld (i := i + 2) hx hb hX hbl hbA hS hL (by omega) dL_law_935 ?_
  refine l_callK (As := [.int (iI (sx xs (i + 1))), .int (iI (sx xs (i + 2)))]) (rest := []) (Wo := WM cI cJ cZ r A) ⟨hx, hb, hml, hown, hts⟩ hE (kc_X11_can l dC dI cB cI cJ cZ cQ aL aS q B (sx xs (i + 1)) (sx xs (i + 2)) hIK (sx_r xs _) (sx_r xs _)) (cwV 2 hts gl_23_0 rfl rfl rfl (by decide +kernel) ⟨Nat.le_of_ble_eq_true rfl, Nat.le_of_ble_eq_true rfl⟩) hK hDK hA0 hPK hPM (hap B A) hS 0 11 wkK rfl rfl hl.1 (Nat.le_of_ble_eq_true rfl) hcs dL_law_936 (fun z1 B2 H locs hw1 hPK hPM hS => ?_)
  obtain ⟨rfl, hr1, hw1⟩ := hw1
  refine lv_pop hx hb dL_law_939 rfl ?_
  refine lv_aload_n hx hb dL_law_940 rfl (lv_at hl 2 rfl) ?_
  refine lv_aload_n hx hb dL_law_941 rfl (lv_at hl 0 rfl) ?_
  refine lv_iload_n hx hb dL_law_942 rfl (lv_at hl 3 rfl) ?_
  refine lv_iconst (v := iI 1) hx hb dL_law_943 (by decide +kernel) ?_
  refine x_addv (v := i + 1) hx hb dL_law_944 rfl ?_
  refine x_sld (i := i + 1) hx hb hX hbl hbA hS hL (by omega) dL_law_945 ?_
  refine lv_aload_n hx hb dL_law_946 rfl (lv_at hl 0 rfl) ?_
  refine lv_iload_n hx hb dL_law_947 rfl (lv_at hl 3 rfl) ?_
  refine lv_iconst (v := iI 2) hx hb dL_law_948 (by decide +kernel) ?_
  refine x_addv (v := i + 2) hx hb dL_law_949 rfl ?_
  refine x_sld (i := i + 2) hx hb hX hbl hbA hS hL (by omega) dL_law_950 ?_
  refine l_callX (As := [.int (iI (sx xs (i + 1))), .int (iI (sx xs (i + 2)))]) (rest := []) (Wo := WK cB cI cJ cZ cQ q B) ⟨hx, hb, hml, hown, hts⟩ (mc_X12_can l dC dI cB cI cJ cZ cQ r A (sx xs (i + 1)) (sx xs (i + 2)) hIM (sx_r xs _) (sx_r xs _)) (cwV 2 hts gl_23_1 rfl rfl rfl (by decide +kernel) ⟨Nat.le_of_ble_eq_true rfl, Nat.le_of_ble_eq_true rfl⟩) hK hDM hA0 hPM hPK (hap B A).sym hS 0 12 wm0 rfl rfl hl.1 (Nat.le_of_ble_eq_true rfl) hcs dL_law_951 (fun z2 A2 H locs hw2 hPM hPK hS => ?_)
  have hq2 := hw2
  obtain ⟨rfl, hr2, hw2⟩ := hw2
  refine lv_pop hx hb dL_law_954 rfl ?_
  refine lv_goto (tgt := 1273) hx hb dL_law_955 (by decide) ?_
  exact k _ _ _ _ _ ⟨hIK, hIM, hcCI, hcWI, by omega, hTB, hOW, hPS, hTR, hAC⟩ ⟨hPK, hPM, hS⟩ hl
