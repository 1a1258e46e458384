set_option maxRecDepth 100000 in
theorem g_law_6_0 : GoodIn lw_tbl (wsV RL 42 RX11 yX11_door ws_p_X11_door) := goodIn_sub (show ∀ w ∈ wsV RL 42 RX11 yX11_door ws_p_X11_door, w ∈ lw_tbl from (all_app (List.forall_mem_cons.mpr ⟨t_in_4 _ (List.mem_of_getElem? (i := 28) rfl), (List.forall_mem_cons.mpr ⟨t_in_4 _ (List.mem_of_getElem? (i := 29) rfl), (List.forall_mem_cons.mpr ⟨t_in_4 _ (List.mem_of_getElem? (i := 30) rfl), (List.forall_mem_cons.mpr ⟨t_in_1 _ (List.mem_of_getElem? (i := 1) rfl), (fun _ h => absurd h List.not_mem_nil)⟩)⟩)⟩)⟩) (List.forall_mem_cons.mpr ⟨t_in_4 _ (List.mem_of_getElem? (i := 31) rfl), (all_app (all_app (List.forall_mem_cons.mpr ⟨t_in_2 _ (List.mem_of_getElem? (i := 206) rfl), (List.forall_mem_cons.mpr ⟨t_in_4 _ (List.mem_of_getElem? (i := 24) rfl), (List.forall_mem_cons.mpr ⟨t_in_4 _ (List.mem_of_getElem? (i := 25) rfl), (List.forall_mem_cons.mpr ⟨t_in_4 _ (List.mem_of_getElem? (i := 26) rfl), (List.forall_mem_cons.mpr ⟨t_in_1 _ (List.mem_of_getElem? (i := 15) rfl), (List.forall_mem_cons.mpr ⟨t_in_4 _ (List.mem_of_getElem? (i := 27) rfl), (List.forall_mem_cons.mpr ⟨t_in_2 _ (List.mem_of_getElem? (i := 115) rfl), (fun _ h => absurd h List.not_mem_nil)⟩)⟩)⟩)⟩)⟩)⟩)⟩) inX11) inX9)⟩))) (by decide +kernel)
set_option maxRecDepth 100000 in
theorem g_law_6_1 : GoodIn lw_tbl (wsV RL 46 RX12 yX12_door_ ws_p_X12_door_) := goodIn_sub (show ∀ w ∈ wsV RL 46 RX12 yX12_door_ ws_p_X12_door_, w ∈ lw_tbl from (all_app (List.forall_mem_cons.mpr ⟨t_in_8 _ (List.mem_of_getElem? (i := 46) rfl), (List.forall_mem_cons.mpr ⟨t_in_8 _ (List.mem_of_getElem? (i := 47) rfl), (List.forall_mem_cons.mpr ⟨t_in_8 _ (List.mem_of_getElem? (i := 48) rfl), (List.forall_mem_cons.mpr ⟨t_in_1 _ (List.mem_of_getElem? (i := 17) rfl), (fun _ h => absurd h List.not_mem_nil)⟩)⟩)⟩)⟩) (List.forall_mem_cons.mpr ⟨t_in_8 _ (List.mem_of_getElem? (i := 49) rfl), (all_app (List.forall_mem_cons.mpr ⟨t_in_8 _ (List.mem_of_getElem? (i := 50) rfl), (List.forall_mem_cons.mpr ⟨t_in_8 _ (List.mem_of_getElem? (i := 52) rfl), (List.forall_mem_cons.mpr ⟨s_in_8 (yX12_isDoor, 85) (List.mem_of_getElem? (i := 2) rfl), (List.forall_mem_cons.mpr ⟨t_in_1 _ (List.mem_of_getElem? (i := 17) rfl), (List.forall_mem_cons.mpr ⟨t_in_8 _ (List.mem_of_getElem? (i := 53) rfl), (List.forall_mem_cons.mpr ⟨t_in_6 _ (List.mem_of_getElem? (i := 31) rfl), (List.forall_mem_cons.mpr ⟨t_in_6 _ (List.mem_of_getElem? (i := 28) rfl), (List.forall_mem_cons.mpr ⟨t_in_7 _ (List.mem_of_getElem? (i := 144) rfl), (List.forall_mem_cons.mpr ⟨t_in_7 _ (List.mem_of_getElem? (i := 145) rfl), (List.forall_mem_cons.mpr ⟨t_in_7 _ (List.mem_of_getElem? (i := 146) rfl), (fun _ h => absurd h List.not_mem_nil)⟩)⟩)⟩)⟩)⟩)⟩)⟩)⟩)⟩)⟩) inX12)⟩))) (by decide +kernel)
set_option maxHeartbeats 4000000 in
set_option maxRecDepth 100000 in
theorem law_case_6 {p : Program} {e : Env} {s : State} {m : MethodId} {below : List Frame} {meth : Method} {c : Code} (l : Launch) {b : Nat} {xs : Nat → Int32} (C0 : lw_At p s m meth c b 6 xs) (dC : Nat → ClassId) (dI : Nat → Nat → Nat) (cB cI cJ cZ cQ : ClassId) (x : Nat) (u q : Nat → Nat) {H : Heap} {locs : List Loc} {ls : Array Slot} (hK : va_K (dC, dI) vwCl (tyA cB cI cJ cZ cQ) s) (hP : va_P (dC, dI) vwCl [(x, .inr (11, [.ref (u 0), .ref (u 2), .ref (u 5), .ref (u 19), .ref (u 21), .ref (u 26), .ref (u 29), .ref (u 40), .ref (u 49), .ref (u 50), .ref (u 81)])), ((u 50), .inr (9, [.ref (u 51), .ref (u 52), .ref (u 58), .ref (u 59), .ref (u 60), .ref (u 61), .ref (u 62), .ref (u 63), .ref (u 64), .ref (u 65), .ref (u 66), .ref (u 67), .ref (u 68), .ref (u 69), .ref (u 72), .int 0])), ((u 51), .inl (cI, 8, .inl (fun _ => 0))), ((q 0), .inr (12, (mo q))), ((q 4), .inl (cI, 2, .inl (fun _ => 0)))] H) (hD : va_D (fun b : Nat => s.heap.size ≤ b) [(x, .inr (11, [.ref (u 0), .ref (u 2), .ref (u 5), .ref (u 19), .ref (u 21), .ref (u 26), .ref (u 29), .ref (u 40), .ref (u 49), .ref (u 50), .ref (u 81)])), ((u 50), .inr (9, [.ref (u 51), .ref (u 52), .ref (u 58), .ref (u 59), .ref (u 60), .ref (u 61), .ref (u 62), .ref (u 63), .ref (u 64), .ref (u 65), .ref (u 66), .ref (u 67), .ref (u 68), .ref (u 69), .ref (u 72), .int 0])), ((u 51), .inl (cI, 8, .inl (fun _ => 0))), ((q 0), .inr (12, (mo q))), ((q 4), .inl (cI, 2, .inl (fun _ => 0)))]) (hS : va_S (fun b : Nat => s.heap.size ≤ b) s.heap H locs) (hl : lv_has ls 4 [(3, .int 0), (2, .ref (q 0)), (1, .ref x), (0, .ref b)]) : W p l e room_1 s m #[Value.ref b] below meth c H locs 171 178311 (lw_Z below #[Value.ref b] s) (F0 m 384 ls []) := by
  obtain ⟨hx, hb, hr, hml, hown, hts, hX, hbl, hlocks, hgv⟩ := id C0
  have hA : ∀ a : Nat, s.heap.size ≤ a → (fun b : Nat => s.heap.size ≤ b) a := fun _ h => h
  have hbA : ¬ (fun b : Nat => s.heap.size ≤ b) b := Nat.not_le.mpr hbl
  obtain ⟨A, hAe⟩ : ∃ A : Nat → Prop, A = (fun b : Nat => s.heap.size ≤ b) := ⟨_, rfl⟩
  rw [← hAe] at hD hS hA hbA
  refine lv_aload_n hx hb dL_law_384 rfl (lv_at hl 2 rfl) ?_
  refine lv_aload_n hx hb dL_law_385 rfl (lv_at hl 3 rfl) ?_
  refine lv_iload_n hx hb dL_law_386 rfl (lv_at hl 0 rfl) ?_
  refine lv_iconst (v := 1) hx hb dL_law_387 (by decide +kernel) ?_
  refine lv_iadd hx hb dL_law_388 ?_
  refine tp_i (y := 1) (by decide +kernel) ?_
  refine va_sld hx hb hX hbl hbA hS (vpc _ _ (by decide +kernel)) dL_law_389 ?_
  refine tp_i (y := xs 1) (congrArg xs (by decide +kernel)) ?_
  refine lv_aload_n hx hb dL_law_390 rfl (lv_at hl 3 rfl) ?_
  refine lv_iload_n hx hb dL_law_391 rfl (lv_at hl 0 rfl) ?_
  refine lv_iconst (v := 2) hx hb dL_law_392 (by decide +kernel) ?_
  refine lv_iadd hx hb dL_law_393 ?_
  refine tp_i (y := 2) (by decide +kernel) ?_
  refine va_sld hx hb hX hbl hbA hS (vpc _ _ (by decide +kernel)) dL_law_394 ?_
  refine tp_i (y := xs 2) (congrArg xs (by decide +kernel)) ?_
  have hPc := hP.sub (ws' := [(x, .inr (11, [.ref (u 0), .ref (u 2), .ref (u 5), .ref (u 19), .ref (u 21), .ref (u 26), .ref (u 29), .ref (u 40), .ref (u 49), .ref (u 50), .ref (u 81)])), ((u 50), .inr (9, [.ref (u 51), .ref (u 52), .ref (u 58), .ref (u 59), .ref (u 60), .ref (u 61), .ref (u 62), .ref (u 63), .ref (u 64), .ref (u 65), .ref (u 66), .ref (u 67), .ref (u 68), .ref (u 69), .ref (u 72), .int 0])), ((u 51), .inl (cI, 8, .inl (fun _ => 0)))]) [0, 1, 2] rfl
  have hDc := hD.sub (ws' := [(x, .inr (11, [.ref (u 0), .ref (u 2), .ref (u 5), .ref (u 19), .ref (u 21), .ref (u 26), .ref (u 29), .ref (u 40), .ref (u 49), .ref (u 50), .ref (u 81)])), ((u 50), .inr (9, [.ref (u 51), .ref (u 52), .ref (u 58), .ref (u 59), .ref (u 60), .ref (u 61), .ref (u 62), .ref (u 63), .ref (u 64), .ref (u 65), .ref (u 66), .ref (u 67), .ref (u 68), .ref (u 69), .ref (u 72), .int 0])), ((u 51), .inl (cI, 8, .inl (fun _ => 0)))]) [0, 1, 2] (by decide) rfl
  have hFc := va_free (wc := [(x, .inr (11, [.ref (u 0), .ref (u 2), .ref (u 5), .ref (u 19), .ref (u 21), .ref (u 26), .ref (u 29), .ref (u 40), .ref (u 49), .ref (u 50), .ref (u 81)])), ((u 50), .inr (9, [.ref (u 51), .ref (u 52), .ref (u 58), .ref (u 59), .ref (u 60), .ref (u 61), .ref (u 62), .ref (u 63), .ref (u 64), .ref (u 65), .ref (u 66), .ref (u 67), .ref (u 68), .ref (u 69), .ref (u 72), .int 0])), ((u 51), .inl (cI, 8, .inl (fun _ => 0)))]) hD hS hA [0, 1, 2] rfl
  refine va_calli (va_runV (As := [.int (xs 1), .int (xs 2)]) (rest := []) ⟨hx, hb, hml, hown, hts⟩ (p_X11_door l dC dI cB cI cJ cZ cQ H.size x (u 0) (u 2) (u 5) (u 19) (u 21) (u 26) (u 29) (u 40) (u 49) (u 50) (u 81) (u 51) (u 52) (u 58) (u 59) (u 60) (u 61) (u 62) (u 63) (u 64) (u 65) (u 66) (u 67) (u 68) (u 69) (u 72) (xs 1) (xs 2)) (cwV 2 hts g_law_6_0 rfl rfl rfl (by decide +kernel) ⟨Nat.le_of_ble_eq_true rfl, Nat.le_of_ble_eq_true rfl⟩) ⟨fun a U g mk Z => by obtain ⟨q0, q1, qP, qK, qD⟩ := Z; exact ⟨q0, q1, qP, va_K.moved (u := U) (U := U.calling g mk a) (Vm.Alike.refl U.vm) qK, qD⟩, va_recv hK hPc (ci := 11) (q0 := 0) rfl rfl, fun U hU hW => ⟨rfl, by rw [hU], by rw [hU]; exact hPc, va_K.moved hW.alike hK, hDc.weaken (fun _ _ _ _ => trivial)⟩⟩ rfl rfl hl.1 rfl (lv_room (Nat.le_of_ble_eq_true rfl)) dL_law_395 ⟨Nat.le_of_ble_eq_true rfl, Nat.le_of_ble_eq_true rfl⟩) hS (fun b _ h => hFc b h) hFc (fun r2 u1 t H1 locs ht hvm hw hB hz1 hk1 hS => ?_)
  obtain ⟨hP, hD⟩ := va_join (wr := [((q 0), .inr (12, (mo q))), ((q 4), .inl (cI, 2, .inl (fun _ => 0)))]) (w1 := []) hP hD [0, 1, 2] [3, 4] rfl rfl (by decide) (by decide) hk1 hFc (fun k b h => by simp at h) ⟨fun i j p b h => by simp at h, fun k b h => by simp at h⟩
  clear hk1 hz1 hvm hPc hDc hFc
  generalize H1 = H at hP hS ⊢
  have hP : va_P (dC, dI) vwCl [((q 0), .inr (12, (mo q))), ((q 4), .inl (cI, 2, .inl (fun _ => 0)))] H := hP
  have hD : va_D A [((q 0), .inr (12, (mo q))), ((q 4), .inl (cI, 2, .inl (fun _ => 0)))] := hD
  subst hw
  refine lv_aload_n hx hb dL_law_398 rfl (lv_at hl 1 rfl) ?_
  refine lv_aload_n hx hb dL_law_399 rfl (lv_at hl 3 rfl) ?_
  refine lv_iload_n hx hb dL_law_400 rfl (lv_at hl 0 rfl) ?_
  refine lv_iconst (v := 1) hx hb dL_law_401 (by decide +kernel) ?_
  refine lv_iadd hx hb dL_law_402 ?_
  refine tp_i (y := 1) (by decide +kernel) ?_
  refine va_sld hx hb hX hbl hbA hS (vpc _ _ (by decide +kernel)) dL_law_403 ?_
  refine tp_i (y := xs 1) (congrArg xs (by decide +kernel)) ?_
  refine lv_aload_n hx hb dL_law_404 rfl (lv_at hl 3 rfl) ?_
  refine lv_iload_n hx hb dL_law_405 rfl (lv_at hl 0 rfl) ?_
  refine lv_iconst (v := 2) hx hb dL_law_406 (by decide +kernel) ?_
  refine lv_iadd hx hb dL_law_407 ?_
  refine tp_i (y := 2) (by decide +kernel) ?_
  refine va_sld hx hb hX hbl hbA hS (vpc _ _ (by decide +kernel)) dL_law_408 ?_
  refine tp_i (y := xs 2) (congrArg xs (by decide +kernel)) ?_
  have hPc := hP.sub (ws' := [((q 0), .inr (12, (mo q))), ((q 4), .inl (cI, 2, .inl (fun _ => 0)))]) [0, 1] rfl
  have hDc := hD.sub (ws' := [((q 0), .inr (12, (mo q))), ((q 4), .inl (cI, 2, .inl (fun _ => 0)))]) [0, 1] (by decide) rfl
  have hFc := va_free (wc := [((q 0), .inr (12, (mo q))), ((q 4), .inl (cI, 2, .inl (fun _ => 0)))]) hD hS hA [0, 1] rfl
  refine va_calli (va_runV (As := [.int (xs 1), .int (xs 2)]) (rest := [.int (-1)]) ⟨hx, hb, hml, hown, hts⟩ (p_X12_door_ l dC dI cB cI cJ cZ cQ H.size q (xs 1) (xs 2)) (cwV 2 hts g_law_6_1 rfl rfl rfl (by decide +kernel) ⟨Nat.le_of_ble_eq_true rfl, Nat.le_of_ble_eq_true rfl⟩) ⟨fun a U g mk Z => by obtain ⟨q0, q1, qP, qK, qD⟩ := Z; exact ⟨q0, q1, qP, va_K.moved (u := U) (U := U.calling g mk a) (Vm.Alike.refl U.vm) qK, qD⟩, va_recv hK hPc (ci := 12) (q0 := 0) rfl rfl, fun U hU hW => ⟨rfl, by rw [hU], by rw [hU]; exact hPc, va_K.moved hW.alike hK, hDc.weaken (fun _ _ _ _ => trivial)⟩⟩ rfl rfl hl.1 rfl (lv_room (Nat.le_of_ble_eq_true rfl)) dL_law_409 ⟨Nat.le_of_ble_eq_true rfl, Nat.le_of_ble_eq_true rfl⟩) hS (fun b _ h => hFc b h) hFc (fun r4 u3 t H1 locs ht hvm hw hB hz1 hk1 hS => ?_)
  obtain ⟨hP, hD⟩ := va_join (wr := []) (w1 := []) hP hD [0, 1] [] rfl rfl (by decide) (by decide) hk1 hFc (fun k b h => by simp at h) ⟨fun i j p b h => by simp at h, fun k b h => by simp at h⟩
  clear hk1 hz1 hvm hPc hDc hFc
  generalize H1 = H at hP hS ⊢
  have hP : va_P (dC, dI) vwCl [] H := hP
  have hD : va_D A [] := hD
  subst hw
  refine lv_icmp_eq (tgt := 1273) hx hb dL_law_412 (by decide) (fun _ => ?_) (fun c => absurd c (by decide +kernel))
  exact law_tail l C0 (by decide) (by decide) (by rw [hAe] at hS; exact hS) (lv_sub hl [3, 2, 1, 0] rfl)
set_option maxRecDepth 100000 in
theorem g_law_7_0 : GoodIn lw_tbl (wsV RL 47 RX11 yX11_key ws_p_X11_key) := goodIn_sub (show ∀ w ∈ wsV RL 47 RX11 yX11_key ws_p_X11_key, w ∈ lw_tbl from (all_app (List.forall_mem_cons.mpr ⟨t_in_4 _ (List.mem_of_getElem? (i := 38) rfl), (List.forall_mem_cons.mpr ⟨t_in_4 _ (List.mem_of_getElem? (i := 39) rfl), (List.forall_mem_cons.mpr ⟨t_in_4 _ (List.mem_of_getElem? (i := 40) rfl), (List.forall_mem_cons.mpr ⟨t_in_1 _ (List.mem_of_getElem? (i := 1) rfl), (fun _ h => absurd h List.not_mem_nil)⟩)⟩)⟩)⟩) (List.forall_mem_cons.mpr ⟨t_in_4 _ (List.mem_of_getElem? (i := 41) rfl), (all_app (all_app (List.forall_mem_cons.mpr ⟨t_in_2 _ (List.mem_of_getElem? (i := 206) rfl), (List.forall_mem_cons.mpr ⟨t_in_4 _ (List.mem_of_getElem? (i := 24) rfl), (List.forall_mem_cons.mpr ⟨t_in_4 _ (List.mem_of_getElem? (i := 25) rfl), (List.forall_mem_cons.mpr ⟨t_in_4 _ (List.mem_of_getElem? (i := 26) rfl), (List.forall_mem_cons.mpr ⟨t_in_1 _ (List.mem_of_getElem? (i := 15) rfl), (List.forall_mem_cons.mpr ⟨t_in_4 _ (List.mem_of_getElem? (i := 27) rfl), (List.forall_mem_cons.mpr ⟨t_in_2 _ (List.mem_of_getElem? (i := 115) rfl), (fun _ h => absurd h List.not_mem_nil)⟩)⟩)⟩)⟩)⟩)⟩)⟩) inX11) inX9)⟩))) (by decide +kernel)
set_option maxRecDepth 100000 in
theorem g_law_7_1 : GoodIn lw_tbl (wsV RL 50 RX12 yX12_key_ ws_p_X12_key_) := goodIn_sub (show ∀ w ∈ wsV RL 50 RX12 yX12_key_ ws_p_X12_key_, w ∈ lw_tbl from (all_app (List.forall_mem_cons.mpr ⟨t_in_8 _ (List.mem_of_getElem? (i := 54) rfl), (List.forall_mem_cons.mpr ⟨t_in_8 _ (List.mem_of_getElem? (i := 55) rfl), (List.forall_mem_cons.mpr ⟨t_in_8 _ (List.mem_of_getElem? (i := 56) rfl), (List.forall_mem_cons.mpr ⟨t_in_1 _ (List.mem_of_getElem? (i := 17) rfl), (fun _ h => absurd h List.not_mem_nil)⟩)⟩)⟩)⟩) (List.forall_mem_cons.mpr ⟨t_in_8 _ (List.mem_of_getElem? (i := 57) rfl), (all_app (List.forall_mem_cons.mpr ⟨t_in_8 _ (List.mem_of_getElem? (i := 58) rfl), (List.forall_mem_cons.mpr ⟨t_in_8 _ (List.mem_of_getElem? (i := 60) rfl), (List.forall_mem_cons.mpr ⟨s_in_8 (yX12_isKey, 85) (List.mem_of_getElem? (i := 3) rfl), (List.forall_mem_cons.mpr ⟨t_in_1 _ (List.mem_of_getElem? (i := 17) rfl), (List.forall_mem_cons.mpr ⟨t_in_8 _ (List.mem_of_getElem? (i := 61) rfl), (List.forall_mem_cons.mpr ⟨t_in_6 _ (List.mem_of_getElem? (i := 38) rfl), (List.forall_mem_cons.mpr ⟨t_in_6 _ (List.mem_of_getElem? (i := 28) rfl), (List.forall_mem_cons.mpr ⟨t_in_7 _ (List.mem_of_getElem? (i := 144) rfl), (List.forall_mem_cons.mpr ⟨t_in_7 _ (List.mem_of_getElem? (i := 145) rfl), (List.forall_mem_cons.mpr ⟨t_in_7 _ (List.mem_of_getElem? (i := 146) rfl), (fun _ h => absurd h List.not_mem_nil)⟩)⟩)⟩)⟩)⟩)⟩)⟩)⟩)⟩)⟩) inX12)⟩))) (by decide +kernel)
set_option maxHeartbeats 4000000 in
set_option maxRecDepth 100000 in
theorem law_case_7 {p : Program} {e : Env} {s : State} {m : MethodId} {below : List Frame} {meth : Method} {c : Code} (l : Launch) {b : Nat} {xs : Nat → Int32} (C0 : lw_At p s m meth c b 6 xs) (dC : Nat → ClassId) (dI : Nat → Nat → Nat) (cB cI cJ cZ cQ : ClassId) (x : Nat) (u q : Nat → Nat) {H : Heap} {locs : List Loc} {ls : Array Slot} (hK : va_K (dC, dI) vwCl (tyA cB cI cJ cZ cQ) s) (hP : va_P (dC, dI) vwCl [(x, .inr (11, [.ref (u 0), .ref (u 2), .ref (u 5), .ref (u 19), .ref (u 21), .ref (u 26), .ref (u 29), .ref (u 40), .ref (u 49), .ref (u 50), .ref (u 81)])), ((u 50), .inr (9, [.ref (u 51), .ref (u 52), .ref (u 58), .ref (u 59), .ref (u 60), .ref (u 61), .ref (u 62), .ref (u 63), .ref (u 64), .ref (u 65), .ref (u 66), .ref (u 67), .ref (u 68), .ref (u 69), .ref (u 72), .int 0])), ((u 51), .inl (cI, 8, .inl (fun _ => 0))), ((q 0), .inr (12, (mo q))), ((q 11), .inl (cI, 2, .inl (fun _ => 0)))] H) (hD : va_D (fun b : Nat => s.heap.size ≤ b) [(x, .inr (11, [.ref (u 0), .ref (u 2), .ref (u 5), .ref (u 19), .ref (u 21), .ref (u 26), .ref (u 29), .ref (u 40), .ref (u 49), .ref (u 50), .ref (u 81)])), ((u 50), .inr (9, [.ref (u 51), .ref (u 52), .ref (u 58), .ref (u 59), .ref (u 60), .ref (u 61), .ref (u 62), .ref (u 63), .ref (u 64), .ref (u 65), .ref (u 66), .ref (u 67), .ref (u 68), .ref (u 69), .ref (u 72), .int 0])), ((u 51), .inl (cI, 8, .inl (fun _ => 0))), ((q 0), .inr (12, (mo q))), ((q 11), .inl (cI, 2, .inl (fun _ => 0)))]) (hS : va_S (fun b : Nat => s.heap.size ≤ b) s.heap H locs) (hl : lv_has ls 4 [(3, .int 0), (2, .ref (q 0)), (1, .ref x), (0, .ref b)]) : W p l e room_1 s m #[Value.ref b] below meth c H locs 171 178311 (lw_Z below #[Value.ref b] s) (F0 m 417 ls []) := by
  obtain ⟨hx, hb, hr, hml, hown, hts, hX, hbl, hlocks, hgv⟩ := id C0
  have hA : ∀ a : Nat, s.heap.size ≤ a → (fun b : Nat => s.heap.size ≤ b) a := fun _ h => h
  have hbA : ¬ (fun b : Nat => s.heap.size ≤ b) b := Nat.not_le.mpr hbl
  obtain ⟨A, hAe⟩ : ∃ A : Nat → Prop, A = (fun b : Nat => s.heap.size ≤ b) := ⟨_, rfl⟩
  rw [← hAe] at hD hS hA hbA
  refine lv_aload_n hx hb dL_law_417 rfl (lv_at hl 2 rfl) ?_
  refine lv_aload_n hx hb dL_law_418 rfl (lv_at hl 3 rfl) ?_
  refine lv_iload_n hx hb dL_law_419 rfl (lv_at hl 0 rfl) ?_
  refine lv_iconst (v := 1) hx hb dL_law_420 (by decide +kernel) ?_
  refine lv_iadd hx hb dL_law_421 ?_
  refine tp_i (y := 1) (by decide +kernel) ?_
  refine va_sld hx hb hX hbl hbA hS (vpc _ _ (by decide +kernel)) dL_law_422 ?_
  refine tp_i (y := xs 1) (congrArg xs (by decide +kernel)) ?_
  refine lv_aload_n hx hb dL_law_423 rfl (lv_at hl 3 rfl) ?_
  refine lv_iload_n hx hb dL_law_424 rfl (lv_at hl 0 rfl) ?_
  refine lv_iconst (v := 2) hx hb dL_law_425 (by decide +kernel) ?_
  refine lv_iadd hx hb dL_law_426 ?_
  refine tp_i (y := 2) (by decide +kernel) ?_
  refine va_sld hx hb hX hbl hbA hS (vpc _ _ (by decide +kernel)) dL_law_427 ?_
  refine tp_i (y := xs 2) (congrArg xs (by decide +kernel)) ?_
  have hPc := hP.sub (ws' := [(x, .inr (11, [.ref (u 0), .ref (u 2), .ref (u 5), .ref (u 19), .ref (u 21), .ref (u 26), .ref (u 29), .ref (u 40), .ref (u 49), .ref (u 50), .ref (u 81)])), ((u 50), .inr (9, [.ref (u 51), .ref (u 52), .ref (u 58), .ref (u 59), .ref (u 60), .ref (u 61), .ref (u 62), .ref (u 63), .ref (u 64), .ref (u 65), .ref (u 66), .ref (u 67), .ref (u 68), .ref (u 69), .ref (u 72), .int 0])), ((u 51), .inl (cI, 8, .inl (fun _ => 0)))]) [0, 1, 2] rfl
  have hDc := hD.sub (ws' := [(x, .inr (11, [.ref (u 0), .ref (u 2), .ref (u 5), .ref (u 19), .ref (u 21), .ref (u 26), .ref (u 29), .ref (u 40), .ref (u 49), .ref (u 50), .ref (u 81)])), ((u 50), .inr (9, [.ref (u 51), .ref (u 52), .ref (u 58), .ref (u 59), .ref (u 60), .ref (u 61), .ref (u 62), .ref (u 63), .ref (u 64), .ref (u 65), .ref (u 66), .ref (u 67), .ref (u 68), .ref (u 69), .ref (u 72), .int 0])), ((u 51), .inl (cI, 8, .inl (fun _ => 0)))]) [0, 1, 2] (by decide) rfl
  have hFc := va_free (wc := [(x, .inr (11, [.ref (u 0), .ref (u 2), .ref (u 5), .ref (u 19), .ref (u 21), .ref (u 26), .ref (u 29), .ref (u 40), .ref (u 49), .ref (u 50), .ref (u 81)])), ((u 50), .inr (9, [.ref (u 51), .ref (u 52), .ref (u 58), .ref (u 59), .ref (u 60), .ref (u 61), .ref (u 62), .ref (u 63), .ref (u 64), .ref (u 65), .ref (u 66), .ref (u 67), .ref (u 68), .ref (u 69), .ref (u 72), .int 0])), ((u 51), .inl (cI, 8, .inl (fun _ => 0)))]) hD hS hA [0, 1, 2] rfl
  refine va_calli (va_runV (As := [.int (xs 1), .int (xs 2)]) (rest := []) ⟨hx, hb, hml, hown, hts⟩ (p_X11_key l dC dI cB cI cJ cZ cQ H.size x (u 0) (u 2) (u 5) (u 19) (u 21) (u 26) (u 29) (u 40) (u 49) (u 50) (u 81) (u 51) (u 52) (u 58) (u 59) (u 60) (u 61) (u 62) (u 63) (u 64) (u 65) (u 66) (u 67) (u 68) (u 69) (u 72) (xs 1) (xs 2)) (cwV 2 hts g_law_7_0 rfl rfl rfl (by decide +kernel) ⟨Nat.le_of_ble_eq_true rfl, Nat.le_of_ble_eq_true rfl⟩) ⟨fun a U g mk Z => by obtain ⟨q0, q1, qP, qK, qD⟩ := Z; exact ⟨q0, q1, qP, va_K.moved (u := U) (U := U.calling g mk a) (Vm.Alike.refl U.vm) qK, qD⟩, va_recv hK hPc (ci := 11) (q0 := 0) rfl rfl, fun U hU hW => ⟨rfl, by rw [hU], by rw [hU]; exact hPc, va_K.moved hW.alike hK, hDc.weaken (fun _ _ _ _ => trivial)⟩⟩ rfl rfl hl.1 rfl (lv_room (Nat.le_of_ble_eq_true rfl)) dL_law_428 ⟨Nat.le_of_ble_eq_true rfl, Nat.le_of_ble_eq_true rfl⟩) hS (fun b _ h => hFc b h) hFc (fun r2 u1 t H1 locs ht hvm hw hB hz1 hk1 hS => ?_)
  obtain ⟨hP, hD⟩ := va_join (wr := [((q 0), .inr (12, (mo q))), ((q 11), .inl (cI, 2, .inl (fun _ => 0)))]) (w1 := []) hP hD [0, 1, 2] [3, 4] rfl rfl (by decide) (by decide) hk1 hFc (fun k b h => by simp at h) ⟨fun i j p b h => by simp at h, fun k b h => by simp at h⟩
  clear hk1 hz1 hvm hPc hDc hFc
  generalize H1 = H at hP hS ⊢
  have hP : va_P (dC, dI) vwCl [((q 0), .inr (12, (mo q))), ((q 11), .inl (cI, 2, .inl (fun _ => 0)))] H := hP
  have hD : va_D A [((q 0), .inr (12, (mo q))), ((q 11), .inl (cI, 2, .inl (fun _ => 0)))] := hD
  subst hw
  refine lv_aload_n hx hb dL_law_431 rfl (lv_at hl 1 rfl) ?_
  refine lv_aload_n hx hb dL_law_432 rfl (lv_at hl 3 rfl) ?_
  refine lv_iload_n hx hb dL_law_433 rfl (lv_at hl 0 rfl) ?_
  refine lv_iconst (v := 1) hx hb dL_law_434 (by decide +kernel) ?_
  refine lv_iadd hx hb dL_law_435 ?_
  refine tp_i (y := 1) (by decide +kernel) ?_
  refine va_sld hx hb hX hbl hbA hS (vpc _ _ (by decide +kernel)) dL_law_436 ?_
  refine tp_i (y := xs 1) (congrArg xs (by decide +kernel)) ?_
  refine lv_aload_n hx hb dL_law_437 rfl (lv_at hl 3 rfl) ?_
  refine lv_iload_n hx hb dL_law_438 rfl (lv_at hl 0 rfl) ?_
  refine lv_iconst (v := 2) hx hb dL_law_439 (by decide +kernel) ?_
  refine lv_iadd hx hb dL_law_440 ?_
  refine tp_i (y := 2) (by decide +kernel) ?_
  refine va_sld hx hb hX hbl hbA hS (vpc _ _ (by decide +kernel)) dL_law_441 ?_
  refine tp_i (y := xs 2) (congrArg xs (by decide +kernel)) ?_
  have hPc := hP.sub (ws' := [((q 0), .inr (12, (mo q))), ((q 11), .inl (cI, 2, .inl (fun _ => 0)))]) [0, 1] rfl
  have hDc := hD.sub (ws' := [((q 0), .inr (12, (mo q))), ((q 11), .inl (cI, 2, .inl (fun _ => 0)))]) [0, 1] (by decide) rfl
  have hFc := va_free (wc := [((q 0), .inr (12, (mo q))), ((q 11), .inl (cI, 2, .inl (fun _ => 0)))]) hD hS hA [0, 1] rfl
  refine va_calli (va_runV (As := [.int (xs 1), .int (xs 2)]) (rest := [.int (-1)]) ⟨hx, hb, hml, hown, hts⟩ (p_X12_key_ l dC dI cB cI cJ cZ cQ H.size q (xs 1) (xs 2)) (cwV 2 hts g_law_7_1 rfl rfl rfl (by decide +kernel) ⟨Nat.le_of_ble_eq_true rfl, Nat.le_of_ble_eq_true rfl⟩) ⟨fun a U g mk Z => by obtain ⟨q0, q1, qP, qK, qD⟩ := Z; exact ⟨q0, q1, qP, va_K.moved (u := U) (U := U.calling g mk a) (Vm.Alike.refl U.vm) qK, qD⟩, va_recv hK hPc (ci := 12) (q0 := 0) rfl rfl, fun U hU hW => ⟨rfl, by rw [hU], by rw [hU]; exact hPc, va_K.moved hW.alike hK, hDc.weaken (fun _ _ _ _ => trivial)⟩⟩ rfl rfl hl.1 rfl (lv_room (Nat.le_of_ble_eq_true rfl)) dL_law_442 ⟨Nat.le_of_ble_eq_true rfl, Nat.le_of_ble_eq_true rfl⟩) hS (fun b _ h => hFc b h) hFc (fun r4 u3 t H1 locs ht hvm hw hB hz1 hk1 hS => ?_)
  obtain ⟨hP, hD⟩ := va_join (wr := []) (w1 := []) hP hD [0, 1] [] rfl rfl (by decide) (by decide) hk1 hFc (fun k b h => by simp at h) ⟨fun i j p b h => by simp at h, fun k b h => by simp at h⟩
  clear hk1 hz1 hvm hPc hDc hFc
  generalize H1 = H at hP hS ⊢
  have hP : va_P (dC, dI) vwCl [] H := hP
  have hD : va_D A [] := hD
  subst hw
  refine lv_icmp_eq (tgt := 1273) hx hb dL_law_445 (by decide) (fun _ => ?_) (fun c => absurd c (by decide +kernel))
  exact law_tail l C0 (by decide) (by decide) (by rw [hAe] at hS; exact hS) (lv_sub hl [3, 2, 1, 0] rfl)
set_option maxRecDepth 100000 in
theorem g_law_8_0 : GoodIn lw_tbl (wsV RL 51 RX11 yX11_in ws_p_X11_in) := goodIn_sub (show ∀ w ∈ wsV RL 51 RX11 yX11_in ws_p_X11_in, w ∈ lw_tbl from (all_app (List.forall_mem_cons.mpr ⟨t_in_4 _ (List.mem_of_getElem? (i := 46) rfl), (List.forall_mem_cons.mpr ⟨t_in_4 _ (List.mem_of_getElem? (i := 47) rfl), (List.forall_mem_cons.mpr ⟨t_in_4 _ (List.mem_of_getElem? (i := 48) rfl), (List.forall_mem_cons.mpr ⟨t_in_1 _ (List.mem_of_getElem? (i := 1) rfl), (fun _ h => absurd h List.not_mem_nil)⟩)⟩)⟩)⟩) (List.forall_mem_cons.mpr ⟨t_in_4 _ (List.mem_of_getElem? (i := 49) rfl), (all_app (all_app (List.forall_mem_cons.mpr ⟨t_in_2 _ (List.mem_of_getElem? (i := 206) rfl), (List.forall_mem_cons.mpr ⟨t_in_4 _ (List.mem_of_getElem? (i := 24) rfl), (List.forall_mem_cons.mpr ⟨t_in_4 _ (List.mem_of_getElem? (i := 25) rfl), (List.forall_mem_cons.mpr ⟨t_in_4 _ (List.mem_of_getElem? (i := 26) rfl), (List.forall_mem_cons.mpr ⟨t_in_1 _ (List.mem_of_getElem? (i := 15) rfl), (List.forall_mem_cons.mpr ⟨t_in_4 _ (List.mem_of_getElem? (i := 27) rfl), (List.forall_mem_cons.mpr ⟨t_in_2 _ (List.mem_of_getElem? (i := 115) rfl), (fun _ h => absurd h List.not_mem_nil)⟩)⟩)⟩)⟩)⟩)⟩)⟩) inX11) inX9)⟩))) (by decide +kernel)
set_option maxRecDepth 100000 in
theorem g_law_8_1 : GoodIn lw_tbl (wsV RL 54 RX12 yX12_in ws_p_X12_in) := goodIn_sub (show ∀ w ∈ wsV RL 54 RX12 yX12_in ws_p_X12_in, w ∈ lw_tbl from (all_app (List.forall_mem_cons.mpr ⟨t_in_8 _ (List.mem_of_getElem? (i := 66) rfl), (List.forall_mem_cons.mpr ⟨t_in_8 _ (List.mem_of_getElem? (i := 67) rfl), (List.forall_mem_cons.mpr ⟨t_in_8 _ (List.mem_of_getElem? (i := 68) rfl), (List.forall_mem_cons.mpr ⟨t_in_1 _ (List.mem_of_getElem? (i := 17) rfl), (fun _ h => absurd h List.not_mem_nil)⟩)⟩)⟩)⟩) (List.forall_mem_cons.mpr ⟨t_in_8 _ (List.mem_of_getElem? (i := 69) rfl), (all_app (List.forall_mem_cons.mpr ⟨t_in_8 _ (List.mem_of_getElem? (i := 58) rfl), (List.forall_mem_cons.mpr ⟨t_in_8 _ (List.mem_of_getElem? (i := 60) rfl), (List.forall_mem_cons.mpr ⟨s_in_8 (yX12_isKey, 85) (List.mem_of_getElem? (i := 3) rfl), (List.forall_mem_cons.mpr ⟨t_in_1 _ (List.mem_of_getElem? (i := 17) rfl), (List.forall_mem_cons.mpr ⟨t_in_8 _ (List.mem_of_getElem? (i := 61) rfl), (List.forall_mem_cons.mpr ⟨t_in_6 _ (List.mem_of_getElem? (i := 38) rfl), (List.forall_mem_cons.mpr ⟨t_in_6 _ (List.mem_of_getElem? (i := 28) rfl), (List.forall_mem_cons.mpr ⟨t_in_7 _ (List.mem_of_getElem? (i := 144) rfl), (List.forall_mem_cons.mpr ⟨t_in_7 _ (List.mem_of_getElem? (i := 145) rfl), (List.forall_mem_cons.mpr ⟨t_in_7 _ (List.mem_of_getElem? (i := 146) rfl), (fun _ h => absurd h List.not_mem_nil)⟩)⟩)⟩)⟩)⟩)⟩)⟩)⟩)⟩)⟩) inX12)⟩))) (by decide +kernel)
set_option maxHeartbeats 4000000 in
set_option maxRecDepth 100000 in
theorem law_case_8 {p : Program} {e : Env} {s : State} {m : MethodId} {below : List Frame} {meth : Method} {c : Code} (l : Launch) {b : Nat} {xs : Nat → Int32} (C0 : lw_At p s m meth c b 6 xs) (dC : Nat → ClassId) (dI : Nat → Nat → Nat) (cB cI cJ cZ cQ : ClassId) (x : Nat) (u q : Nat → Nat) {H : Heap} {locs : List Loc} {ls : Array Slot} (hK : va_K (dC, dI) vwCl (tyA cB cI cJ cZ cQ) s) (hP : va_P (dC, dI) vwCl [(x, .inr (11, [.ref (u 0), .ref (u 2), .ref (u 5), .ref (u 19), .ref (u 21), .ref (u 26), .ref (u 29), .ref (u 40), .ref (u 49), .ref (u 50), .ref (u 81)])), ((u 50), .inr (9, [.ref (u 51), .ref (u 52), .ref (u 58), .ref (u 59), .ref (u 60), .ref (u 61), .ref (u 62), .ref (u 63), .ref (u 64), .ref (u 65), .ref (u 66), .ref (u 67), .ref (u 68), .ref (u 69), .ref (u 72), .int 0])), ((u 51), .inl (cI, 8, .inl (fun _ => 0))), ((q 0), .inr (12, (mo q))), ((q 11), .inl (cI, 2, .inl (fun _ => 0)))] H) (hD : va_D (fun b : Nat => s.heap.size ≤ b) [(x, .inr (11, [.ref (u 0), .ref (u 2), .ref (u 5), .ref (u 19), .ref (u 21), .ref (u 26), .ref (u 29), .ref (u 40), .ref (u 49), .ref (u 50), .ref (u 81)])), ((u 50), .inr (9, [.ref (u 51), .ref (u 52), .ref (u 58), .ref (u 59), .ref (u 60), .ref (u 61), .ref (u 62), .ref (u 63), .ref (u 64), .ref (u 65), .ref (u 66), .ref (u 67), .ref (u 68), .ref (u 69), .ref (u 72), .int 0])), ((u 51), .inl (cI, 8, .inl (fun _ => 0))), ((q 0), .inr (12, (mo q))), ((q 11), .inl (cI, 2, .inl (fun _ => 0)))]) (hS : va_S (fun b : Nat => s.heap.size ≤ b) s.heap H locs) (hl : lv_has ls 4 [(3, .int 0), (2, .ref (q 0)), (1, .ref x), (0, .ref b)]) : W p l e room_1 s m #[Value.ref b] below meth c H locs 171 178311 (lw_Z below #[Value.ref b] s) (F0 m 450 ls []) := by
  obtain ⟨hx, hb, hr, hml, hown, hts, hX, hbl, hlocks, hgv⟩ := id C0
  have hA : ∀ a : Nat, s.heap.size ≤ a → (fun b : Nat => s.heap.size ≤ b) a := fun _ h => h
  have hbA : ¬ (fun b : Nat => s.heap.size ≤ b) b := Nat.not_le.mpr hbl
  obtain ⟨A, hAe⟩ : ∃ A : Nat → Prop, A = (fun b : Nat => s.heap.size ≤ b) := ⟨_, rfl⟩
  rw [← hAe] at hD hS hA hbA
  refine lv_aload_n hx hb dL_law_450 rfl (lv_at hl 2 rfl) ?_
  refine lv_aload_n hx hb dL_law_451 rfl (lv_at hl 3 rfl) ?_
  refine lv_iload_n hx hb dL_law_452 rfl (lv_at hl 0 rfl) ?_
  refine lv_iconst (v := 1) hx hb dL_law_453 (by decide +kernel) ?_
  refine lv_iadd hx hb dL_law_454 ?_
  refine tp_i (y := 1) (by decide +kernel) ?_
  refine va_sld hx hb hX hbl hbA hS (vpc _ _ (by decide +kernel)) dL_law_455 ?_
  refine tp_i (y := xs 1) (congrArg xs (by decide +kernel)) ?_
  refine lv_aload_n hx hb dL_law_456 rfl (lv_at hl 3 rfl) ?_
  refine lv_iload_n hx hb dL_law_457 rfl (lv_at hl 0 rfl) ?_
  refine lv_iconst (v := 2) hx hb dL_law_458 (by decide +kernel) ?_
  refine lv_iadd hx hb dL_law_459 ?_
  refine tp_i (y := 2) (by decide +kernel) ?_
  refine va_sld hx hb hX hbl hbA hS (vpc _ _ (by decide +kernel)) dL_law_460 ?_
  refine tp_i (y := xs 2) (congrArg xs (by decide +kernel)) ?_
  have hPc := hP.sub (ws' := [(x, .inr (11, [.ref (u 0), .ref (u 2), .ref (u 5), .ref (u 19), .ref (u 21), .ref (u 26), .ref (u 29), .ref (u 40), .ref (u 49), .ref (u 50), .ref (u 81)])), ((u 50), .inr (9, [.ref (u 51), .ref (u 52), .ref (u 58), .ref (u 59), .ref (u 60), .ref (u 61), .ref (u 62), .ref (u 63), .ref (u 64), .ref (u 65), .ref (u 66), .ref (u 67), .ref (u 68), .ref (u 69), .ref (u 72), .int 0])), ((u 51), .inl (cI, 8, .inl (fun _ => 0)))]) [0, 1, 2] rfl
  have hDc := hD.sub (ws' := [(x, .inr (11, [.ref (u 0), .ref (u 2), .ref (u 5), .ref (u 19), .ref (u 21), .ref (u 26), .ref (u 29), .ref (u 40), .ref (u 49), .ref (u 50), .ref (u 81)])), ((u 50), .inr (9, [.ref (u 51), .ref (u 52), .ref (u 58), .ref (u 59), .ref (u 60), .ref (u 61), .ref (u 62), .ref (u 63), .ref (u 64), .ref (u 65), .ref (u 66), .ref (u 67), .ref (u 68), .ref (u 69), .ref (u 72), .int 0])), ((u 51), .inl (cI, 8, .inl (fun _ => 0)))]) [0, 1, 2] (by decide) rfl
  have hFc := va_free (wc := [(x, .inr (11, [.ref (u 0), .ref (u 2), .ref (u 5), .ref (u 19), .ref (u 21), .ref (u 26), .ref (u 29), .ref (u 40), .ref (u 49), .ref (u 50), .ref (u 81)])), ((u 50), .inr (9, [.ref (u 51), .ref (u 52), .ref (u 58), .ref (u 59), .ref (u 60), .ref (u 61), .ref (u 62), .ref (u 63), .ref (u 64), .ref (u 65), .ref (u 66), .ref (u 67), .ref (u 68), .ref (u 69), .ref (u 72), .int 0])), ((u 51), .inl (cI, 8, .inl (fun _ => 0)))]) hD hS hA [0, 1, 2] rfl
  refine va_calli (va_runV (As := [.int (xs 1), .int (xs 2)]) (rest := []) ⟨hx, hb, hml, hown, hts⟩ (p_X11_in l dC dI cB cI cJ cZ cQ H.size x (u 0) (u 2) (u 5) (u 19) (u 21) (u 26) (u 29) (u 40) (u 49) (u 50) (u 81) (u 51) (u 52) (u 58) (u 59) (u 60) (u 61) (u 62) (u 63) (u 64) (u 65) (u 66) (u 67) (u 68) (u 69) (u 72) (xs 1) (xs 2)) (cwV 2 hts g_law_8_0 rfl rfl rfl (by decide +kernel) ⟨Nat.le_of_ble_eq_true rfl, Nat.le_of_ble_eq_true rfl⟩) ⟨fun a U g mk Z => by obtain ⟨q0, q1, qP, qK, qD⟩ := Z; exact ⟨q0, q1, qP, va_K.moved (u := U) (U := U.calling g mk a) (Vm.Alike.refl U.vm) qK, qD⟩, va_recv hK hPc (ci := 11) (q0 := 0) rfl rfl, fun U hU hW => ⟨rfl, by rw [hU], by rw [hU]; exact hPc, va_K.moved hW.alike hK, hDc.weaken (fun _ _ _ _ => trivial)⟩⟩ rfl rfl hl.1 rfl (lv_room (Nat.le_of_ble_eq_true rfl)) dL_law_461 ⟨Nat.le_of_ble_eq_true rfl, Nat.le_of_ble_eq_true rfl⟩) hS (fun b _ h => hFc b h) hFc (fun r2 u1 t H1 locs ht hvm hw hB hz1 hk1 hS => ?_)
  obtain ⟨hP, hD⟩ := va_join (wr := [((q 0), .inr (12, (mo q))), ((q 11), .inl (cI, 2, .inl (fun _ => 0)))]) (w1 := []) hP hD [0, 1, 2] [3, 4] rfl rfl (by decide) (by decide) hk1 hFc (fun k b h => by simp at h) ⟨fun i j p b h => by simp at h, fun k b h => by simp at h⟩
  clear hk1 hz1 hvm hPc hDc hFc
  generalize H1 = H at hP hS ⊢
  have hP : va_P (dC, dI) vwCl [((q 0), .inr (12, (mo q))), ((q 11), .inl (cI, 2, .inl (fun _ => 0)))] H := hP
  have hD : va_D A [((q 0), .inr (12, (mo q))), ((q 11), .inl (cI, 2, .inl (fun _ => 0)))] := hD
  subst hw
  refine lv_aload_n hx hb dL_law_464 rfl (lv_at hl 1 rfl) ?_
  refine lv_aload_n hx hb dL_law_465 rfl (lv_at hl 3 rfl) ?_
  refine lv_iload_n hx hb dL_law_466 rfl (lv_at hl 0 rfl) ?_
  refine lv_iconst (v := 1) hx hb dL_law_467 (by decide +kernel) ?_
  refine lv_iadd hx hb dL_law_468 ?_
  refine tp_i (y := 1) (by decide +kernel) ?_
  refine va_sld hx hb hX hbl hbA hS (vpc _ _ (by decide +kernel)) dL_law_469 ?_
  refine tp_i (y := xs 1) (congrArg xs (by decide +kernel)) ?_
  refine lv_aload_n hx hb dL_law_470 rfl (lv_at hl 3 rfl) ?_
  refine lv_iload_n hx hb dL_law_471 rfl (lv_at hl 0 rfl) ?_
  refine lv_iconst (v := 2) hx hb dL_law_472 (by decide +kernel) ?_
  refine lv_iadd hx hb dL_law_473 ?_
  refine tp_i (y := 2) (by decide +kernel) ?_
  refine va_sld hx hb hX hbl hbA hS (vpc _ _ (by decide +kernel)) dL_law_474 ?_
  refine tp_i (y := xs 2) (congrArg xs (by decide +kernel)) ?_
  have hPc := hP.sub (ws' := [((q 0), .inr (12, (mo q))), ((q 11), .inl (cI, 2, .inl (fun _ => 0)))]) [0, 1] rfl
  have hDc := hD.sub (ws' := [((q 0), .inr (12, (mo q))), ((q 11), .inl (cI, 2, .inl (fun _ => 0)))]) [0, 1] (by decide) rfl
  have hFc := va_free (wc := [((q 0), .inr (12, (mo q))), ((q 11), .inl (cI, 2, .inl (fun _ => 0)))]) hD hS hA [0, 1] rfl
  refine va_calli (va_runV (As := [.int (xs 1), .int (xs 2)]) (rest := [.int (-1)]) ⟨hx, hb, hml, hown, hts⟩ (p_X12_in l dC dI cB cI cJ cZ cQ H.size q (xs 1) (xs 2)) (cwV 2 hts g_law_8_1 rfl rfl rfl (by decide +kernel) ⟨Nat.le_of_ble_eq_true rfl, Nat.le_of_ble_eq_true rfl⟩) ⟨fun a U g mk Z => by obtain ⟨q0, q1, qP, qK, qD⟩ := Z; exact ⟨q0, q1, qP, va_K.moved (u := U) (U := U.calling g mk a) (Vm.Alike.refl U.vm) qK, qD⟩, va_recv hK hPc (ci := 12) (q0 := 0) rfl rfl, fun U hU hW => ⟨rfl, by rw [hU], by rw [hU]; exact hPc, va_K.moved hW.alike hK, hDc.weaken (fun _ _ _ _ => trivial)⟩⟩ rfl rfl hl.1 rfl (lv_room (Nat.le_of_ble_eq_true rfl)) dL_law_475 ⟨Nat.le_of_ble_eq_true rfl, Nat.le_of_ble_eq_true rfl⟩) hS (fun b _ h => hFc b h) hFc (fun r4 u3 t H1 locs ht hvm hw hB hz1 hk1 hS => ?_)
  obtain ⟨hP, hD⟩ := va_join (wr := []) (w1 := []) hP hD [0, 1] [] rfl rfl (by decide) (by decide) hk1 hFc (fun k b h => by simp at h) ⟨fun i j p b h => by simp at h, fun k b h => by simp at h⟩
  clear hk1 hz1 hvm hPc hDc hFc
  generalize H1 = H at hP hS ⊢
  have hP : va_P (dC, dI) vwCl [] H := hP
  have hD : va_D A [] := hD
  subst hw
  refine lv_icmp_eq (tgt := 1273) hx hb dL_law_478 (by decide) (fun _ => ?_) (fun c => absurd c (by decide +kernel))
  exact law_tail l C0 (by decide) (by decide) (by rw [hAe] at hS; exact hS) (lv_sub hl [3, 2, 1, 0] rfl)
set_option maxRecDepth 100000 in
theorem g_law_9_0 : GoodIn lw_tbl (wsV RL 55 RX11 yX11_person ws_p_X11_person) := goodIn_sub (show ∀ w ∈ wsV RL 55 RX11 yX11_person ws_p_X11_person, w ∈ lw_tbl from (all_app (List.forall_mem_cons.mpr ⟨t_in_4 _ (List.mem_of_getElem? (i := 51) rfl), (List.forall_mem_cons.mpr ⟨t_in_4 _ (List.mem_of_getElem? (i := 52) rfl), (List.forall_mem_cons.mpr ⟨t_in_4 _ (List.mem_of_getElem? (i := 53) rfl), (List.forall_mem_cons.mpr ⟨t_in_1 _ (List.mem_of_getElem? (i := 1) rfl), (fun _ h => absurd h List.not_mem_nil)⟩)⟩)⟩)⟩) (List.forall_mem_cons.mpr ⟨t_in_4 _ (List.mem_of_getElem? (i := 54) rfl), (all_app (all_app (List.forall_mem_cons.mpr ⟨t_in_2 _ (List.mem_of_getElem? (i := 206) rfl), (List.forall_mem_cons.mpr ⟨t_in_4 _ (List.mem_of_getElem? (i := 24) rfl), (List.forall_mem_cons.mpr ⟨t_in_4 _ (List.mem_of_getElem? (i := 25) rfl), (List.forall_mem_cons.mpr ⟨t_in_4 _ (List.mem_of_getElem? (i := 26) rfl), (List.forall_mem_cons.mpr ⟨t_in_1 _ (List.mem_of_getElem? (i := 15) rfl), (List.forall_mem_cons.mpr ⟨t_in_4 _ (List.mem_of_getElem? (i := 27) rfl), (List.forall_mem_cons.mpr ⟨t_in_2 _ (List.mem_of_getElem? (i := 115) rfl), (fun _ h => absurd h List.not_mem_nil)⟩)⟩)⟩)⟩)⟩)⟩)⟩) inX11) inX9)⟩))) (by decide +kernel)
set_option maxRecDepth 100000 in
theorem g_law_9_1 : GoodIn lw_tbl (wsV RL 58 RX12 yX12_person_ ws_p_X12_person_) := goodIn_sub (show ∀ w ∈ wsV RL 58 RX12 yX12_person_ ws_p_X12_person_, w ∈ lw_tbl from (all_app (List.forall_mem_cons.mpr ⟨t_in_8 _ (List.mem_of_getElem? (i := 176) rfl), (List.forall_mem_cons.mpr ⟨t_in_8 _ (List.mem_of_getElem? (i := 177) rfl), (List.forall_mem_cons.mpr ⟨t_in_8 _ (List.mem_of_getElem? (i := 178) rfl), (List.forall_mem_cons.mpr ⟨t_in_1 _ (List.mem_of_getElem? (i := 17) rfl), (fun _ h => absurd h List.not_mem_nil)⟩)⟩)⟩)⟩) (List.forall_mem_cons.mpr ⟨t_in_8 _ (List.mem_of_getElem? (i := 179) rfl), (all_app (List.forall_mem_cons.mpr ⟨t_in_8 _ (List.mem_of_getElem? (i := 74) rfl), (List.forall_mem_cons.mpr ⟨t_in_8 _ (List.mem_of_getElem? (i := 76) rfl), (List.forall_mem_cons.mpr ⟨s_in_8 (yX12_isPerson, 85) (List.mem_of_getElem? (i := 5) rfl), (List.forall_mem_cons.mpr ⟨t_in_1 _ (List.mem_of_getElem? (i := 17) rfl), (List.forall_mem_cons.mpr ⟨t_in_8 _ (List.mem_of_getElem? (i := 77) rfl), (List.forall_mem_cons.mpr ⟨t_in_6 _ (List.mem_of_getElem? (i := 43) rfl), (List.forall_mem_cons.mpr ⟨t_in_6 _ (List.mem_of_getElem? (i := 28) rfl), (List.forall_mem_cons.mpr ⟨t_in_7 _ (List.mem_of_getElem? (i := 144) rfl), (List.forall_mem_cons.mpr ⟨t_in_7 _ (List.mem_of_getElem? (i := 145) rfl), (List.forall_mem_cons.mpr ⟨t_in_7 _ (List.mem_of_getElem? (i := 146) rfl), (fun _ h => absurd h List.not_mem_nil)⟩)⟩)⟩)⟩)⟩)⟩)⟩)⟩)⟩)⟩) inX12)⟩))) (by decide +kernel)
set_option maxHeartbeats 4000000 in
set_option maxRecDepth 100000 in
theorem law_case_9 {p : Program} {e : Env} {s : State} {m : MethodId} {below : List Frame} {meth : Method} {c : Code} (l : Launch) {b : Nat} {xs : Nat → Int32} (C0 : lw_At p s m meth c b 6 xs) (dC : Nat → ClassId) (dI : Nat → Nat → Nat) (cB cI cJ cZ cQ : ClassId) (x : Nat) (u q : Nat → Nat) {H : Heap} {locs : List Loc} {ls : Array Slot} (hK : va_K (dC, dI) vwCl (tyA cB cI cJ cZ cQ) s) (hP : va_P (dC, dI) vwCl [(x, .inr (11, [.ref (u 0), .ref (u 2), .ref (u 5), .ref (u 19), .ref (u 21), .ref (u 26), .ref (u 29), .ref (u 40), .ref (u 49), .ref (u 50), .ref (u 81)])), ((u 50), .inr (9, [.ref (u 51), .ref (u 52), .ref (u 58), .ref (u 59), .ref (u 60), .ref (u 61), .ref (u 62), .ref (u 63), .ref (u 64), .ref (u 65), .ref (u 66), .ref (u 67), .ref (u 68), .ref (u 69), .ref (u 72), .int 0])), ((u 51), .inl (cI, 8, .inl (fun _ => 0))), ((q 0), .inr (12, (mo q))), ((q 16), .inl (cI, 2, .inl (fun _ => 0)))] H) (hD : va_D (fun b : Nat => s.heap.size ≤ b) [(x, .inr (11, [.ref (u 0), .ref (u 2), .ref (u 5), .ref (u 19), .ref (u 21), .ref (u 26), .ref (u 29), .ref (u 40), .ref (u 49), .ref (u 50), .ref (u 81)])), ((u 50), .inr (9, [.ref (u 51), .ref (u 52), .ref (u 58), .ref (u 59), .ref (u 60), .ref (u 61), .ref (u 62), .ref (u 63), .ref (u 64), .ref (u 65), .ref (u 66), .ref (u 67), .ref (u 68), .ref (u 69), .ref (u 72), .int 0])), ((u 51), .inl (cI, 8, .inl (fun _ => 0))), ((q 0), .inr (12, (mo q))), ((q 16), .inl (cI, 2, .inl (fun _ => 0)))]) (hS : va_S (fun b : Nat => s.heap.size ≤ b) s.heap H locs) (hl : lv_has ls 4 [(3, .int 0), (2, .ref (q 0)), (1, .ref x), (0, .ref b)]) : W p l e room_1 s m #[Value.ref b] below meth c H locs 171 178311 (lw_Z below #[Value.ref b] s) (F0 m 483 ls []) := by
  obtain ⟨hx, hb, hr, hml, hown, hts, hX, hbl, hlocks, hgv⟩ := id C0
  have hA : ∀ a : Nat, s.heap.size ≤ a → (fun b : Nat => s.heap.size ≤ b) a := fun _ h => h
  have hbA : ¬ (fun b : Nat => s.heap.size ≤ b) b := Nat.not_le.mpr hbl
  obtain ⟨A, hAe⟩ : ∃ A : Nat → Prop, A = (fun b : Nat => s.heap.size ≤ b) := ⟨_, rfl⟩
  rw [← hAe] at hD hS hA hbA
  refine lv_aload_n hx hb dL_law_483 rfl (lv_at hl 2 rfl) ?_
  refine lv_aload_n hx hb dL_law_484 rfl (lv_at hl 3 rfl) ?_
  refine lv_iload_n hx hb dL_law_485 rfl (lv_at hl 0 rfl) ?_
  refine lv_iconst (v := 1) hx hb dL_law_486 (by decide +kernel) ?_
  refine lv_iadd hx hb dL_law_487 ?_
  refine tp_i (y := 1) (by decide +kernel) ?_
  refine va_sld hx hb hX hbl hbA hS (vpc _ _ (by decide +kernel)) dL_law_488 ?_
  refine tp_i (y := xs 1) (congrArg xs (by decide +kernel)) ?_
  refine lv_aload_n hx hb dL_law_489 rfl (lv_at hl 3 rfl) ?_
  refine lv_iload_n hx hb dL_law_490 rfl (lv_at hl 0 rfl) ?_
  refine lv_iconst (v := 2) hx hb dL_law_491 (by decide +kernel) ?_
  refine lv_iadd hx hb dL_law_492 ?_
  refine tp_i (y := 2) (by decide +kernel) ?_
  refine va_sld hx hb hX hbl hbA hS (vpc _ _ (by decide +kernel)) dL_law_493 ?_
  refine tp_i (y := xs 2) (congrArg xs (by decide +kernel)) ?_
  have hPc := hP.sub (ws' := [(x, .inr (11, [.ref (u 0), .ref (u 2), .ref (u 5), .ref (u 19), .ref (u 21), .ref (u 26), .ref (u 29), .ref (u 40), .ref (u 49), .ref (u 50), .ref (u 81)])), ((u 50), .inr (9, [.ref (u 51), .ref (u 52), .ref (u 58), .ref (u 59), .ref (u 60), .ref (u 61), .ref (u 62), .ref (u 63), .ref (u 64), .ref (u 65), .ref (u 66), .ref (u 67), .ref (u 68), .ref (u 69), .ref (u 72), .int 0])), ((u 51), .inl (cI, 8, .inl (fun _ => 0)))]) [0, 1, 2] rfl
  have hDc := hD.sub (ws' := [(x, .inr (11, [.ref (u 0), .ref (u 2), .ref (u 5), .ref (u 19), .ref (u 21), .ref (u 26), .ref (u 29), .ref (u 40), .ref (u 49), .ref (u 50), .ref (u 81)])), ((u 50), .inr (9, [.ref (u 51), .ref (u 52), .ref (u 58), .ref (u 59), .ref (u 60), .ref (u 61), .ref (u 62), .ref (u 63), .ref (u 64), .ref (u 65), .ref (u 66), .ref (u 67), .ref (u 68), .ref (u 69), .ref (u 72), .int 0])), ((u 51), .inl (cI, 8, .inl (fun _ => 0)))]) [0, 1, 2] (by decide) rfl
  have hFc := va_free (wc := [(x, .inr (11, [.ref (u 0), .ref (u 2), .ref (u 5), .ref (u 19), .ref (u 21), .ref (u 26), .ref (u 29), .ref (u 40), .ref (u 49), .ref (u 50), .ref (u 81)])), ((u 50), .inr (9, [.ref (u 51), .ref (u 52), .ref (u 58), .ref (u 59), .ref (u 60), .ref (u 61), .ref (u 62), .ref (u 63), .ref (u 64), .ref (u 65), .ref (u 66), .ref (u 67), .ref (u 68), .ref (u 69), .ref (u 72), .int 0])), ((u 51), .inl (cI, 8, .inl (fun _ => 0)))]) hD hS hA [0, 1, 2] rfl
  refine va_calli (va_runV (As := [.int (xs 1), .int (xs 2)]) (rest := []) ⟨hx, hb, hml, hown, hts⟩ (p_X11_person l dC dI cB cI cJ cZ cQ H.size x (u 0) (u 2) (u 5) (u 19) (u 21) (u 26) (u 29) (u 40) (u 49) (u 50) (u 81) (u 51) (u 52) (u 58) (u 59) (u 60) (u 61) (u 62) (u 63) (u 64) (u 65) (u 66) (u 67) (u 68) (u 69) (u 72) (xs 1) (xs 2)) (cwV 2 hts g_law_9_0 rfl rfl rfl (by decide +kernel) ⟨Nat.le_of_ble_eq_true rfl, Nat.le_of_ble_eq_true rfl⟩) ⟨fun a U g mk Z => by obtain ⟨q0, q1, qP, qK, qD⟩ := Z; exact ⟨q0, q1, qP, va_K.moved (u := U) (U := U.calling g mk a) (Vm.Alike.refl U.vm) qK, qD⟩, va_recv hK hPc (ci := 11) (q0 := 0) rfl rfl, fun U hU hW => ⟨rfl, by rw [hU], by rw [hU]; exact hPc, va_K.moved hW.alike hK, hDc.weaken (fun _ _ _ _ => trivial)⟩⟩ rfl rfl hl.1 rfl (lv_room (Nat.le_of_ble_eq_true rfl)) dL_law_494 ⟨Nat.le_of_ble_eq_true rfl, Nat.le_of_ble_eq_true rfl⟩) hS (fun b _ h => hFc b h) hFc (fun r2 u1 t H1 locs ht hvm hw hB hz1 hk1 hS => ?_)
  obtain ⟨hP, hD⟩ := va_join (wr := [((q 0), .inr (12, (mo q))), ((q 16), .inl (cI, 2, .inl (fun _ => 0)))]) (w1 := []) hP hD [0, 1, 2] [3, 4] rfl rfl (by decide) (by decide) hk1 hFc (fun k b h => by simp at h) ⟨fun i j p b h => by simp at h, fun k b h => by simp at h⟩
  clear hk1 hz1 hvm hPc hDc hFc
  generalize H1 = H at hP hS ⊢
  have hP : va_P (dC, dI) vwCl [((q 0), .inr (12, (mo q))), ((q 16), .inl (cI, 2, .inl (fun _ => 0)))] H := hP
  have hD : va_D A [((q 0), .inr (12, (mo q))), ((q 16), .inl (cI, 2, .inl (fun _ => 0)))] := hD
  subst hw
  refine lv_aload_n hx hb dL_law_497 rfl (lv_at hl 1 rfl) ?_
  refine lv_aload_n hx hb dL_law_498 rfl (lv_at hl 3 rfl) ?_
  refine lv_iload_n hx hb dL_law_499 rfl (lv_at hl 0 rfl) ?_
  refine lv_iconst (v := 1) hx hb dL_law_500 (by decide +kernel) ?_
  refine lv_iadd hx hb dL_law_501 ?_
  refine tp_i (y := 1) (by decide +kernel) ?_
  refine va_sld hx hb hX hbl hbA hS (vpc _ _ (by decide +kernel)) dL_law_502 ?_
  refine tp_i (y := xs 1) (congrArg xs (by decide +kernel)) ?_
  refine lv_aload_n hx hb dL_law_503 rfl (lv_at hl 3 rfl) ?_
  refine lv_iload_n hx hb dL_law_504 rfl (lv_at hl 0 rfl) ?_
  refine lv_iconst (v := 2) hx hb dL_law_505 (by decide +kernel) ?_
  refine lv_iadd hx hb dL_law_506 ?_
  refine tp_i (y := 2) (by decide +kernel) ?_
  refine va_sld hx hb hX hbl hbA hS (vpc _ _ (by decide +kernel)) dL_law_507 ?_
  refine tp_i (y := xs 2) (congrArg xs (by decide +kernel)) ?_
  have hPc := hP.sub (ws' := [((q 0), .inr (12, (mo q))), ((q 16), .inl (cI, 2, .inl (fun _ => 0)))]) [0, 1] rfl
  have hDc := hD.sub (ws' := [((q 0), .inr (12, (mo q))), ((q 16), .inl (cI, 2, .inl (fun _ => 0)))]) [0, 1] (by decide) rfl
  have hFc := va_free (wc := [((q 0), .inr (12, (mo q))), ((q 16), .inl (cI, 2, .inl (fun _ => 0)))]) hD hS hA [0, 1] rfl
  refine va_calli (va_runV (As := [.int (xs 1), .int (xs 2)]) (rest := [.int (-1)]) ⟨hx, hb, hml, hown, hts⟩ (p_X12_person_ l dC dI cB cI cJ cZ cQ H.size q (xs 1) (xs 2)) (cwV 2 hts g_law_9_1 rfl rfl rfl (by decide +kernel) ⟨Nat.le_of_ble_eq_true rfl, Nat.le_of_ble_eq_true rfl⟩) ⟨fun a U g mk Z => by obtain ⟨q0, q1, qP, qK, qD⟩ := Z; exact ⟨q0, q1, qP, va_K.moved (u := U) (U := U.calling g mk a) (Vm.Alike.refl U.vm) qK, qD⟩, va_recv hK hPc (ci := 12) (q0 := 0) rfl rfl, fun U hU hW => ⟨rfl, by rw [hU], by rw [hU]; exact hPc, va_K.moved hW.alike hK, hDc.weaken (fun _ _ _ _ => trivial)⟩⟩ rfl rfl hl.1 rfl (lv_room (Nat.le_of_ble_eq_true rfl)) dL_law_508 ⟨Nat.le_of_ble_eq_true rfl, Nat.le_of_ble_eq_true rfl⟩) hS (fun b _ h => hFc b h) hFc (fun r4 u3 t H1 locs ht hvm hw hB hz1 hk1 hS => ?_)
  obtain ⟨hP, hD⟩ := va_join (wr := []) (w1 := []) hP hD [0, 1] [] rfl rfl (by decide) (by decide) hk1 hFc (fun k b h => by simp at h) ⟨fun i j p b h => by simp at h, fun k b h => by simp at h⟩
  clear hk1 hz1 hvm hPc hDc hFc
  generalize H1 = H at hP hS ⊢
  have hP : va_P (dC, dI) vwCl [] H := hP
  have hD : va_D A [] := hD
  subst hw
  refine lv_icmp_eq (tgt := 1273) hx hb dL_law_511 (by decide) (fun _ => ?_) (fun c => absurd c (by decide +kernel))
  exact law_tail l C0 (by decide) (by decide) (by rw [hAe] at hS; exact hS) (lv_sub hl [3, 2, 1, 0] rfl)
set_option maxRecDepth 100000 in
theorem g_law_10_0 : GoodIn lw_tbl (wsV RL 59 RX11 yX11_go ws_p_X11_go) := goodIn_sub (show ∀ w ∈ wsV RL 59 RX11 yX11_go ws_p_X11_go, w ∈ lw_tbl from (all_app (List.forall_mem_cons.mpr ⟨t_in_4 _ (List.mem_of_getElem? (i := 173) rfl), (List.forall_mem_cons.mpr ⟨t_in_4 _ (List.mem_of_getElem? (i := 174) rfl), (List.forall_mem_cons.mpr ⟨t_in_4 _ (List.mem_of_getElem? (i := 175) rfl), (List.forall_mem_cons.mpr ⟨t_in_1 _ (List.mem_of_getElem? (i := 1) rfl), (fun _ h => absurd h List.not_mem_nil)⟩)⟩)⟩)⟩) (List.forall_mem_cons.mpr ⟨t_in_4 _ (List.mem_of_getElem? (i := 176) rfl), (all_app (all_app (List.forall_mem_cons.mpr ⟨t_in_2 _ (List.mem_of_getElem? (i := 206) rfl), (List.forall_mem_cons.mpr ⟨t_in_4 _ (List.mem_of_getElem? (i := 177) rfl), (List.forall_mem_cons.mpr ⟨t_in_4 _ (List.mem_of_getElem? (i := 178) rfl), (List.forall_mem_cons.mpr ⟨t_in_4 _ (List.mem_of_getElem? (i := 179) rfl), (List.forall_mem_cons.mpr ⟨t_in_1 _ (List.mem_of_getElem? (i := 15) rfl), (List.forall_mem_cons.mpr ⟨t_in_4 _ (List.mem_of_getElem? (i := 180) rfl), (List.forall_mem_cons.mpr ⟨t_in_4 _ (List.mem_of_getElem? (i := 167) rfl), (List.forall_mem_cons.mpr ⟨t_in_4 _ (List.mem_of_getElem? (i := 25) rfl), (List.forall_mem_cons.mpr ⟨t_in_4 _ (List.mem_of_getElem? (i := 26) rfl), (List.forall_mem_cons.mpr ⟨t_in_4 _ (List.mem_of_getElem? (i := 27) rfl), (List.forall_mem_cons.mpr ⟨t_in_2 _ (List.mem_of_getElem? (i := 115) rfl), (List.forall_mem_cons.mpr ⟨t_in_4 _ (List.mem_of_getElem? (i := 192) rfl), (List.forall_mem_cons.mpr ⟨t_in_4 _ (List.mem_of_getElem? (i := 194) rfl), (List.forall_mem_cons.mpr ⟨s_in_4 (yX11_actAnswer, 11) (List.mem_of_getElem? (i := 2) rfl), (List.forall_mem_cons.mpr ⟨t_in_1 _ (List.mem_of_getElem? (i := 1) rfl), (List.forall_mem_cons.mpr ⟨t_in_4 _ (List.mem_of_getElem? (i := 195) rfl), (List.forall_mem_cons.mpr ⟨t_in_2 _ (List.mem_of_getElem? (i := 239) rfl), (List.forall_mem_cons.mpr ⟨t_in_3 _ (List.mem_of_getElem? (i := 1) rfl), (List.forall_mem_cons.mpr ⟨s_in_1 (yX11_refused, 11) (List.mem_of_getElem? (i := 0) rfl), (List.forall_mem_cons.mpr ⟨t_in_3 _ (List.mem_of_getElem? (i := 2) rfl), (List.forall_mem_cons.mpr ⟨t_in_2 _ (List.mem_of_getElem? (i := 205) rfl), (fun _ h => absurd h List.not_mem_nil)⟩)⟩)⟩)⟩)⟩)⟩)⟩)⟩)⟩)⟩)⟩)⟩)⟩)⟩)⟩)⟩)⟩)⟩)⟩)⟩)⟩) inX11) inX9)⟩))) (by decide +kernel)
set_option maxRecDepth 100000 in
theorem g_law_10_1 : GoodIn lw_tbl (wsV RL 62 RX12 yX12_go ws_p_X12_go) := goodIn_sub (show ∀ w ∈ wsV RL 62 RX12 yX12_go ws_p_X12_go, w ∈ lw_tbl from (all_app (List.forall_mem_cons.mpr ⟨t_in_8 _ (List.mem_of_getElem? (i := 70) rfl), (List.forall_mem_cons.mpr ⟨t_in_8 _ (List.mem_of_getElem? (i := 71) rfl), (List.forall_mem_cons.mpr ⟨t_in_8 _ (List.mem_of_getElem? (i := 72) rfl), (List.forall_mem_cons.mpr ⟨t_in_1 _ (List.mem_of_getElem? (i := 17) rfl), (fun _ h => absurd h List.not_mem_nil)⟩)⟩)⟩)⟩) (List.forall_mem_cons.mpr ⟨t_in_8 _ (List.mem_of_getElem? (i := 73) rfl), (all_app (List.forall_mem_cons.mpr ⟨t_in_8 _ (List.mem_of_getElem? (i := 74) rfl), (List.forall_mem_cons.mpr ⟨t_in_8 _ (List.mem_of_getElem? (i := 76) rfl), (List.forall_mem_cons.mpr ⟨s_in_8 (yX12_isPerson, 85) (List.mem_of_getElem? (i := 5) rfl), (List.forall_mem_cons.mpr ⟨t_in_1 _ (List.mem_of_getElem? (i := 17) rfl), (List.forall_mem_cons.mpr ⟨t_in_8 _ (List.mem_of_getElem? (i := 77) rfl), (List.forall_mem_cons.mpr ⟨t_in_6 _ (List.mem_of_getElem? (i := 43) rfl), (List.forall_mem_cons.mpr ⟨t_in_6 _ (List.mem_of_getElem? (i := 28) rfl), (List.forall_mem_cons.mpr ⟨t_in_7 _ (List.mem_of_getElem? (i := 144) rfl), (List.forall_mem_cons.mpr ⟨t_in_7 _ (List.mem_of_getElem? (i := 145) rfl), (List.forall_mem_cons.mpr ⟨t_in_7 _ (List.mem_of_getElem? (i := 146) rfl), (List.forall_mem_cons.mpr ⟨t_in_7 _ (List.mem_of_getElem? (i := 36) rfl), (List.forall_mem_cons.mpr ⟨t_in_7 _ (List.mem_of_getElem? (i := 38) rfl), (List.forall_mem_cons.mpr ⟨s_in_5 (yX12_refuses, 85) (List.mem_of_getElem? (i := 4) rfl), (List.forall_mem_cons.mpr ⟨t_in_7 _ (List.mem_of_getElem? (i := 39) rfl), (List.forall_mem_cons.mpr ⟨t_in_6 _ (List.mem_of_getElem? (i := 74) rfl), (fun _ h => absurd h List.not_mem_nil)⟩)⟩)⟩)⟩)⟩)⟩)⟩)⟩)⟩)⟩)⟩)⟩)⟩)⟩)⟩) inX12)⟩))) (by decide +kernel)
set_option maxHeartbeats 4000000 in
set_option maxRecDepth 100000 in
theorem law_case_10 {p : Program} {e : Env} {s : State} {m : MethodId} {below : List Frame} {meth : Method} {c : Code} (l : Launch) {b : Nat} {xs : Nat → Int32} (C0 : lw_At p s m meth c b 6 xs) (dC : Nat → ClassId) (dI : Nat → Nat → Nat) (cB cI cJ cZ cQ : ClassId) (x : Nat) (u q : Nat → Nat) {H : Heap} {locs : List Loc} {ls : Array Slot} (hK : va_K (dC, dI) vwCl (tyA cB cI cJ cZ cQ) s) (hP : va_P (dC, dI) vwCl [(x, .inr (11, [.ref (u 0), .ref (u 2), .ref (u 5), .ref (u 19), .ref (u 21), .ref (u 26), .ref (u 29), .ref (u 40), .ref (u 49), .ref (u 50), .ref (u 81)])), ((u 50), .inr (9, [.ref (u 51), .ref (u 52), .ref (u 58), .ref (u 59), .ref (u 60), .ref (u 61), .ref (u 62), .ref (u 63), .ref (u 64), .ref (u 65), .ref (u 66), .ref (u 67), .ref (u 68), .ref (u 69), .ref (u 72), .int 0])), ((u 51), .inl (cI, 8, .inl (fun _ => 0))), ((u 49), .inl (cI, 6, .inl (fun _ => 0))), ((q 0), .inr (12, (mo q))), ((q 16), .inl (cI, 2, .inl (fun _ => 0))), ((q 41), .inl (cI, 6, .inl (fun _ => 0)))] H) (hD : va_D (fun b : Nat => s.heap.size ≤ b) [(x, .inr (11, [.ref (u 0), .ref (u 2), .ref (u 5), .ref (u 19), .ref (u 21), .ref (u 26), .ref (u 29), .ref (u 40), .ref (u 49), .ref (u 50), .ref (u 81)])), ((u 50), .inr (9, [.ref (u 51), .ref (u 52), .ref (u 58), .ref (u 59), .ref (u 60), .ref (u 61), .ref (u 62), .ref (u 63), .ref (u 64), .ref (u 65), .ref (u 66), .ref (u 67), .ref (u 68), .ref (u 69), .ref (u 72), .int 0])), ((u 51), .inl (cI, 8, .inl (fun _ => 0))), ((u 49), .inl (cI, 6, .inl (fun _ => 0))), ((q 0), .inr (12, (mo q))), ((q 16), .inl (cI, 2, .inl (fun _ => 0))), ((q 41), .inl (cI, 6, .inl (fun _ => 0)))]) (hS : va_S (fun b : Nat => s.heap.size ≤ b) s.heap H locs) (hl : lv_has ls 4 [(3, .int 0), (2, .ref (q 0)), (1, .ref x), (0, .ref b)]) : W p l e room_1 s m #[Value.ref b] below meth c H locs 171 178311 (lw_Z below #[Value.ref b] s) (F0 m 516 ls []) := by
  obtain ⟨hx, hb, hr, hml, hown, hts, hX, hbl, hlocks, hgv⟩ := id C0
  have hA : ∀ a : Nat, s.heap.size ≤ a → (fun b : Nat => s.heap.size ≤ b) a := fun _ h => h
  have hbA : ¬ (fun b : Nat => s.heap.size ≤ b) b := Nat.not_le.mpr hbl
  obtain ⟨A, hAe⟩ : ∃ A : Nat → Prop, A = (fun b : Nat => s.heap.size ≤ b) := ⟨_, rfl⟩
  rw [← hAe] at hD hS hA hbA
  refine lv_aload_n hx hb dL_law_516 rfl (lv_at hl 2 rfl) ?_
  refine lv_aload_n hx hb dL_law_517 rfl (lv_at hl 3 rfl) ?_
  refine lv_iload_n hx hb dL_law_518 rfl (lv_at hl 0 rfl) ?_
  refine lv_iconst (v := 1) hx hb dL_law_519 (by decide +kernel) ?_
  refine lv_iadd hx hb dL_law_520 ?_
  refine tp_i (y := 1) (by decide +kernel) ?_
  refine va_sld hx hb hX hbl hbA hS (vpc _ _ (by decide +kernel)) dL_law_521 ?_
  refine tp_i (y := xs 1) (congrArg xs (by decide +kernel)) ?_
  refine lv_aload_n hx hb dL_law_522 rfl (lv_at hl 3 rfl) ?_
  refine lv_iload_n hx hb dL_law_523 rfl (lv_at hl 0 rfl) ?_
  refine lv_iconst (v := 2) hx hb dL_law_524 (by decide +kernel) ?_
  refine lv_iadd hx hb dL_law_525 ?_
  refine tp_i (y := 2) (by decide +kernel) ?_
  refine va_sld hx hb hX hbl hbA hS (vpc _ _ (by decide +kernel)) dL_law_526 ?_
  refine tp_i (y := xs 2) (congrArg xs (by decide +kernel)) ?_
  have hPc := hP.sub (ws' := [(x, .inr (11, [.ref (u 0), .ref (u 2), .ref (u 5), .ref (u 19), .ref (u 21), .ref (u 26), .ref (u 29), .ref (u 40), .ref (u 49), .ref (u 50), .ref (u 81)])), ((u 50), .inr (9, [.ref (u 51), .ref (u 52), .ref (u 58), .ref (u 59), .ref (u 60), .ref (u 61), .ref (u 62), .ref (u 63), .ref (u 64), .ref (u 65), .ref (u 66), .ref (u 67), .ref (u 68), .ref (u 69), .ref (u 72), .int 0])), ((u 51), .inl (cI, 8, .inl (fun _ => 0))), ((u 49), .inl (cI, 6, .inl (fun _ => 0)))]) [0, 1, 2, 3] rfl
  have hDc := hD.sub (ws' := [(x, .inr (11, [.ref (u 0), .ref (u 2), .ref (u 5), .ref (u 19), .ref (u 21), .ref (u 26), .ref (u 29), .ref (u 40), .ref (u 49), .ref (u 50), .ref (u 81)])), ((u 50), .inr (9, [.ref (u 51), .ref (u 52), .ref (u 58), .ref (u 59), .ref (u 60), .ref (u 61), .ref (u 62), .ref (u 63), .ref (u 64), .ref (u 65), .ref (u 66), .ref (u 67), .ref (u 68), .ref (u 69), .ref (u 72), .int 0])), ((u 51), .inl (cI, 8, .inl (fun _ => 0))), ((u 49), .inl (cI, 6, .inl (fun _ => 0)))]) [0, 1, 2, 3] (by decide) rfl
  have hFc := va_free (wc := [(x, .inr (11, [.ref (u 0), .ref (u 2), .ref (u 5), .ref (u 19), .ref (u 21), .ref (u 26), .ref (u 29), .ref (u 40), .ref (u 49), .ref (u 50), .ref (u 81)])), ((u 50), .inr (9, [.ref (u 51), .ref (u 52), .ref (u 58), .ref (u 59), .ref (u 60), .ref (u 61), .ref (u 62), .ref (u 63), .ref (u 64), .ref (u 65), .ref (u 66), .ref (u 67), .ref (u 68), .ref (u 69), .ref (u 72), .int 0])), ((u 51), .inl (cI, 8, .inl (fun _ => 0))), ((u 49), .inl (cI, 6, .inl (fun _ => 0)))]) hD hS hA [0, 1, 2, 3] rfl
  refine va_calli (va_runV (As := [.int (xs 1), .int (xs 2)]) (rest := []) ⟨hx, hb, hml, hown, hts⟩ (p_X11_go l dC dI cB cI cJ cZ cQ H.size x (u 0) (u 2) (u 5) (u 19) (u 21) (u 26) (u 29) (u 40) (u 49) (u 50) (u 81) (u 51) (u 52) (u 58) (u 59) (u 60) (u 61) (u 62) (u 63) (u 64) (u 65) (u 66) (u 67) (u 68) (u 69) (u 72) (xs 1) (xs 2)) (cwV 2 hts g_law_10_0 rfl rfl rfl (by decide +kernel) ⟨Nat.le_of_ble_eq_true rfl, Nat.le_of_ble_eq_true rfl⟩) ⟨fun a U g mk Z => by obtain ⟨q0, q1, qP, qK, qD⟩ := Z; exact ⟨q0, q1, qP, va_K.moved (u := U) (U := U.calling g mk a) (Vm.Alike.refl U.vm) qK, qD⟩, va_recv hK hPc (ci := 11) (q0 := 0) rfl rfl, fun U hU hW => ⟨rfl, by rw [hU], by rw [hU]; exact hPc, va_K.moved hW.alike hK, hDc.weaken (fun _ _ _ _ => trivial)⟩⟩ rfl rfl hl.1 rfl (lv_room (Nat.le_of_ble_eq_true rfl)) dL_law_527 ⟨Nat.le_of_ble_eq_true rfl, Nat.le_of_ble_eq_true rfl⟩) hS (fun b _ h => hFc b h) hFc (fun r2 u1 t H1 locs ht hvm hw hB hz1 hk1 hS => ?_)
  obtain ⟨hP, hD⟩ := va_join (wr := [((q 0), .inr (12, (mo q))), ((q 16), .inl (cI, 2, .inl (fun _ => 0))), ((q 41), .inl (cI, 6, .inl (fun _ => 0)))]) (w1 := []) hP hD [0, 1, 2, 3] [4, 5, 6] rfl rfl (by decide) (by decide) hk1 hFc (fun k b h => by simp at h) ⟨fun i j p b h => by simp at h, fun k b h => by simp at h⟩
  clear hk1 hz1 hvm hPc hDc hFc
  generalize H1 = H at hP hS ⊢
  have hP : va_P (dC, dI) vwCl [((q 0), .inr (12, (mo q))), ((q 16), .inl (cI, 2, .inl (fun _ => 0))), ((q 41), .inl (cI, 6, .inl (fun _ => 0)))] H := hP
  have hD : va_D A [((q 0), .inr (12, (mo q))), ((q 16), .inl (cI, 2, .inl (fun _ => 0))), ((q 41), .inl (cI, 6, .inl (fun _ => 0)))] := hD
  subst hw
  refine lv_aload_n hx hb dL_law_530 rfl (lv_at hl 1 rfl) ?_
  refine lv_aload_n hx hb dL_law_531 rfl (lv_at hl 3 rfl) ?_
  refine lv_iload_n hx hb dL_law_532 rfl (lv_at hl 0 rfl) ?_
  refine lv_iconst (v := 1) hx hb dL_law_533 (by decide +kernel) ?_
  refine lv_iadd hx hb dL_law_534 ?_
  refine tp_i (y := 1) (by decide +kernel) ?_
  refine va_sld hx hb hX hbl hbA hS (vpc _ _ (by decide +kernel)) dL_law_535 ?_
  refine tp_i (y := xs 1) (congrArg xs (by decide +kernel)) ?_
  refine lv_aload_n hx hb dL_law_536 rfl (lv_at hl 3 rfl) ?_
  refine lv_iload_n hx hb dL_law_537 rfl (lv_at hl 0 rfl) ?_
  refine lv_iconst (v := 2) hx hb dL_law_538 (by decide +kernel) ?_
  refine lv_iadd hx hb dL_law_539 ?_
  refine tp_i (y := 2) (by decide +kernel) ?_
  refine va_sld hx hb hX hbl hbA hS (vpc _ _ (by decide +kernel)) dL_law_540 ?_
  refine tp_i (y := xs 2) (congrArg xs (by decide +kernel)) ?_
  have hPc := hP.sub (ws' := [((q 0), .inr (12, (mo q))), ((q 16), .inl (cI, 2, .inl (fun _ => 0))), ((q 41), .inl (cI, 6, .inl (fun _ => 0)))]) [0, 1, 2] rfl
  have hDc := hD.sub (ws' := [((q 0), .inr (12, (mo q))), ((q 16), .inl (cI, 2, .inl (fun _ => 0))), ((q 41), .inl (cI, 6, .inl (fun _ => 0)))]) [0, 1, 2] (by decide) rfl
  have hFc := va_free (wc := [((q 0), .inr (12, (mo q))), ((q 16), .inl (cI, 2, .inl (fun _ => 0))), ((q 41), .inl (cI, 6, .inl (fun _ => 0)))]) hD hS hA [0, 1, 2] rfl
  refine va_calli (va_runV (As := [.int (xs 1), .int (xs 2)]) (rest := [.int (-1)]) ⟨hx, hb, hml, hown, hts⟩ (p_X12_go l dC dI cB cI cJ cZ cQ H.size q (xs 1) (xs 2)) (cwV 2 hts g_law_10_1 rfl rfl rfl (by decide +kernel) ⟨Nat.le_of_ble_eq_true rfl, Nat.le_of_ble_eq_true rfl⟩) ⟨fun a U g mk Z => by obtain ⟨q0, q1, qP, qK, qD⟩ := Z; exact ⟨q0, q1, qP, va_K.moved (u := U) (U := U.calling g mk a) (Vm.Alike.refl U.vm) qK, qD⟩, va_recv hK hPc (ci := 12) (q0 := 0) rfl rfl, fun U hU hW => ⟨rfl, by rw [hU], by rw [hU]; exact hPc, va_K.moved hW.alike hK, hDc.weaken (fun _ _ _ _ => trivial)⟩⟩ rfl rfl hl.1 rfl (lv_room (Nat.le_of_ble_eq_true rfl)) dL_law_541 ⟨Nat.le_of_ble_eq_true rfl, Nat.le_of_ble_eq_true rfl⟩) hS (fun b _ h => hFc b h) hFc (fun r4 u3 t H1 locs ht hvm hw hB hz1 hk1 hS => ?_)
  obtain ⟨hP, hD⟩ := va_join (wr := []) (w1 := []) hP hD [0, 1, 2] [] rfl rfl (by decide) (by decide) hk1 hFc (fun k b h => by simp at h) ⟨fun i j p b h => by simp at h, fun k b h => by simp at h⟩
  clear hk1 hz1 hvm hPc hDc hFc
  generalize H1 = H at hP hS ⊢
  have hP : va_P (dC, dI) vwCl [] H := hP
  have hD : va_D A [] := hD
  subst hw
  refine lv_icmp_eq (tgt := 1273) hx hb dL_law_544 (by decide) (fun _ => ?_) (fun c => absurd c (by decide +kernel))
  exact law_tail l C0 (by decide) (by decide) (by rw [hAe] at hS; exact hS) (lv_sub hl [3, 2, 1, 0] rfl)
set_option maxRecDepth 100000 in
theorem g_law_11_0 : GoodIn lw_tbl (wsV RL 63 RX11 yX11_open ws_p_X11_open) := goodIn_sub (show ∀ w ∈ wsV RL 63 RX11 yX11_open ws_p_X11_open, w ∈ lw_tbl from (all_app (List.forall_mem_cons.mpr ⟨t_in_4 _ (List.mem_of_getElem? (i := 196) rfl), (List.forall_mem_cons.mpr ⟨t_in_4 _ (List.mem_of_getElem? (i := 197) rfl), (List.forall_mem_cons.mpr ⟨t_in_4 _ (List.mem_of_getElem? (i := 198) rfl), (List.forall_mem_cons.mpr ⟨t_in_1 _ (List.mem_of_getElem? (i := 1) rfl), (fun _ h => absurd h List.not_mem_nil)⟩)⟩)⟩)⟩) (List.forall_mem_cons.mpr ⟨t_in_4 _ (List.mem_of_getElem? (i := 199) rfl), (all_app (all_app (List.forall_mem_cons.mpr ⟨t_in_2 _ (List.mem_of_getElem? (i := 206) rfl), (List.forall_mem_cons.mpr ⟨t_in_4 _ (List.mem_of_getElem? (i := 200) rfl), (List.forall_mem_cons.mpr ⟨t_in_4 _ (List.mem_of_getElem? (i := 201) rfl), (List.forall_mem_cons.mpr ⟨t_in_4 _ (List.mem_of_getElem? (i := 202) rfl), (List.forall_mem_cons.mpr ⟨t_in_1 _ (List.mem_of_getElem? (i := 15) rfl), (List.forall_mem_cons.mpr ⟨t_in_4 _ (List.mem_of_getElem? (i := 203) rfl), (List.forall_mem_cons.mpr ⟨t_in_4 _ (List.mem_of_getElem? (i := 204) rfl), (List.forall_mem_cons.mpr ⟨t_in_4 _ (List.mem_of_getElem? (i := 205) rfl), (List.forall_mem_cons.mpr ⟨t_in_4 _ (List.mem_of_getElem? (i := 206) rfl), (List.forall_mem_cons.mpr ⟨t_in_4 _ (List.mem_of_getElem? (i := 207) rfl), (List.forall_mem_cons.mpr ⟨t_in_4 _ (List.mem_of_getElem? (i := 167) rfl), (List.forall_mem_cons.mpr ⟨t_in_4 _ (List.mem_of_getElem? (i := 25) rfl), (List.forall_mem_cons.mpr ⟨t_in_4 _ (List.mem_of_getElem? (i := 26) rfl), (List.forall_mem_cons.mpr ⟨t_in_4 _ (List.mem_of_getElem? (i := 27) rfl), (List.forall_mem_cons.mpr ⟨t_in_2 _ (List.mem_of_getElem? (i := 115) rfl), (List.forall_mem_cons.mpr ⟨t_in_4 _ (List.mem_of_getElem? (i := 192) rfl), (List.forall_mem_cons.mpr ⟨t_in_4 _ (List.mem_of_getElem? (i := 194) rfl), (List.forall_mem_cons.mpr ⟨s_in_4 (yX11_actAnswer, 11) (List.mem_of_getElem? (i := 2) rfl), (List.forall_mem_cons.mpr ⟨t_in_1 _ (List.mem_of_getElem? (i := 1) rfl), (List.forall_mem_cons.mpr ⟨t_in_4 _ (List.mem_of_getElem? (i := 195) rfl), (List.forall_mem_cons.mpr ⟨t_in_2 _ (List.mem_of_getElem? (i := 239) rfl), (List.forall_mem_cons.mpr ⟨t_in_3 _ (List.mem_of_getElem? (i := 1) rfl), (List.forall_mem_cons.mpr ⟨s_in_1 (yX11_refused, 11) (List.mem_of_getElem? (i := 0) rfl), (List.forall_mem_cons.mpr ⟨t_in_3 _ (List.mem_of_getElem? (i := 2) rfl), (List.forall_mem_cons.mpr ⟨t_in_2 _ (List.mem_of_getElem? (i := 205) rfl), (fun _ h => absurd h List.not_mem_nil)⟩)⟩)⟩)⟩)⟩)⟩)⟩)⟩)⟩)⟩)⟩)⟩)⟩)⟩)⟩)⟩)⟩)⟩)⟩)⟩)⟩)⟩)⟩)⟩)⟩) inX11) inX9)⟩))) (by decide +kernel)
set_option maxRecDepth 100000 in
theorem g_law_11_1 : GoodIn lw_tbl (wsV RL 66 RX12 yX12_open ws_p_X12_open) := goodIn_sub (show ∀ w ∈ wsV RL 66 RX12 yX12_open ws_p_X12_open, w ∈ lw_tbl from (all_app (List.forall_mem_cons.mpr ⟨t_in_8 _ (List.mem_of_getElem? (i := 120) rfl), (List.forall_mem_cons.mpr ⟨t_in_8 _ (List.mem_of_getElem? (i := 121) rfl), (List.forall_mem_cons.mpr ⟨t_in_8 _ (List.mem_of_getElem? (i := 122) rfl), (List.forall_mem_cons.mpr ⟨t_in_1 _ (List.mem_of_getElem? (i := 17) rfl), (fun _ h => absurd h List.not_mem_nil)⟩)⟩)⟩)⟩) (List.forall_mem_cons.mpr ⟨t_in_8 _ (List.mem_of_getElem? (i := 123) rfl), (all_app (List.forall_mem_cons.mpr ⟨t_in_8 _ (List.mem_of_getElem? (i := 74) rfl), (List.forall_mem_cons.mpr ⟨t_in_8 _ (List.mem_of_getElem? (i := 76) rfl), (List.forall_mem_cons.mpr ⟨s_in_8 (yX12_isPerson, 85) (List.mem_of_getElem? (i := 5) rfl), (List.forall_mem_cons.mpr ⟨t_in_1 _ (List.mem_of_getElem? (i := 17) rfl), (List.forall_mem_cons.mpr ⟨t_in_8 _ (List.mem_of_getElem? (i := 77) rfl), (List.forall_mem_cons.mpr ⟨t_in_6 _ (List.mem_of_getElem? (i := 43) rfl), (List.forall_mem_cons.mpr ⟨t_in_6 _ (List.mem_of_getElem? (i := 28) rfl), (List.forall_mem_cons.mpr ⟨t_in_7 _ (List.mem_of_getElem? (i := 144) rfl), (List.forall_mem_cons.mpr ⟨t_in_7 _ (List.mem_of_getElem? (i := 145) rfl), (List.forall_mem_cons.mpr ⟨t_in_7 _ (List.mem_of_getElem? (i := 146) rfl), (List.forall_mem_cons.mpr ⟨t_in_7 _ (List.mem_of_getElem? (i := 36) rfl), (List.forall_mem_cons.mpr ⟨t_in_7 _ (List.mem_of_getElem? (i := 38) rfl), (List.forall_mem_cons.mpr ⟨s_in_5 (yX12_refuses, 85) (List.mem_of_getElem? (i := 4) rfl), (List.forall_mem_cons.mpr ⟨t_in_7 _ (List.mem_of_getElem? (i := 39) rfl), (List.forall_mem_cons.mpr ⟨t_in_6 _ (List.mem_of_getElem? (i := 74) rfl), (fun _ h => absurd h List.not_mem_nil)⟩)⟩)⟩)⟩)⟩)⟩)⟩)⟩)⟩)⟩)⟩)⟩)⟩)⟩)⟩) inX12)⟩))) (by decide +kernel)
set_option maxHeartbeats 4000000 in
set_option maxRecDepth 100000 in
theorem law_case_11 {p : Program} {e : Env} {s : State} {m : MethodId} {below : List Frame} {meth : Method} {c : Code} (l : Launch) {b : Nat} {xs : Nat → Int32} (C0 : lw_At p s m meth c b 6 xs) (dC : Nat → ClassId) (dI : Nat → Nat → Nat) (cB cI cJ cZ cQ : ClassId) (x : Nat) (u q : Nat → Nat) {H : Heap} {locs : List Loc} {ls : Array Slot} (hK : va_K (dC, dI) vwCl (tyA cB cI cJ cZ cQ) s) (hP : va_P (dC, dI) vwCl [(x, .inr (11, [.ref (u 0), .ref (u 2), .ref (u 5), .ref (u 19), .ref (u 21), .ref (u 26), .ref (u 29), .ref (u 40), .ref (u 49), .ref (u 50), .ref (u 81)])), ((u 50), .inr (9, [.ref (u 51), .ref (u 52), .ref (u 58), .ref (u 59), .ref (u 60), .ref (u 61), .ref (u 62), .ref (u 63), .ref (u 64), .ref (u 65), .ref (u 66), .ref (u 67), .ref (u 68), .ref (u 69), .ref (u 72), .int 0])), ((u 51), .inl (cI, 8, .inl (fun _ => 0))), ((u 49), .inl (cI, 6, .inl (fun _ => 0))), ((q 0), .inr (12, (mo q))), ((q 16), .inl (cI, 2, .inl (fun _ => 0))), ((q 41), .inl (cI, 6, .inl (fun _ => 0)))] H) (hD : va_D (fun b : Nat => s.heap.size ≤ b) [(x, .inr (11, [.ref (u 0), .ref (u 2), .ref (u 5), .ref (u 19), .ref (u 21), .ref (u 26), .ref (u 29), .ref (u 40), .ref (u 49), .ref (u 50), .ref (u 81)])), ((u 50), .inr (9, [.ref (u 51), .ref (u 52), .ref (u 58), .ref (u 59), .ref (u 60), .ref (u 61), .ref (u 62), .ref (u 63), .ref (u 64), .ref (u 65), .ref (u 66), .ref (u 67), .ref (u 68), .ref (u 69), .ref (u 72), .int 0])), ((u 51), .inl (cI, 8, .inl (fun _ => 0))), ((u 49), .inl (cI, 6, .inl (fun _ => 0))), ((q 0), .inr (12, (mo q))), ((q 16), .inl (cI, 2, .inl (fun _ => 0))), ((q 41), .inl (cI, 6, .inl (fun _ => 0)))]) (hS : va_S (fun b : Nat => s.heap.size ≤ b) s.heap H locs) (hl : lv_has ls 4 [(3, .int 0), (2, .ref (q 0)), (1, .ref x), (0, .ref b)]) : W p l e room_1 s m #[Value.ref b] below meth c H locs 171 178311 (lw_Z below #[Value.ref b] s) (F0 m 549 ls []) := by
  obtain ⟨hx, hb, hr, hml, hown, hts, hX, hbl, hlocks, hgv⟩ := id C0
  have hA : ∀ a : Nat, s.heap.size ≤ a → (fun b : Nat => s.heap.size ≤ b) a := fun _ h => h
  have hbA : ¬ (fun b : Nat => s.heap.size ≤ b) b := Nat.not_le.mpr hbl
  obtain ⟨A, hAe⟩ : ∃ A : Nat → Prop, A = (fun b : Nat => s.heap.size ≤ b) := ⟨_, rfl⟩
  rw [← hAe] at hD hS hA hbA
  refine lv_aload_n hx hb dL_law_549 rfl (lv_at hl 2 rfl) ?_
  refine lv_aload_n hx hb dL_law_550 rfl (lv_at hl 3 rfl) ?_
  refine lv_iload_n hx hb dL_law_551 rfl (lv_at hl 0 rfl) ?_
  refine lv_iconst (v := 1) hx hb dL_law_552 (by decide +kernel) ?_
  refine lv_iadd hx hb dL_law_553 ?_
  refine tp_i (y := 1) (by decide +kernel) ?_
  refine va_sld hx hb hX hbl hbA hS (vpc _ _ (by decide +kernel)) dL_law_554 ?_
  refine tp_i (y := xs 1) (congrArg xs (by decide +kernel)) ?_
  refine lv_aload_n hx hb dL_law_555 rfl (lv_at hl 3 rfl) ?_
  refine lv_iload_n hx hb dL_law_556 rfl (lv_at hl 0 rfl) ?_
  refine lv_iconst (v := 2) hx hb dL_law_557 (by decide +kernel) ?_
  refine lv_iadd hx hb dL_law_558 ?_
  refine tp_i (y := 2) (by decide +kernel) ?_
  refine va_sld hx hb hX hbl hbA hS (vpc _ _ (by decide +kernel)) dL_law_559 ?_
  refine tp_i (y := xs 2) (congrArg xs (by decide +kernel)) ?_
  have hPc := hP.sub (ws' := [(x, .inr (11, [.ref (u 0), .ref (u 2), .ref (u 5), .ref (u 19), .ref (u 21), .ref (u 26), .ref (u 29), .ref (u 40), .ref (u 49), .ref (u 50), .ref (u 81)])), ((u 50), .inr (9, [.ref (u 51), .ref (u 52), .ref (u 58), .ref (u 59), .ref (u 60), .ref (u 61), .ref (u 62), .ref (u 63), .ref (u 64), .ref (u 65), .ref (u 66), .ref (u 67), .ref (u 68), .ref (u 69), .ref (u 72), .int 0])), ((u 51), .inl (cI, 8, .inl (fun _ => 0))), ((u 49), .inl (cI, 6, .inl (fun _ => 0)))]) [0, 1, 2, 3] rfl
  have hDc := hD.sub (ws' := [(x, .inr (11, [.ref (u 0), .ref (u 2), .ref (u 5), .ref (u 19), .ref (u 21), .ref (u 26), .ref (u 29), .ref (u 40), .ref (u 49), .ref (u 50), .ref (u 81)])), ((u 50), .inr (9, [.ref (u 51), .ref (u 52), .ref (u 58), .ref (u 59), .ref (u 60), .ref (u 61), .ref (u 62), .ref (u 63), .ref (u 64), .ref (u 65), .ref (u 66), .ref (u 67), .ref (u 68), .ref (u 69), .ref (u 72), .int 0])), ((u 51), .inl (cI, 8, .inl (fun _ => 0))), ((u 49), .inl (cI, 6, .inl (fun _ => 0)))]) [0, 1, 2, 3] (by decide) rfl
  have hFc := va_free (wc := [(x, .inr (11, [.ref (u 0), .ref (u 2), .ref (u 5), .ref (u 19), .ref (u 21), .ref (u 26), .ref (u 29), .ref (u 40), .ref (u 49), .ref (u 50), .ref (u 81)])), ((u 50), .inr (9, [.ref (u 51), .ref (u 52), .ref (u 58), .ref (u 59), .ref (u 60), .ref (u 61), .ref (u 62), .ref (u 63), .ref (u 64), .ref (u 65), .ref (u 66), .ref (u 67), .ref (u 68), .ref (u 69), .ref (u 72), .int 0])), ((u 51), .inl (cI, 8, .inl (fun _ => 0))), ((u 49), .inl (cI, 6, .inl (fun _ => 0)))]) hD hS hA [0, 1, 2, 3] rfl
  refine va_calli (va_runV (As := [.int (xs 1), .int (xs 2)]) (rest := []) ⟨hx, hb, hml, hown, hts⟩ (p_X11_open l dC dI cB cI cJ cZ cQ H.size x (u 0) (u 2) (u 5) (u 19) (u 21) (u 26) (u 29) (u 40) (u 49) (u 50) (u 81) (u 51) (u 52) (u 58) (u 59) (u 60) (u 61) (u 62) (u 63) (u 64) (u 65) (u 66) (u 67) (u 68) (u 69) (u 72) (xs 1) (xs 2)) (cwV 2 hts g_law_11_0 rfl rfl rfl (by decide +kernel) ⟨Nat.le_of_ble_eq_true rfl, Nat.le_of_ble_eq_true rfl⟩) ⟨fun a U g mk Z => by obtain ⟨q0, q1, qP, qK, qD⟩ := Z; exact ⟨q0, q1, qP, va_K.moved (u := U) (U := U.calling g mk a) (Vm.Alike.refl U.vm) qK, qD⟩, va_recv hK hPc (ci := 11) (q0 := 0) rfl rfl, fun U hU hW => ⟨rfl, by rw [hU], by rw [hU]; exact hPc, va_K.moved hW.alike hK, hDc.weaken (fun _ _ _ _ => trivial)⟩⟩ rfl rfl hl.1 rfl (lv_room (Nat.le_of_ble_eq_true rfl)) dL_law_560 ⟨Nat.le_of_ble_eq_true rfl, Nat.le_of_ble_eq_true rfl⟩) hS (fun b _ h => hFc b h) hFc (fun r2 u1 t H1 locs ht hvm hw hB hz1 hk1 hS => ?_)
  obtain ⟨hP, hD⟩ := va_join (wr := [((q 0), .inr (12, (mo q))), ((q 16), .inl (cI, 2, .inl (fun _ => 0))), ((q 41), .inl (cI, 6, .inl (fun _ => 0)))]) (w1 := []) hP hD [0, 1, 2, 3] [4, 5, 6] rfl rfl (by decide) (by decide) hk1 hFc (fun k b h => by simp at h) ⟨fun i j p b h => by simp at h, fun k b h => by simp at h⟩
  clear hk1 hz1 hvm hPc hDc hFc
  generalize H1 = H at hP hS ⊢
  have hP : va_P (dC, dI) vwCl [((q 0), .inr (12, (mo q))), ((q 16), .inl (cI, 2, .inl (fun _ => 0))), ((q 41), .inl (cI, 6, .inl (fun _ => 0)))] H := hP
  have hD : va_D A [((q 0), .inr (12, (mo q))), ((q 16), .inl (cI, 2, .inl (fun _ => 0))), ((q 41), .inl (cI, 6, .inl (fun _ => 0)))] := hD
  subst hw
  refine lv_aload_n hx hb dL_law_563 rfl (lv_at hl 1 rfl) ?_
  refine lv_aload_n hx hb dL_law_564 rfl (lv_at hl 3 rfl) ?_
  refine lv_iload_n hx hb dL_law_565 rfl (lv_at hl 0 rfl) ?_
  refine lv_iconst (v := 1) hx hb dL_law_566 (by decide +kernel) ?_
  refine lv_iadd hx hb dL_law_567 ?_
  refine tp_i (y := 1) (by decide +kernel) ?_
  refine va_sld hx hb hX hbl hbA hS (vpc _ _ (by decide +kernel)) dL_law_568 ?_
  refine tp_i (y := xs 1) (congrArg xs (by decide +kernel)) ?_
  refine lv_aload_n hx hb dL_law_569 rfl (lv_at hl 3 rfl) ?_
  refine lv_iload_n hx hb dL_law_570 rfl (lv_at hl 0 rfl) ?_
  refine lv_iconst (v := 2) hx hb dL_law_571 (by decide +kernel) ?_
  refine lv_iadd hx hb dL_law_572 ?_
  refine tp_i (y := 2) (by decide +kernel) ?_
  refine va_sld hx hb hX hbl hbA hS (vpc _ _ (by decide +kernel)) dL_law_573 ?_
  refine tp_i (y := xs 2) (congrArg xs (by decide +kernel)) ?_
  have hPc := hP.sub (ws' := [((q 0), .inr (12, (mo q))), ((q 16), .inl (cI, 2, .inl (fun _ => 0))), ((q 41), .inl (cI, 6, .inl (fun _ => 0)))]) [0, 1, 2] rfl
  have hDc := hD.sub (ws' := [((q 0), .inr (12, (mo q))), ((q 16), .inl (cI, 2, .inl (fun _ => 0))), ((q 41), .inl (cI, 6, .inl (fun _ => 0)))]) [0, 1, 2] (by decide) rfl
  have hFc := va_free (wc := [((q 0), .inr (12, (mo q))), ((q 16), .inl (cI, 2, .inl (fun _ => 0))), ((q 41), .inl (cI, 6, .inl (fun _ => 0)))]) hD hS hA [0, 1, 2] rfl
  refine va_calli (va_runV (As := [.int (xs 1), .int (xs 2)]) (rest := [.int (-1)]) ⟨hx, hb, hml, hown, hts⟩ (p_X12_open l dC dI cB cI cJ cZ cQ H.size q (xs 1) (xs 2)) (cwV 2 hts g_law_11_1 rfl rfl rfl (by decide +kernel) ⟨Nat.le_of_ble_eq_true rfl, Nat.le_of_ble_eq_true rfl⟩) ⟨fun a U g mk Z => by obtain ⟨q0, q1, qP, qK, qD⟩ := Z; exact ⟨q0, q1, qP, va_K.moved (u := U) (U := U.calling g mk a) (Vm.Alike.refl U.vm) qK, qD⟩, va_recv hK hPc (ci := 12) (q0 := 0) rfl rfl, fun U hU hW => ⟨rfl, by rw [hU], by rw [hU]; exact hPc, va_K.moved hW.alike hK, hDc.weaken (fun _ _ _ _ => trivial)⟩⟩ rfl rfl hl.1 rfl (lv_room (Nat.le_of_ble_eq_true rfl)) dL_law_574 ⟨Nat.le_of_ble_eq_true rfl, Nat.le_of_ble_eq_true rfl⟩) hS (fun b _ h => hFc b h) hFc (fun r4 u3 t H1 locs ht hvm hw hB hz1 hk1 hS => ?_)
  obtain ⟨hP, hD⟩ := va_join (wr := []) (w1 := []) hP hD [0, 1, 2] [] rfl rfl (by decide) (by decide) hk1 hFc (fun k b h => by simp at h) ⟨fun i j p b h => by simp at h, fun k b h => by simp at h⟩
  clear hk1 hz1 hvm hPc hDc hFc
  generalize H1 = H at hP hS ⊢
  have hP : va_P (dC, dI) vwCl [] H := hP
  have hD : va_D A [] := hD
  subst hw
  refine lv_icmp_eq (tgt := 1273) hx hb dL_law_577 (by decide) (fun _ => ?_) (fun c => absurd c (by decide +kernel))
  exact law_tail l C0 (by decide) (by decide) (by rw [hAe] at hS; exact hS) (lv_sub hl [3, 2, 1, 0] rfl)
