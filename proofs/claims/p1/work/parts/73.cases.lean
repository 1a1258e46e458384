set_option maxRecDepth 100000 in
theorem g_law_18_0 : GoodIn lw_tbl (wsV RL 93 RX11 yX11_reach ws_p_X11_reach) := goodIn_sub (show ∀ w ∈ wsV RL 93 RX11 yX11_reach ws_p_X11_reach, w ∈ lw_tbl from (all_app (List.forall_mem_cons.mpr ⟨t_in_5 _ (List.mem_of_getElem? (i := 45) rfl), (List.forall_mem_cons.mpr ⟨t_in_5 _ (List.mem_of_getElem? (i := 46) rfl), (List.forall_mem_cons.mpr ⟨t_in_5 _ (List.mem_of_getElem? (i := 47) rfl), (List.forall_mem_cons.mpr ⟨t_in_1 _ (List.mem_of_getElem? (i := 1) rfl), (fun _ h => absurd h List.not_mem_nil)⟩)⟩)⟩)⟩) (List.forall_mem_cons.mpr ⟨t_in_5 _ (List.mem_of_getElem? (i := 48) rfl), (all_app (all_app (List.forall_mem_cons.mpr ⟨t_in_2 _ (List.mem_of_getElem? (i := 206) rfl), (List.forall_mem_cons.mpr ⟨t_in_4 _ (List.mem_of_getElem? (i := 24) rfl), (List.forall_mem_cons.mpr ⟨t_in_4 _ (List.mem_of_getElem? (i := 25) rfl), (List.forall_mem_cons.mpr ⟨t_in_4 _ (List.mem_of_getElem? (i := 26) rfl), (List.forall_mem_cons.mpr ⟨t_in_1 _ (List.mem_of_getElem? (i := 15) rfl), (List.forall_mem_cons.mpr ⟨t_in_4 _ (List.mem_of_getElem? (i := 27) rfl), (List.forall_mem_cons.mpr ⟨t_in_2 _ (List.mem_of_getElem? (i := 115) rfl), (fun _ h => absurd h List.not_mem_nil)⟩)⟩)⟩)⟩)⟩)⟩)⟩) inX11) inX9)⟩))) (by decide +kernel)
set_option maxRecDepth 100000 in
theorem g_law_18_1 : GoodIn lw_tbl (wsV RL 96 RX12 yX12_reach ws_p_X12_reach) := goodIn_sub (show ∀ w ∈ wsV RL 96 RX12 yX12_reach ws_p_X12_reach, w ∈ lw_tbl from (all_app (List.forall_mem_cons.mpr ⟨t_in_8 _ (List.mem_of_getElem? (i := 216) rfl), (List.forall_mem_cons.mpr ⟨t_in_8 _ (List.mem_of_getElem? (i := 217) rfl), (List.forall_mem_cons.mpr ⟨t_in_8 _ (List.mem_of_getElem? (i := 218) rfl), (List.forall_mem_cons.mpr ⟨t_in_1 _ (List.mem_of_getElem? (i := 17) rfl), (fun _ h => absurd h List.not_mem_nil)⟩)⟩)⟩)⟩) (List.forall_mem_cons.mpr ⟨t_in_8 _ (List.mem_of_getElem? (i := 219) rfl), (all_app (List.forall_mem_cons.mpr ⟨t_in_8 _ (List.mem_of_getElem? (i := 74) rfl), (List.forall_mem_cons.mpr ⟨t_in_8 _ (List.mem_of_getElem? (i := 76) rfl), (List.forall_mem_cons.mpr ⟨s_in_8 (yX12_isPerson, 85) (List.mem_of_getElem? (i := 5) rfl), (List.forall_mem_cons.mpr ⟨t_in_1 _ (List.mem_of_getElem? (i := 17) rfl), (List.forall_mem_cons.mpr ⟨t_in_8 _ (List.mem_of_getElem? (i := 77) rfl), (List.forall_mem_cons.mpr ⟨t_in_6 _ (List.mem_of_getElem? (i := 43) rfl), (List.forall_mem_cons.mpr ⟨t_in_6 _ (List.mem_of_getElem? (i := 28) rfl), (List.forall_mem_cons.mpr ⟨t_in_7 _ (List.mem_of_getElem? (i := 144) rfl), (List.forall_mem_cons.mpr ⟨t_in_7 _ (List.mem_of_getElem? (i := 145) rfl), (List.forall_mem_cons.mpr ⟨t_in_7 _ (List.mem_of_getElem? (i := 146) rfl), (fun _ h => absurd h List.not_mem_nil)⟩)⟩)⟩)⟩)⟩)⟩)⟩)⟩)⟩)⟩) inX12)⟩))) (by decide +kernel)
set_option maxHeartbeats 4000000 in
set_option maxRecDepth 100000 in
theorem law_case_18 {p : Program} {e : Env} {s : State} {m : MethodId} {below : List Frame} {meth : Method} {c : Code} (l : Launch) {b : Nat} {xs : Nat → Int32} (C0 : lw_At p s m meth c b 6 xs) (dC : Nat → ClassId) (dI : Nat → Nat → Nat) (cB cI cJ cZ cQ : ClassId) (x : Nat) (u q : Nat → Nat) {H : Heap} {locs : List Loc} {ls : Array Slot} (hK : va_K (dC, dI) vwCl (tyA cB cI cJ cZ cQ) s) (hP : va_P (dC, dI) vwCl [(x, .inr (11, [.ref (u 0), .ref (u 2), .ref (u 5), .ref (u 19), .ref (u 21), .ref (u 26), .ref (u 29), .ref (u 40), .ref (u 49), .ref (u 50), .ref (u 81)])), ((u 50), .inr (9, [.ref (u 51), .ref (u 52), .ref (u 58), .ref (u 59), .ref (u 60), .ref (u 61), .ref (u 62), .ref (u 63), .ref (u 64), .ref (u 65), .ref (u 66), .ref (u 67), .ref (u 68), .ref (u 69), .ref (u 72), .int 0])), ((u 51), .inl (cI, 8, .inl (fun _ => 0))), ((q 0), .inr (12, (mo q))), ((q 16), .inl (cI, 2, .inl (fun _ => 0)))] H) (hD : va_D (fun b : Nat => s.heap.size ≤ b) [(x, .inr (11, [.ref (u 0), .ref (u 2), .ref (u 5), .ref (u 19), .ref (u 21), .ref (u 26), .ref (u 29), .ref (u 40), .ref (u 49), .ref (u 50), .ref (u 81)])), ((u 50), .inr (9, [.ref (u 51), .ref (u 52), .ref (u 58), .ref (u 59), .ref (u 60), .ref (u 61), .ref (u 62), .ref (u 63), .ref (u 64), .ref (u 65), .ref (u 66), .ref (u 67), .ref (u 68), .ref (u 69), .ref (u 72), .int 0])), ((u 51), .inl (cI, 8, .inl (fun _ => 0))), ((q 0), .inr (12, (mo q))), ((q 16), .inl (cI, 2, .inl (fun _ => 0)))]) (hS : va_S (fun b : Nat => s.heap.size ≤ b) s.heap H locs) (hl : lv_has ls 4 [(3, .int 0), (2, .ref (q 0)), (1, .ref x), (0, .ref b)]) : W p l e room_1 s m #[Value.ref b] below meth c H locs 171 178311 (lw_Z below #[Value.ref b] s) (F0 m 780 ls []) := by
  obtain ⟨hx, hb, hr, hml, hown, hts, hX, hbl, hlocks, hgv⟩ := id C0
  have hA : ∀ a : Nat, s.heap.size ≤ a → (fun b : Nat => s.heap.size ≤ b) a := fun _ h => h
  have hbA : ¬ (fun b : Nat => s.heap.size ≤ b) b := Nat.not_le.mpr hbl
  obtain ⟨A, hAe⟩ : ∃ A : Nat → Prop, A = (fun b : Nat => s.heap.size ≤ b) := ⟨_, rfl⟩
  rw [← hAe] at hD hS hA hbA
  refine lv_aload_n hx hb dL_law_780 rfl (lv_at hl 2 rfl) ?_
  refine lv_aload_n hx hb dL_law_781 rfl (lv_at hl 3 rfl) ?_
  refine lv_iload_n hx hb dL_law_782 rfl (lv_at hl 0 rfl) ?_
  refine lv_iconst (v := 1) hx hb dL_law_783 (by decide +kernel) ?_
  refine lv_iadd hx hb dL_law_784 ?_
  refine tp_i (y := 1) (by decide +kernel) ?_
  refine va_sld hx hb hX hbl hbA hS (vpc _ _ (by decide +kernel)) dL_law_785 ?_
  refine tp_i (y := xs 1) (congrArg xs (by decide +kernel)) ?_
  refine lv_aload_n hx hb dL_law_786 rfl (lv_at hl 3 rfl) ?_
  refine lv_iload_n hx hb dL_law_787 rfl (lv_at hl 0 rfl) ?_
  refine lv_iconst (v := 2) hx hb dL_law_788 (by decide +kernel) ?_
  refine lv_iadd hx hb dL_law_789 ?_
  refine tp_i (y := 2) (by decide +kernel) ?_
  refine va_sld hx hb hX hbl hbA hS (vpc _ _ (by decide +kernel)) dL_law_790 ?_
  refine tp_i (y := xs 2) (congrArg xs (by decide +kernel)) ?_
  have hPc := hP.sub (ws' := [(x, .inr (11, [.ref (u 0), .ref (u 2), .ref (u 5), .ref (u 19), .ref (u 21), .ref (u 26), .ref (u 29), .ref (u 40), .ref (u 49), .ref (u 50), .ref (u 81)])), ((u 50), .inr (9, [.ref (u 51), .ref (u 52), .ref (u 58), .ref (u 59), .ref (u 60), .ref (u 61), .ref (u 62), .ref (u 63), .ref (u 64), .ref (u 65), .ref (u 66), .ref (u 67), .ref (u 68), .ref (u 69), .ref (u 72), .int 0])), ((u 51), .inl (cI, 8, .inl (fun _ => 0)))]) [0, 1, 2] rfl
  have hDc := hD.sub (ws' := [(x, .inr (11, [.ref (u 0), .ref (u 2), .ref (u 5), .ref (u 19), .ref (u 21), .ref (u 26), .ref (u 29), .ref (u 40), .ref (u 49), .ref (u 50), .ref (u 81)])), ((u 50), .inr (9, [.ref (u 51), .ref (u 52), .ref (u 58), .ref (u 59), .ref (u 60), .ref (u 61), .ref (u 62), .ref (u 63), .ref (u 64), .ref (u 65), .ref (u 66), .ref (u 67), .ref (u 68), .ref (u 69), .ref (u 72), .int 0])), ((u 51), .inl (cI, 8, .inl (fun _ => 0)))]) [0, 1, 2] (by decide) rfl
  have hFc := va_free (wc := [(x, .inr (11, [.ref (u 0), .ref (u 2), .ref (u 5), .ref (u 19), .ref (u 21), .ref (u 26), .ref (u 29), .ref (u 40), .ref (u 49), .ref (u 50), .ref (u 81)])), ((u 50), .inr (9, [.ref (u 51), .ref (u 52), .ref (u 58), .ref (u 59), .ref (u 60), .ref (u 61), .ref (u 62), .ref (u 63), .ref (u 64), .ref (u 65), .ref (u 66), .ref (u 67), .ref (u 68), .ref (u 69), .ref (u 72), .int 0])), ((u 51), .inl (cI, 8, .inl (fun _ => 0)))]) hD hS hA [0, 1, 2] rfl
  refine va_calli (va_runV (As := [.int (xs 1), .int (xs 2)]) (rest := []) ⟨hx, hb, hml, hown, hts⟩ (p_X11_reach l dC dI cB cI cJ cZ cQ H.size x (u 0) (u 2) (u 5) (u 19) (u 21) (u 26) (u 29) (u 40) (u 49) (u 50) (u 81) (u 51) (u 52) (u 58) (u 59) (u 60) (u 61) (u 62) (u 63) (u 64) (u 65) (u 66) (u 67) (u 68) (u 69) (u 72) (xs 1) (xs 2)) (cwV 2 hts g_law_18_0 rfl rfl rfl (by decide +kernel) ⟨Nat.le_of_ble_eq_true rfl, Nat.le_of_ble_eq_true rfl⟩) ⟨fun a U g mk Z => by obtain ⟨q0, q1, qP, qK, qD⟩ := Z; exact ⟨q0, q1, qP, va_K.moved (u := U) (U := U.calling g mk a) (Vm.Alike.refl U.vm) qK, qD⟩, va_recv hK hPc (ci := 11) (q0 := 0) rfl rfl, fun U hU hW => ⟨rfl, by rw [hU], by rw [hU]; exact hPc, va_K.moved hW.alike hK, hDc.weaken (fun _ _ _ _ => trivial)⟩⟩ rfl rfl hl.1 rfl (lv_room (Nat.le_of_ble_eq_true rfl)) dL_law_791 ⟨Nat.le_of_ble_eq_true rfl, Nat.le_of_ble_eq_true rfl⟩) hS (fun b _ h => hFc b h) hFc (fun r2 u1 t H1 locs ht hvm hw hB hz1 hk1 hS => ?_)
  obtain ⟨hP, hD⟩ := va_join (wr := [((q 0), .inr (12, (mo q))), ((q 16), .inl (cI, 2, .inl (fun _ => 0)))]) (w1 := []) hP hD [0, 1, 2] [3, 4] rfl rfl (by decide) (by decide) hk1 hFc (fun k b h => by simp at h) ⟨fun i j p b h => by simp at h, fun k b h => by simp at h⟩
  clear hk1 hz1 hvm hPc hDc hFc
  generalize H1 = H at hP hS ⊢
  have hP : va_P (dC, dI) vwCl [((q 0), .inr (12, (mo q))), ((q 16), .inl (cI, 2, .inl (fun _ => 0)))] H := hP
  have hD : va_D A [((q 0), .inr (12, (mo q))), ((q 16), .inl (cI, 2, .inl (fun _ => 0)))] := hD
  subst hw
  refine lv_aload_n hx hb dL_law_794 rfl (lv_at hl 1 rfl) ?_
  refine lv_aload_n hx hb dL_law_795 rfl (lv_at hl 3 rfl) ?_
  refine lv_iload_n hx hb dL_law_796 rfl (lv_at hl 0 rfl) ?_
  refine lv_iconst (v := 1) hx hb dL_law_797 (by decide +kernel) ?_
  refine lv_iadd hx hb dL_law_798 ?_
  refine tp_i (y := 1) (by decide +kernel) ?_
  refine va_sld hx hb hX hbl hbA hS (vpc _ _ (by decide +kernel)) dL_law_799 ?_
  refine tp_i (y := xs 1) (congrArg xs (by decide +kernel)) ?_
  refine lv_aload_n hx hb dL_law_800 rfl (lv_at hl 3 rfl) ?_
  refine lv_iload_n hx hb dL_law_801 rfl (lv_at hl 0 rfl) ?_
  refine lv_iconst (v := 2) hx hb dL_law_802 (by decide +kernel) ?_
  refine lv_iadd hx hb dL_law_803 ?_
  refine tp_i (y := 2) (by decide +kernel) ?_
  refine va_sld hx hb hX hbl hbA hS (vpc _ _ (by decide +kernel)) dL_law_804 ?_
  refine tp_i (y := xs 2) (congrArg xs (by decide +kernel)) ?_
  have hPc := hP.sub (ws' := [((q 0), .inr (12, (mo q))), ((q 16), .inl (cI, 2, .inl (fun _ => 0)))]) [0, 1] rfl
  have hDc := hD.sub (ws' := [((q 0), .inr (12, (mo q))), ((q 16), .inl (cI, 2, .inl (fun _ => 0)))]) [0, 1] (by decide) rfl
  have hFc := va_free (wc := [((q 0), .inr (12, (mo q))), ((q 16), .inl (cI, 2, .inl (fun _ => 0)))]) hD hS hA [0, 1] rfl
  refine va_calli (va_runV (As := [.int (xs 1), .int (xs 2)]) (rest := [.int (-1)]) ⟨hx, hb, hml, hown, hts⟩ (p_X12_reach l dC dI cB cI cJ cZ cQ H.size q (xs 1) (xs 2)) (cwV 2 hts g_law_18_1 rfl rfl rfl (by decide +kernel) ⟨Nat.le_of_ble_eq_true rfl, Nat.le_of_ble_eq_true rfl⟩) ⟨fun a U g mk Z => by obtain ⟨q0, q1, qP, qK, qD⟩ := Z; exact ⟨q0, q1, qP, va_K.moved (u := U) (U := U.calling g mk a) (Vm.Alike.refl U.vm) qK, qD⟩, va_recv hK hPc (ci := 12) (q0 := 0) rfl rfl, fun U hU hW => ⟨rfl, by rw [hU], by rw [hU]; exact hPc, va_K.moved hW.alike hK, hDc.weaken (fun _ _ _ _ => trivial)⟩⟩ rfl rfl hl.1 rfl (lv_room (Nat.le_of_ble_eq_true rfl)) dL_law_805 ⟨Nat.le_of_ble_eq_true rfl, Nat.le_of_ble_eq_true rfl⟩) hS (fun b _ h => hFc b h) hFc (fun r4 u3 t H1 locs ht hvm hw hB hz1 hk1 hS => ?_)
  obtain ⟨hP, hD⟩ := va_join (wr := []) (w1 := []) hP hD [0, 1] [] rfl rfl (by decide) (by decide) hk1 hFc (fun k b h => by simp at h) ⟨fun i j p b h => by simp at h, fun k b h => by simp at h⟩
  clear hk1 hz1 hvm hPc hDc hFc
  generalize H1 = H at hP hS ⊢
  have hP : va_P (dC, dI) vwCl [] H := hP
  have hD : va_D A [] := hD
  subst hw
  refine lv_icmp_eq (tgt := 1273) hx hb dL_law_808 (by decide) (fun _ => ?_) (fun c => absurd c (by decide +kernel))
  exact law_tail l C0 (by decide) (by decide) (by rw [hAe] at hS; exact hS) (lv_sub hl [3, 2, 1, 0] rfl)
set_option maxRecDepth 100000 in
theorem g_law_19_0 : GoodIn lw_tbl (wsV RL 97 RX11 yX11_opens ws_p_X11_opens) := goodIn_sub (show ∀ w ∈ wsV RL 97 RX11 yX11_opens ws_p_X11_opens, w ∈ lw_tbl from (all_app (List.forall_mem_cons.mpr ⟨t_in_5 _ (List.mem_of_getElem? (i := 50) rfl), (List.forall_mem_cons.mpr ⟨t_in_5 _ (List.mem_of_getElem? (i := 51) rfl), (List.forall_mem_cons.mpr ⟨t_in_5 _ (List.mem_of_getElem? (i := 52) rfl), (List.forall_mem_cons.mpr ⟨t_in_1 _ (List.mem_of_getElem? (i := 1) rfl), (fun _ h => absurd h List.not_mem_nil)⟩)⟩)⟩)⟩) (List.forall_mem_cons.mpr ⟨t_in_5 _ (List.mem_of_getElem? (i := 53) rfl), (all_app (all_app (List.forall_mem_cons.mpr ⟨t_in_2 _ (List.mem_of_getElem? (i := 206) rfl), (List.forall_mem_cons.mpr ⟨t_in_4 _ (List.mem_of_getElem? (i := 24) rfl), (List.forall_mem_cons.mpr ⟨t_in_4 _ (List.mem_of_getElem? (i := 25) rfl), (List.forall_mem_cons.mpr ⟨t_in_4 _ (List.mem_of_getElem? (i := 26) rfl), (List.forall_mem_cons.mpr ⟨t_in_1 _ (List.mem_of_getElem? (i := 15) rfl), (List.forall_mem_cons.mpr ⟨t_in_4 _ (List.mem_of_getElem? (i := 27) rfl), (List.forall_mem_cons.mpr ⟨t_in_2 _ (List.mem_of_getElem? (i := 115) rfl), (fun _ h => absurd h List.not_mem_nil)⟩)⟩)⟩)⟩)⟩)⟩)⟩) inX11) inX9)⟩))) (by decide +kernel)
set_option maxRecDepth 100000 in
theorem g_law_19_1 : GoodIn lw_tbl (wsV RL 100 RX12 yX12_opens_ ws_p_X12_opens_) := goodIn_sub (show ∀ w ∈ wsV RL 100 RX12 yX12_opens_ ws_p_X12_opens_, w ∈ lw_tbl from (all_app (List.forall_mem_cons.mpr ⟨t_in_8 _ (List.mem_of_getElem? (i := 228) rfl), (List.forall_mem_cons.mpr ⟨t_in_8 _ (List.mem_of_getElem? (i := 229) rfl), (List.forall_mem_cons.mpr ⟨t_in_8 _ (List.mem_of_getElem? (i := 230) rfl), (List.forall_mem_cons.mpr ⟨t_in_1 _ (List.mem_of_getElem? (i := 17) rfl), (fun _ h => absurd h List.not_mem_nil)⟩)⟩)⟩)⟩) (List.forall_mem_cons.mpr ⟨t_in_8 _ (List.mem_of_getElem? (i := 231) rfl), (all_app (List.forall_mem_cons.mpr ⟨t_in_8 _ (List.mem_of_getElem? (i := 74) rfl), (List.forall_mem_cons.mpr ⟨t_in_8 _ (List.mem_of_getElem? (i := 76) rfl), (List.forall_mem_cons.mpr ⟨s_in_8 (yX12_isPerson, 85) (List.mem_of_getElem? (i := 5) rfl), (List.forall_mem_cons.mpr ⟨t_in_1 _ (List.mem_of_getElem? (i := 17) rfl), (List.forall_mem_cons.mpr ⟨t_in_8 _ (List.mem_of_getElem? (i := 77) rfl), (List.forall_mem_cons.mpr ⟨t_in_6 _ (List.mem_of_getElem? (i := 43) rfl), (List.forall_mem_cons.mpr ⟨t_in_6 _ (List.mem_of_getElem? (i := 28) rfl), (List.forall_mem_cons.mpr ⟨t_in_7 _ (List.mem_of_getElem? (i := 144) rfl), (List.forall_mem_cons.mpr ⟨t_in_7 _ (List.mem_of_getElem? (i := 145) rfl), (List.forall_mem_cons.mpr ⟨t_in_7 _ (List.mem_of_getElem? (i := 146) rfl), (fun _ h => absurd h List.not_mem_nil)⟩)⟩)⟩)⟩)⟩)⟩)⟩)⟩)⟩)⟩) inX12)⟩))) (by decide +kernel)
set_option maxHeartbeats 4000000 in
set_option maxRecDepth 100000 in
theorem law_case_19 {p : Program} {e : Env} {s : State} {m : MethodId} {below : List Frame} {meth : Method} {c : Code} (l : Launch) {b : Nat} {xs : Nat → Int32} (C0 : lw_At p s m meth c b 6 xs) (dC : Nat → ClassId) (dI : Nat → Nat → Nat) (cB cI cJ cZ cQ : ClassId) (x : Nat) (u q : Nat → Nat) {H : Heap} {locs : List Loc} {ls : Array Slot} (hK : va_K (dC, dI) vwCl (tyA cB cI cJ cZ cQ) s) (hP : va_P (dC, dI) vwCl [(x, .inr (11, [.ref (u 0), .ref (u 2), .ref (u 5), .ref (u 19), .ref (u 21), .ref (u 26), .ref (u 29), .ref (u 40), .ref (u 49), .ref (u 50), .ref (u 81)])), ((u 50), .inr (9, [.ref (u 51), .ref (u 52), .ref (u 58), .ref (u 59), .ref (u 60), .ref (u 61), .ref (u 62), .ref (u 63), .ref (u 64), .ref (u 65), .ref (u 66), .ref (u 67), .ref (u 68), .ref (u 69), .ref (u 72), .int 0])), ((u 51), .inl (cI, 8, .inl (fun _ => 0))), ((q 0), .inr (12, (mo q))), ((q 16), .inl (cI, 2, .inl (fun _ => 0)))] H) (hD : va_D (fun b : Nat => s.heap.size ≤ b) [(x, .inr (11, [.ref (u 0), .ref (u 2), .ref (u 5), .ref (u 19), .ref (u 21), .ref (u 26), .ref (u 29), .ref (u 40), .ref (u 49), .ref (u 50), .ref (u 81)])), ((u 50), .inr (9, [.ref (u 51), .ref (u 52), .ref (u 58), .ref (u 59), .ref (u 60), .ref (u 61), .ref (u 62), .ref (u 63), .ref (u 64), .ref (u 65), .ref (u 66), .ref (u 67), .ref (u 68), .ref (u 69), .ref (u 72), .int 0])), ((u 51), .inl (cI, 8, .inl (fun _ => 0))), ((q 0), .inr (12, (mo q))), ((q 16), .inl (cI, 2, .inl (fun _ => 0)))]) (hS : va_S (fun b : Nat => s.heap.size ≤ b) s.heap H locs) (hl : lv_has ls 4 [(3, .int 0), (2, .ref (q 0)), (1, .ref x), (0, .ref b)]) : W p l e room_1 s m #[Value.ref b] below meth c H locs 171 178311 (lw_Z below #[Value.ref b] s) (F0 m 813 ls []) := by
  obtain ⟨hx, hb, hr, hml, hown, hts, hX, hbl, hlocks, hgv⟩ := id C0
  have hA : ∀ a : Nat, s.heap.size ≤ a → (fun b : Nat => s.heap.size ≤ b) a := fun _ h => h
  have hbA : ¬ (fun b : Nat => s.heap.size ≤ b) b := Nat.not_le.mpr hbl
  obtain ⟨A, hAe⟩ : ∃ A : Nat → Prop, A = (fun b : Nat => s.heap.size ≤ b) := ⟨_, rfl⟩
  rw [← hAe] at hD hS hA hbA
  refine lv_aload_n hx hb dL_law_813 rfl (lv_at hl 2 rfl) ?_
  refine lv_aload_n hx hb dL_law_814 rfl (lv_at hl 3 rfl) ?_
  refine lv_iload_n hx hb dL_law_815 rfl (lv_at hl 0 rfl) ?_
  refine lv_iconst (v := 1) hx hb dL_law_816 (by decide +kernel) ?_
  refine lv_iadd hx hb dL_law_817 ?_
  refine tp_i (y := 1) (by decide +kernel) ?_
  refine va_sld hx hb hX hbl hbA hS (vpc _ _ (by decide +kernel)) dL_law_818 ?_
  refine tp_i (y := xs 1) (congrArg xs (by decide +kernel)) ?_
  refine lv_aload_n hx hb dL_law_819 rfl (lv_at hl 3 rfl) ?_
  refine lv_iload_n hx hb dL_law_820 rfl (lv_at hl 0 rfl) ?_
  refine lv_iconst (v := 2) hx hb dL_law_821 (by decide +kernel) ?_
  refine lv_iadd hx hb dL_law_822 ?_
  refine tp_i (y := 2) (by decide +kernel) ?_
  refine va_sld hx hb hX hbl hbA hS (vpc _ _ (by decide +kernel)) dL_law_823 ?_
  refine tp_i (y := xs 2) (congrArg xs (by decide +kernel)) ?_
  have hPc := hP.sub (ws' := [(x, .inr (11, [.ref (u 0), .ref (u 2), .ref (u 5), .ref (u 19), .ref (u 21), .ref (u 26), .ref (u 29), .ref (u 40), .ref (u 49), .ref (u 50), .ref (u 81)])), ((u 50), .inr (9, [.ref (u 51), .ref (u 52), .ref (u 58), .ref (u 59), .ref (u 60), .ref (u 61), .ref (u 62), .ref (u 63), .ref (u 64), .ref (u 65), .ref (u 66), .ref (u 67), .ref (u 68), .ref (u 69), .ref (u 72), .int 0])), ((u 51), .inl (cI, 8, .inl (fun _ => 0)))]) [0, 1, 2] rfl
  have hDc := hD.sub (ws' := [(x, .inr (11, [.ref (u 0), .ref (u 2), .ref (u 5), .ref (u 19), .ref (u 21), .ref (u 26), .ref (u 29), .ref (u 40), .ref (u 49), .ref (u 50), .ref (u 81)])), ((u 50), .inr (9, [.ref (u 51), .ref (u 52), .ref (u 58), .ref (u 59), .ref (u 60), .ref (u 61), .ref (u 62), .ref (u 63), .ref (u 64), .ref (u 65), .ref (u 66), .ref (u 67), .ref (u 68), .ref (u 69), .ref (u 72), .int 0])), ((u 51), .inl (cI, 8, .inl (fun _ => 0)))]) [0, 1, 2] (by decide) rfl
  have hFc := va_free (wc := [(x, .inr (11, [.ref (u 0), .ref (u 2), .ref (u 5), .ref (u 19), .ref (u 21), .ref (u 26), .ref (u 29), .ref (u 40), .ref (u 49), .ref (u 50), .ref (u 81)])), ((u 50), .inr (9, [.ref (u 51), .ref (u 52), .ref (u 58), .ref (u 59), .ref (u 60), .ref (u 61), .ref (u 62), .ref (u 63), .ref (u 64), .ref (u 65), .ref (u 66), .ref (u 67), .ref (u 68), .ref (u 69), .ref (u 72), .int 0])), ((u 51), .inl (cI, 8, .inl (fun _ => 0)))]) hD hS hA [0, 1, 2] rfl
  refine va_calli (va_runV (As := [.int (xs 1), .int (xs 2)]) (rest := []) ⟨hx, hb, hml, hown, hts⟩ (p_X11_opens l dC dI cB cI cJ cZ cQ H.size x (u 0) (u 2) (u 5) (u 19) (u 21) (u 26) (u 29) (u 40) (u 49) (u 50) (u 81) (u 51) (u 52) (u 58) (u 59) (u 60) (u 61) (u 62) (u 63) (u 64) (u 65) (u 66) (u 67) (u 68) (u 69) (u 72) (xs 1) (xs 2)) (cwV 2 hts g_law_19_0 rfl rfl rfl (by decide +kernel) ⟨Nat.le_of_ble_eq_true rfl, Nat.le_of_ble_eq_true rfl⟩) ⟨fun a U g mk Z => by obtain ⟨q0, q1, qP, qK, qD⟩ := Z; exact ⟨q0, q1, qP, va_K.moved (u := U) (U := U.calling g mk a) (Vm.Alike.refl U.vm) qK, qD⟩, va_recv hK hPc (ci := 11) (q0 := 0) rfl rfl, fun U hU hW => ⟨rfl, by rw [hU], by rw [hU]; exact hPc, va_K.moved hW.alike hK, hDc.weaken (fun _ _ _ _ => trivial)⟩⟩ rfl rfl hl.1 rfl (lv_room (Nat.le_of_ble_eq_true rfl)) dL_law_824 ⟨Nat.le_of_ble_eq_true rfl, Nat.le_of_ble_eq_true rfl⟩) hS (fun b _ h => hFc b h) hFc (fun r2 u1 t H1 locs ht hvm hw hB hz1 hk1 hS => ?_)
  obtain ⟨hP, hD⟩ := va_join (wr := [((q 0), .inr (12, (mo q))), ((q 16), .inl (cI, 2, .inl (fun _ => 0)))]) (w1 := []) hP hD [0, 1, 2] [3, 4] rfl rfl (by decide) (by decide) hk1 hFc (fun k b h => by simp at h) ⟨fun i j p b h => by simp at h, fun k b h => by simp at h⟩
  clear hk1 hz1 hvm hPc hDc hFc
  generalize H1 = H at hP hS ⊢
  have hP : va_P (dC, dI) vwCl [((q 0), .inr (12, (mo q))), ((q 16), .inl (cI, 2, .inl (fun _ => 0)))] H := hP
  have hD : va_D A [((q 0), .inr (12, (mo q))), ((q 16), .inl (cI, 2, .inl (fun _ => 0)))] := hD
  subst hw
  refine lv_aload_n hx hb dL_law_827 rfl (lv_at hl 1 rfl) ?_
  refine lv_aload_n hx hb dL_law_828 rfl (lv_at hl 3 rfl) ?_
  refine lv_iload_n hx hb dL_law_829 rfl (lv_at hl 0 rfl) ?_
  refine lv_iconst (v := 1) hx hb dL_law_830 (by decide +kernel) ?_
  refine lv_iadd hx hb dL_law_831 ?_
  refine tp_i (y := 1) (by decide +kernel) ?_
  refine va_sld hx hb hX hbl hbA hS (vpc _ _ (by decide +kernel)) dL_law_832 ?_
  refine tp_i (y := xs 1) (congrArg xs (by decide +kernel)) ?_
  refine lv_aload_n hx hb dL_law_833 rfl (lv_at hl 3 rfl) ?_
  refine lv_iload_n hx hb dL_law_834 rfl (lv_at hl 0 rfl) ?_
  refine lv_iconst (v := 2) hx hb dL_law_835 (by decide +kernel) ?_
  refine lv_iadd hx hb dL_law_836 ?_
  refine tp_i (y := 2) (by decide +kernel) ?_
  refine va_sld hx hb hX hbl hbA hS (vpc _ _ (by decide +kernel)) dL_law_837 ?_
  refine tp_i (y := xs 2) (congrArg xs (by decide +kernel)) ?_
  have hPc := hP.sub (ws' := [((q 0), .inr (12, (mo q))), ((q 16), .inl (cI, 2, .inl (fun _ => 0)))]) [0, 1] rfl
  have hDc := hD.sub (ws' := [((q 0), .inr (12, (mo q))), ((q 16), .inl (cI, 2, .inl (fun _ => 0)))]) [0, 1] (by decide) rfl
  have hFc := va_free (wc := [((q 0), .inr (12, (mo q))), ((q 16), .inl (cI, 2, .inl (fun _ => 0)))]) hD hS hA [0, 1] rfl
  refine va_calli (va_runV (As := [.int (xs 1), .int (xs 2)]) (rest := [.int (-1)]) ⟨hx, hb, hml, hown, hts⟩ (p_X12_opens_ l dC dI cB cI cJ cZ cQ H.size q (xs 1) (xs 2)) (cwV 2 hts g_law_19_1 rfl rfl rfl (by decide +kernel) ⟨Nat.le_of_ble_eq_true rfl, Nat.le_of_ble_eq_true rfl⟩) ⟨fun a U g mk Z => by obtain ⟨q0, q1, qP, qK, qD⟩ := Z; exact ⟨q0, q1, qP, va_K.moved (u := U) (U := U.calling g mk a) (Vm.Alike.refl U.vm) qK, qD⟩, va_recv hK hPc (ci := 12) (q0 := 0) rfl rfl, fun U hU hW => ⟨rfl, by rw [hU], by rw [hU]; exact hPc, va_K.moved hW.alike hK, hDc.weaken (fun _ _ _ _ => trivial)⟩⟩ rfl rfl hl.1 rfl (lv_room (Nat.le_of_ble_eq_true rfl)) dL_law_838 ⟨Nat.le_of_ble_eq_true rfl, Nat.le_of_ble_eq_true rfl⟩) hS (fun b _ h => hFc b h) hFc (fun r4 u3 t H1 locs ht hvm hw hB hz1 hk1 hS => ?_)
  obtain ⟨hP, hD⟩ := va_join (wr := []) (w1 := []) hP hD [0, 1] [] rfl rfl (by decide) (by decide) hk1 hFc (fun k b h => by simp at h) ⟨fun i j p b h => by simp at h, fun k b h => by simp at h⟩
  clear hk1 hz1 hvm hPc hDc hFc
  generalize H1 = H at hP hS ⊢
  have hP : va_P (dC, dI) vwCl [] H := hP
  have hD : va_D A [] := hD
  subst hw
  refine lv_icmp_eq (tgt := 1273) hx hb dL_law_841 (by decide) (fun _ => ?_) (fun c => absurd c (by decide +kernel))
  exact law_tail l C0 (by decide) (by decide) (by rw [hAe] at hS; exact hS) (lv_sub hl [3, 2, 1, 0] rfl)
set_option maxRecDepth 100000 in
theorem g_law_20_0 : GoodIn lw_tbl (wsV RL 101 RX11 yX11_errands ws_p_X11_errands) := goodIn_sub (show ∀ w ∈ wsV RL 101 RX11 yX11_errands ws_p_X11_errands, w ∈ lw_tbl from (all_app (List.forall_mem_cons.mpr ⟨t_in_5 _ (List.mem_of_getElem? (i := 54) rfl), (List.forall_mem_cons.mpr ⟨t_in_5 _ (List.mem_of_getElem? (i := 55) rfl), (List.forall_mem_cons.mpr ⟨t_in_5 _ (List.mem_of_getElem? (i := 56) rfl), (List.forall_mem_cons.mpr ⟨t_in_1 _ (List.mem_of_getElem? (i := 1) rfl), (fun _ h => absurd h List.not_mem_nil)⟩)⟩)⟩)⟩) (List.forall_mem_cons.mpr ⟨t_in_5 _ (List.mem_of_getElem? (i := 57) rfl), (all_app (all_app (List.forall_mem_cons.mpr ⟨t_in_2 _ (List.mem_of_getElem? (i := 206) rfl), (List.forall_mem_cons.mpr ⟨t_in_4 _ (List.mem_of_getElem? (i := 24) rfl), (List.forall_mem_cons.mpr ⟨t_in_4 _ (List.mem_of_getElem? (i := 25) rfl), (List.forall_mem_cons.mpr ⟨t_in_4 _ (List.mem_of_getElem? (i := 26) rfl), (List.forall_mem_cons.mpr ⟨t_in_1 _ (List.mem_of_getElem? (i := 15) rfl), (List.forall_mem_cons.mpr ⟨t_in_4 _ (List.mem_of_getElem? (i := 27) rfl), (List.forall_mem_cons.mpr ⟨t_in_2 _ (List.mem_of_getElem? (i := 115) rfl), (fun _ h => absurd h List.not_mem_nil)⟩)⟩)⟩)⟩)⟩)⟩)⟩) inX11) inX9)⟩))) (by decide +kernel)
set_option maxRecDepth 100000 in
theorem g_law_20_1 : GoodIn lw_tbl (wsV RL 104 RX12 yX12_errands ws_p_X12_errands) := goodIn_sub (show ∀ w ∈ wsV RL 104 RX12 yX12_errands ws_p_X12_errands, w ∈ lw_tbl from (all_app (List.forall_mem_cons.mpr ⟨t_in_8 _ (List.mem_of_getElem? (i := 232) rfl), (List.forall_mem_cons.mpr ⟨t_in_8 _ (List.mem_of_getElem? (i := 233) rfl), (List.forall_mem_cons.mpr ⟨t_in_8 _ (List.mem_of_getElem? (i := 234) rfl), (List.forall_mem_cons.mpr ⟨t_in_1 _ (List.mem_of_getElem? (i := 17) rfl), (fun _ h => absurd h List.not_mem_nil)⟩)⟩)⟩)⟩) (List.forall_mem_cons.mpr ⟨t_in_8 _ (List.mem_of_getElem? (i := 235) rfl), (all_app (List.forall_mem_cons.mpr ⟨t_in_8 _ (List.mem_of_getElem? (i := 74) rfl), (List.forall_mem_cons.mpr ⟨t_in_8 _ (List.mem_of_getElem? (i := 76) rfl), (List.forall_mem_cons.mpr ⟨s_in_8 (yX12_isPerson, 85) (List.mem_of_getElem? (i := 5) rfl), (List.forall_mem_cons.mpr ⟨t_in_1 _ (List.mem_of_getElem? (i := 17) rfl), (List.forall_mem_cons.mpr ⟨t_in_8 _ (List.mem_of_getElem? (i := 77) rfl), (List.forall_mem_cons.mpr ⟨t_in_6 _ (List.mem_of_getElem? (i := 43) rfl), (List.forall_mem_cons.mpr ⟨t_in_6 _ (List.mem_of_getElem? (i := 28) rfl), (List.forall_mem_cons.mpr ⟨t_in_7 _ (List.mem_of_getElem? (i := 144) rfl), (List.forall_mem_cons.mpr ⟨t_in_7 _ (List.mem_of_getElem? (i := 145) rfl), (List.forall_mem_cons.mpr ⟨t_in_7 _ (List.mem_of_getElem? (i := 146) rfl), (fun _ h => absurd h List.not_mem_nil)⟩)⟩)⟩)⟩)⟩)⟩)⟩)⟩)⟩)⟩) inX12)⟩))) (by decide +kernel)
set_option maxHeartbeats 4000000 in
set_option maxRecDepth 100000 in
theorem law_case_20 {p : Program} {e : Env} {s : State} {m : MethodId} {below : List Frame} {meth : Method} {c : Code} (l : Launch) {b : Nat} {xs : Nat → Int32} (C0 : lw_At p s m meth c b 6 xs) (dC : Nat → ClassId) (dI : Nat → Nat → Nat) (cB cI cJ cZ cQ : ClassId) (x : Nat) (u q : Nat → Nat) {H : Heap} {locs : List Loc} {ls : Array Slot} (hK : va_K (dC, dI) vwCl (tyA cB cI cJ cZ cQ) s) (hP : va_P (dC, dI) vwCl [(x, .inr (11, [.ref (u 0), .ref (u 2), .ref (u 5), .ref (u 19), .ref (u 21), .ref (u 26), .ref (u 29), .ref (u 40), .ref (u 49), .ref (u 50), .ref (u 81)])), ((u 50), .inr (9, [.ref (u 51), .ref (u 52), .ref (u 58), .ref (u 59), .ref (u 60), .ref (u 61), .ref (u 62), .ref (u 63), .ref (u 64), .ref (u 65), .ref (u 66), .ref (u 67), .ref (u 68), .ref (u 69), .ref (u 72), .int 0])), ((u 51), .inl (cI, 8, .inl (fun _ => 0))), ((q 0), .inr (12, (mo q))), ((q 16), .inl (cI, 2, .inl (fun _ => 0)))] H) (hD : va_D (fun b : Nat => s.heap.size ≤ b) [(x, .inr (11, [.ref (u 0), .ref (u 2), .ref (u 5), .ref (u 19), .ref (u 21), .ref (u 26), .ref (u 29), .ref (u 40), .ref (u 49), .ref (u 50), .ref (u 81)])), ((u 50), .inr (9, [.ref (u 51), .ref (u 52), .ref (u 58), .ref (u 59), .ref (u 60), .ref (u 61), .ref (u 62), .ref (u 63), .ref (u 64), .ref (u 65), .ref (u 66), .ref (u 67), .ref (u 68), .ref (u 69), .ref (u 72), .int 0])), ((u 51), .inl (cI, 8, .inl (fun _ => 0))), ((q 0), .inr (12, (mo q))), ((q 16), .inl (cI, 2, .inl (fun _ => 0)))]) (hS : va_S (fun b : Nat => s.heap.size ≤ b) s.heap H locs) (hl : lv_has ls 4 [(3, .int 0), (2, .ref (q 0)), (1, .ref x), (0, .ref b)]) : W p l e room_1 s m #[Value.ref b] below meth c H locs 171 178311 (lw_Z below #[Value.ref b] s) (F0 m 846 ls []) := by
  obtain ⟨hx, hb, hr, hml, hown, hts, hX, hbl, hlocks, hgv⟩ := id C0
  have hA : ∀ a : Nat, s.heap.size ≤ a → (fun b : Nat => s.heap.size ≤ b) a := fun _ h => h
  have hbA : ¬ (fun b : Nat => s.heap.size ≤ b) b := Nat.not_le.mpr hbl
  obtain ⟨A, hAe⟩ : ∃ A : Nat → Prop, A = (fun b : Nat => s.heap.size ≤ b) := ⟨_, rfl⟩
  rw [← hAe] at hD hS hA hbA
  refine lv_aload_n hx hb dL_law_846 rfl (lv_at hl 2 rfl) ?_
  refine lv_aload_n hx hb dL_law_847 rfl (lv_at hl 3 rfl) ?_
  refine lv_iload_n hx hb dL_law_848 rfl (lv_at hl 0 rfl) ?_
  refine lv_iconst (v := 1) hx hb dL_law_849 (by decide +kernel) ?_
  refine lv_iadd hx hb dL_law_850 ?_
  refine tp_i (y := 1) (by decide +kernel) ?_
  refine va_sld hx hb hX hbl hbA hS (vpc _ _ (by decide +kernel)) dL_law_851 ?_
  refine tp_i (y := xs 1) (congrArg xs (by decide +kernel)) ?_
  have hPc := hP.sub (ws' := [(x, .inr (11, [.ref (u 0), .ref (u 2), .ref (u 5), .ref (u 19), .ref (u 21), .ref (u 26), .ref (u 29), .ref (u 40), .ref (u 49), .ref (u 50), .ref (u 81)])), ((u 50), .inr (9, [.ref (u 51), .ref (u 52), .ref (u 58), .ref (u 59), .ref (u 60), .ref (u 61), .ref (u 62), .ref (u 63), .ref (u 64), .ref (u 65), .ref (u 66), .ref (u 67), .ref (u 68), .ref (u 69), .ref (u 72), .int 0])), ((u 51), .inl (cI, 8, .inl (fun _ => 0)))]) [0, 1, 2] rfl
  have hDc := hD.sub (ws' := [(x, .inr (11, [.ref (u 0), .ref (u 2), .ref (u 5), .ref (u 19), .ref (u 21), .ref (u 26), .ref (u 29), .ref (u 40), .ref (u 49), .ref (u 50), .ref (u 81)])), ((u 50), .inr (9, [.ref (u 51), .ref (u 52), .ref (u 58), .ref (u 59), .ref (u 60), .ref (u 61), .ref (u 62), .ref (u 63), .ref (u 64), .ref (u 65), .ref (u 66), .ref (u 67), .ref (u 68), .ref (u 69), .ref (u 72), .int 0])), ((u 51), .inl (cI, 8, .inl (fun _ => 0)))]) [0, 1, 2] (by decide) rfl
  have hFc := va_free (wc := [(x, .inr (11, [.ref (u 0), .ref (u 2), .ref (u 5), .ref (u 19), .ref (u 21), .ref (u 26), .ref (u 29), .ref (u 40), .ref (u 49), .ref (u 50), .ref (u 81)])), ((u 50), .inr (9, [.ref (u 51), .ref (u 52), .ref (u 58), .ref (u 59), .ref (u 60), .ref (u 61), .ref (u 62), .ref (u 63), .ref (u 64), .ref (u 65), .ref (u 66), .ref (u 67), .ref (u 68), .ref (u 69), .ref (u 72), .int 0])), ((u 51), .inl (cI, 8, .inl (fun _ => 0)))]) hD hS hA [0, 1, 2] rfl
  refine va_calli (va_runV (As := [.int (xs 1)]) (rest := []) ⟨hx, hb, hml, hown, hts⟩ (p_X11_errands l dC dI cB cI cJ cZ cQ H.size x (u 0) (u 2) (u 5) (u 19) (u 21) (u 26) (u 29) (u 40) (u 49) (u 50) (u 81) (u 51) (u 52) (u 58) (u 59) (u 60) (u 61) (u 62) (u 63) (u 64) (u 65) (u 66) (u 67) (u 68) (u 69) (u 72) (xs 1)) (cwV 1 hts g_law_20_0 rfl rfl rfl (by decide +kernel) ⟨Nat.le_of_ble_eq_true rfl, Nat.le_of_ble_eq_true rfl⟩) ⟨fun a U g mk Z => by obtain ⟨q0, q1, qP, qK, qD⟩ := Z; exact ⟨q0, q1, qP, va_K.moved (u := U) (U := U.calling g mk a) (Vm.Alike.refl U.vm) qK, qD⟩, va_recv hK hPc (ci := 11) (q0 := 0) rfl rfl, fun U hU hW => ⟨rfl, by rw [hU], by rw [hU]; exact hPc, va_K.moved hW.alike hK, hDc.weaken (fun _ _ _ _ => trivial)⟩⟩ rfl rfl hl.1 rfl (lv_room (Nat.le_of_ble_eq_true rfl)) dL_law_852 ⟨Nat.le_of_ble_eq_true rfl, Nat.le_of_ble_eq_true rfl⟩) hS (fun b _ h => hFc b h) hFc (fun r2 u1 t H1 locs ht hvm hw hB hz1 hk1 hS => ?_)
  obtain ⟨hP, hD⟩ := va_join (wr := [((q 0), .inr (12, (mo q))), ((q 16), .inl (cI, 2, .inl (fun _ => 0)))]) (w1 := []) hP hD [0, 1, 2] [3, 4] rfl rfl (by decide) (by decide) hk1 hFc (fun k b h => by simp at h) ⟨fun i j p b h => by simp at h, fun k b h => by simp at h⟩
  clear hk1 hz1 hvm hPc hDc hFc
  generalize H1 = H at hP hS ⊢
  have hP : va_P (dC, dI) vwCl [((q 0), .inr (12, (mo q))), ((q 16), .inl (cI, 2, .inl (fun _ => 0)))] H := hP
  have hD : va_D A [((q 0), .inr (12, (mo q))), ((q 16), .inl (cI, 2, .inl (fun _ => 0)))] := hD
  subst hw
  refine lv_aload_n hx hb dL_law_855 rfl (lv_at hl 1 rfl) ?_
  refine lv_aload_n hx hb dL_law_856 rfl (lv_at hl 3 rfl) ?_
  refine lv_iload_n hx hb dL_law_857 rfl (lv_at hl 0 rfl) ?_
  refine lv_iconst (v := 1) hx hb dL_law_858 (by decide +kernel) ?_
  refine lv_iadd hx hb dL_law_859 ?_
  refine tp_i (y := 1) (by decide +kernel) ?_
  refine va_sld hx hb hX hbl hbA hS (vpc _ _ (by decide +kernel)) dL_law_860 ?_
  refine tp_i (y := xs 1) (congrArg xs (by decide +kernel)) ?_
  have hPc := hP.sub (ws' := [((q 0), .inr (12, (mo q))), ((q 16), .inl (cI, 2, .inl (fun _ => 0)))]) [0, 1] rfl
  have hDc := hD.sub (ws' := [((q 0), .inr (12, (mo q))), ((q 16), .inl (cI, 2, .inl (fun _ => 0)))]) [0, 1] (by decide) rfl
  have hFc := va_free (wc := [((q 0), .inr (12, (mo q))), ((q 16), .inl (cI, 2, .inl (fun _ => 0)))]) hD hS hA [0, 1] rfl
  refine va_calli (va_runV (As := [.int (xs 1)]) (rest := [.int (-1)]) ⟨hx, hb, hml, hown, hts⟩ (p_X12_errands l dC dI cB cI cJ cZ cQ H.size q (xs 1)) (cwV 1 hts g_law_20_1 rfl rfl rfl (by decide +kernel) ⟨Nat.le_of_ble_eq_true rfl, Nat.le_of_ble_eq_true rfl⟩) ⟨fun a U g mk Z => by obtain ⟨q0, q1, qP, qK, qD⟩ := Z; exact ⟨q0, q1, qP, va_K.moved (u := U) (U := U.calling g mk a) (Vm.Alike.refl U.vm) qK, qD⟩, va_recv hK hPc (ci := 12) (q0 := 0) rfl rfl, fun U hU hW => ⟨rfl, by rw [hU], by rw [hU]; exact hPc, va_K.moved hW.alike hK, hDc.weaken (fun _ _ _ _ => trivial)⟩⟩ rfl rfl hl.1 rfl (lv_room (Nat.le_of_ble_eq_true rfl)) dL_law_861 ⟨Nat.le_of_ble_eq_true rfl, Nat.le_of_ble_eq_true rfl⟩) hS (fun b _ h => hFc b h) hFc (fun r4 u3 t H1 locs ht hvm hw hB hz1 hk1 hS => ?_)
  obtain ⟨hP, hD⟩ := va_join (wr := []) (w1 := []) hP hD [0, 1] [] rfl rfl (by decide) (by decide) hk1 hFc (fun k b h => by simp at h) ⟨fun i j p b h => by simp at h, fun k b h => by simp at h⟩
  clear hk1 hz1 hvm hPc hDc hFc
  generalize H1 = H at hP hS ⊢
  have hP : va_P (dC, dI) vwCl [] H := hP
  have hD : va_D A [] := hD
  subst hw
  refine lv_icmp_eq (tgt := 1273) hx hb dL_law_864 (by decide) (fun _ => ?_) (fun c => absurd c (by decide +kernel))
  exact law_tail l C0 (by decide) (by decide) (by rw [hAe] at hS; exact hS) (lv_sub hl [3, 2, 1, 0] rfl)
set_option maxRecDepth 100000 in
theorem g_law_21_0 : GoodIn lw_tbl (wsV RL 105 RX11 yX11_lent ws_p_X11_lent) := goodIn_sub (show ∀ w ∈ wsV RL 105 RX11 yX11_lent ws_p_X11_lent, w ∈ lw_tbl from (all_app (List.forall_mem_cons.mpr ⟨t_in_5 _ (List.mem_of_getElem? (i := 58) rfl), (List.forall_mem_cons.mpr ⟨t_in_5 _ (List.mem_of_getElem? (i := 59) rfl), (List.forall_mem_cons.mpr ⟨t_in_5 _ (List.mem_of_getElem? (i := 60) rfl), (List.forall_mem_cons.mpr ⟨t_in_1 _ (List.mem_of_getElem? (i := 1) rfl), (fun _ h => absurd h List.not_mem_nil)⟩)⟩)⟩)⟩) (List.forall_mem_cons.mpr ⟨t_in_5 _ (List.mem_of_getElem? (i := 61) rfl), (all_app (all_app (List.forall_mem_cons.mpr ⟨t_in_2 _ (List.mem_of_getElem? (i := 206) rfl), (List.forall_mem_cons.mpr ⟨t_in_4 _ (List.mem_of_getElem? (i := 24) rfl), (List.forall_mem_cons.mpr ⟨t_in_4 _ (List.mem_of_getElem? (i := 25) rfl), (List.forall_mem_cons.mpr ⟨t_in_4 _ (List.mem_of_getElem? (i := 26) rfl), (List.forall_mem_cons.mpr ⟨t_in_1 _ (List.mem_of_getElem? (i := 15) rfl), (List.forall_mem_cons.mpr ⟨t_in_4 _ (List.mem_of_getElem? (i := 27) rfl), (List.forall_mem_cons.mpr ⟨t_in_2 _ (List.mem_of_getElem? (i := 115) rfl), (fun _ h => absurd h List.not_mem_nil)⟩)⟩)⟩)⟩)⟩)⟩)⟩) inX11) inX9)⟩))) (by decide +kernel)
set_option maxRecDepth 100000 in
theorem g_law_21_1 : GoodIn lw_tbl (wsV RL 108 RX12 yX12_lent ws_p_X12_lent) := goodIn_sub (show ∀ w ∈ wsV RL 108 RX12 yX12_lent ws_p_X12_lent, w ∈ lw_tbl from (all_app (List.forall_mem_cons.mpr ⟨t_in_8 _ (List.mem_of_getElem? (i := 236) rfl), (List.forall_mem_cons.mpr ⟨t_in_8 _ (List.mem_of_getElem? (i := 237) rfl), (List.forall_mem_cons.mpr ⟨t_in_8 _ (List.mem_of_getElem? (i := 238) rfl), (List.forall_mem_cons.mpr ⟨t_in_1 _ (List.mem_of_getElem? (i := 17) rfl), (fun _ h => absurd h List.not_mem_nil)⟩)⟩)⟩)⟩) (List.forall_mem_cons.mpr ⟨t_in_8 _ (List.mem_of_getElem? (i := 239) rfl), (all_app (List.forall_mem_cons.mpr ⟨t_in_8 _ (List.mem_of_getElem? (i := 74) rfl), (List.forall_mem_cons.mpr ⟨t_in_8 _ (List.mem_of_getElem? (i := 76) rfl), (List.forall_mem_cons.mpr ⟨s_in_8 (yX12_isPerson, 85) (List.mem_of_getElem? (i := 5) rfl), (List.forall_mem_cons.mpr ⟨t_in_1 _ (List.mem_of_getElem? (i := 17) rfl), (List.forall_mem_cons.mpr ⟨t_in_8 _ (List.mem_of_getElem? (i := 77) rfl), (List.forall_mem_cons.mpr ⟨t_in_6 _ (List.mem_of_getElem? (i := 43) rfl), (List.forall_mem_cons.mpr ⟨t_in_6 _ (List.mem_of_getElem? (i := 28) rfl), (List.forall_mem_cons.mpr ⟨t_in_7 _ (List.mem_of_getElem? (i := 144) rfl), (List.forall_mem_cons.mpr ⟨t_in_7 _ (List.mem_of_getElem? (i := 145) rfl), (List.forall_mem_cons.mpr ⟨t_in_7 _ (List.mem_of_getElem? (i := 146) rfl), (fun _ h => absurd h List.not_mem_nil)⟩)⟩)⟩)⟩)⟩)⟩)⟩)⟩)⟩)⟩) inX12)⟩))) (by decide +kernel)
set_option maxHeartbeats 4000000 in
set_option maxRecDepth 100000 in
theorem law_case_21 {p : Program} {e : Env} {s : State} {m : MethodId} {below : List Frame} {meth : Method} {c : Code} (l : Launch) {b : Nat} {xs : Nat → Int32} (C0 : lw_At p s m meth c b 6 xs) (dC : Nat → ClassId) (dI : Nat → Nat → Nat) (cB cI cJ cZ cQ : ClassId) (x : Nat) (u q : Nat → Nat) {H : Heap} {locs : List Loc} {ls : Array Slot} (hK : va_K (dC, dI) vwCl (tyA cB cI cJ cZ cQ) s) (hP : va_P (dC, dI) vwCl [(x, .inr (11, [.ref (u 0), .ref (u 2), .ref (u 5), .ref (u 19), .ref (u 21), .ref (u 26), .ref (u 29), .ref (u 40), .ref (u 49), .ref (u 50), .ref (u 81)])), ((u 50), .inr (9, [.ref (u 51), .ref (u 52), .ref (u 58), .ref (u 59), .ref (u 60), .ref (u 61), .ref (u 62), .ref (u 63), .ref (u 64), .ref (u 65), .ref (u 66), .ref (u 67), .ref (u 68), .ref (u 69), .ref (u 72), .int 0])), ((u 51), .inl (cI, 8, .inl (fun _ => 0))), ((q 0), .inr (12, (mo q))), ((q 16), .inl (cI, 2, .inl (fun _ => 0)))] H) (hD : va_D (fun b : Nat => s.heap.size ≤ b) [(x, .inr (11, [.ref (u 0), .ref (u 2), .ref (u 5), .ref (u 19), .ref (u 21), .ref (u 26), .ref (u 29), .ref (u 40), .ref (u 49), .ref (u 50), .ref (u 81)])), ((u 50), .inr (9, [.ref (u 51), .ref (u 52), .ref (u 58), .ref (u 59), .ref (u 60), .ref (u 61), .ref (u 62), .ref (u 63), .ref (u 64), .ref (u 65), .ref (u 66), .ref (u 67), .ref (u 68), .ref (u 69), .ref (u 72), .int 0])), ((u 51), .inl (cI, 8, .inl (fun _ => 0))), ((q 0), .inr (12, (mo q))), ((q 16), .inl (cI, 2, .inl (fun _ => 0)))]) (hS : va_S (fun b : Nat => s.heap.size ≤ b) s.heap H locs) (hl : lv_has ls 4 [(3, .int 0), (2, .ref (q 0)), (1, .ref x), (0, .ref b)]) : W p l e room_1 s m #[Value.ref b] below meth c H locs 171 178311 (lw_Z below #[Value.ref b] s) (F0 m 869 ls []) := by
  obtain ⟨hx, hb, hr, hml, hown, hts, hX, hbl, hlocks, hgv⟩ := id C0
  have hA : ∀ a : Nat, s.heap.size ≤ a → (fun b : Nat => s.heap.size ≤ b) a := fun _ h => h
  have hbA : ¬ (fun b : Nat => s.heap.size ≤ b) b := Nat.not_le.mpr hbl
  obtain ⟨A, hAe⟩ : ∃ A : Nat → Prop, A = (fun b : Nat => s.heap.size ≤ b) := ⟨_, rfl⟩
  rw [← hAe] at hD hS hA hbA
  refine lv_aload_n hx hb dL_law_869 rfl (lv_at hl 2 rfl) ?_
  refine lv_aload_n hx hb dL_law_870 rfl (lv_at hl 3 rfl) ?_
  refine lv_iload_n hx hb dL_law_871 rfl (lv_at hl 0 rfl) ?_
  refine lv_iconst (v := 1) hx hb dL_law_872 (by decide +kernel) ?_
  refine lv_iadd hx hb dL_law_873 ?_
  refine tp_i (y := 1) (by decide +kernel) ?_
  refine va_sld hx hb hX hbl hbA hS (vpc _ _ (by decide +kernel)) dL_law_874 ?_
  refine tp_i (y := xs 1) (congrArg xs (by decide +kernel)) ?_
  refine lv_aload_n hx hb dL_law_875 rfl (lv_at hl 3 rfl) ?_
  refine lv_iload_n hx hb dL_law_876 rfl (lv_at hl 0 rfl) ?_
  refine lv_iconst (v := 2) hx hb dL_law_877 (by decide +kernel) ?_
  refine lv_iadd hx hb dL_law_878 ?_
  refine tp_i (y := 2) (by decide +kernel) ?_
  refine va_sld hx hb hX hbl hbA hS (vpc _ _ (by decide +kernel)) dL_law_879 ?_
  refine tp_i (y := xs 2) (congrArg xs (by decide +kernel)) ?_
  refine lv_aload_n hx hb dL_law_880 rfl (lv_at hl 3 rfl) ?_
  refine lv_iload_n hx hb dL_law_881 rfl (lv_at hl 0 rfl) ?_
  refine lv_iconst (v := 3) hx hb dL_law_882 (by decide +kernel) ?_
  refine lv_iadd hx hb dL_law_883 ?_
  refine tp_i (y := 3) (by decide +kernel) ?_
  refine va_sld hx hb hX hbl hbA hS (vpc _ _ (by decide +kernel)) dL_law_884 ?_
  refine tp_i (y := xs 3) (congrArg xs (by decide +kernel)) ?_
  have hPc := hP.sub (ws' := [(x, .inr (11, [.ref (u 0), .ref (u 2), .ref (u 5), .ref (u 19), .ref (u 21), .ref (u 26), .ref (u 29), .ref (u 40), .ref (u 49), .ref (u 50), .ref (u 81)])), ((u 50), .inr (9, [.ref (u 51), .ref (u 52), .ref (u 58), .ref (u 59), .ref (u 60), .ref (u 61), .ref (u 62), .ref (u 63), .ref (u 64), .ref (u 65), .ref (u 66), .ref (u 67), .ref (u 68), .ref (u 69), .ref (u 72), .int 0])), ((u 51), .inl (cI, 8, .inl (fun _ => 0)))]) [0, 1, 2] rfl
  have hDc := hD.sub (ws' := [(x, .inr (11, [.ref (u 0), .ref (u 2), .ref (u 5), .ref (u 19), .ref (u 21), .ref (u 26), .ref (u 29), .ref (u 40), .ref (u 49), .ref (u 50), .ref (u 81)])), ((u 50), .inr (9, [.ref (u 51), .ref (u 52), .ref (u 58), .ref (u 59), .ref (u 60), .ref (u 61), .ref (u 62), .ref (u 63), .ref (u 64), .ref (u 65), .ref (u 66), .ref (u 67), .ref (u 68), .ref (u 69), .ref (u 72), .int 0])), ((u 51), .inl (cI, 8, .inl (fun _ => 0)))]) [0, 1, 2] (by decide) rfl
  have hFc := va_free (wc := [(x, .inr (11, [.ref (u 0), .ref (u 2), .ref (u 5), .ref (u 19), .ref (u 21), .ref (u 26), .ref (u 29), .ref (u 40), .ref (u 49), .ref (u 50), .ref (u 81)])), ((u 50), .inr (9, [.ref (u 51), .ref (u 52), .ref (u 58), .ref (u 59), .ref (u 60), .ref (u 61), .ref (u 62), .ref (u 63), .ref (u 64), .ref (u 65), .ref (u 66), .ref (u 67), .ref (u 68), .ref (u 69), .ref (u 72), .int 0])), ((u 51), .inl (cI, 8, .inl (fun _ => 0)))]) hD hS hA [0, 1, 2] rfl
  refine va_calli (va_runV (As := [.int (xs 1), .int (xs 2), .int (xs 3)]) (rest := []) ⟨hx, hb, hml, hown, hts⟩ (p_X11_lent l dC dI cB cI cJ cZ cQ H.size x (u 0) (u 2) (u 5) (u 19) (u 21) (u 26) (u 29) (u 40) (u 49) (u 50) (u 81) (u 51) (u 52) (u 58) (u 59) (u 60) (u 61) (u 62) (u 63) (u 64) (u 65) (u 66) (u 67) (u 68) (u 69) (u 72) (xs 1) (xs 2) (xs 3)) (cwV 3 hts g_law_21_0 rfl rfl rfl (by decide +kernel) ⟨Nat.le_of_ble_eq_true rfl, Nat.le_of_ble_eq_true rfl⟩) ⟨fun a U g mk Z => by obtain ⟨q0, q1, qP, qK, qD⟩ := Z; exact ⟨q0, q1, qP, va_K.moved (u := U) (U := U.calling g mk a) (Vm.Alike.refl U.vm) qK, qD⟩, va_recv hK hPc (ci := 11) (q0 := 0) rfl rfl, fun U hU hW => ⟨rfl, by rw [hU], by rw [hU]; exact hPc, va_K.moved hW.alike hK, hDc.weaken (fun _ _ _ _ => trivial)⟩⟩ rfl rfl hl.1 rfl (lv_room (Nat.le_of_ble_eq_true rfl)) dL_law_885 ⟨Nat.le_of_ble_eq_true rfl, Nat.le_of_ble_eq_true rfl⟩) hS (fun b _ h => hFc b h) hFc (fun r2 u1 t H1 locs ht hvm hw hB hz1 hk1 hS => ?_)
  obtain ⟨hP, hD⟩ := va_join (wr := [((q 0), .inr (12, (mo q))), ((q 16), .inl (cI, 2, .inl (fun _ => 0)))]) (w1 := []) hP hD [0, 1, 2] [3, 4] rfl rfl (by decide) (by decide) hk1 hFc (fun k b h => by simp at h) ⟨fun i j p b h => by simp at h, fun k b h => by simp at h⟩
  clear hk1 hz1 hvm hPc hDc hFc
  generalize H1 = H at hP hS ⊢
  have hP : va_P (dC, dI) vwCl [((q 0), .inr (12, (mo q))), ((q 16), .inl (cI, 2, .inl (fun _ => 0)))] H := hP
  have hD : va_D A [((q 0), .inr (12, (mo q))), ((q 16), .inl (cI, 2, .inl (fun _ => 0)))] := hD
  subst hw
  refine lv_aload_n hx hb dL_law_888 rfl (lv_at hl 1 rfl) ?_
  refine lv_aload_n hx hb dL_law_889 rfl (lv_at hl 3 rfl) ?_
  refine lv_iload_n hx hb dL_law_890 rfl (lv_at hl 0 rfl) ?_
  refine lv_iconst (v := 1) hx hb dL_law_891 (by decide +kernel) ?_
  refine lv_iadd hx hb dL_law_892 ?_
  refine tp_i (y := 1) (by decide +kernel) ?_
  refine va_sld hx hb hX hbl hbA hS (vpc _ _ (by decide +kernel)) dL_law_893 ?_
  refine tp_i (y := xs 1) (congrArg xs (by decide +kernel)) ?_
  refine lv_aload_n hx hb dL_law_894 rfl (lv_at hl 3 rfl) ?_
  refine lv_iload_n hx hb dL_law_895 rfl (lv_at hl 0 rfl) ?_
  refine lv_iconst (v := 2) hx hb dL_law_896 (by decide +kernel) ?_
  refine lv_iadd hx hb dL_law_897 ?_
  refine tp_i (y := 2) (by decide +kernel) ?_
  refine va_sld hx hb hX hbl hbA hS (vpc _ _ (by decide +kernel)) dL_law_898 ?_
  refine tp_i (y := xs 2) (congrArg xs (by decide +kernel)) ?_
  refine lv_aload_n hx hb dL_law_899 rfl (lv_at hl 3 rfl) ?_
  refine lv_iload_n hx hb dL_law_900 rfl (lv_at hl 0 rfl) ?_
  refine lv_iconst (v := 3) hx hb dL_law_901 (by decide +kernel) ?_
  refine lv_iadd hx hb dL_law_902 ?_
  refine tp_i (y := 3) (by decide +kernel) ?_
  refine va_sld hx hb hX hbl hbA hS (vpc _ _ (by decide +kernel)) dL_law_903 ?_
  refine tp_i (y := xs 3) (congrArg xs (by decide +kernel)) ?_
  have hPc := hP.sub (ws' := [((q 0), .inr (12, (mo q))), ((q 16), .inl (cI, 2, .inl (fun _ => 0)))]) [0, 1] rfl
  have hDc := hD.sub (ws' := [((q 0), .inr (12, (mo q))), ((q 16), .inl (cI, 2, .inl (fun _ => 0)))]) [0, 1] (by decide) rfl
  have hFc := va_free (wc := [((q 0), .inr (12, (mo q))), ((q 16), .inl (cI, 2, .inl (fun _ => 0)))]) hD hS hA [0, 1] rfl
  refine va_calli (va_runV (As := [.int (xs 1), .int (xs 2), .int (xs 3)]) (rest := [.int (-1)]) ⟨hx, hb, hml, hown, hts⟩ (p_X12_lent l dC dI cB cI cJ cZ cQ H.size q (xs 1) (xs 2) (xs 3)) (cwV 3 hts g_law_21_1 rfl rfl rfl (by decide +kernel) ⟨Nat.le_of_ble_eq_true rfl, Nat.le_of_ble_eq_true rfl⟩) ⟨fun a U g mk Z => by obtain ⟨q0, q1, qP, qK, qD⟩ := Z; exact ⟨q0, q1, qP, va_K.moved (u := U) (U := U.calling g mk a) (Vm.Alike.refl U.vm) qK, qD⟩, va_recv hK hPc (ci := 12) (q0 := 0) rfl rfl, fun U hU hW => ⟨rfl, by rw [hU], by rw [hU]; exact hPc, va_K.moved hW.alike hK, hDc.weaken (fun _ _ _ _ => trivial)⟩⟩ rfl rfl hl.1 rfl (lv_room (Nat.le_of_ble_eq_true rfl)) dL_law_904 ⟨Nat.le_of_ble_eq_true rfl, Nat.le_of_ble_eq_true rfl⟩) hS (fun b _ h => hFc b h) hFc (fun r4 u3 t H1 locs ht hvm hw hB hz1 hk1 hS => ?_)
  obtain ⟨hP, hD⟩ := va_join (wr := []) (w1 := []) hP hD [0, 1] [] rfl rfl (by decide) (by decide) hk1 hFc (fun k b h => by simp at h) ⟨fun i j p b h => by simp at h, fun k b h => by simp at h⟩
  clear hk1 hz1 hvm hPc hDc hFc
  generalize H1 = H at hP hS ⊢
  have hP : va_P (dC, dI) vwCl [] H := hP
  have hD : va_D A [] := hD
  subst hw
  refine lv_icmp_eq (tgt := 1273) hx hb dL_law_907 (by decide) (fun _ => ?_) (fun c => absurd c (by decide +kernel))
  exact law_tail l C0 (by decide) (by decide) (by rw [hAe] at hS; exact hS) (lv_sub hl [3, 2, 1, 0] rfl)
set_option maxRecDepth 100000 in
theorem g_law_22_0 : GoodIn lw_tbl (wsV RL 109 RX11 yX11_locked ws_p_X11_locked) := goodIn_sub (show ∀ w ∈ wsV RL 109 RX11 yX11_locked ws_p_X11_locked, w ∈ lw_tbl from (all_app (List.forall_mem_cons.mpr ⟨t_in_5 _ (List.mem_of_getElem? (i := 66) rfl), (List.forall_mem_cons.mpr ⟨t_in_5 _ (List.mem_of_getElem? (i := 67) rfl), (List.forall_mem_cons.mpr ⟨t_in_5 _ (List.mem_of_getElem? (i := 68) rfl), (List.forall_mem_cons.mpr ⟨t_in_1 _ (List.mem_of_getElem? (i := 1) rfl), (fun _ h => absurd h List.not_mem_nil)⟩)⟩)⟩)⟩) (List.forall_mem_cons.mpr ⟨t_in_5 _ (List.mem_of_getElem? (i := 69) rfl), (all_app (all_app (List.forall_mem_cons.mpr ⟨t_in_2 _ (List.mem_of_getElem? (i := 206) rfl), (List.forall_mem_cons.mpr ⟨t_in_2 _ (List.mem_of_getElem? (i := 122) rfl), (fun _ h => absurd h List.not_mem_nil)⟩)⟩) inX11) inX9)⟩))) (by decide +kernel)
set_option maxRecDepth 100000 in
theorem g_law_22_1 : GoodIn lw_tbl (wsV RL 112 RX12 yX12_locked ws_p_X12_locked) := goodIn_sub (show ∀ w ∈ wsV RL 112 RX12 yX12_locked ws_p_X12_locked, w ∈ lw_tbl from (all_app (List.forall_mem_cons.mpr ⟨t_in_9 _ (List.mem_of_getElem? (i := 0) rfl), (List.forall_mem_cons.mpr ⟨t_in_9 _ (List.mem_of_getElem? (i := 1) rfl), (List.forall_mem_cons.mpr ⟨t_in_9 _ (List.mem_of_getElem? (i := 2) rfl), (List.forall_mem_cons.mpr ⟨t_in_1 _ (List.mem_of_getElem? (i := 17) rfl), (fun _ h => absurd h List.not_mem_nil)⟩)⟩)⟩)⟩) (List.forall_mem_cons.mpr ⟨t_in_9 _ (List.mem_of_getElem? (i := 3) rfl), (all_app (List.forall_mem_cons.mpr ⟨t_in_6 _ (List.mem_of_getElem? (i := 43) rfl), (List.forall_mem_cons.mpr ⟨t_in_6 _ (List.mem_of_getElem? (i := 28) rfl), (fun _ h => absurd h List.not_mem_nil)⟩)⟩) inX12)⟩))) (by decide +kernel)
set_option maxHeartbeats 4000000 in
set_option maxRecDepth 100000 in
theorem law_case_22 {p : Program} {e : Env} {s : State} {m : MethodId} {below : List Frame} {meth : Method} {c : Code} (l : Launch) {b : Nat} {xs : Nat → Int32} (C0 : lw_At p s m meth c b 6 xs) (dC : Nat → ClassId) (dI : Nat → Nat → Nat) (cB cI cJ cZ cQ : ClassId) (x : Nat) (u q : Nat → Nat) {H : Heap} {locs : List Loc} {ls : Array Slot} (hK : va_K (dC, dI) vwCl (tyA cB cI cJ cZ cQ) s) (hP : va_P (dC, dI) vwCl [(x, .inr (11, [.ref (u 0), .ref (u 2), .ref (u 5), .ref (u 19), .ref (u 21), .ref (u 26), .ref (u 29), .ref (u 40), .ref (u 49), .ref (u 50), .ref (u 81)])), ((u 50), .inr (9, [.ref (u 51), .ref (u 52), .ref (u 58), .ref (u 59), .ref (u 60), .ref (u 61), .ref (u 62), .ref (u 63), .ref (u 64), .ref (u 65), .ref (u 66), .ref (u 67), .ref (u 68), .ref (u 69), .ref (u 72), .int 0])), ((u 51), .inl (cI, 8, .inl (fun _ => 0))), ((q 0), .inr (12, (mo q))), ((q 16), .inl (cI, 2, .inl (fun _ => 0)))] H) (hD : va_D (fun b : Nat => s.heap.size ≤ b) [(x, .inr (11, [.ref (u 0), .ref (u 2), .ref (u 5), .ref (u 19), .ref (u 21), .ref (u 26), .ref (u 29), .ref (u 40), .ref (u 49), .ref (u 50), .ref (u 81)])), ((u 50), .inr (9, [.ref (u 51), .ref (u 52), .ref (u 58), .ref (u 59), .ref (u 60), .ref (u 61), .ref (u 62), .ref (u 63), .ref (u 64), .ref (u 65), .ref (u 66), .ref (u 67), .ref (u 68), .ref (u 69), .ref (u 72), .int 0])), ((u 51), .inl (cI, 8, .inl (fun _ => 0))), ((q 0), .inr (12, (mo q))), ((q 16), .inl (cI, 2, .inl (fun _ => 0)))]) (hS : va_S (fun b : Nat => s.heap.size ≤ b) s.heap H locs) (hl : lv_has ls 4 [(3, .int 0), (2, .ref (q 0)), (1, .ref x), (0, .ref b)]) : W p l e room_1 s m #[Value.ref b] below meth c H locs 171 178311 (lw_Z below #[Value.ref b] s) (F0 m 912 ls []) := by
  obtain ⟨hx, hb, hr, hml, hown, hts, hX, hbl, hlocks, hgv⟩ := id C0
  have hA : ∀ a : Nat, s.heap.size ≤ a → (fun b : Nat => s.heap.size ≤ b) a := fun _ h => h
  have hbA : ¬ (fun b : Nat => s.heap.size ≤ b) b := Nat.not_le.mpr hbl
  obtain ⟨A, hAe⟩ : ∃ A : Nat → Prop, A = (fun b : Nat => s.heap.size ≤ b) := ⟨_, rfl⟩
  rw [← hAe] at hD hS hA hbA
  refine lv_aload_n hx hb dL_law_912 rfl (lv_at hl 2 rfl) ?_
  have hPc := hP.sub (ws' := [(x, .inr (11, [.ref (u 0), .ref (u 2), .ref (u 5), .ref (u 19), .ref (u 21), .ref (u 26), .ref (u 29), .ref (u 40), .ref (u 49), .ref (u 50), .ref (u 81)])), ((u 50), .inr (9, [.ref (u 51), .ref (u 52), .ref (u 58), .ref (u 59), .ref (u 60), .ref (u 61), .ref (u 62), .ref (u 63), .ref (u 64), .ref (u 65), .ref (u 66), .ref (u 67), .ref (u 68), .ref (u 69), .ref (u 72), .int 0])), ((u 51), .inl (cI, 8, .inl (fun _ => 0)))]) [0, 1, 2] rfl
  have hDc := hD.sub (ws' := [(x, .inr (11, [.ref (u 0), .ref (u 2), .ref (u 5), .ref (u 19), .ref (u 21), .ref (u 26), .ref (u 29), .ref (u 40), .ref (u 49), .ref (u 50), .ref (u 81)])), ((u 50), .inr (9, [.ref (u 51), .ref (u 52), .ref (u 58), .ref (u 59), .ref (u 60), .ref (u 61), .ref (u 62), .ref (u 63), .ref (u 64), .ref (u 65), .ref (u 66), .ref (u 67), .ref (u 68), .ref (u 69), .ref (u 72), .int 0])), ((u 51), .inl (cI, 8, .inl (fun _ => 0)))]) [0, 1, 2] (by decide) rfl
  have hFc := va_free (wc := [(x, .inr (11, [.ref (u 0), .ref (u 2), .ref (u 5), .ref (u 19), .ref (u 21), .ref (u 26), .ref (u 29), .ref (u 40), .ref (u 49), .ref (u 50), .ref (u 81)])), ((u 50), .inr (9, [.ref (u 51), .ref (u 52), .ref (u 58), .ref (u 59), .ref (u 60), .ref (u 61), .ref (u 62), .ref (u 63), .ref (u 64), .ref (u 65), .ref (u 66), .ref (u 67), .ref (u 68), .ref (u 69), .ref (u 72), .int 0])), ((u 51), .inl (cI, 8, .inl (fun _ => 0)))]) hD hS hA [0, 1, 2] rfl
  refine va_calli (va_runV (As := []) (rest := []) ⟨hx, hb, hml, hown, hts⟩ (p_X11_locked l dC dI cB cI cJ cZ cQ H.size x (u 0) (u 2) (u 5) (u 19) (u 21) (u 26) (u 29) (u 40) (u 49) (u 50) (u 81) (u 51) (u 52) (u 58) (u 59) (u 60) (u 61) (u 62) (u 63) (u 64) (u 65) (u 66) (u 67) (u 68) (u 69) (u 72)) (cwV 0 hts g_law_22_0 rfl rfl rfl (by decide +kernel) ⟨Nat.le_of_ble_eq_true rfl, Nat.le_of_ble_eq_true rfl⟩) ⟨fun a U g mk Z => by obtain ⟨q0, q1, qP, qK, qD⟩ := Z; exact ⟨q0, q1, qP, va_K.moved (u := U) (U := U.calling g mk a) (Vm.Alike.refl U.vm) qK, qD⟩, va_recv hK hPc (ci := 11) (q0 := 0) rfl rfl, fun U hU hW => ⟨rfl, by rw [hU], by rw [hU]; exact hPc, va_K.moved hW.alike hK, hDc.weaken (fun _ _ _ _ => trivial)⟩⟩ rfl rfl hl.1 rfl (lv_room (Nat.le_of_ble_eq_true rfl)) dL_law_913 ⟨Nat.le_of_ble_eq_true rfl, Nat.le_of_ble_eq_true rfl⟩) hS (fun b _ h => hFc b h) hFc (fun r2 u1 t H1 locs ht hvm hw hB hz1 hk1 hS => ?_)
  obtain ⟨hP, hD⟩ := va_join (wr := [((q 0), .inr (12, (mo q))), ((q 16), .inl (cI, 2, .inl (fun _ => 0)))]) (w1 := []) hP hD [0, 1, 2] [3, 4] rfl rfl (by decide) (by decide) hk1 hFc (fun k b h => by simp at h) ⟨fun i j p b h => by simp at h, fun k b h => by simp at h⟩
  clear hk1 hz1 hvm hPc hDc hFc
  generalize H1 = H at hP hS ⊢
  have hP : va_P (dC, dI) vwCl [((q 0), .inr (12, (mo q))), ((q 16), .inl (cI, 2, .inl (fun _ => 0)))] H := hP
  have hD : va_D A [((q 0), .inr (12, (mo q))), ((q 16), .inl (cI, 2, .inl (fun _ => 0)))] := hD
  subst hw
  refine lv_aload_n hx hb dL_law_916 rfl (lv_at hl 1 rfl) ?_
  have hPc := hP.sub (ws' := [((q 0), .inr (12, (mo q))), ((q 16), .inl (cI, 2, .inl (fun _ => 0)))]) [0, 1] rfl
  have hDc := hD.sub (ws' := [((q 0), .inr (12, (mo q))), ((q 16), .inl (cI, 2, .inl (fun _ => 0)))]) [0, 1] (by decide) rfl
  have hFc := va_free (wc := [((q 0), .inr (12, (mo q))), ((q 16), .inl (cI, 2, .inl (fun _ => 0)))]) hD hS hA [0, 1] rfl
  refine va_calli (va_runV (As := []) (rest := [.int 0]) ⟨hx, hb, hml, hown, hts⟩ (p_X12_locked l dC dI cB cI cJ cZ cQ H.size q) (cwV 0 hts g_law_22_1 rfl rfl rfl (by decide +kernel) ⟨Nat.le_of_ble_eq_true rfl, Nat.le_of_ble_eq_true rfl⟩) ⟨fun a U g mk Z => by obtain ⟨q0, q1, qP, qK, qD⟩ := Z; exact ⟨q0, q1, qP, va_K.moved (u := U) (U := U.calling g mk a) (Vm.Alike.refl U.vm) qK, qD⟩, va_recv hK hPc (ci := 12) (q0 := 0) rfl rfl, fun U hU hW => ⟨rfl, by rw [hU], by rw [hU]; exact hPc, va_K.moved hW.alike hK, hDc.weaken (fun _ _ _ _ => trivial)⟩⟩ rfl rfl hl.1 rfl (lv_room (Nat.le_of_ble_eq_true rfl)) dL_law_917 ⟨Nat.le_of_ble_eq_true rfl, Nat.le_of_ble_eq_true rfl⟩) hS (fun b _ h => hFc b h) hFc (fun r4 u3 t H1 locs ht hvm hw hB hz1 hk1 hS => ?_)
  obtain ⟨hP, hD⟩ := va_join (wr := []) (w1 := []) hP hD [0, 1] [] rfl rfl (by decide) (by decide) hk1 hFc (fun k b h => by simp at h) ⟨fun i j p b h => by simp at h, fun k b h => by simp at h⟩
  clear hk1 hz1 hvm hPc hDc hFc
  generalize H1 = H at hP hS ⊢
  have hP : va_P (dC, dI) vwCl [] H := hP
  have hD : va_D A [] := hD
  subst hw
  refine lv_icmp_eq (tgt := 1273) hx hb dL_law_920 (by decide) (fun _ => ?_) (fun c => absurd c (by decide +kernel))
  exact law_tail l C0 (by decide) (by decide) (by rw [hAe] at hS; exact hS) (lv_sub hl [3, 2, 1, 0] rfl)
set_option maxRecDepth 100000 in
theorem g_law_23_0 : GoodIn lw_tbl (wsV RL 113 RX11 yX11_can ws_p_X11_can) := goodIn_sub (show ∀ w ∈ wsV RL 113 RX11 yX11_can ws_p_X11_can, w ∈ lw_tbl from (all_app (List.forall_mem_cons.mpr ⟨t_in_5 _ (List.mem_of_getElem? (i := 74) rfl), (List.forall_mem_cons.mpr ⟨t_in_5 _ (List.mem_of_getElem? (i := 75) rfl), (List.forall_mem_cons.mpr ⟨t_in_5 _ (List.mem_of_getElem? (i := 76) rfl), (List.forall_mem_cons.mpr ⟨t_in_1 _ (List.mem_of_getElem? (i := 1) rfl), (fun _ h => absurd h List.not_mem_nil)⟩)⟩)⟩)⟩) (List.forall_mem_cons.mpr ⟨t_in_5 _ (List.mem_of_getElem? (i := 77) rfl), (all_app (all_app (List.forall_mem_cons.mpr ⟨t_in_2 _ (List.mem_of_getElem? (i := 206) rfl), (List.forall_mem_cons.mpr ⟨t_in_4 _ (List.mem_of_getElem? (i := 24) rfl), (List.forall_mem_cons.mpr ⟨t_in_4 _ (List.mem_of_getElem? (i := 25) rfl), (List.forall_mem_cons.mpr ⟨t_in_4 _ (List.mem_of_getElem? (i := 26) rfl), (List.forall_mem_cons.mpr ⟨t_in_1 _ (List.mem_of_getElem? (i := 15) rfl), (List.forall_mem_cons.mpr ⟨t_in_4 _ (List.mem_of_getElem? (i := 27) rfl), (List.forall_mem_cons.mpr ⟨t_in_2 _ (List.mem_of_getElem? (i := 115) rfl), (fun _ h => absurd h List.not_mem_nil)⟩)⟩)⟩)⟩)⟩)⟩)⟩) inX11) inX9)⟩))) (by decide +kernel)
set_option maxRecDepth 100000 in
theorem g_law_23_1 : GoodIn lw_tbl (wsV RL 116 RX12 yX12_can ws_p_X12_can) := goodIn_sub (show ∀ w ∈ wsV RL 116 RX12 yX12_can ws_p_X12_can, w ∈ lw_tbl from (all_app (List.forall_mem_cons.mpr ⟨t_in_9 _ (List.mem_of_getElem? (i := 8) rfl), (List.forall_mem_cons.mpr ⟨t_in_9 _ (List.mem_of_getElem? (i := 9) rfl), (List.forall_mem_cons.mpr ⟨t_in_9 _ (List.mem_of_getElem? (i := 10) rfl), (List.forall_mem_cons.mpr ⟨t_in_1 _ (List.mem_of_getElem? (i := 17) rfl), (fun _ h => absurd h List.not_mem_nil)⟩)⟩)⟩)⟩) (List.forall_mem_cons.mpr ⟨t_in_9 _ (List.mem_of_getElem? (i := 11) rfl), (all_app (List.forall_mem_cons.mpr ⟨t_in_6 _ (List.mem_of_getElem? (i := 43) rfl), (List.forall_mem_cons.mpr ⟨t_in_6 _ (List.mem_of_getElem? (i := 28) rfl), (List.forall_mem_cons.mpr ⟨t_in_7 _ (List.mem_of_getElem? (i := 144) rfl), (List.forall_mem_cons.mpr ⟨t_in_7 _ (List.mem_of_getElem? (i := 145) rfl), (List.forall_mem_cons.mpr ⟨t_in_1 _ (List.mem_of_getElem? (i := 17) rfl), (List.forall_mem_cons.mpr ⟨t_in_7 _ (List.mem_of_getElem? (i := 146) rfl), (List.forall_mem_cons.mpr ⟨t_in_8 _ (List.mem_of_getElem? (i := 50) rfl), (List.forall_mem_cons.mpr ⟨t_in_8 _ (List.mem_of_getElem? (i := 52) rfl), (List.forall_mem_cons.mpr ⟨s_in_8 (yX12_isDoor, 85) (List.mem_of_getElem? (i := 2) rfl), (List.forall_mem_cons.mpr ⟨t_in_8 _ (List.mem_of_getElem? (i := 53) rfl), (List.forall_mem_cons.mpr ⟨t_in_6 _ (List.mem_of_getElem? (i := 31) rfl), (fun _ h => absurd h List.not_mem_nil)⟩)⟩)⟩)⟩)⟩)⟩)⟩)⟩)⟩)⟩)⟩) inX12)⟩))) (by decide +kernel)
set_option maxHeartbeats 4000000 in
set_option maxRecDepth 100000 in
theorem law_case_23 {p : Program} {e : Env} {s : State} {m : MethodId} {below : List Frame} {meth : Method} {c : Code} (l : Launch) {b : Nat} {xs : Nat → Int32} (C0 : lw_At p s m meth c b 6 xs) (dC : Nat → ClassId) (dI : Nat → Nat → Nat) (cB cI cJ cZ cQ : ClassId) (x : Nat) (u q : Nat → Nat) {H : Heap} {locs : List Loc} {ls : Array Slot} (hK : va_K (dC, dI) vwCl (tyA cB cI cJ cZ cQ) s) (hP : va_P (dC, dI) vwCl [(x, .inr (11, [.ref (u 0), .ref (u 2), .ref (u 5), .ref (u 19), .ref (u 21), .ref (u 26), .ref (u 29), .ref (u 40), .ref (u 49), .ref (u 50), .ref (u 81)])), ((u 50), .inr (9, [.ref (u 51), .ref (u 52), .ref (u 58), .ref (u 59), .ref (u 60), .ref (u 61), .ref (u 62), .ref (u 63), .ref (u 64), .ref (u 65), .ref (u 66), .ref (u 67), .ref (u 68), .ref (u 69), .ref (u 72), .int 0])), ((u 51), .inl (cI, 8, .inl (fun _ => 0))), ((q 0), .inr (12, (mo q))), ((q 16), .inl (cI, 2, .inl (fun _ => 0))), ((q 4), .inl (cI, 2, .inl (fun _ => 0)))] H) (hD : va_D (fun b : Nat => s.heap.size ≤ b) [(x, .inr (11, [.ref (u 0), .ref (u 2), .ref (u 5), .ref (u 19), .ref (u 21), .ref (u 26), .ref (u 29), .ref (u 40), .ref (u 49), .ref (u 50), .ref (u 81)])), ((u 50), .inr (9, [.ref (u 51), .ref (u 52), .ref (u 58), .ref (u 59), .ref (u 60), .ref (u 61), .ref (u 62), .ref (u 63), .ref (u 64), .ref (u 65), .ref (u 66), .ref (u 67), .ref (u 68), .ref (u 69), .ref (u 72), .int 0])), ((u 51), .inl (cI, 8, .inl (fun _ => 0))), ((q 0), .inr (12, (mo q))), ((q 16), .inl (cI, 2, .inl (fun _ => 0))), ((q 4), .inl (cI, 2, .inl (fun _ => 0)))]) (hS : va_S (fun b : Nat => s.heap.size ≤ b) s.heap H locs) (hl : lv_has ls 4 [(3, .int 0), (2, .ref (q 0)), (1, .ref x), (0, .ref b)]) : W p l e room_1 s m #[Value.ref b] below meth c H locs 171 178311 (lw_Z below #[Value.ref b] s) (F0 m 925 ls []) := by
  obtain ⟨hx, hb, hr, hml, hown, hts, hX, hbl, hlocks, hgv⟩ := id C0
  have hA : ∀ a : Nat, s.heap.size ≤ a → (fun b : Nat => s.heap.size ≤ b) a := fun _ h => h
  have hbA : ¬ (fun b : Nat => s.heap.size ≤ b) b := Nat.not_le.mpr hbl
  obtain ⟨A, hAe⟩ : ∃ A : Nat → Prop, A = (fun b : Nat => s.heap.size ≤ b) := ⟨_, rfl⟩
  rw [← hAe] at hD hS hA hbA
  refine lv_aload_n hx hb dL_law_925 rfl (lv_at hl 2 rfl) ?_
  refine lv_aload_n hx hb dL_law_926 rfl (lv_at hl 3 rfl) ?_
  refine lv_iload_n hx hb dL_law_927 rfl (lv_at hl 0 rfl) ?_
  refine lv_iconst (v := 1) hx hb dL_law_928 (by decide +kernel) ?_
  refine lv_iadd hx hb dL_law_929 ?_
  refine tp_i (y := 1) (by decide +kernel) ?_
  refine va_sld hx hb hX hbl hbA hS (vpc _ _ (by decide +kernel)) dL_law_930 ?_
  refine tp_i (y := xs 1) (congrArg xs (by decide +kernel)) ?_
  refine lv_aload_n hx hb dL_law_931 rfl (lv_at hl 3 rfl) ?_
  refine lv_iload_n hx hb dL_law_932 rfl (lv_at hl 0 rfl) ?_
  refine lv_iconst (v := 2) hx hb dL_law_933 (by decide +kernel) ?_
  refine lv_iadd hx hb dL_law_934 ?_
  refine tp_i (y := 2) (by decide +kernel) ?_
  refine va_sld hx hb hX hbl hbA hS (vpc _ _ (by decide +kernel)) dL_law_935 ?_
  refine tp_i (y := xs 2) (congrArg xs (by decide +kernel)) ?_
  have hPc := hP.sub (ws' := [(x, .inr (11, [.ref (u 0), .ref (u 2), .ref (u 5), .ref (u 19), .ref (u 21), .ref (u 26), .ref (u 29), .ref (u 40), .ref (u 49), .ref (u 50), .ref (u 81)])), ((u 50), .inr (9, [.ref (u 51), .ref (u 52), .ref (u 58), .ref (u 59), .ref (u 60), .ref (u 61), .ref (u 62), .ref (u 63), .ref (u 64), .ref (u 65), .ref (u 66), .ref (u 67), .ref (u 68), .ref (u 69), .ref (u 72), .int 0])), ((u 51), .inl (cI, 8, .inl (fun _ => 0)))]) [0, 1, 2] rfl
  have hDc := hD.sub (ws' := [(x, .inr (11, [.ref (u 0), .ref (u 2), .ref (u 5), .ref (u 19), .ref (u 21), .ref (u 26), .ref (u 29), .ref (u 40), .ref (u 49), .ref (u 50), .ref (u 81)])), ((u 50), .inr (9, [.ref (u 51), .ref (u 52), .ref (u 58), .ref (u 59), .ref (u 60), .ref (u 61), .ref (u 62), .ref (u 63), .ref (u 64), .ref (u 65), .ref (u 66), .ref (u 67), .ref (u 68), .ref (u 69), .ref (u 72), .int 0])), ((u 51), .inl (cI, 8, .inl (fun _ => 0)))]) [0, 1, 2] (by decide) rfl
  have hFc := va_free (wc := [(x, .inr (11, [.ref (u 0), .ref (u 2), .ref (u 5), .ref (u 19), .ref (u 21), .ref (u 26), .ref (u 29), .ref (u 40), .ref (u 49), .ref (u 50), .ref (u 81)])), ((u 50), .inr (9, [.ref (u 51), .ref (u 52), .ref (u 58), .ref (u 59), .ref (u 60), .ref (u 61), .ref (u 62), .ref (u 63), .ref (u 64), .ref (u 65), .ref (u 66), .ref (u 67), .ref (u 68), .ref (u 69), .ref (u 72), .int 0])), ((u 51), .inl (cI, 8, .inl (fun _ => 0)))]) hD hS hA [0, 1, 2] rfl
  refine va_calli (va_runV (As := [.int (xs 1), .int (xs 2)]) (rest := []) ⟨hx, hb, hml, hown, hts⟩ (p_X11_can l dC dI cB cI cJ cZ cQ H.size x (u 0) (u 2) (u 5) (u 19) (u 21) (u 26) (u 29) (u 40) (u 49) (u 50) (u 81) (u 51) (u 52) (u 58) (u 59) (u 60) (u 61) (u 62) (u 63) (u 64) (u 65) (u 66) (u 67) (u 68) (u 69) (u 72) (xs 1) (xs 2)) (cwV 2 hts g_law_23_0 rfl rfl rfl (by decide +kernel) ⟨Nat.le_of_ble_eq_true rfl, Nat.le_of_ble_eq_true rfl⟩) ⟨fun a U g mk Z => by obtain ⟨q0, q1, qP, qK, qD⟩ := Z; exact ⟨q0, q1, qP, va_K.moved (u := U) (U := U.calling g mk a) (Vm.Alike.refl U.vm) qK, qD⟩, va_recv hK hPc (ci := 11) (q0 := 0) rfl rfl, fun U hU hW => ⟨rfl, by rw [hU], by rw [hU]; exact hPc, va_K.moved hW.alike hK, hDc.weaken (fun _ _ _ _ => trivial)⟩⟩ rfl rfl hl.1 rfl (lv_room (Nat.le_of_ble_eq_true rfl)) dL_law_936 ⟨Nat.le_of_ble_eq_true rfl, Nat.le_of_ble_eq_true rfl⟩) hS (fun b _ h => hFc b h) hFc (fun r2 u1 t H1 locs ht hvm hw hB hz1 hk1 hS => ?_)
  obtain ⟨hP, hD⟩ := va_join (wr := [((q 0), .inr (12, (mo q))), ((q 16), .inl (cI, 2, .inl (fun _ => 0))), ((q 4), .inl (cI, 2, .inl (fun _ => 0)))]) (w1 := []) hP hD [0, 1, 2] [3, 4, 5] rfl rfl (by decide) (by decide) hk1 hFc (fun k b h => by simp at h) ⟨fun i j p b h => by simp at h, fun k b h => by simp at h⟩
  clear hk1 hz1 hvm hPc hDc hFc
  generalize H1 = H at hP hS ⊢
  have hP : va_P (dC, dI) vwCl [((q 0), .inr (12, (mo q))), ((q 16), .inl (cI, 2, .inl (fun _ => 0))), ((q 4), .inl (cI, 2, .inl (fun _ => 0)))] H := hP
  have hD : va_D A [((q 0), .inr (12, (mo q))), ((q 16), .inl (cI, 2, .inl (fun _ => 0))), ((q 4), .inl (cI, 2, .inl (fun _ => 0)))] := hD
  subst hw
  refine lv_aload_n hx hb dL_law_939 rfl (lv_at hl 1 rfl) ?_
  refine lv_aload_n hx hb dL_law_940 rfl (lv_at hl 3 rfl) ?_
  refine lv_iload_n hx hb dL_law_941 rfl (lv_at hl 0 rfl) ?_
  refine lv_iconst (v := 1) hx hb dL_law_942 (by decide +kernel) ?_
  refine lv_iadd hx hb dL_law_943 ?_
  refine tp_i (y := 1) (by decide +kernel) ?_
  refine va_sld hx hb hX hbl hbA hS (vpc _ _ (by decide +kernel)) dL_law_944 ?_
  refine tp_i (y := xs 1) (congrArg xs (by decide +kernel)) ?_
  refine lv_aload_n hx hb dL_law_945 rfl (lv_at hl 3 rfl) ?_
  refine lv_iload_n hx hb dL_law_946 rfl (lv_at hl 0 rfl) ?_
  refine lv_iconst (v := 2) hx hb dL_law_947 (by decide +kernel) ?_
  refine lv_iadd hx hb dL_law_948 ?_
  refine tp_i (y := 2) (by decide +kernel) ?_
  refine va_sld hx hb hX hbl hbA hS (vpc _ _ (by decide +kernel)) dL_law_949 ?_
  refine tp_i (y := xs 2) (congrArg xs (by decide +kernel)) ?_
  have hPc := hP.sub (ws' := [((q 0), .inr (12, (mo q))), ((q 16), .inl (cI, 2, .inl (fun _ => 0))), ((q 4), .inl (cI, 2, .inl (fun _ => 0)))]) [0, 1, 2] rfl
  have hDc := hD.sub (ws' := [((q 0), .inr (12, (mo q))), ((q 16), .inl (cI, 2, .inl (fun _ => 0))), ((q 4), .inl (cI, 2, .inl (fun _ => 0)))]) [0, 1, 2] (by decide) rfl
  have hFc := va_free (wc := [((q 0), .inr (12, (mo q))), ((q 16), .inl (cI, 2, .inl (fun _ => 0))), ((q 4), .inl (cI, 2, .inl (fun _ => 0)))]) hD hS hA [0, 1, 2] rfl
  refine va_calli (va_runV (As := [.int (xs 1), .int (xs 2)]) (rest := [.int (-1)]) ⟨hx, hb, hml, hown, hts⟩ (p_X12_can l dC dI cB cI cJ cZ cQ H.size q (xs 1) (xs 2)) (cwV 2 hts g_law_23_1 rfl rfl rfl (by decide +kernel) ⟨Nat.le_of_ble_eq_true rfl, Nat.le_of_ble_eq_true rfl⟩) ⟨fun a U g mk Z => by obtain ⟨q0, q1, qP, qK, qD⟩ := Z; exact ⟨q0, q1, qP, va_K.moved (u := U) (U := U.calling g mk a) (Vm.Alike.refl U.vm) qK, qD⟩, va_recv hK hPc (ci := 12) (q0 := 0) rfl rfl, fun U hU hW => ⟨rfl, by rw [hU], by rw [hU]; exact hPc, va_K.moved hW.alike hK, hDc.weaken (fun _ _ _ _ => trivial)⟩⟩ rfl rfl hl.1 rfl (lv_room (Nat.le_of_ble_eq_true rfl)) dL_law_950 ⟨Nat.le_of_ble_eq_true rfl, Nat.le_of_ble_eq_true rfl⟩) hS (fun b _ h => hFc b h) hFc (fun r4 u3 t H1 locs ht hvm hw hB hz1 hk1 hS => ?_)
  obtain ⟨hP, hD⟩ := va_join (wr := []) (w1 := []) hP hD [0, 1, 2] [] rfl rfl (by decide) (by decide) hk1 hFc (fun k b h => by simp at h) ⟨fun i j p b h => by simp at h, fun k b h => by simp at h⟩
  clear hk1 hz1 hvm hPc hDc hFc
  generalize H1 = H at hP hS ⊢
  have hP : va_P (dC, dI) vwCl [] H := hP
  have hD : va_D A [] := hD
  subst hw
  refine lv_icmp_eq (tgt := 1273) hx hb dL_law_953 (by decide) (fun _ => ?_) (fun c => absurd c (by decide +kernel))
  exact law_tail l C0 (by decide) (by decide) (by rw [hAe] at hS; exact hS) (lv_sub hl [3, 2, 1, 0] rfl)
