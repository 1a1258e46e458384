set_option maxRecDepth 100000 in
theorem g_law_36_0 : GoodIn lw_tbl (wsV RL 167 RX11 yX11_status ws_p_X11_status) := goodIn_sub (show ∀ w ∈ wsV RL 167 RX11 yX11_status ws_p_X11_status, w ∈ lw_tbl from (all_app (List.forall_mem_cons.mpr ⟨t_in_6 _ (List.mem_of_getElem? (i := 5) rfl), (List.forall_mem_cons.mpr ⟨t_in_6 _ (List.mem_of_getElem? (i := 6) rfl), (List.forall_mem_cons.mpr ⟨t_in_6 _ (List.mem_of_getElem? (i := 7) rfl), (List.forall_mem_cons.mpr ⟨t_in_1 _ (List.mem_of_getElem? (i := 1) rfl), (fun _ h => absurd h List.not_mem_nil)⟩)⟩)⟩)⟩) (List.forall_mem_cons.mpr ⟨t_in_6 _ (List.mem_of_getElem? (i := 8) rfl), (all_app (List.forall_mem_cons.mpr ⟨t_in_2 _ (List.mem_of_getElem? (i := 205) rfl), (fun _ h => absurd h List.not_mem_nil)⟩) inX11)⟩))) (by decide +kernel)
set_option maxRecDepth 100000 in
theorem g_law_36_1 : GoodIn lw_tbl (wsV RL 170 RX12 yX12_status ws_p_X12_status) := goodIn_sub (show ∀ w ∈ wsV RL 170 RX12 yX12_status ws_p_X12_status, w ∈ lw_tbl from (all_app (List.forall_mem_cons.mpr ⟨t_in_8 _ (List.mem_of_getElem? (i := 5) rfl), (List.forall_mem_cons.mpr ⟨t_in_8 _ (List.mem_of_getElem? (i := 6) rfl), (List.forall_mem_cons.mpr ⟨t_in_8 _ (List.mem_of_getElem? (i := 7) rfl), (List.forall_mem_cons.mpr ⟨t_in_1 _ (List.mem_of_getElem? (i := 17) rfl), (fun _ h => absurd h List.not_mem_nil)⟩)⟩)⟩)⟩) (List.forall_mem_cons.mpr ⟨t_in_8 _ (List.mem_of_getElem? (i := 8) rfl), (all_app (List.forall_mem_cons.mpr ⟨t_in_7 _ (List.mem_of_getElem? (i := 144) rfl), (List.forall_mem_cons.mpr ⟨t_in_7 _ (List.mem_of_getElem? (i := 145) rfl), (List.forall_mem_cons.mpr ⟨t_in_1 _ (List.mem_of_getElem? (i := 17) rfl), (List.forall_mem_cons.mpr ⟨t_in_7 _ (List.mem_of_getElem? (i := 146) rfl), (List.forall_mem_cons.mpr ⟨t_in_6 _ (List.mem_of_getElem? (i := 74) rfl), (fun _ h => absurd h List.not_mem_nil)⟩)⟩)⟩)⟩)⟩) inX12)⟩))) (by decide +kernel)
set_option maxRecDepth 100000 in
theorem g_law_36_2 : GoodIn lw_tbl (wsV RL 170 RX12 yX12_status ws_p_X12_status) := goodIn_sub (show ∀ w ∈ wsV RL 170 RX12 yX12_status ws_p_X12_status, w ∈ lw_tbl from (all_app (List.forall_mem_cons.mpr ⟨t_in_8 _ (List.mem_of_getElem? (i := 5) rfl), (List.forall_mem_cons.mpr ⟨t_in_8 _ (List.mem_of_getElem? (i := 6) rfl), (List.forall_mem_cons.mpr ⟨t_in_8 _ (List.mem_of_getElem? (i := 7) rfl), (List.forall_mem_cons.mpr ⟨t_in_1 _ (List.mem_of_getElem? (i := 17) rfl), (fun _ h => absurd h List.not_mem_nil)⟩)⟩)⟩)⟩) (List.forall_mem_cons.mpr ⟨t_in_8 _ (List.mem_of_getElem? (i := 8) rfl), (all_app (List.forall_mem_cons.mpr ⟨t_in_7 _ (List.mem_of_getElem? (i := 144) rfl), (List.forall_mem_cons.mpr ⟨t_in_7 _ (List.mem_of_getElem? (i := 145) rfl), (List.forall_mem_cons.mpr ⟨t_in_1 _ (List.mem_of_getElem? (i := 17) rfl), (List.forall_mem_cons.mpr ⟨t_in_7 _ (List.mem_of_getElem? (i := 146) rfl), (List.forall_mem_cons.mpr ⟨t_in_6 _ (List.mem_of_getElem? (i := 74) rfl), (fun _ h => absurd h List.not_mem_nil)⟩)⟩)⟩)⟩)⟩) inX12)⟩))) (by decide +kernel)
set_option maxHeartbeats 4000000 in
set_option maxRecDepth 100000 in
theorem law_case_36 {p : Program} {e : Env} {s : State} {m : MethodId} {below : List Frame} {meth : Method} {c : Code} (l : Launch) {b : Nat} {xs : Nat → Int32} (C0 : lw_At p s m meth c b 6 xs) (dC : Nat → ClassId) (dI : Nat → Nat → Nat) (cB cI cJ cZ cQ : ClassId) (x : Nat) (u q : Nat → Nat) {H : Heap} {locs : List Loc} {ls : Array Slot} (hK : va_K (dC, dI) vwCl (tyA cB cI cJ cZ cQ) s) (hP : va_P (dC, dI) vwCl [(x, .inr (11, [.ref (u 0), .ref (u 2), .ref (u 5), .ref (u 19), .ref (u 21), .ref (u 26), .ref (u 29), .ref (u 40), .ref (u 49), .ref (u 50), .ref (u 81)])), ((u 49), .inl (cI, 6, .inl (fun _ => 0))), ((q 0), .inr (12, (mo q))), ((q 41), .inl (cI, 6, .inl (fun _ => 0)))] H) (hD : va_D (fun b : Nat => s.heap.size ≤ b) [(x, .inr (11, [.ref (u 0), .ref (u 2), .ref (u 5), .ref (u 19), .ref (u 21), .ref (u 26), .ref (u 29), .ref (u 40), .ref (u 49), .ref (u 50), .ref (u 81)])), ((u 49), .inl (cI, 6, .inl (fun _ => 0))), ((q 0), .inr (12, (mo q))), ((q 41), .inl (cI, 6, .inl (fun _ => 0)))]) (hS : va_S (fun b : Nat => s.heap.size ≤ b) s.heap H locs) (hl : lv_has ls 4 [(3, .int 0), (2, .ref (q 0)), (1, .ref x), (0, .ref b)]) : W p l e room_1 s m #[Value.ref b] below meth c H locs 171 178311 (lw_Z below #[Value.ref b] s) (F0 m 1250 ls []) := by
  obtain ⟨hx, hb, hr, hml, hown, hts, hX, hbl, hlocks, hgv⟩ := id C0
  have hA : ∀ a : Nat, s.heap.size ≤ a → (fun b : Nat => s.heap.size ≤ b) a := fun _ h => h
  have hbA : ¬ (fun b : Nat => s.heap.size ≤ b) b := Nat.not_le.mpr hbl
  obtain ⟨A, hAe⟩ : ∃ A : Nat → Prop, A = (fun b : Nat => s.heap.size ≤ b) := ⟨_, rfl⟩
  rw [← hAe] at hD hS hA hbA
  refine lv_aload_n hx hb dL_law_1250 rfl (lv_at hl 2 rfl) ?_
  refine lv_aload_n hx hb dL_law_1251 rfl (lv_at hl 3 rfl) ?_
  refine lv_iload_n hx hb dL_law_1252 rfl (lv_at hl 0 rfl) ?_
  refine lv_iconst (v := 1) hx hb dL_law_1253 (by decide +kernel) ?_
  refine lv_iadd hx hb dL_law_1254 ?_
  refine tp_i (y := 1) (by decide +kernel) ?_
  refine va_sld hx hb hX hbl hbA hS (vpc _ _ (by decide +kernel)) dL_law_1255 ?_
  refine tp_i (y := xs 1) (congrArg xs (by decide +kernel)) ?_
  have hPc := hP.sub (ws' := [(x, .inr (11, [.ref (u 0), .ref (u 2), .ref (u 5), .ref (u 19), .ref (u 21), .ref (u 26), .ref (u 29), .ref (u 40), .ref (u 49), .ref (u 50), .ref (u 81)])), ((u 49), .inl (cI, 6, .inl (fun _ => 0)))]) [0, 1] rfl
  have hDc := hD.sub (ws' := [(x, .inr (11, [.ref (u 0), .ref (u 2), .ref (u 5), .ref (u 19), .ref (u 21), .ref (u 26), .ref (u 29), .ref (u 40), .ref (u 49), .ref (u 50), .ref (u 81)])), ((u 49), .inl (cI, 6, .inl (fun _ => 0)))]) [0, 1] (by decide) rfl
  have hFc := va_free (wc := [(x, .inr (11, [.ref (u 0), .ref (u 2), .ref (u 5), .ref (u 19), .ref (u 21), .ref (u 26), .ref (u 29), .ref (u 40), .ref (u 49), .ref (u 50), .ref (u 81)])), ((u 49), .inl (cI, 6, .inl (fun _ => 0)))]) hD hS hA [0, 1] rfl
  refine va_calli (va_runV (As := [.int (xs 1)]) (rest := []) ⟨hx, hb, hml, hown, hts⟩ (p_X11_status l dC dI cB cI cJ cZ cQ H.size x (u 0) (u 2) (u 5) (u 19) (u 21) (u 26) (u 29) (u 40) (u 49) (u 50) (u 81) (xs 1)) (cwV 1 hts g_law_36_0 rfl rfl rfl (by decide +kernel) ⟨Nat.le_of_ble_eq_true rfl, Nat.le_of_ble_eq_true rfl⟩) ⟨fun a U g mk Z => by obtain ⟨q0, q1, qP, qK, qD⟩ := Z; exact ⟨q0, q1, qP, va_K.moved (u := U) (U := U.calling g mk a) (Vm.Alike.refl U.vm) qK, qD⟩, va_recv hK hPc (ci := 11) (q0 := 0) rfl rfl, fun U hU hW => ⟨rfl, by rw [hU], by rw [hU]; exact hPc, va_K.moved hW.alike hK, hDc.weaken (fun _ _ _ _ => trivial)⟩⟩ rfl rfl hl.1 rfl (lv_room (Nat.le_of_ble_eq_true rfl)) dL_law_1256 ⟨Nat.le_of_ble_eq_true rfl, Nat.le_of_ble_eq_true rfl⟩) hS (fun b _ h => hFc b h) hFc (fun r2 u1 t H1 locs ht hvm hw hB hz1 hk1 hS => ?_)
  obtain ⟨hP, hD⟩ := va_join (wr := [((q 0), .inr (12, (mo q))), ((q 41), .inl (cI, 6, .inl (fun _ => 0)))]) (w1 := []) hP hD [0, 1] [2, 3] rfl rfl (by decide) (by decide) hk1 hFc (fun k b h => by simp at h) ⟨fun i j p b h => by simp at h, fun k b h => by simp at h⟩
  clear hk1 hz1 hvm hPc hDc hFc
  generalize H1 = H at hP hS ⊢
  have hP : va_P (dC, dI) vwCl [((q 0), .inr (12, (mo q))), ((q 41), .inl (cI, 6, .inl (fun _ => 0)))] H := hP
  have hD : va_D A [((q 0), .inr (12, (mo q))), ((q 41), .inl (cI, 6, .inl (fun _ => 0)))] := hD
  rcases hw with ⟨hw, hcu1⟩ | ⟨hw, hcu1⟩
  · subst hw
    refine lv_aload_n hx hb dL_law_1259 rfl (lv_at hl 1 rfl) ?_
    refine lv_aload_n hx hb dL_law_1260 rfl (lv_at hl 3 rfl) ?_
    refine lv_iload_n hx hb dL_law_1261 rfl (lv_at hl 0 rfl) ?_
    refine lv_iconst (v := 1) hx hb dL_law_1262 (by decide +kernel) ?_
    refine lv_iadd hx hb dL_law_1263 ?_
    refine tp_i (y := 1) (by decide +kernel) ?_
    refine va_sld hx hb hX hbl hbA hS (vpc _ _ (by decide +kernel)) dL_law_1264 ?_
    refine tp_i (y := xs 1) (congrArg xs (by decide +kernel)) ?_
    have hPc := hP.sub (ws' := [((q 0), .inr (12, (mo q))), ((q 41), .inl (cI, 6, .inl (fun _ => 0)))]) [0, 1] rfl
    have hDc := hD.sub (ws' := [((q 0), .inr (12, (mo q))), ((q 41), .inl (cI, 6, .inl (fun _ => 0)))]) [0, 1] (by decide) rfl
    have hFc := va_free (wc := [((q 0), .inr (12, (mo q))), ((q 41), .inl (cI, 6, .inl (fun _ => 0)))]) hD hS hA [0, 1] rfl
    refine va_calli (va_runV (As := [.int (xs 1)]) (rest := [.int (-1)]) ⟨hx, hb, hml, hown, hts⟩ (p_X12_status l dC dI cB cI cJ cZ cQ H.size q (xs 1)) (cwV 1 hts g_law_36_1 rfl rfl rfl (by decide +kernel) ⟨Nat.le_of_ble_eq_true rfl, Nat.le_of_ble_eq_true rfl⟩) ⟨fun a U g mk Z => by obtain ⟨q0, q1, qP, qK, qD⟩ := Z; exact ⟨q0, q1, qP, va_K.moved (u := U) (U := U.calling g mk a) (Vm.Alike.refl U.vm) qK, qD⟩, va_recv hK hPc (ci := 12) (q0 := 0) rfl rfl, fun U hU hW => ⟨rfl, by rw [hU], by rw [hU]; exact hPc, va_K.moved hW.alike hK, hDc.weaken (fun _ _ _ _ => trivial)⟩⟩ rfl rfl hl.1 rfl (lv_room (Nat.le_of_ble_eq_true rfl)) dL_law_1265 ⟨Nat.le_of_ble_eq_true rfl, Nat.le_of_ble_eq_true rfl⟩) hS (fun b _ h => hFc b h) hFc (fun r4 u3 t H1 locs ht hvm hw hB hz1 hk1 hS => ?_)
    obtain ⟨hP, hD⟩ := va_join (wr := []) (w1 := []) hP hD [0, 1] [] rfl rfl (by decide) (by decide) hk1 hFc (fun k b h => by simp at h) ⟨fun i j p b h => by simp at h, fun k b h => by simp at h⟩
    clear hk1 hz1 hvm hPc hDc hFc
    generalize H1 = H at hP hS ⊢
    have hP : va_P (dC, dI) vwCl [] H := hP
    have hD : va_D A [] := hD
    rcases hw with ⟨hw, hcu3⟩ | ⟨hw, hcu3⟩
    · subst hw
      refine lv_icmp_eq (tgt := 1273) hx hb dL_law_1268 (by decide) (fun _ => ?_) (fun c => absurd c (by decide +kernel))
      exact law_tail l C0 (by decide) (by decide) (by rw [hAe] at hS; exact hS) (lv_sub hl [3, 2, 1, 0] rfl)
    · subst hw
      refine lv_icmp_eq (tgt := 1273) hx hb dL_law_1268 (by decide) (fun c => absurd c (by decide +kernel)) (fun _ => ?_)
      refine lv_iconst (v := 0) hx hb dL_law_1271 (by decide +kernel) ?_
      exact False.elim (by omega)
  · subst hw
    refine lv_aload_n hx hb dL_law_1259 rfl (lv_at hl 1 rfl) ?_
    refine lv_aload_n hx hb dL_law_1260 rfl (lv_at hl 3 rfl) ?_
    refine lv_iload_n hx hb dL_law_1261 rfl (lv_at hl 0 rfl) ?_
    refine lv_iconst (v := 1) hx hb dL_law_1262 (by decide +kernel) ?_
    refine lv_iadd hx hb dL_law_1263 ?_
    refine tp_i (y := 1) (by decide +kernel) ?_
    refine va_sld hx hb hX hbl hbA hS (vpc _ _ (by decide +kernel)) dL_law_1264 ?_
    refine tp_i (y := xs 1) (congrArg xs (by decide +kernel)) ?_
    have hPc := hP.sub (ws' := [((q 0), .inr (12, (mo q))), ((q 41), .inl (cI, 6, .inl (fun _ => 0)))]) [0, 1] rfl
    have hDc := hD.sub (ws' := [((q 0), .inr (12, (mo q))), ((q 41), .inl (cI, 6, .inl (fun _ => 0)))]) [0, 1] (by decide) rfl
    have hFc := va_free (wc := [((q 0), .inr (12, (mo q))), ((q 41), .inl (cI, 6, .inl (fun _ => 0)))]) hD hS hA [0, 1] rfl
    refine va_calli (va_runV (As := [.int (xs 1)]) (rest := [.int 0]) ⟨hx, hb, hml, hown, hts⟩ (p_X12_status l dC dI cB cI cJ cZ cQ H.size q (xs 1)) (cwV 1 hts g_law_36_2 rfl rfl rfl (by decide +kernel) ⟨Nat.le_of_ble_eq_true rfl, Nat.le_of_ble_eq_true rfl⟩) ⟨fun a U g mk Z => by obtain ⟨q0, q1, qP, qK, qD⟩ := Z; exact ⟨q0, q1, qP, va_K.moved (u := U) (U := U.calling g mk a) (Vm.Alike.refl U.vm) qK, qD⟩, va_recv hK hPc (ci := 12) (q0 := 0) rfl rfl, fun U hU hW => ⟨rfl, by rw [hU], by rw [hU]; exact hPc, va_K.moved hW.alike hK, hDc.weaken (fun _ _ _ _ => trivial)⟩⟩ rfl rfl hl.1 rfl (lv_room (Nat.le_of_ble_eq_true rfl)) dL_law_1265 ⟨Nat.le_of_ble_eq_true rfl, Nat.le_of_ble_eq_true rfl⟩) hS (fun b _ h => hFc b h) hFc (fun r6 u5 t H1 locs ht hvm hw hB hz1 hk1 hS => ?_)
    obtain ⟨hP, hD⟩ := va_join (wr := []) (w1 := []) hP hD [0, 1] [] rfl rfl (by decide) (by decide) hk1 hFc (fun k b h => by simp at h) ⟨fun i j p b h => by simp at h, fun k b h => by simp at h⟩
    clear hk1 hz1 hvm hPc hDc hFc
    generalize H1 = H at hP hS ⊢
    have hP : va_P (dC, dI) vwCl [] H := hP
    have hD : va_D A [] := hD
    rcases hw with ⟨hw, hcu5⟩ | ⟨hw, hcu5⟩
    · subst hw
      refine lv_icmp_eq (tgt := 1273) hx hb dL_law_1268 (by decide) (fun c => absurd c (by decide +kernel)) (fun _ => ?_)
      refine lv_iconst (v := 0) hx hb dL_law_1271 (by decide +kernel) ?_
      exact False.elim (by omega)
    · subst hw
      refine lv_icmp_eq (tgt := 1273) hx hb dL_law_1268 (by decide) (fun _ => ?_) (fun c => absurd c (by decide +kernel))
      exact law_tail l C0 (by decide) (by decide) (by rw [hAe] at hS; exact hS) (lv_sub hl [3, 2, 1, 0] rfl)
