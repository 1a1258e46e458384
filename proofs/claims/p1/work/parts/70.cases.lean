set_option maxRecDepth 100000 in
theorem g_law_0_0 : GoodIn lw_tbl (wsV RL 13 RX11 yX11_feed ws_p_X11_feed) := goodIn_sub (show ∀ w ∈ wsV RL 13 RX11 yX11_feed ws_p_X11_feed, w ∈ lw_tbl from (all_app (List.forall_mem_cons.mpr ⟨t_in_2 _ (List.mem_of_getElem? (i := 231) rfl), (List.forall_mem_cons.mpr ⟨t_in_2 _ (List.mem_of_getElem? (i := 232) rfl), (List.forall_mem_cons.mpr ⟨t_in_2 _ (List.mem_of_getElem? (i := 233) rfl), (List.forall_mem_cons.mpr ⟨t_in_1 _ (List.mem_of_getElem? (i := 1) rfl), (fun _ h => absurd h List.not_mem_nil)⟩)⟩)⟩)⟩) (List.forall_mem_cons.mpr ⟨t_in_2 _ (List.mem_of_getElem? (i := 234) rfl), (all_app (all_app (List.forall_mem_cons.mpr ⟨t_in_2 _ (List.mem_of_getElem? (i := 197) rfl), (List.forall_mem_cons.mpr ⟨t_in_2 _ (List.mem_of_getElem? (i := 235) rfl), (List.forall_mem_cons.mpr ⟨t_in_2 _ (List.mem_of_getElem? (i := 236) rfl), (List.forall_mem_cons.mpr ⟨t_in_2 _ (List.mem_of_getElem? (i := 237) rfl), (List.forall_mem_cons.mpr ⟨t_in_1 _ (List.mem_of_getElem? (i := 2) rfl), (List.forall_mem_cons.mpr ⟨t_in_2 _ (List.mem_of_getElem? (i := 238) rfl), (List.forall_mem_cons.mpr ⟨t_in_1 _ (List.mem_of_getElem? (i := 36) rfl), (List.forall_mem_cons.mpr ⟨t_in_3 _ (List.mem_of_getElem? (i := 3) rfl), (List.forall_mem_cons.mpr ⟨t_in_3 _ (List.mem_of_getElem? (i := 4) rfl), (List.forall_mem_cons.mpr ⟨t_in_3 _ (List.mem_of_getElem? (i := 5) rfl), (List.forall_mem_cons.mpr ⟨t_in_3 _ (List.mem_of_getElem? (i := 6) rfl), (List.forall_mem_cons.mpr ⟨t_in_1 _ (List.mem_of_getElem? (i := 34) rfl), (List.forall_mem_cons.mpr ⟨t_in_1 _ (List.mem_of_getElem? (i := 37) rfl), (fun _ h => absurd h List.not_mem_nil)⟩)⟩)⟩)⟩)⟩)⟩)⟩)⟩)⟩)⟩)⟩)⟩)⟩) inX11) inX7)⟩))) (by decide +kernel)
set_option maxRecDepth 100000 in
theorem g_law_0_1 : GoodIn lw_tbl (wsV RL 17 RX12 yX12_feed ws_p_X12_feed) := goodIn_sub (show ∀ w ∈ wsV RL 17 RX12 yX12_feed ws_p_X12_feed, w ∈ lw_tbl from (all_app (List.forall_mem_cons.mpr ⟨t_in_7 _ (List.mem_of_getElem? (i := 32) rfl), (List.forall_mem_cons.mpr ⟨t_in_7 _ (List.mem_of_getElem? (i := 33) rfl), (List.forall_mem_cons.mpr ⟨t_in_7 _ (List.mem_of_getElem? (i := 34) rfl), (List.forall_mem_cons.mpr ⟨t_in_1 _ (List.mem_of_getElem? (i := 17) rfl), (fun _ h => absurd h List.not_mem_nil)⟩)⟩)⟩)⟩) (List.forall_mem_cons.mpr ⟨t_in_7 _ (List.mem_of_getElem? (i := 35) rfl), (all_app (List.forall_mem_cons.mpr ⟨t_in_6 _ (List.mem_of_getElem? (i := 17) rfl), (List.forall_mem_cons.mpr ⟨t_in_7 _ (List.mem_of_getElem? (i := 40) rfl), (List.forall_mem_cons.mpr ⟨t_in_7 _ (List.mem_of_getElem? (i := 42) rfl), (List.forall_mem_cons.mpr ⟨s_in_5 (yX12_put, 85) (List.mem_of_getElem? (i := 5) rfl), (List.forall_mem_cons.mpr ⟨t_in_1 _ (List.mem_of_getElem? (i := 17) rfl), (List.forall_mem_cons.mpr ⟨t_in_7 _ (List.mem_of_getElem? (i := 43) rfl), (List.forall_mem_cons.mpr ⟨t_in_6 _ (List.mem_of_getElem? (i := 16) rfl), (fun _ h => absurd h List.not_mem_nil)⟩)⟩)⟩)⟩)⟩)⟩)⟩) inX12)⟩))) (by decide +kernel)
set_option maxHeartbeats 4000000 in
set_option maxRecDepth 100000 in
theorem law_case_0 {p : Program} {e : Env} {s : State} {m : MethodId} {below : List Frame} {meth : Method} {c : Code} (l : Launch) {b : Nat} {xs : Nat → Int32} (C0 : lw_At p s m meth c b 6 xs) (dC : Nat → ClassId) (dI : Nat → Nat → Nat) (cB cI cJ cZ cQ : ClassId) (x : Nat) (u q : Nat → Nat) {H : Heap} {locs : List Loc} {ls : Array Slot} (hK : va_K (dC, dI) vwCl (tyA cB cI cJ cZ cQ) s) (hP : va_P (dC, dI) vwCl [(x, .inr (11, [.ref (u 0), .ref (u 2), .ref (u 5), .ref (u 19), .ref (u 21), .ref (u 26), .ref (u 29), .ref (u 40), .ref (u 49), .ref (u 50), .ref (u 81)])), ((u 0), .inr (7, [.ref (u 1), .int 0])), ((u 1), .inl (cB, 1600, .inl (fun _ => 0))), ((q 0), .inr (12, (mo q))), ((q 1), .inl (cI, 1800, .inl (fun _ => 0)))] H) (hD : va_D (fun b : Nat => s.heap.size ≤ b) [(x, .inr (11, [.ref (u 0), .ref (u 2), .ref (u 5), .ref (u 19), .ref (u 21), .ref (u 26), .ref (u 29), .ref (u 40), .ref (u 49), .ref (u 50), .ref (u 81)])), ((u 0), .inr (7, [.ref (u 1), .int 0])), ((u 1), .inl (cB, 1600, .inl (fun _ => 0))), ((q 0), .inr (12, (mo q))), ((q 1), .inl (cI, 1800, .inl (fun _ => 0)))]) (hS : va_S (fun b : Nat => s.heap.size ≤ b) s.heap H locs) (hl : lv_has ls 4 [(3, .int 0), (2, .ref (q 0)), (1, .ref x), (0, .ref b)]) : W p l e room_1 s m #[Value.ref b] below meth c H locs 171 178311 (lw_Z below #[Value.ref b] s) (F0 m 196 ls []) := by
  obtain ⟨hx, hb, hr, hml, hown, hts, hX, hbl, hlocks, hgv⟩ := id C0
  have hA : ∀ a : Nat, s.heap.size ≤ a → (fun b : Nat => s.heap.size ≤ b) a := fun _ h => h
  have hbA : ¬ (fun b : Nat => s.heap.size ≤ b) b := Nat.not_le.mpr hbl
  obtain ⟨A, hAe⟩ : ∃ A : Nat → Prop, A = (fun b : Nat => s.heap.size ≤ b) := ⟨_, rfl⟩
  rw [← hAe] at hD hS hA hbA
  refine lv_aload_n hx hb dL_law_196 rfl (lv_at hl 2 rfl) ?_
  refine lv_aload_n hx hb dL_law_197 rfl (lv_at hl 3 rfl) ?_
  refine lv_iload_n hx hb dL_law_198 rfl (lv_at hl 0 rfl) ?_
  refine lv_iconst (v := 1) hx hb dL_law_199 (by decide +kernel) ?_
  refine lv_iadd hx hb dL_law_200 ?_
  refine tp_i (y := 1) (by decide +kernel) ?_
  refine va_sld hx hb hX hbl hbA hS (vpc _ _ (by decide +kernel)) dL_law_201 ?_
  refine tp_i (y := xs 1) (congrArg xs (by decide +kernel)) ?_
  refine lv_aload_n hx hb dL_law_202 rfl (lv_at hl 3 rfl) ?_
  refine lv_iload_n hx hb dL_law_203 rfl (lv_at hl 0 rfl) ?_
  refine lv_iconst (v := 2) hx hb dL_law_204 (by decide +kernel) ?_
  refine lv_iadd hx hb dL_law_205 ?_
  refine tp_i (y := 2) (by decide +kernel) ?_
  refine va_sld hx hb hX hbl hbA hS (vpc _ _ (by decide +kernel)) dL_law_206 ?_
  refine tp_i (y := xs 2) (congrArg xs (by decide +kernel)) ?_
  refine lv_aload_n hx hb dL_law_207 rfl (lv_at hl 3 rfl) ?_
  refine lv_iload_n hx hb dL_law_208 rfl (lv_at hl 0 rfl) ?_
  refine lv_iconst (v := 3) hx hb dL_law_209 (by decide +kernel) ?_
  refine lv_iadd hx hb dL_law_210 ?_
  refine tp_i (y := 3) (by decide +kernel) ?_
  refine va_sld hx hb hX hbl hbA hS (vpc _ _ (by decide +kernel)) dL_law_211 ?_
  refine tp_i (y := xs 3) (congrArg xs (by decide +kernel)) ?_
  refine lv_aload_n hx hb dL_law_212 rfl (lv_at hl 3 rfl) ?_
  refine lv_iload_n hx hb dL_law_213 rfl (lv_at hl 0 rfl) ?_
  refine lv_iconst (v := 4) hx hb dL_law_214 (by decide +kernel) ?_
  refine lv_iadd hx hb dL_law_215 ?_
  refine tp_i (y := 4) (by decide +kernel) ?_
  refine va_sld hx hb hX hbl hbA hS (vpc _ _ (by decide +kernel)) dL_law_216 ?_
  refine tp_i (y := xs 4) (congrArg xs (by decide +kernel)) ?_
  refine lv_aload_n hx hb dL_law_217 rfl (lv_at hl 3 rfl) ?_
  refine lv_iload_n hx hb dL_law_218 rfl (lv_at hl 0 rfl) ?_
  refine lv_iconst (v := 5) hx hb dL_law_219 (by decide +kernel) ?_
  refine lv_iadd hx hb dL_law_220 ?_
  refine tp_i (y := 5) (by decide +kernel) ?_
  refine va_sld hx hb hX hbl hbA hS (vpc _ _ (by decide +kernel)) dL_law_221 ?_
  refine tp_i (y := xs 5) (congrArg xs (by decide +kernel)) ?_
  have hPc := hP.sub (ws' := [(x, .inr (11, [.ref (u 0), .ref (u 2), .ref (u 5), .ref (u 19), .ref (u 21), .ref (u 26), .ref (u 29), .ref (u 40), .ref (u 49), .ref (u 50), .ref (u 81)])), ((u 0), .inr (7, [.ref (u 1), .int 0])), ((u 1), .inl (cB, 1600, .inl (fun _ => 0)))]) [0, 1, 2] rfl
  have hDc := hD.sub (ws' := [(x, .inr (11, [.ref (u 0), .ref (u 2), .ref (u 5), .ref (u 19), .ref (u 21), .ref (u 26), .ref (u 29), .ref (u 40), .ref (u 49), .ref (u 50), .ref (u 81)])), ((u 0), .inr (7, [.ref (u 1), .int 0])), ((u 1), .inl (cB, 1600, .inl (fun _ => 0)))]) [0, 1, 2] (by decide) rfl
  have hFc := va_free (wc := [(x, .inr (11, [.ref (u 0), .ref (u 2), .ref (u 5), .ref (u 19), .ref (u 21), .ref (u 26), .ref (u 29), .ref (u 40), .ref (u 49), .ref (u 50), .ref (u 81)])), ((u 0), .inr (7, [.ref (u 1), .int 0])), ((u 1), .inl (cB, 1600, .inl (fun _ => 0)))]) hD hS hA [0, 1, 2] rfl
  refine va_calli (va_runV (As := [.int (xs 1), .int (xs 2), .int (xs 3), .int (xs 4), .int (xs 5)]) (rest := []) ⟨hx, hb, hml, hown, hts⟩ (p_X11_feed l dC dI cB cI cJ cZ cQ H.size x (u 0) (u 2) (u 5) (u 19) (u 21) (u 26) (u 29) (u 40) (u 49) (u 50) (u 81) (u 1) (xs 1) (xs 2) (xs 3) (xs 4) (xs 5)) (cwV 5 hts g_law_0_0 rfl rfl rfl (by decide +kernel) ⟨Nat.le_of_ble_eq_true rfl, Nat.le_of_ble_eq_true rfl⟩) ⟨fun a U g mk Z => by obtain ⟨q0, q1, qP, qK, qD⟩ := Z; exact ⟨q0, q1, qP, va_K.moved (u := U) (U := U.calling g mk a) (Vm.Alike.refl U.vm) qK, qD⟩, va_recv hK hPc (ci := 11) (q0 := 0) rfl rfl, fun U hU hW => ⟨rfl, by rw [hU], by rw [hU]; exact hPc, va_K.moved hW.alike hK, hDc.weaken (fun _ _ _ _ => trivial)⟩⟩ rfl rfl hl.1 rfl (lv_room (Nat.le_of_ble_eq_true rfl)) dL_law_222 ⟨Nat.le_of_ble_eq_true rfl, Nat.le_of_ble_eq_true rfl⟩) hS (fun b _ h => hFc b h) hFc (fun r2 u1 t H1 locs ht hvm hw hB hz1 hk1 hS => ?_)
  obtain ⟨hP, hD⟩ := va_join (wr := [((q 0), .inr (12, (mo q))), ((q 1), .inl (cI, 1800, .inl (fun _ => 0)))]) (w1 := []) hP hD [0, 1, 2] [3, 4] rfl rfl (by decide) (by decide) hk1 hFc (fun k b h => by simp at h) ⟨fun i j p b h => by simp at h, fun k b h => by simp at h⟩
  clear hk1 hz1 hvm hPc hDc hFc
  generalize H1 = H at hP hS ⊢
  have hP : va_P (dC, dI) vwCl [((q 0), .inr (12, (mo q))), ((q 1), .inl (cI, 1800, .inl (fun _ => 0)))] H := hP
  have hD : va_D A [((q 0), .inr (12, (mo q))), ((q 1), .inl (cI, 1800, .inl (fun _ => 0)))] := hD
  subst hw
  refine lv_aload_n hx hb dL_law_225 rfl (lv_at hl 1 rfl) ?_
  refine lv_aload_n hx hb dL_law_226 rfl (lv_at hl 3 rfl) ?_
  refine lv_iload_n hx hb dL_law_227 rfl (lv_at hl 0 rfl) ?_
  refine lv_iconst (v := 1) hx hb dL_law_228 (by decide +kernel) ?_
  refine lv_iadd hx hb dL_law_229 ?_
  refine tp_i (y := 1) (by decide +kernel) ?_
  refine va_sld hx hb hX hbl hbA hS (vpc _ _ (by decide +kernel)) dL_law_230 ?_
  refine tp_i (y := xs 1) (congrArg xs (by decide +kernel)) ?_
  refine lv_aload_n hx hb dL_law_231 rfl (lv_at hl 3 rfl) ?_
  refine lv_iload_n hx hb dL_law_232 rfl (lv_at hl 0 rfl) ?_
  refine lv_iconst (v := 2) hx hb dL_law_233 (by decide +kernel) ?_
  refine lv_iadd hx hb dL_law_234 ?_
  refine tp_i (y := 2) (by decide +kernel) ?_
  refine va_sld hx hb hX hbl hbA hS (vpc _ _ (by decide +kernel)) dL_law_235 ?_
  refine tp_i (y := xs 2) (congrArg xs (by decide +kernel)) ?_
  refine lv_aload_n hx hb dL_law_236 rfl (lv_at hl 3 rfl) ?_
  refine lv_iload_n hx hb dL_law_237 rfl (lv_at hl 0 rfl) ?_
  refine lv_iconst (v := 3) hx hb dL_law_238 (by decide +kernel) ?_
  refine lv_iadd hx hb dL_law_239 ?_
  refine tp_i (y := 3) (by decide +kernel) ?_
  refine va_sld hx hb hX hbl hbA hS (vpc _ _ (by decide +kernel)) dL_law_240 ?_
  refine tp_i (y := xs 3) (congrArg xs (by decide +kernel)) ?_
  refine lv_aload_n hx hb dL_law_241 rfl (lv_at hl 3 rfl) ?_
  refine lv_iload_n hx hb dL_law_242 rfl (lv_at hl 0 rfl) ?_
  refine lv_iconst (v := 4) hx hb dL_law_243 (by decide +kernel) ?_
  refine lv_iadd hx hb dL_law_244 ?_
  refine tp_i (y := 4) (by decide +kernel) ?_
  refine va_sld hx hb hX hbl hbA hS (vpc _ _ (by decide +kernel)) dL_law_245 ?_
  refine tp_i (y := xs 4) (congrArg xs (by decide +kernel)) ?_
  refine lv_aload_n hx hb dL_law_246 rfl (lv_at hl 3 rfl) ?_
  refine lv_iload_n hx hb dL_law_247 rfl (lv_at hl 0 rfl) ?_
  refine lv_iconst (v := 5) hx hb dL_law_248 (by decide +kernel) ?_
  refine lv_iadd hx hb dL_law_249 ?_
  refine tp_i (y := 5) (by decide +kernel) ?_
  refine va_sld hx hb hX hbl hbA hS (vpc _ _ (by decide +kernel)) dL_law_250 ?_
  refine tp_i (y := xs 5) (congrArg xs (by decide +kernel)) ?_
  have hPc := hP.sub (ws' := [((q 0), .inr (12, (mo q))), ((q 1), .inl (cI, 1800, .inl (fun _ => 0)))]) [0, 1] rfl
  have hDc := hD.sub (ws' := [((q 0), .inr (12, (mo q))), ((q 1), .inl (cI, 1800, .inl (fun _ => 0)))]) [0, 1] (by decide) rfl
  have hFc := va_free (wc := [((q 0), .inr (12, (mo q))), ((q 1), .inl (cI, 1800, .inl (fun _ => 0)))]) hD hS hA [0, 1] rfl
  refine va_calli (va_runV (As := [.int (xs 1), .int (xs 2), .int (xs 3), .int (xs 4), .int (xs 5)]) (rest := [.int 20]) ⟨hx, hb, hml, hown, hts⟩ (p_X12_feed l dC dI cB cI cJ cZ cQ H.size q (xs 1) (xs 2) (xs 3) (xs 4) (xs 5)) (cwV 5 hts g_law_0_1 rfl rfl rfl (by decide +kernel) ⟨Nat.le_of_ble_eq_true rfl, Nat.le_of_ble_eq_true rfl⟩) ⟨fun a U g mk Z => by obtain ⟨q0, q1, qP, qK, qD⟩ := Z; exact ⟨q0, q1, qP, va_K.moved (u := U) (U := U.calling g mk a) (Vm.Alike.refl U.vm) qK, qD⟩, va_recv hK hPc (ci := 12) (q0 := 0) rfl rfl, fun U hU hW => ⟨rfl, by rw [hU], by rw [hU]; exact hPc, va_K.moved hW.alike hK, hDc.weaken (fun _ _ _ _ => trivial)⟩⟩ rfl rfl hl.1 rfl (lv_room (Nat.le_of_ble_eq_true rfl)) dL_law_251 ⟨Nat.le_of_ble_eq_true rfl, Nat.le_of_ble_eq_true rfl⟩) hS (fun b _ h => hFc b h) hFc (fun r4 u3 t H1 locs ht hvm hw hB hz1 hk1 hS => ?_)
  obtain ⟨hP, hD⟩ := va_join (wr := []) (w1 := []) hP hD [0, 1] [] rfl rfl (by decide) (by decide) hk1 hFc (fun k b h => by simp at h) ⟨fun i j p b h => by simp at h, fun k b h => by simp at h⟩
  clear hk1 hz1 hvm hPc hDc hFc
  generalize H1 = H at hP hS ⊢
  have hP : va_P (dC, dI) vwCl [] H := hP
  have hD : va_D A [] := hD
  subst hw
  refine lv_icmp_eq (tgt := 1273) hx hb dL_law_254 (by decide) (fun _ => ?_) (fun c => absurd c (by decide +kernel))
  exact law_tail l C0 (by decide) (by decide) (by rw [hAe] at hS; exact hS) (lv_sub hl [3, 2, 1, 0] rfl)
set_option maxRecDepth 100000 in
theorem g_law_1_0 : GoodIn lw_tbl (wsV RL 18 RX11 yX11_end ws_p_X11_end) := goodIn_sub (show ∀ w ∈ wsV RL 18 RX11 yX11_end ws_p_X11_end, w ∈ lw_tbl from (all_app (List.forall_mem_cons.mpr ⟨t_in_3 _ (List.mem_of_getElem? (i := 7) rfl), (List.forall_mem_cons.mpr ⟨t_in_3 _ (List.mem_of_getElem? (i := 8) rfl), (List.forall_mem_cons.mpr ⟨t_in_3 _ (List.mem_of_getElem? (i := 9) rfl), (List.forall_mem_cons.mpr ⟨t_in_1 _ (List.mem_of_getElem? (i := 1) rfl), (fun _ h => absurd h List.not_mem_nil)⟩)⟩)⟩)⟩) (List.forall_mem_cons.mpr ⟨t_in_3 _ (List.mem_of_getElem? (i := 10) rfl), (all_app (all_app (List.forall_mem_cons.mpr ⟨t_in_2 _ (List.mem_of_getElem? (i := 239) rfl), (List.forall_mem_cons.mpr ⟨t_in_3 _ (List.mem_of_getElem? (i := 1) rfl), (List.forall_mem_cons.mpr ⟨s_in_1 (yX11_refused, 11) (List.mem_of_getElem? (i := 0) rfl), (List.forall_mem_cons.mpr ⟨t_in_1 _ (List.mem_of_getElem? (i := 1) rfl), (List.forall_mem_cons.mpr ⟨t_in_3 _ (List.mem_of_getElem? (i := 2) rfl), (List.forall_mem_cons.mpr ⟨t_in_2 _ (List.mem_of_getElem? (i := 205) rfl), (List.forall_mem_cons.mpr ⟨t_in_2 _ (List.mem_of_getElem? (i := 197) rfl), (List.forall_mem_cons.mpr ⟨t_in_1 _ (List.mem_of_getElem? (i := 37) rfl), (fun _ h => absurd h List.not_mem_nil)⟩)⟩)⟩)⟩)⟩)⟩)⟩)⟩) inX11) inX7)⟩))) (by decide +kernel)
set_option maxRecDepth 100000 in
theorem g_law_1_1 : GoodIn lw_tbl (wsV RL 22 RX12 yX12_end ws_p_X12_end) := goodIn_sub (show ∀ w ∈ wsV RL 22 RX12 yX12_end ws_p_X12_end, w ∈ lw_tbl from (all_app (List.forall_mem_cons.mpr ⟨t_in_7 _ (List.mem_of_getElem? (i := 44) rfl), (List.forall_mem_cons.mpr ⟨t_in_7 _ (List.mem_of_getElem? (i := 45) rfl), (List.forall_mem_cons.mpr ⟨t_in_7 _ (List.mem_of_getElem? (i := 46) rfl), (List.forall_mem_cons.mpr ⟨t_in_1 _ (List.mem_of_getElem? (i := 17) rfl), (fun _ h => absurd h List.not_mem_nil)⟩)⟩)⟩)⟩) (List.forall_mem_cons.mpr ⟨t_in_7 _ (List.mem_of_getElem? (i := 47) rfl), (all_app (List.forall_mem_cons.mpr ⟨t_in_7 _ (List.mem_of_getElem? (i := 36) rfl), (List.forall_mem_cons.mpr ⟨t_in_7 _ (List.mem_of_getElem? (i := 38) rfl), (List.forall_mem_cons.mpr ⟨s_in_5 (yX12_refuses, 85) (List.mem_of_getElem? (i := 4) rfl), (List.forall_mem_cons.mpr ⟨t_in_1 _ (List.mem_of_getElem? (i := 17) rfl), (List.forall_mem_cons.mpr ⟨t_in_7 _ (List.mem_of_getElem? (i := 39) rfl), (List.forall_mem_cons.mpr ⟨t_in_6 _ (List.mem_of_getElem? (i := 74) rfl), (List.forall_mem_cons.mpr ⟨t_in_6 _ (List.mem_of_getElem? (i := 17) rfl), (fun _ h => absurd h List.not_mem_nil)⟩)⟩)⟩)⟩)⟩)⟩)⟩) inX12)⟩))) (by decide +kernel)
set_option maxRecDepth 100000 in
theorem g_law_1_2 : GoodIn lw_tbl (wsV RL 22 RX12 yX12_end ws_p_X12_end) := goodIn_sub (show ∀ w ∈ wsV RL 22 RX12 yX12_end ws_p_X12_end, w ∈ lw_tbl from (all_app (List.forall_mem_cons.mpr ⟨t_in_7 _ (List.mem_of_getElem? (i := 44) rfl), (List.forall_mem_cons.mpr ⟨t_in_7 _ (List.mem_of_getElem? (i := 45) rfl), (List.forall_mem_cons.mpr ⟨t_in_7 _ (List.mem_of_getElem? (i := 46) rfl), (List.forall_mem_cons.mpr ⟨t_in_1 _ (List.mem_of_getElem? (i := 17) rfl), (fun _ h => absurd h List.not_mem_nil)⟩)⟩)⟩)⟩) (List.forall_mem_cons.mpr ⟨t_in_7 _ (List.mem_of_getElem? (i := 47) rfl), (all_app (List.forall_mem_cons.mpr ⟨t_in_7 _ (List.mem_of_getElem? (i := 36) rfl), (List.forall_mem_cons.mpr ⟨t_in_7 _ (List.mem_of_getElem? (i := 38) rfl), (List.forall_mem_cons.mpr ⟨s_in_5 (yX12_refuses, 85) (List.mem_of_getElem? (i := 4) rfl), (List.forall_mem_cons.mpr ⟨t_in_1 _ (List.mem_of_getElem? (i := 17) rfl), (List.forall_mem_cons.mpr ⟨t_in_7 _ (List.mem_of_getElem? (i := 39) rfl), (List.forall_mem_cons.mpr ⟨t_in_6 _ (List.mem_of_getElem? (i := 74) rfl), (List.forall_mem_cons.mpr ⟨t_in_6 _ (List.mem_of_getElem? (i := 17) rfl), (fun _ h => absurd h List.not_mem_nil)⟩)⟩)⟩)⟩)⟩)⟩)⟩) inX12)⟩))) (by decide +kernel)
set_option maxHeartbeats 4000000 in
set_option maxRecDepth 100000 in
theorem law_case_1 {p : Program} {e : Env} {s : State} {m : MethodId} {below : List Frame} {meth : Method} {c : Code} (l : Launch) {b : Nat} {xs : Nat → Int32} (C0 : lw_At p s m meth c b 6 xs) (dC : Nat → ClassId) (dI : Nat → Nat → Nat) (cB cI cJ cZ cQ : ClassId) (x : Nat) (u q : Nat → Nat) {H : Heap} {locs : List Loc} {ls : Array Slot} (hK : va_K (dC, dI) vwCl (tyA cB cI cJ cZ cQ) s) (hP : va_P (dC, dI) vwCl [(x, .inr (11, [.ref (u 0), .ref (u 2), .ref (u 5), .ref (u 19), .ref (u 21), .ref (u 26), .ref (u 29), .ref (u 40), .ref (u 49), .ref (u 50), .ref (u 81)])), ((u 49), .inl (cI, 6, .inl (fun _ => 0))), ((u 0), .inr (7, [.ref (u 1), .int 0])), ((q 0), .inr (12, (mo q))), ((q 41), .inl (cI, 6, .inl (fun _ => 0)))] H) (hD : va_D (fun b : Nat => s.heap.size ≤ b) [(x, .inr (11, [.ref (u 0), .ref (u 2), .ref (u 5), .ref (u 19), .ref (u 21), .ref (u 26), .ref (u 29), .ref (u 40), .ref (u 49), .ref (u 50), .ref (u 81)])), ((u 49), .inl (cI, 6, .inl (fun _ => 0))), ((u 0), .inr (7, [.ref (u 1), .int 0])), ((q 0), .inr (12, (mo q))), ((q 41), .inl (cI, 6, .inl (fun _ => 0)))]) (hS : va_S (fun b : Nat => s.heap.size ≤ b) s.heap H locs) (hl : lv_has ls 4 [(3, .int 0), (2, .ref (q 0)), (1, .ref x), (0, .ref b)]) : W p l e room_1 s m #[Value.ref b] below meth c H locs 171 178311 (lw_Z below #[Value.ref b] s) (F0 m 259 ls []) := by
  obtain ⟨hx, hb, hr, hml, hown, hts, hX, hbl, hlocks, hgv⟩ := id C0
  have hA : ∀ a : Nat, s.heap.size ≤ a → (fun b : Nat => s.heap.size ≤ b) a := fun _ h => h
  have hbA : ¬ (fun b : Nat => s.heap.size ≤ b) b := Nat.not_le.mpr hbl
  obtain ⟨A, hAe⟩ : ∃ A : Nat → Prop, A = (fun b : Nat => s.heap.size ≤ b) := ⟨_, rfl⟩
  rw [← hAe] at hD hS hA hbA
  refine lv_aload_n hx hb dL_law_259 rfl (lv_at hl 2 rfl) ?_
  refine lv_aload_n hx hb dL_law_260 rfl (lv_at hl 3 rfl) ?_
  refine lv_iload_n hx hb dL_law_261 rfl (lv_at hl 0 rfl) ?_
  refine lv_iconst (v := 1) hx hb dL_law_262 (by decide +kernel) ?_
  refine lv_iadd hx hb dL_law_263 ?_
  refine tp_i (y := 1) (by decide +kernel) ?_
  refine va_sld hx hb hX hbl hbA hS (vpc _ _ (by decide +kernel)) dL_law_264 ?_
  refine tp_i (y := xs 1) (congrArg xs (by decide +kernel)) ?_
  have hPc := hP.sub (ws' := [(x, .inr (11, [.ref (u 0), .ref (u 2), .ref (u 5), .ref (u 19), .ref (u 21), .ref (u 26), .ref (u 29), .ref (u 40), .ref (u 49), .ref (u 50), .ref (u 81)])), ((u 49), .inl (cI, 6, .inl (fun _ => 0))), ((u 0), .inr (7, [.ref (u 1), .int 0]))]) [0, 1, 2] rfl
  have hDc := hD.sub (ws' := [(x, .inr (11, [.ref (u 0), .ref (u 2), .ref (u 5), .ref (u 19), .ref (u 21), .ref (u 26), .ref (u 29), .ref (u 40), .ref (u 49), .ref (u 50), .ref (u 81)])), ((u 49), .inl (cI, 6, .inl (fun _ => 0))), ((u 0), .inr (7, [.ref (u 1), .int 0]))]) [0, 1, 2] (by decide) rfl
  have hFc := va_free (wc := [(x, .inr (11, [.ref (u 0), .ref (u 2), .ref (u 5), .ref (u 19), .ref (u 21), .ref (u 26), .ref (u 29), .ref (u 40), .ref (u 49), .ref (u 50), .ref (u 81)])), ((u 49), .inl (cI, 6, .inl (fun _ => 0))), ((u 0), .inr (7, [.ref (u 1), .int 0]))]) hD hS hA [0, 1, 2] rfl
  refine va_calli (va_runV (As := [.int (xs 1)]) (rest := []) ⟨hx, hb, hml, hown, hts⟩ (p_X11_end l dC dI cB cI cJ cZ cQ H.size x (u 0) (u 2) (u 5) (u 19) (u 21) (u 26) (u 29) (u 40) (u 49) (u 50) (u 81) (u 1) (xs 1)) (cwV 1 hts g_law_1_0 rfl rfl rfl (by decide +kernel) ⟨Nat.le_of_ble_eq_true rfl, Nat.le_of_ble_eq_true rfl⟩) ⟨fun a U g mk Z => by obtain ⟨q0, q1, qP, qK, qD⟩ := Z; exact ⟨q0, q1, qP, va_K.moved (u := U) (U := U.calling g mk a) (Vm.Alike.refl U.vm) qK, qD⟩, va_recv hK hPc (ci := 11) (q0 := 0) rfl rfl, fun U hU hW => ⟨rfl, by rw [hU], by rw [hU]; exact hPc, va_K.moved hW.alike hK, hDc.weaken (fun _ _ _ _ => trivial)⟩⟩ rfl rfl hl.1 rfl (lv_room (Nat.le_of_ble_eq_true rfl)) dL_law_265 ⟨Nat.le_of_ble_eq_true rfl, Nat.le_of_ble_eq_true rfl⟩) hS (fun b _ h => hFc b h) hFc (fun r2 u1 t H1 locs ht hvm hw hB hz1 hk1 hS => ?_)
  obtain ⟨hP, hD⟩ := va_join (wr := [((q 0), .inr (12, (mo q))), ((q 41), .inl (cI, 6, .inl (fun _ => 0)))]) (w1 := []) hP hD [0, 1, 2] [3, 4] rfl rfl (by decide) (by decide) hk1 hFc (fun k b h => by simp at h) ⟨fun i j p b h => by simp at h, fun k b h => by simp at h⟩
  clear hk1 hz1 hvm hPc hDc hFc
  generalize H1 = H at hP hS ⊢
  have hP : va_P (dC, dI) vwCl [((q 0), .inr (12, (mo q))), ((q 41), .inl (cI, 6, .inl (fun _ => 0)))] H := hP
  have hD : va_D A [((q 0), .inr (12, (mo q))), ((q 41), .inl (cI, 6, .inl (fun _ => 0)))] := hD
  rcases hw with ⟨hw, hcu1⟩ | ⟨hw, hcu1⟩
  · subst hw
    refine lv_aload_n hx hb dL_law_268 rfl (lv_at hl 1 rfl) ?_
    refine lv_aload_n hx hb dL_law_269 rfl (lv_at hl 3 rfl) ?_
    refine lv_iload_n hx hb dL_law_270 rfl (lv_at hl 0 rfl) ?_
    refine lv_iconst (v := 1) hx hb dL_law_271 (by decide +kernel) ?_
    refine lv_iadd hx hb dL_law_272 ?_
    refine tp_i (y := 1) (by decide +kernel) ?_
    refine va_sld hx hb hX hbl hbA hS (vpc _ _ (by decide +kernel)) dL_law_273 ?_
    refine tp_i (y := xs 1) (congrArg xs (by decide +kernel)) ?_
    have hPc := hP.sub (ws' := [((q 0), .inr (12, (mo q))), ((q 41), .inl (cI, 6, .inl (fun _ => 0)))]) [0, 1] rfl
    have hDc := hD.sub (ws' := [((q 0), .inr (12, (mo q))), ((q 41), .inl (cI, 6, .inl (fun _ => 0)))]) [0, 1] (by decide) rfl
    have hFc := va_free (wc := [((q 0), .inr (12, (mo q))), ((q 41), .inl (cI, 6, .inl (fun _ => 0)))]) hD hS hA [0, 1] rfl
    refine va_calli (va_runV (As := [.int (xs 1)]) (rest := [.int 0]) ⟨hx, hb, hml, hown, hts⟩ (p_X12_end l dC dI cB cI cJ cZ cQ H.size q (xs 1)) (cwV 1 hts g_law_1_1 rfl rfl rfl (by decide +kernel) ⟨Nat.le_of_ble_eq_true rfl, Nat.le_of_ble_eq_true rfl⟩) ⟨fun a U g mk Z => by obtain ⟨q0, q1, qP, qK, qD⟩ := Z; exact ⟨q0, q1, qP, va_K.moved (u := U) (U := U.calling g mk a) (Vm.Alike.refl U.vm) qK, qD⟩, va_recv hK hPc (ci := 12) (q0 := 0) rfl rfl, fun U hU hW => ⟨rfl, by rw [hU], by rw [hU]; exact hPc, va_K.moved hW.alike hK, hDc.weaken (fun _ _ _ _ => trivial)⟩⟩ rfl rfl hl.1 rfl (lv_room (Nat.le_of_ble_eq_true rfl)) dL_law_274 ⟨Nat.le_of_ble_eq_true rfl, Nat.le_of_ble_eq_true rfl⟩) hS (fun b _ h => hFc b h) hFc (fun r4 u3 t H1 locs ht hvm hw hB hz1 hk1 hS => ?_)
    obtain ⟨hP, hD⟩ := va_join (wr := []) (w1 := []) hP hD [0, 1] [] rfl rfl (by decide) (by decide) hk1 hFc (fun k b h => by simp at h) ⟨fun i j p b h => by simp at h, fun k b h => by simp at h⟩
    clear hk1 hz1 hvm hPc hDc hFc
    generalize H1 = H at hP hS ⊢
    have hP : va_P (dC, dI) vwCl [] H := hP
    have hD : va_D A [] := hD
    rcases hw with ⟨hw, hcu3⟩ | ⟨hw, hcu3⟩
    · subst hw
      refine lv_icmp_eq (tgt := 1273) hx hb dL_law_277 (by decide) (fun _ => ?_) (fun c => absurd c (by decide +kernel))
      exact law_tail l C0 (by decide) (by decide) (by rw [hAe] at hS; exact hS) (lv_sub hl [3, 2, 1, 0] rfl)
    · subst hw
      refine lv_icmp_eq (tgt := 1273) hx hb dL_law_277 (by decide) (fun c => absurd c (by decide +kernel)) (fun _ => ?_)
      refine lv_iconst (v := 0) hx hb dL_law_280 (by decide +kernel) ?_
      exact False.elim (by omega)
  · subst hw
    refine lv_aload_n hx hb dL_law_268 rfl (lv_at hl 1 rfl) ?_
    refine lv_aload_n hx hb dL_law_269 rfl (lv_at hl 3 rfl) ?_
    refine lv_iload_n hx hb dL_law_270 rfl (lv_at hl 0 rfl) ?_
    refine lv_iconst (v := 1) hx hb dL_law_271 (by decide +kernel) ?_
    refine lv_iadd hx hb dL_law_272 ?_
    refine tp_i (y := 1) (by decide +kernel) ?_
    refine va_sld hx hb hX hbl hbA hS (vpc _ _ (by decide +kernel)) dL_law_273 ?_
    refine tp_i (y := xs 1) (congrArg xs (by decide +kernel)) ?_
    have hPc := hP.sub (ws' := [((q 0), .inr (12, (mo q))), ((q 41), .inl (cI, 6, .inl (fun _ => 0)))]) [0, 1] rfl
    have hDc := hD.sub (ws' := [((q 0), .inr (12, (mo q))), ((q 41), .inl (cI, 6, .inl (fun _ => 0)))]) [0, 1] (by decide) rfl
    have hFc := va_free (wc := [((q 0), .inr (12, (mo q))), ((q 41), .inl (cI, 6, .inl (fun _ => 0)))]) hD hS hA [0, 1] rfl
    refine va_calli (va_runV (As := [.int (xs 1)]) (rest := [.int 1]) ⟨hx, hb, hml, hown, hts⟩ (p_X12_end l dC dI cB cI cJ cZ cQ H.size q (xs 1)) (cwV 1 hts g_law_1_2 rfl rfl rfl (by decide +kernel) ⟨Nat.le_of_ble_eq_true rfl, Nat.le_of_ble_eq_true rfl⟩) ⟨fun a U g mk Z => by obtain ⟨q0, q1, qP, qK, qD⟩ := Z; exact ⟨q0, q1, qP, va_K.moved (u := U) (U := U.calling g mk a) (Vm.Alike.refl U.vm) qK, qD⟩, va_recv hK hPc (ci := 12) (q0 := 0) rfl rfl, fun U hU hW => ⟨rfl, by rw [hU], by rw [hU]; exact hPc, va_K.moved hW.alike hK, hDc.weaken (fun _ _ _ _ => trivial)⟩⟩ rfl rfl hl.1 rfl (lv_room (Nat.le_of_ble_eq_true rfl)) dL_law_274 ⟨Nat.le_of_ble_eq_true rfl, Nat.le_of_ble_eq_true rfl⟩) hS (fun b _ h => hFc b h) hFc (fun r6 u5 t H1 locs ht hvm hw hB hz1 hk1 hS => ?_)
    obtain ⟨hP, hD⟩ := va_join (wr := []) (w1 := []) hP hD [0, 1] [] rfl rfl (by decide) (by decide) hk1 hFc (fun k b h => by simp at h) ⟨fun i j p b h => by simp at h, fun k b h => by simp at h⟩
    clear hk1 hz1 hvm hPc hDc hFc
    generalize H1 = H at hP hS ⊢
    have hP : va_P (dC, dI) vwCl [] H := hP
    have hD : va_D A [] := hD
    rcases hw with ⟨hw, hcu5⟩ | ⟨hw, hcu5⟩
    · subst hw
      refine lv_icmp_eq (tgt := 1273) hx hb dL_law_277 (by decide) (fun c => absurd c (by decide +kernel)) (fun _ => ?_)
      refine lv_iconst (v := 0) hx hb dL_law_280 (by decide +kernel) ?_
      exact False.elim (by omega)
    · subst hw
      refine lv_icmp_eq (tgt := 1273) hx hb dL_law_277 (by decide) (fun _ => ?_) (fun c => absurd c (by decide +kernel))
      exact law_tail l C0 (by decide) (by decide) (by rw [hAe] at hS; exact hS) (lv_sub hl [3, 2, 1, 0] rfl)
set_option maxRecDepth 100000 in
theorem g_law_2_0 : GoodIn lw_tbl (wsV RL 23 RX11 yX11_town ws_p_X11_town) := goodIn_sub (show ∀ w ∈ wsV RL 23 RX11 yX11_town ws_p_X11_town, w ∈ lw_tbl from (all_app (List.forall_mem_cons.mpr ⟨t_in_3 _ (List.mem_of_getElem? (i := 11) rfl), (List.forall_mem_cons.mpr ⟨t_in_3 _ (List.mem_of_getElem? (i := 12) rfl), (List.forall_mem_cons.mpr ⟨t_in_3 _ (List.mem_of_getElem? (i := 13) rfl), (List.forall_mem_cons.mpr ⟨t_in_1 _ (List.mem_of_getElem? (i := 1) rfl), (fun _ h => absurd h List.not_mem_nil)⟩)⟩)⟩)⟩) (List.forall_mem_cons.mpr ⟨t_in_3 _ (List.mem_of_getElem? (i := 14) rfl), (all_app (all_app (all_app (all_app (all_app (all_app (all_app (all_app (List.forall_mem_cons.mpr ⟨t_in_2 _ (List.mem_of_getElem? (i := 198) rfl), (List.forall_mem_cons.mpr ⟨t_in_2 _ (List.mem_of_getElem? (i := 207) rfl), (List.forall_mem_cons.mpr ⟨t_in_3 _ (List.mem_of_getElem? (i := 15) rfl), (List.forall_mem_cons.mpr ⟨t_in_3 _ (List.mem_of_getElem? (i := 16) rfl), (List.forall_mem_cons.mpr ⟨t_in_3 _ (List.mem_of_getElem? (i := 17) rfl), (List.forall_mem_cons.mpr ⟨t_in_1 _ (List.mem_of_getElem? (i := 3) rfl), (List.forall_mem_cons.mpr ⟨t_in_3 _ (List.mem_of_getElem? (i := 18) rfl), (List.forall_mem_cons.mpr ⟨t_in_3 _ (List.mem_of_getElem? (i := 19) rfl), (List.forall_mem_cons.mpr ⟨t_in_3 _ (List.mem_of_getElem? (i := 20) rfl), (List.forall_mem_cons.mpr ⟨t_in_3 _ (List.mem_of_getElem? (i := 21) rfl), (List.forall_mem_cons.mpr ⟨t_in_1 _ (List.mem_of_getElem? (i := 15) rfl), (List.forall_mem_cons.mpr ⟨t_in_3 _ (List.mem_of_getElem? (i := 22) rfl), (List.forall_mem_cons.mpr ⟨t_in_2 _ (List.mem_of_getElem? (i := 115) rfl), (List.forall_mem_cons.mpr ⟨t_in_2 _ (List.mem_of_getElem? (i := 136) rfl), (List.forall_mem_cons.mpr ⟨t_in_2 _ (List.mem_of_getElem? (i := 154) rfl), (List.forall_mem_cons.mpr ⟨t_in_2 _ (List.mem_of_getElem? (i := 59) rfl), (List.forall_mem_cons.mpr ⟨t_in_2 _ (List.mem_of_getElem? (i := 151) rfl), (List.forall_mem_cons.mpr ⟨t_in_2 _ (List.mem_of_getElem? (i := 104) rfl), (List.forall_mem_cons.mpr ⟨t_in_2 _ (List.mem_of_getElem? (i := 159) rfl), (List.forall_mem_cons.mpr ⟨t_in_1 _ (List.mem_of_getElem? (i := 133) rfl), (List.forall_mem_cons.mpr ⟨t_in_3 _ (List.mem_of_getElem? (i := 23) rfl), (List.forall_mem_cons.mpr ⟨t_in_3 _ (List.mem_of_getElem? (i := 24) rfl), (List.forall_mem_cons.mpr ⟨t_in_3 _ (List.mem_of_getElem? (i := 25) rfl), (List.forall_mem_cons.mpr ⟨t_in_1 _ (List.mem_of_getElem? (i := 4) rfl), (List.forall_mem_cons.mpr ⟨t_in_3 _ (List.mem_of_getElem? (i := 26) rfl), (List.forall_mem_cons.mpr ⟨t_in_1 _ (List.mem_of_getElem? (i := 59) rfl), (List.forall_mem_cons.mpr ⟨t_in_1 _ (List.mem_of_getElem? (i := 66) rfl), (List.forall_mem_cons.mpr ⟨t_in_1 _ (List.mem_of_getElem? (i := 67) rfl), (List.forall_mem_cons.mpr ⟨t_in_1 _ (List.mem_of_getElem? (i := 135) rfl), (List.forall_mem_cons.mpr ⟨t_in_1 _ (List.mem_of_getElem? (i := 137) rfl), (List.forall_mem_cons.mpr ⟨t_in_3 _ (List.mem_of_getElem? (i := 27) rfl), (List.forall_mem_cons.mpr ⟨t_in_3 _ (List.mem_of_getElem? (i := 28) rfl), (List.forall_mem_cons.mpr ⟨t_in_3 _ (List.mem_of_getElem? (i := 29) rfl), (List.forall_mem_cons.mpr ⟨t_in_3 _ (List.mem_of_getElem? (i := 30) rfl), (List.forall_mem_cons.mpr ⟨t_in_1 _ (List.mem_of_getElem? (i := 58) rfl), (List.forall_mem_cons.mpr ⟨t_in_1 _ (List.mem_of_getElem? (i := 38) rfl), (List.forall_mem_cons.mpr ⟨t_in_1 _ (List.mem_of_getElem? (i := 62) rfl), (List.forall_mem_cons.mpr ⟨t_in_1 _ (List.mem_of_getElem? (i := 60) rfl), (List.forall_mem_cons.mpr ⟨t_in_1 _ (List.mem_of_getElem? (i := 61) rfl), (List.forall_mem_cons.mpr ⟨t_in_2 _ (List.mem_of_getElem? (i := 197) rfl), (List.forall_mem_cons.mpr ⟨t_in_1 _ (List.mem_of_getElem? (i := 37) rfl), (List.forall_mem_cons.mpr ⟨t_in_2 _ (List.mem_of_getElem? (i := 206) rfl), (List.forall_mem_cons.mpr ⟨t_in_2 _ (List.mem_of_getElem? (i := 201) rfl), (List.forall_mem_cons.mpr ⟨t_in_1 _ (List.mem_of_getElem? (i := 236) rfl), (fun _ h => absurd h List.not_mem_nil)⟩)⟩)⟩)⟩)⟩)⟩)⟩)⟩)⟩)⟩)⟩)⟩)⟩)⟩)⟩)⟩)⟩)⟩)⟩)⟩)⟩)⟩)⟩)⟩)⟩)⟩)⟩)⟩)⟩)⟩)⟩)⟩)⟩)⟩)⟩)⟩)⟩)⟩)⟩)⟩)⟩)⟩)⟩)⟩) inX11) inX9) inX6) inX8) inX5) inX3) inX7) inX1)⟩))) (by decide +kernel)
set_option maxRecDepth 100000 in
theorem g_law_2_1 : GoodIn lw_tbl (wsV RL 27 RX12 yX12_town ws_p_X12_town) := goodIn_sub (show ∀ w ∈ wsV RL 27 RX12 yX12_town ws_p_X12_town, w ∈ lw_tbl from (all_app (List.forall_mem_cons.mpr ⟨t_in_7 _ (List.mem_of_getElem? (i := 48) rfl), (List.forall_mem_cons.mpr ⟨t_in_7 _ (List.mem_of_getElem? (i := 49) rfl), (List.forall_mem_cons.mpr ⟨t_in_7 _ (List.mem_of_getElem? (i := 50) rfl), (List.forall_mem_cons.mpr ⟨t_in_1 _ (List.mem_of_getElem? (i := 17) rfl), (fun _ h => absurd h List.not_mem_nil)⟩)⟩)⟩)⟩) (List.forall_mem_cons.mpr ⟨t_in_7 _ (List.mem_of_getElem? (i := 51) rfl), (all_app (List.forall_mem_cons.mpr ⟨t_in_6 _ (List.mem_of_getElem? (i := 17) rfl), (List.forall_mem_cons.mpr ⟨t_in_6 _ (List.mem_of_getElem? (i := 18) rfl), (List.forall_mem_cons.mpr ⟨t_in_6 _ (List.mem_of_getElem? (i := 21) rfl), (List.forall_mem_cons.mpr ⟨t_in_6 _ (List.mem_of_getElem? (i := 24) rfl), (List.forall_mem_cons.mpr ⟨t_in_6 _ (List.mem_of_getElem? (i := 25) rfl), (List.forall_mem_cons.mpr ⟨t_in_6 _ (List.mem_of_getElem? (i := 28) rfl), (List.forall_mem_cons.mpr ⟨t_in_6 _ (List.mem_of_getElem? (i := 63) rfl), (List.forall_mem_cons.mpr ⟨t_in_6 _ (List.mem_of_getElem? (i := 29) rfl), (List.forall_mem_cons.mpr ⟨t_in_6 _ (List.mem_of_getElem? (i := 31) rfl), (List.forall_mem_cons.mpr ⟨t_in_6 _ (List.mem_of_getElem? (i := 38) rfl), (List.forall_mem_cons.mpr ⟨t_in_6 _ (List.mem_of_getElem? (i := 43) rfl), (List.forall_mem_cons.mpr ⟨t_in_6 _ (List.mem_of_getElem? (i := 46) rfl), (List.forall_mem_cons.mpr ⟨t_in_6 _ (List.mem_of_getElem? (i := 49) rfl), (List.forall_mem_cons.mpr ⟨t_in_6 _ (List.mem_of_getElem? (i := 52) rfl), (List.forall_mem_cons.mpr ⟨t_in_6 _ (List.mem_of_getElem? (i := 56) rfl), (List.forall_mem_cons.mpr ⟨t_in_6 _ (List.mem_of_getElem? (i := 62) rfl), (List.forall_mem_cons.mpr ⟨t_in_7 _ (List.mem_of_getElem? (i := 52) rfl), (List.forall_mem_cons.mpr ⟨t_in_7 _ (List.mem_of_getElem? (i := 54) rfl), (List.forall_mem_cons.mpr ⟨s_in_5 (yX12_ahead, 85) (List.mem_of_getElem? (i := 6) rfl), (List.forall_mem_cons.mpr ⟨t_in_1 _ (List.mem_of_getElem? (i := 17) rfl), (List.forall_mem_cons.mpr ⟨t_in_7 _ (List.mem_of_getElem? (i := 55) rfl), (List.forall_mem_cons.mpr ⟨t_in_6 _ (List.mem_of_getElem? (i := 20) rfl), (List.forall_mem_cons.mpr ⟨t_in_6 _ (List.mem_of_getElem? (i := 19) rfl), (List.forall_mem_cons.mpr ⟨t_in_6 _ (List.mem_of_getElem? (i := 26) rfl), (List.forall_mem_cons.mpr ⟨t_in_6 _ (List.mem_of_getElem? (i := 27) rfl), (List.forall_mem_cons.mpr ⟨t_in_6 _ (List.mem_of_getElem? (i := 91) rfl), (fun _ h => absurd h List.not_mem_nil)⟩)⟩)⟩)⟩)⟩)⟩)⟩)⟩)⟩)⟩)⟩)⟩)⟩)⟩)⟩)⟩)⟩)⟩)⟩)⟩)⟩)⟩)⟩)⟩)⟩)⟩) inX12)⟩))) (by decide +kernel)
set_option maxHeartbeats 4000000 in
set_option maxRecDepth 100000 in
theorem law_case_2 {p : Program} {e : Env} {s : State} {m : MethodId} {below : List Frame} {meth : Method} {c : Code} (l : Launch) {b : Nat} {xs : Nat → Int32} (C0 : lw_At p s m meth c b 6 xs) (dC : Nat → ClassId) (dI : Nat → Nat → Nat) (cB cI cJ cZ cQ : ClassId) (x : Nat) (u q : Nat → Nat) {H : Heap} {locs : List Loc} {ls : Array Slot} (hK : va_K (dC, dI) vwCl (tyA cB cI cJ cZ cQ) s) (hP : va_P (dC, dI) vwCl [(x, .inr (11, [.ref (u 0), .ref (u 2), .ref (u 5), .ref (u 19), .ref (u 21), .ref (u 26), .ref (u 29), .ref (u 40), .ref (u 49), .ref (u 50), .ref (u 81)])), ((u 81), .inr (9, [.ref (u 82), .ref (u 83), .ref (u 89), .ref (u 90), .ref (u 91), .ref (u 92), .ref (u 93), .ref (u 94), .ref (u 95), .ref (u 96), .ref (u 97), .ref (u 98), .ref (u 99), .ref (u 100), .ref (u 103), .int 0])), ((u 82), .inl (cI, 8, .inl (fun _ => 0))), ((u 93), .inl (cI, 3, .inl (fun _ => 0))), ((u 103), .inr (6, [.ref (u 104), .ref (u 105), .ref (u 106), .ref (u 107)])), ((u 106), .inl (cI, 4, .inl (fun _ => 0))), ((u 100), .inr (8, [.ref (u 101), .ref (u 102), .int 0])), ((u 2), .inr (5, [.ref (u 4), .ref (u 3), .int 0, .int (-1), .int 0])), ((u 4), .inr (3, [.ref (u 0), .int 0, .int 0, .int 0, .int 0, .int (-1), .int 0])), ((u 0), .inr (7, [.ref (u 1), .int 0])), ((u 21), .inr (1, [.ref (u 22), .ref (u 23), .ref (u 24), .ref (u 25), .int 0, .int 0, .int 0, .int 0])), ((q 0), .inr (12, (mo q))), ((q 2), .inl (cI, 2, .inl (fun _ => 0))), ((q 4), .inl (cI, 2, .inl (fun _ => 0))), ((q 11), .inl (cI, 2, .inl (fun _ => 0))), ((q 16), .inl (cI, 2, .inl (fun _ => 0))), ((q 19), .inl (cI, 2, .inl (fun _ => 0))), ((q 22), .inl (cI, 2, .inl (fun _ => 0))), ((q 25), .inl (cI, 2, .inl (fun _ => 0))), ((q 29), .inl (cI, 2, .inl (fun _ => 0)))] H) (hD : va_D (fun b : Nat => s.heap.size ≤ b) [(x, .inr (11, [.ref (u 0), .ref (u 2), .ref (u 5), .ref (u 19), .ref (u 21), .ref (u 26), .ref (u 29), .ref (u 40), .ref (u 49), .ref (u 50), .ref (u 81)])), ((u 81), .inr (9, [.ref (u 82), .ref (u 83), .ref (u 89), .ref (u 90), .ref (u 91), .ref (u 92), .ref (u 93), .ref (u 94), .ref (u 95), .ref (u 96), .ref (u 97), .ref (u 98), .ref (u 99), .ref (u 100), .ref (u 103), .int 0])), ((u 82), .inl (cI, 8, .inl (fun _ => 0))), ((u 93), .inl (cI, 3, .inl (fun _ => 0))), ((u 103), .inr (6, [.ref (u 104), .ref (u 105), .ref (u 106), .ref (u 107)])), ((u 106), .inl (cI, 4, .inl (fun _ => 0))), ((u 100), .inr (8, [.ref (u 101), .ref (u 102), .int 0])), ((u 2), .inr (5, [.ref (u 4), .ref (u 3), .int 0, .int (-1), .int 0])), ((u 4), .inr (3, [.ref (u 0), .int 0, .int 0, .int 0, .int 0, .int (-1), .int 0])), ((u 0), .inr (7, [.ref (u 1), .int 0])), ((u 21), .inr (1, [.ref (u 22), .ref (u 23), .ref (u 24), .ref (u 25), .int 0, .int 0, .int 0, .int 0])), ((q 0), .inr (12, (mo q))), ((q 2), .inl (cI, 2, .inl (fun _ => 0))), ((q 4), .inl (cI, 2, .inl (fun _ => 0))), ((q 11), .inl (cI, 2, .inl (fun _ => 0))), ((q 16), .inl (cI, 2, .inl (fun _ => 0))), ((q 19), .inl (cI, 2, .inl (fun _ => 0))), ((q 22), .inl (cI, 2, .inl (fun _ => 0))), ((q 25), .inl (cI, 2, .inl (fun _ => 0))), ((q 29), .inl (cI, 2, .inl (fun _ => 0)))]) (hS : va_S (fun b : Nat => s.heap.size ≤ b) s.heap H locs) (hl : lv_has ls 4 [(3, .int 0), (2, .ref (q 0)), (1, .ref x), (0, .ref b)]) : W p l e room_1 s m #[Value.ref b] below meth c H locs 171 178311 (lw_Z below #[Value.ref b] s) (F0 m 282 ls []) := by
  obtain ⟨hx, hb, hr, hml, hown, hts, hX, hbl, hlocks, hgv⟩ := id C0
  have hA : ∀ a : Nat, s.heap.size ≤ a → (fun b : Nat => s.heap.size ≤ b) a := fun _ h => h
  have hbA : ¬ (fun b : Nat => s.heap.size ≤ b) b := Nat.not_le.mpr hbl
  obtain ⟨A, hAe⟩ : ∃ A : Nat → Prop, A = (fun b : Nat => s.heap.size ≤ b) := ⟨_, rfl⟩
  rw [← hAe] at hD hS hA hbA
  refine lv_aload_n hx hb dL_law_282 rfl (lv_at hl 2 rfl) ?_
  have hPc := hP.sub (ws' := [(x, .inr (11, [.ref (u 0), .ref (u 2), .ref (u 5), .ref (u 19), .ref (u 21), .ref (u 26), .ref (u 29), .ref (u 40), .ref (u 49), .ref (u 50), .ref (u 81)])), ((u 81), .inr (9, [.ref (u 82), .ref (u 83), .ref (u 89), .ref (u 90), .ref (u 91), .ref (u 92), .ref (u 93), .ref (u 94), .ref (u 95), .ref (u 96), .ref (u 97), .ref (u 98), .ref (u 99), .ref (u 100), .ref (u 103), .int 0])), ((u 82), .inl (cI, 8, .inl (fun _ => 0))), ((u 93), .inl (cI, 3, .inl (fun _ => 0))), ((u 103), .inr (6, [.ref (u 104), .ref (u 105), .ref (u 106), .ref (u 107)])), ((u 106), .inl (cI, 4, .inl (fun _ => 0))), ((u 100), .inr (8, [.ref (u 101), .ref (u 102), .int 0])), ((u 2), .inr (5, [.ref (u 4), .ref (u 3), .int 0, .int (-1), .int 0])), ((u 4), .inr (3, [.ref (u 0), .int 0, .int 0, .int 0, .int 0, .int (-1), .int 0])), ((u 0), .inr (7, [.ref (u 1), .int 0])), ((u 21), .inr (1, [.ref (u 22), .ref (u 23), .ref (u 24), .ref (u 25), .int 0, .int 0, .int 0, .int 0]))]) [0, 1, 2, 3, 4, 5, 6, 7, 8, 9, 10] rfl
  have hDc := hD.sub (ws' := [(x, .inr (11, [.ref (u 0), .ref (u 2), .ref (u 5), .ref (u 19), .ref (u 21), .ref (u 26), .ref (u 29), .ref (u 40), .ref (u 49), .ref (u 50), .ref (u 81)])), ((u 81), .inr (9, [.ref (u 82), .ref (u 83), .ref (u 89), .ref (u 90), .ref (u 91), .ref (u 92), .ref (u 93), .ref (u 94), .ref (u 95), .ref (u 96), .ref (u 97), .ref (u 98), .ref (u 99), .ref (u 100), .ref (u 103), .int 0])), ((u 82), .inl (cI, 8, .inl (fun _ => 0))), ((u 93), .inl (cI, 3, .inl (fun _ => 0))), ((u 103), .inr (6, [.ref (u 104), .ref (u 105), .ref (u 106), .ref (u 107)])), ((u 106), .inl (cI, 4, .inl (fun _ => 0))), ((u 100), .inr (8, [.ref (u 101), .ref (u 102), .int 0])), ((u 2), .inr (5, [.ref (u 4), .ref (u 3), .int 0, .int (-1), .int 0])), ((u 4), .inr (3, [.ref (u 0), .int 0, .int 0, .int 0, .int 0, .int (-1), .int 0])), ((u 0), .inr (7, [.ref (u 1), .int 0])), ((u 21), .inr (1, [.ref (u 22), .ref (u 23), .ref (u 24), .ref (u 25), .int 0, .int 0, .int 0, .int 0]))]) [0, 1, 2, 3, 4, 5, 6, 7, 8, 9, 10] (by decide) rfl
  have hFc := va_free (wc := [(x, .inr (11, [.ref (u 0), .ref (u 2), .ref (u 5), .ref (u 19), .ref (u 21), .ref (u 26), .ref (u 29), .ref (u 40), .ref (u 49), .ref (u 50), .ref (u 81)])), ((u 81), .inr (9, [.ref (u 82), .ref (u 83), .ref (u 89), .ref (u 90), .ref (u 91), .ref (u 92), .ref (u 93), .ref (u 94), .ref (u 95), .ref (u 96), .ref (u 97), .ref (u 98), .ref (u 99), .ref (u 100), .ref (u 103), .int 0])), ((u 82), .inl (cI, 8, .inl (fun _ => 0))), ((u 93), .inl (cI, 3, .inl (fun _ => 0))), ((u 103), .inr (6, [.ref (u 104), .ref (u 105), .ref (u 106), .ref (u 107)])), ((u 106), .inl (cI, 4, .inl (fun _ => 0))), ((u 100), .inr (8, [.ref (u 101), .ref (u 102), .int 0])), ((u 2), .inr (5, [.ref (u 4), .ref (u 3), .int 0, .int (-1), .int 0])), ((u 4), .inr (3, [.ref (u 0), .int 0, .int 0, .int 0, .int 0, .int (-1), .int 0])), ((u 0), .inr (7, [.ref (u 1), .int 0])), ((u 21), .inr (1, [.ref (u 22), .ref (u 23), .ref (u 24), .ref (u 25), .int 0, .int 0, .int 0, .int 0]))]) hD hS hA [0, 1, 2, 3, 4, 5, 6, 7, 8, 9, 10] rfl
  refine va_calli (va_runV (As := []) (rest := []) ⟨hx, hb, hml, hown, hts⟩ (p_X11_town l dC dI cB cI cJ cZ cQ H.size x (u 0) (u 2) (u 5) (u 19) (u 21) (u 26) (u 29) (u 40) (u 49) (u 50) (u 81) (u 82) (u 83) (u 89) (u 90) (u 91) (u 92) (u 93) (u 94) (u 95) (u 96) (u 97) (u 98) (u 99) (u 100) (u 103) (u 104) (u 105) (u 106) (u 107) (u 101) (u 102) (u 4) (u 3) (u 1) (u 22) (u 23) (u 24) (u 25)) (cwV 0 hts g_law_2_0 rfl rfl rfl (by decide +kernel) ⟨Nat.le_of_ble_eq_true rfl, Nat.le_of_ble_eq_true rfl⟩) ⟨fun a U g mk Z => by obtain ⟨q0, q1, qP, qK, qD⟩ := Z; exact ⟨q0, q1, qP, va_K.moved (u := U) (U := U.calling g mk a) (Vm.Alike.refl U.vm) qK, qD⟩, va_recv hK hPc (ci := 11) (q0 := 0) rfl rfl, fun U hU hW => ⟨rfl, by rw [hU], by rw [hU]; exact hPc, va_K.moved hW.alike hK, hDc.weaken (fun _ _ _ _ => trivial)⟩⟩ rfl rfl hl.1 rfl (lv_room (Nat.le_of_ble_eq_true rfl)) dL_law_283 ⟨Nat.le_of_ble_eq_true rfl, Nat.le_of_ble_eq_true rfl⟩) hS (fun b _ h => hFc b h) hFc (fun r2 u1 t H1 locs ht hvm hw hB hz1 hk1 hS => ?_)
  obtain ⟨hP, hD⟩ := va_join (wr := [((q 0), .inr (12, (mo q))), ((q 2), .inl (cI, 2, .inl (fun _ => 0))), ((q 4), .inl (cI, 2, .inl (fun _ => 0))), ((q 11), .inl (cI, 2, .inl (fun _ => 0))), ((q 16), .inl (cI, 2, .inl (fun _ => 0))), ((q 19), .inl (cI, 2, .inl (fun _ => 0))), ((q 22), .inl (cI, 2, .inl (fun _ => 0))), ((q 25), .inl (cI, 2, .inl (fun _ => 0))), ((q 29), .inl (cI, 2, .inl (fun _ => 0)))]) (w1 := []) hP hD [0, 1, 2, 3, 4, 5, 6, 7, 8, 9, 10] [11, 12, 13, 14, 15, 16, 17, 18, 19] rfl rfl (by decide) (by decide) hk1 hFc (fun k b h => by simp at h) ⟨fun i j p b h => by simp at h, fun k b h => by simp at h⟩
  clear hk1 hz1 hvm hPc hDc hFc
  generalize H1 = H at hP hS ⊢
  have hP : va_P (dC, dI) vwCl [((q 0), .inr (12, (mo q))), ((q 2), .inl (cI, 2, .inl (fun _ => 0))), ((q 4), .inl (cI, 2, .inl (fun _ => 0))), ((q 11), .inl (cI, 2, .inl (fun _ => 0))), ((q 16), .inl (cI, 2, .inl (fun _ => 0))), ((q 19), .inl (cI, 2, .inl (fun _ => 0))), ((q 22), .inl (cI, 2, .inl (fun _ => 0))), ((q 25), .inl (cI, 2, .inl (fun _ => 0))), ((q 29), .inl (cI, 2, .inl (fun _ => 0)))] H := hP
  have hD : va_D A [((q 0), .inr (12, (mo q))), ((q 2), .inl (cI, 2, .inl (fun _ => 0))), ((q 4), .inl (cI, 2, .inl (fun _ => 0))), ((q 11), .inl (cI, 2, .inl (fun _ => 0))), ((q 16), .inl (cI, 2, .inl (fun _ => 0))), ((q 19), .inl (cI, 2, .inl (fun _ => 0))), ((q 22), .inl (cI, 2, .inl (fun _ => 0))), ((q 25), .inl (cI, 2, .inl (fun _ => 0))), ((q 29), .inl (cI, 2, .inl (fun _ => 0)))] := hD
  subst hw
  refine lv_aload_n hx hb dL_law_286 rfl (lv_at hl 1 rfl) ?_
  have hPc := hP.sub (ws' := [((q 0), .inr (12, (mo q))), ((q 2), .inl (cI, 2, .inl (fun _ => 0))), ((q 4), .inl (cI, 2, .inl (fun _ => 0))), ((q 11), .inl (cI, 2, .inl (fun _ => 0))), ((q 16), .inl (cI, 2, .inl (fun _ => 0))), ((q 19), .inl (cI, 2, .inl (fun _ => 0))), ((q 22), .inl (cI, 2, .inl (fun _ => 0))), ((q 25), .inl (cI, 2, .inl (fun _ => 0))), ((q 29), .inl (cI, 2, .inl (fun _ => 0)))]) [0, 1, 2, 3, 4, 5, 6, 7, 8] rfl
  have hDc := hD.sub (ws' := [((q 0), .inr (12, (mo q))), ((q 2), .inl (cI, 2, .inl (fun _ => 0))), ((q 4), .inl (cI, 2, .inl (fun _ => 0))), ((q 11), .inl (cI, 2, .inl (fun _ => 0))), ((q 16), .inl (cI, 2, .inl (fun _ => 0))), ((q 19), .inl (cI, 2, .inl (fun _ => 0))), ((q 22), .inl (cI, 2, .inl (fun _ => 0))), ((q 25), .inl (cI, 2, .inl (fun _ => 0))), ((q 29), .inl (cI, 2, .inl (fun _ => 0)))]) [0, 1, 2, 3, 4, 5, 6, 7, 8] (by decide) rfl
  have hFc := va_free (wc := [((q 0), .inr (12, (mo q))), ((q 2), .inl (cI, 2, .inl (fun _ => 0))), ((q 4), .inl (cI, 2, .inl (fun _ => 0))), ((q 11), .inl (cI, 2, .inl (fun _ => 0))), ((q 16), .inl (cI, 2, .inl (fun _ => 0))), ((q 19), .inl (cI, 2, .inl (fun _ => 0))), ((q 22), .inl (cI, 2, .inl (fun _ => 0))), ((q 25), .inl (cI, 2, .inl (fun _ => 0))), ((q 29), .inl (cI, 2, .inl (fun _ => 0)))]) hD hS hA [0, 1, 2, 3, 4, 5, 6, 7, 8] rfl
  refine va_calli (va_runV (As := []) (rest := [.int 0]) ⟨hx, hb, hml, hown, hts⟩ (p_X12_town l dC dI cB cI cJ cZ cQ H.size q) (cwV 0 hts g_law_2_1 rfl rfl rfl (by decide +kernel) ⟨Nat.le_of_ble_eq_true rfl, Nat.le_of_ble_eq_true rfl⟩) ⟨fun a U g mk Z => by obtain ⟨q0, q1, qP, qK, qD⟩ := Z; exact ⟨q0, q1, qP, va_K.moved (u := U) (U := U.calling g mk a) (Vm.Alike.refl U.vm) qK, qD⟩, va_recv hK hPc (ci := 12) (q0 := 0) rfl rfl, fun U hU hW => ⟨rfl, by rw [hU], by rw [hU]; exact hPc, va_K.moved hW.alike hK, hDc.weaken (fun _ _ _ _ => trivial)⟩⟩ rfl rfl hl.1 rfl (lv_room (Nat.le_of_ble_eq_true rfl)) dL_law_287 ⟨Nat.le_of_ble_eq_true rfl, Nat.le_of_ble_eq_true rfl⟩) hS (fun b _ h => hFc b h) hFc (fun r4 u3 t H1 locs ht hvm hw hB hz1 hk1 hS => ?_)
  obtain ⟨hP, hD⟩ := va_join (wr := []) (w1 := []) hP hD [0, 1, 2, 3, 4, 5, 6, 7, 8] [] rfl rfl (by decide) (by decide) hk1 hFc (fun k b h => by simp at h) ⟨fun i j p b h => by simp at h, fun k b h => by simp at h⟩
  clear hk1 hz1 hvm hPc hDc hFc
  generalize H1 = H at hP hS ⊢
  have hP : va_P (dC, dI) vwCl [] H := hP
  have hD : va_D A [] := hD
  subst hw
  refine lv_icmp_eq (tgt := 1273) hx hb dL_law_290 (by decide) (fun _ => ?_) (fun c => absurd c (by decide +kernel))
  exact law_tail l C0 (by decide) (by decide) (by rw [hAe] at hS; exact hS) (lv_sub hl [3, 2, 1, 0] rfl)
set_option maxRecDepth 100000 in
theorem g_law_3_0 : GoodIn lw_tbl (wsV RL 28 RX11 yX11_fault ws_p_X11_fault) := goodIn_sub (show ∀ w ∈ wsV RL 28 RX11 yX11_fault ws_p_X11_fault, w ∈ lw_tbl from (all_app (List.forall_mem_cons.mpr ⟨t_in_3 _ (List.mem_of_getElem? (i := 239) rfl), (List.forall_mem_cons.mpr ⟨t_in_4 _ (List.mem_of_getElem? (i := 0) rfl), (List.forall_mem_cons.mpr ⟨t_in_4 _ (List.mem_of_getElem? (i := 1) rfl), (List.forall_mem_cons.mpr ⟨t_in_1 _ (List.mem_of_getElem? (i := 1) rfl), (fun _ h => absurd h List.not_mem_nil)⟩)⟩)⟩)⟩) (List.forall_mem_cons.mpr ⟨t_in_4 _ (List.mem_of_getElem? (i := 2) rfl), (all_app (all_app (List.forall_mem_cons.mpr ⟨t_in_2 _ (List.mem_of_getElem? (i := 198) rfl), (List.forall_mem_cons.mpr ⟨t_in_1 _ (List.mem_of_getElem? (i := 138) rfl), (List.forall_mem_cons.mpr ⟨t_in_1 _ (List.mem_of_getElem? (i := 136) rfl), (fun _ h => absurd h List.not_mem_nil)⟩)⟩)⟩) inX11) inX5)⟩))) (by decide +kernel)
set_option maxRecDepth 100000 in
theorem g_law_3_1 : GoodIn lw_tbl (wsV RL 32 RX12 yX12_fault ws_p_X12_fault) := goodIn_sub (show ∀ w ∈ wsV RL 32 RX12 yX12_fault ws_p_X12_fault, w ∈ lw_tbl from (all_app (List.forall_mem_cons.mpr ⟨t_in_8 _ (List.mem_of_getElem? (i := 1) rfl), (List.forall_mem_cons.mpr ⟨t_in_8 _ (List.mem_of_getElem? (i := 2) rfl), (List.forall_mem_cons.mpr ⟨t_in_8 _ (List.mem_of_getElem? (i := 3) rfl), (List.forall_mem_cons.mpr ⟨t_in_1 _ (List.mem_of_getElem? (i := 17) rfl), (fun _ h => absurd h List.not_mem_nil)⟩)⟩)⟩)⟩) (List.forall_mem_cons.mpr ⟨t_in_8 _ (List.mem_of_getElem? (i := 4) rfl), (all_app (List.forall_mem_cons.mpr ⟨t_in_6 _ (List.mem_of_getElem? (i := 27) rfl), (List.forall_mem_cons.mpr ⟨t_in_6 _ (List.mem_of_getElem? (i := 26) rfl), (fun _ h => absurd h List.not_mem_nil)⟩)⟩) inX12)⟩))) (by decide +kernel)
set_option maxRecDepth 100000 in
theorem g_law_3_2 : GoodIn lw_tbl (wsV RL 32 RX12 yX12_fault ws_p_X12_fault) := goodIn_sub (show ∀ w ∈ wsV RL 32 RX12 yX12_fault ws_p_X12_fault, w ∈ lw_tbl from (all_app (List.forall_mem_cons.mpr ⟨t_in_8 _ (List.mem_of_getElem? (i := 1) rfl), (List.forall_mem_cons.mpr ⟨t_in_8 _ (List.mem_of_getElem? (i := 2) rfl), (List.forall_mem_cons.mpr ⟨t_in_8 _ (List.mem_of_getElem? (i := 3) rfl), (List.forall_mem_cons.mpr ⟨t_in_1 _ (List.mem_of_getElem? (i := 17) rfl), (fun _ h => absurd h List.not_mem_nil)⟩)⟩)⟩)⟩) (List.forall_mem_cons.mpr ⟨t_in_8 _ (List.mem_of_getElem? (i := 4) rfl), (all_app (List.forall_mem_cons.mpr ⟨t_in_6 _ (List.mem_of_getElem? (i := 27) rfl), (List.forall_mem_cons.mpr ⟨t_in_6 _ (List.mem_of_getElem? (i := 26) rfl), (fun _ h => absurd h List.not_mem_nil)⟩)⟩) inX12)⟩))) (by decide +kernel)
set_option maxHeartbeats 4000000 in
set_option maxRecDepth 100000 in
theorem law_case_3 {p : Program} {e : Env} {s : State} {m : MethodId} {below : List Frame} {meth : Method} {c : Code} (l : Launch) {b : Nat} {xs : Nat → Int32} (C0 : lw_At p s m meth c b 6 xs) (dC : Nat → ClassId) (dI : Nat → Nat → Nat) (cB cI cJ cZ cQ : ClassId) (x : Nat) (u q : Nat → Nat) {H : Heap} {locs : List Loc} {ls : Array Slot} (hK : va_K (dC, dI) vwCl (tyA cB cI cJ cZ cQ) s) (hP : va_P (dC, dI) vwCl [(x, .inr (11, [.ref (u 0), .ref (u 2), .ref (u 5), .ref (u 19), .ref (u 21), .ref (u 26), .ref (u 29), .ref (u 40), .ref (u 49), .ref (u 50), .ref (u 81)])), ((u 2), .inr (5, [.ref (u 4), .ref (u 3), .int 0, .int (-1), .int 0])), ((q 0), .inr (12, (mo q)))] H) (hD : va_D (fun b : Nat => s.heap.size ≤ b) [(x, .inr (11, [.ref (u 0), .ref (u 2), .ref (u 5), .ref (u 19), .ref (u 21), .ref (u 26), .ref (u 29), .ref (u 40), .ref (u 49), .ref (u 50), .ref (u 81)])), ((u 2), .inr (5, [.ref (u 4), .ref (u 3), .int 0, .int (-1), .int 0])), ((q 0), .inr (12, (mo q)))]) (hS : va_S (fun b : Nat => s.heap.size ≤ b) s.heap H locs) (hl : lv_has ls 4 [(3, .int 0), (2, .ref (q 0)), (1, .ref x), (0, .ref b)]) : W p l e room_1 s m #[Value.ref b] below meth c H locs 171 178311 (lw_Z below #[Value.ref b] s) (F0 m 295 ls []) := by
  obtain ⟨hx, hb, hr, hml, hown, hts, hX, hbl, hlocks, hgv⟩ := id C0
  have hA : ∀ a : Nat, s.heap.size ≤ a → (fun b : Nat => s.heap.size ≤ b) a := fun _ h => h
  have hbA : ¬ (fun b : Nat => s.heap.size ≤ b) b := Nat.not_le.mpr hbl
  obtain ⟨A, hAe⟩ : ∃ A : Nat → Prop, A = (fun b : Nat => s.heap.size ≤ b) := ⟨_, rfl⟩
  rw [← hAe] at hD hS hA hbA
  refine lv_aload_n hx hb dL_law_295 rfl (lv_at hl 2 rfl) ?_
  refine lv_aload_n hx hb dL_law_296 rfl (lv_at hl 3 rfl) ?_
  refine lv_iload_n hx hb dL_law_297 rfl (lv_at hl 0 rfl) ?_
  refine lv_iconst (v := 1) hx hb dL_law_298 (by decide +kernel) ?_
  refine lv_iadd hx hb dL_law_299 ?_
  refine tp_i (y := 1) (by decide +kernel) ?_
  refine va_sld hx hb hX hbl hbA hS (vpc _ _ (by decide +kernel)) dL_law_300 ?_
  refine tp_i (y := xs 1) (congrArg xs (by decide +kernel)) ?_
  have hPc := hP.sub (ws' := [(x, .inr (11, [.ref (u 0), .ref (u 2), .ref (u 5), .ref (u 19), .ref (u 21), .ref (u 26), .ref (u 29), .ref (u 40), .ref (u 49), .ref (u 50), .ref (u 81)])), ((u 2), .inr (5, [.ref (u 4), .ref (u 3), .int 0, .int (-1), .int 0]))]) [0, 1] rfl
  have hDc := hD.sub (ws' := [(x, .inr (11, [.ref (u 0), .ref (u 2), .ref (u 5), .ref (u 19), .ref (u 21), .ref (u 26), .ref (u 29), .ref (u 40), .ref (u 49), .ref (u 50), .ref (u 81)])), ((u 2), .inr (5, [.ref (u 4), .ref (u 3), .int 0, .int (-1), .int 0]))]) [0, 1] (by decide) rfl
  have hFc := va_free (wc := [(x, .inr (11, [.ref (u 0), .ref (u 2), .ref (u 5), .ref (u 19), .ref (u 21), .ref (u 26), .ref (u 29), .ref (u 40), .ref (u 49), .ref (u 50), .ref (u 81)])), ((u 2), .inr (5, [.ref (u 4), .ref (u 3), .int 0, .int (-1), .int 0]))]) hD hS hA [0, 1] rfl
  refine va_calli (va_runV (As := [.int (xs 1)]) (rest := []) ⟨hx, hb, hml, hown, hts⟩ (p_X11_fault l dC dI cB cI cJ cZ cQ H.size x (u 0) (u 2) (u 5) (u 19) (u 21) (u 26) (u 29) (u 40) (u 49) (u 50) (u 81) (u 4) (u 3) (xs 1)) (cwV 1 hts g_law_3_0 rfl rfl rfl (by decide +kernel) ⟨Nat.le_of_ble_eq_true rfl, Nat.le_of_ble_eq_true rfl⟩) ⟨fun a U g mk Z => by obtain ⟨q0, q1, qP, qK, qD⟩ := Z; exact ⟨q0, q1, qP, va_K.moved (u := U) (U := U.calling g mk a) (Vm.Alike.refl U.vm) qK, qD⟩, va_recv hK hPc (ci := 11) (q0 := 0) rfl rfl, fun U hU hW => ⟨rfl, by rw [hU], by rw [hU]; exact hPc, va_K.moved hW.alike hK, hDc.weaken (fun _ _ _ _ => trivial)⟩⟩ rfl rfl hl.1 rfl (lv_room (Nat.le_of_ble_eq_true rfl)) dL_law_301 ⟨Nat.le_of_ble_eq_true rfl, Nat.le_of_ble_eq_true rfl⟩) hS (fun b _ h => hFc b h) hFc (fun r2 u1 t H1 locs ht hvm hw hB hz1 hk1 hS => ?_)
  obtain ⟨hP, hD⟩ := va_join (wr := [((q 0), .inr (12, (mo q)))]) (w1 := []) hP hD [0, 1] [2] rfl rfl (by decide) (by decide) hk1 hFc (fun k b h => by simp at h) ⟨fun i j p b h => by simp at h, fun k b h => by simp at h⟩
  clear hk1 hz1 hvm hPc hDc hFc
  generalize H1 = H at hP hS ⊢
  have hP : va_P (dC, dI) vwCl [((q 0), .inr (12, (mo q)))] H := hP
  have hD : va_D A [((q 0), .inr (12, (mo q)))] := hD
  rcases hw with ⟨hw, hcu1⟩ | ⟨hw, hcu1⟩
  · subst hw
    refine lv_aload_n hx hb dL_law_304 rfl (lv_at hl 1 rfl) ?_
    refine lv_aload_n hx hb dL_law_305 rfl (lv_at hl 3 rfl) ?_
    refine lv_iload_n hx hb dL_law_306 rfl (lv_at hl 0 rfl) ?_
    refine lv_iconst (v := 1) hx hb dL_law_307 (by decide +kernel) ?_
    refine lv_iadd hx hb dL_law_308 ?_
    refine tp_i (y := 1) (by decide +kernel) ?_
    refine va_sld hx hb hX hbl hbA hS (vpc _ _ (by decide +kernel)) dL_law_309 ?_
    refine tp_i (y := xs 1) (congrArg xs (by decide +kernel)) ?_
    have hPc := hP.sub (ws' := [((q 0), .inr (12, (mo q)))]) [0] rfl
    have hDc := hD.sub (ws' := [((q 0), .inr (12, (mo q)))]) [0] (by decide) rfl
    have hFc := va_free (wc := [((q 0), .inr (12, (mo q)))]) hD hS hA [0] rfl
    refine va_calli (va_runV (As := [.int (xs 1)]) (rest := [.int (-1)]) ⟨hx, hb, hml, hown, hts⟩ (p_X12_fault l dC dI cB cI cJ cZ cQ H.size q (xs 1)) (cwV 1 hts g_law_3_1 rfl rfl rfl (by decide +kernel) ⟨Nat.le_of_ble_eq_true rfl, Nat.le_of_ble_eq_true rfl⟩) ⟨fun a U g mk Z => by obtain ⟨q0, q1, qP, qK, qD⟩ := Z; exact ⟨q0, q1, qP, va_K.moved (u := U) (U := U.calling g mk a) (Vm.Alike.refl U.vm) qK, qD⟩, va_recv hK hPc (ci := 12) (q0 := 0) rfl rfl, fun U hU hW => ⟨rfl, by rw [hU], by rw [hU]; exact hPc, va_K.moved hW.alike hK, hDc.weaken (fun _ _ _ _ => trivial)⟩⟩ rfl rfl hl.1 rfl (lv_room (Nat.le_of_ble_eq_true rfl)) dL_law_310 ⟨Nat.le_of_ble_eq_true rfl, Nat.le_of_ble_eq_true rfl⟩) hS (fun b _ h => hFc b h) hFc (fun r4 u3 t H1 locs ht hvm hw hB hz1 hk1 hS => ?_)
    obtain ⟨hP, hD⟩ := va_join (wr := []) (w1 := []) hP hD [0] [] rfl rfl (by decide) (by decide) hk1 hFc (fun k b h => by simp at h) ⟨fun i j p b h => by simp at h, fun k b h => by simp at h⟩
    clear hk1 hz1 hvm hPc hDc hFc
    generalize H1 = H at hP hS ⊢
    have hP : va_P (dC, dI) vwCl [] H := hP
    have hD : va_D A [] := hD
    rcases hw with ⟨hw, hcu3⟩ | ⟨hw, hcu3⟩
    · subst hw
      refine lv_icmp_eq (tgt := 1273) hx hb dL_law_313 (by decide) (fun _ => ?_) (fun c => absurd c (by decide +kernel))
      exact law_tail l C0 (by decide) (by decide) (by rw [hAe] at hS; exact hS) (lv_sub hl [3, 2, 1, 0] rfl)
    · subst hw
      refine lv_icmp_eq (tgt := 1273) hx hb dL_law_313 (by decide) (fun c => absurd c (by decide +kernel)) (fun _ => ?_)
      refine lv_iconst (v := 0) hx hb dL_law_316 (by decide +kernel) ?_
      exact False.elim (by omega)
  · subst hw
    refine lv_aload_n hx hb dL_law_304 rfl (lv_at hl 1 rfl) ?_
    refine lv_aload_n hx hb dL_law_305 rfl (lv_at hl 3 rfl) ?_
    refine lv_iload_n hx hb dL_law_306 rfl (lv_at hl 0 rfl) ?_
    refine lv_iconst (v := 1) hx hb dL_law_307 (by decide +kernel) ?_
    refine lv_iadd hx hb dL_law_308 ?_
    refine tp_i (y := 1) (by decide +kernel) ?_
    refine va_sld hx hb hX hbl hbA hS (vpc _ _ (by decide +kernel)) dL_law_309 ?_
    refine tp_i (y := xs 1) (congrArg xs (by decide +kernel)) ?_
    have hPc := hP.sub (ws' := [((q 0), .inr (12, (mo q)))]) [0] rfl
    have hDc := hD.sub (ws' := [((q 0), .inr (12, (mo q)))]) [0] (by decide) rfl
    have hFc := va_free (wc := [((q 0), .inr (12, (mo q)))]) hD hS hA [0] rfl
    refine va_calli (va_runV (As := [.int (xs 1)]) (rest := [.int 0]) ⟨hx, hb, hml, hown, hts⟩ (p_X12_fault l dC dI cB cI cJ cZ cQ H.size q (xs 1)) (cwV 1 hts g_law_3_2 rfl rfl rfl (by decide +kernel) ⟨Nat.le_of_ble_eq_true rfl, Nat.le_of_ble_eq_true rfl⟩) ⟨fun a U g mk Z => by obtain ⟨q0, q1, qP, qK, qD⟩ := Z; exact ⟨q0, q1, qP, va_K.moved (u := U) (U := U.calling g mk a) (Vm.Alike.refl U.vm) qK, qD⟩, va_recv hK hPc (ci := 12) (q0 := 0) rfl rfl, fun U hU hW => ⟨rfl, by rw [hU], by rw [hU]; exact hPc, va_K.moved hW.alike hK, hDc.weaken (fun _ _ _ _ => trivial)⟩⟩ rfl rfl hl.1 rfl (lv_room (Nat.le_of_ble_eq_true rfl)) dL_law_310 ⟨Nat.le_of_ble_eq_true rfl, Nat.le_of_ble_eq_true rfl⟩) hS (fun b _ h => hFc b h) hFc (fun r6 u5 t H1 locs ht hvm hw hB hz1 hk1 hS => ?_)
    obtain ⟨hP, hD⟩ := va_join (wr := []) (w1 := []) hP hD [0] [] rfl rfl (by decide) (by decide) hk1 hFc (fun k b h => by simp at h) ⟨fun i j p b h => by simp at h, fun k b h => by simp at h⟩
    clear hk1 hz1 hvm hPc hDc hFc
    generalize H1 = H at hP hS ⊢
    have hP : va_P (dC, dI) vwCl [] H := hP
    have hD : va_D A [] := hD
    rcases hw with ⟨hw, hcu5⟩ | ⟨hw, hcu5⟩
    · subst hw
      refine lv_icmp_eq (tgt := 1273) hx hb dL_law_313 (by decide) (fun c => absurd c (by decide +kernel)) (fun _ => ?_)
      refine lv_iconst (v := 0) hx hb dL_law_316 (by decide +kernel) ?_
      exact False.elim (by omega)
    · subst hw
      refine lv_icmp_eq (tgt := 1273) hx hb dL_law_313 (by decide) (fun _ => ?_) (fun c => absurd c (by decide +kernel))
      exact law_tail l C0 (by decide) (by decide) (by rw [hAe] at hS; exact hS) (lv_sub hl [3, 2, 1, 0] rfl)
set_option maxRecDepth 100000 in
theorem g_law_4_0 : GoodIn lw_tbl (wsV RL 33 RX11 yX11_has ws_p_X11_has) := goodIn_sub (show ∀ w ∈ wsV RL 33 RX11 yX11_has ws_p_X11_has, w ∈ lw_tbl from (all_app (List.forall_mem_cons.mpr ⟨t_in_4 _ (List.mem_of_getElem? (i := 3) rfl), (List.forall_mem_cons.mpr ⟨t_in_4 _ (List.mem_of_getElem? (i := 4) rfl), (List.forall_mem_cons.mpr ⟨t_in_4 _ (List.mem_of_getElem? (i := 5) rfl), (List.forall_mem_cons.mpr ⟨t_in_1 _ (List.mem_of_getElem? (i := 1) rfl), (fun _ h => absurd h List.not_mem_nil)⟩)⟩)⟩)⟩) (List.forall_mem_cons.mpr ⟨t_in_4 _ (List.mem_of_getElem? (i := 6) rfl), (all_app (all_app (List.forall_mem_cons.mpr ⟨t_in_2 _ (List.mem_of_getElem? (i := 206) rfl), (List.forall_mem_cons.mpr ⟨t_in_2 _ (List.mem_of_getElem? (i := 122) rfl), (List.forall_mem_cons.mpr ⟨t_in_4 _ (List.mem_of_getElem? (i := 16) rfl), (List.forall_mem_cons.mpr ⟨t_in_4 _ (List.mem_of_getElem? (i := 17) rfl), (List.forall_mem_cons.mpr ⟨t_in_4 _ (List.mem_of_getElem? (i := 18) rfl), (List.forall_mem_cons.mpr ⟨t_in_1 _ (List.mem_of_getElem? (i := 15) rfl), (List.forall_mem_cons.mpr ⟨t_in_4 _ (List.mem_of_getElem? (i := 19) rfl), (List.forall_mem_cons.mpr ⟨t_in_2 _ (List.mem_of_getElem? (i := 159) rfl), (List.forall_mem_cons.mpr ⟨t_in_2 _ (List.mem_of_getElem? (i := 115) rfl), (List.forall_mem_cons.mpr ⟨t_in_4 _ (List.mem_of_getElem? (i := 15) rfl), (List.forall_mem_cons.mpr ⟨t_in_3 _ (List.mem_of_getElem? (i := 138) rfl), (List.forall_mem_cons.mpr ⟨t_in_1 _ (List.mem_of_getElem? (i := 18) rfl), (List.forall_mem_cons.mpr ⟨t_in_3 _ (List.mem_of_getElem? (i := 139) rfl), (List.forall_mem_cons.mpr ⟨t_in_3 _ (List.mem_of_getElem? (i := 140) rfl), (List.forall_mem_cons.mpr ⟨t_in_3 _ (List.mem_of_getElem? (i := 141) rfl), (List.forall_mem_cons.mpr ⟨t_in_3 _ (List.mem_of_getElem? (i := 142) rfl), (List.forall_mem_cons.mpr ⟨t_in_4 _ (List.mem_of_getElem? (i := 7) rfl), (List.forall_mem_cons.mpr ⟨t_in_4 _ (List.mem_of_getElem? (i := 8) rfl), (List.forall_mem_cons.mpr ⟨t_in_4 _ (List.mem_of_getElem? (i := 9) rfl), (List.forall_mem_cons.mpr ⟨t_in_4 _ (List.mem_of_getElem? (i := 10) rfl), (fun _ h => absurd h List.not_mem_nil)⟩)⟩)⟩)⟩)⟩)⟩)⟩)⟩)⟩)⟩)⟩)⟩)⟩)⟩)⟩)⟩)⟩)⟩)⟩)⟩) inX11) inX9)⟩))) (by decide +kernel)
set_option maxRecDepth 100000 in
theorem g_law_4_1 : GoodIn lw_tbl (wsV RL 36 RX12 yX12_has ws_p_X12_has) := goodIn_sub (show ∀ w ∈ wsV RL 36 RX12 yX12_has ws_p_X12_has, w ∈ lw_tbl from (all_app (List.forall_mem_cons.mpr ⟨t_in_8 _ (List.mem_of_getElem? (i := 9) rfl), (List.forall_mem_cons.mpr ⟨t_in_8 _ (List.mem_of_getElem? (i := 10) rfl), (List.forall_mem_cons.mpr ⟨t_in_8 _ (List.mem_of_getElem? (i := 11) rfl), (List.forall_mem_cons.mpr ⟨t_in_1 _ (List.mem_of_getElem? (i := 17) rfl), (fun _ h => absurd h List.not_mem_nil)⟩)⟩)⟩)⟩) (List.forall_mem_cons.mpr ⟨t_in_8 _ (List.mem_of_getElem? (i := 12) rfl), (all_app (List.forall_mem_cons.mpr ⟨t_in_6 _ (List.mem_of_getElem? (i := 29) rfl), (List.forall_mem_cons.mpr ⟨t_in_6 _ (List.mem_of_getElem? (i := 28) rfl), (List.forall_mem_cons.mpr ⟨t_in_6 _ (List.mem_of_getElem? (i := 31) rfl), (List.forall_mem_cons.mpr ⟨t_in_6 _ (List.mem_of_getElem? (i := 38) rfl), (List.forall_mem_cons.mpr ⟨t_in_6 _ (List.mem_of_getElem? (i := 43) rfl), (List.forall_mem_cons.mpr ⟨t_in_6 _ (List.mem_of_getElem? (i := 46) rfl), (List.forall_mem_cons.mpr ⟨t_in_6 _ (List.mem_of_getElem? (i := 49) rfl), (List.forall_mem_cons.mpr ⟨t_in_6 _ (List.mem_of_getElem? (i := 52) rfl), (List.forall_mem_cons.mpr ⟨t_in_6 _ (List.mem_of_getElem? (i := 56) rfl), (List.forall_mem_cons.mpr ⟨t_in_8 _ (List.mem_of_getElem? (i := 13) rfl), (List.forall_mem_cons.mpr ⟨t_in_8 _ (List.mem_of_getElem? (i := 15) rfl), (List.forall_mem_cons.mpr ⟨s_in_7 (yX12_closedAll, 85) (List.mem_of_getElem? (i := 11) rfl), (List.forall_mem_cons.mpr ⟨t_in_1 _ (List.mem_of_getElem? (i := 17) rfl), (List.forall_mem_cons.mpr ⟨t_in_8 _ (List.mem_of_getElem? (i := 16) rfl), (fun _ h => absurd h List.not_mem_nil)⟩)⟩)⟩)⟩)⟩)⟩)⟩)⟩)⟩)⟩)⟩)⟩)⟩)⟩) inX12)⟩))) (by decide +kernel)
set_option maxRecDepth 100000 in
theorem g_law_4_2 : GoodIn lw_tbl (wsV RL 36 RX12 yX12_has ws_p_X12_has) := goodIn_sub (show ∀ w ∈ wsV RL 36 RX12 yX12_has ws_p_X12_has, w ∈ lw_tbl from (all_app (List.forall_mem_cons.mpr ⟨t_in_8 _ (List.mem_of_getElem? (i := 9) rfl), (List.forall_mem_cons.mpr ⟨t_in_8 _ (List.mem_of_getElem? (i := 10) rfl), (List.forall_mem_cons.mpr ⟨t_in_8 _ (List.mem_of_getElem? (i := 11) rfl), (List.forall_mem_cons.mpr ⟨t_in_1 _ (List.mem_of_getElem? (i := 17) rfl), (fun _ h => absurd h List.not_mem_nil)⟩)⟩)⟩)⟩) (List.forall_mem_cons.mpr ⟨t_in_8 _ (List.mem_of_getElem? (i := 12) rfl), (all_app (List.forall_mem_cons.mpr ⟨t_in_6 _ (List.mem_of_getElem? (i := 29) rfl), (List.forall_mem_cons.mpr ⟨t_in_6 _ (List.mem_of_getElem? (i := 28) rfl), (List.forall_mem_cons.mpr ⟨t_in_6 _ (List.mem_of_getElem? (i := 31) rfl), (List.forall_mem_cons.mpr ⟨t_in_6 _ (List.mem_of_getElem? (i := 38) rfl), (List.forall_mem_cons.mpr ⟨t_in_6 _ (List.mem_of_getElem? (i := 43) rfl), (List.forall_mem_cons.mpr ⟨t_in_6 _ (List.mem_of_getElem? (i := 46) rfl), (List.forall_mem_cons.mpr ⟨t_in_6 _ (List.mem_of_getElem? (i := 49) rfl), (List.forall_mem_cons.mpr ⟨t_in_6 _ (List.mem_of_getElem? (i := 52) rfl), (List.forall_mem_cons.mpr ⟨t_in_6 _ (List.mem_of_getElem? (i := 56) rfl), (List.forall_mem_cons.mpr ⟨t_in_8 _ (List.mem_of_getElem? (i := 13) rfl), (List.forall_mem_cons.mpr ⟨t_in_8 _ (List.mem_of_getElem? (i := 15) rfl), (List.forall_mem_cons.mpr ⟨s_in_7 (yX12_closedAll, 85) (List.mem_of_getElem? (i := 11) rfl), (List.forall_mem_cons.mpr ⟨t_in_1 _ (List.mem_of_getElem? (i := 17) rfl), (List.forall_mem_cons.mpr ⟨t_in_8 _ (List.mem_of_getElem? (i := 16) rfl), (fun _ h => absurd h List.not_mem_nil)⟩)⟩)⟩)⟩)⟩)⟩)⟩)⟩)⟩)⟩)⟩)⟩)⟩)⟩) inX12)⟩))) (by decide +kernel)
set_option maxHeartbeats 4000000 in
set_option maxRecDepth 100000 in
theorem law_case_4 {p : Program} {e : Env} {s : State} {m : MethodId} {below : List Frame} {meth : Method} {c : Code} (l : Launch) {b : Nat} {xs : Nat → Int32} (C0 : lw_At p s m meth c b 6 xs) (dC : Nat → ClassId) (dI : Nat → Nat → Nat) (cB cI cJ cZ cQ : ClassId) (x : Nat) (u q : Nat → Nat) {H : Heap} {locs : List Loc} {ls : Array Slot} (hK : va_K (dC, dI) vwCl (tyA cB cI cJ cZ cQ) s) (hP : va_P (dC, dI) vwCl [(x, .inr (11, [.ref (u 0), .ref (u 2), .ref (u 5), .ref (u 19), .ref (u 21), .ref (u 26), .ref (u 29), .ref (u 40), .ref (u 49), .ref (u 50), .ref (u 81)])), ((u 50), .inr (9, [.ref (u 51), .ref (u 52), .ref (u 58), .ref (u 59), .ref (u 60), .ref (u 61), .ref (u 62), .ref (u 63), .ref (u 64), .ref (u 65), .ref (u 66), .ref (u 67), .ref (u 68), .ref (u 69), .ref (u 72), .int 0])), ((u 51), .inl (cI, 8, .inl (fun _ => 0))), ((q 0), .inr (12, (mo q))), ((q 2), .inl (cI, 2, .inl (fun _ => 0))), ((q 4), .inl (cI, 2, .inl (fun _ => 0))), ((q 11), .inl (cI, 2, .inl (fun _ => 0))), ((q 16), .inl (cI, 2, .inl (fun _ => 0))), ((q 19), .inl (cI, 2, .inl (fun _ => 0))), ((q 22), .inl (cI, 2, .inl (fun _ => 0))), ((q 25), .inl (cI, 2, .inl (fun _ => 0))), ((q 29), .inl (cI, 2, .inl (fun _ => 0)))] H) (hD : va_D (fun b : Nat => s.heap.size ≤ b) [(x, .inr (11, [.ref (u 0), .ref (u 2), .ref (u 5), .ref (u 19), .ref (u 21), .ref (u 26), .ref (u 29), .ref (u 40), .ref (u 49), .ref (u 50), .ref (u 81)])), ((u 50), .inr (9, [.ref (u 51), .ref (u 52), .ref (u 58), .ref (u 59), .ref (u 60), .ref (u 61), .ref (u 62), .ref (u 63), .ref (u 64), .ref (u 65), .ref (u 66), .ref (u 67), .ref (u 68), .ref (u 69), .ref (u 72), .int 0])), ((u 51), .inl (cI, 8, .inl (fun _ => 0))), ((q 0), .inr (12, (mo q))), ((q 2), .inl (cI, 2, .inl (fun _ => 0))), ((q 4), .inl (cI, 2, .inl (fun _ => 0))), ((q 11), .inl (cI, 2, .inl (fun _ => 0))), ((q 16), .inl (cI, 2, .inl (fun _ => 0))), ((q 19), .inl (cI, 2, .inl (fun _ => 0))), ((q 22), .inl (cI, 2, .inl (fun _ => 0))), ((q 25), .inl (cI, 2, .inl (fun _ => 0))), ((q 29), .inl (cI, 2, .inl (fun _ => 0)))]) (hS : va_S (fun b : Nat => s.heap.size ≤ b) s.heap H locs) (hl : lv_has ls 4 [(3, .int 0), (2, .ref (q 0)), (1, .ref x), (0, .ref b)]) : W p l e room_1 s m #[Value.ref b] below meth c H locs 171 178311 (lw_Z below #[Value.ref b] s) (F0 m 318 ls []) := by
  obtain ⟨hx, hb, hr, hml, hown, hts, hX, hbl, hlocks, hgv⟩ := id C0
  have hA : ∀ a : Nat, s.heap.size ≤ a → (fun b : Nat => s.heap.size ≤ b) a := fun _ h => h
  have hbA : ¬ (fun b : Nat => s.heap.size ≤ b) b := Nat.not_le.mpr hbl
  obtain ⟨A, hAe⟩ : ∃ A : Nat → Prop, A = (fun b : Nat => s.heap.size ≤ b) := ⟨_, rfl⟩
  rw [← hAe] at hD hS hA hbA
  refine lv_aload_n hx hb dL_law_318 rfl (lv_at hl 2 rfl) ?_
  refine lv_aload_n hx hb dL_law_319 rfl (lv_at hl 3 rfl) ?_
  refine lv_iload_n hx hb dL_law_320 rfl (lv_at hl 0 rfl) ?_
  refine lv_iconst (v := 1) hx hb dL_law_321 (by decide +kernel) ?_
  refine lv_iadd hx hb dL_law_322 ?_
  refine tp_i (y := 1) (by decide +kernel) ?_
  refine va_sld hx hb hX hbl hbA hS (vpc _ _ (by decide +kernel)) dL_law_323 ?_
  refine tp_i (y := xs 1) (congrArg xs (by decide +kernel)) ?_
  have hPc := hP.sub (ws' := [(x, .inr (11, [.ref (u 0), .ref (u 2), .ref (u 5), .ref (u 19), .ref (u 21), .ref (u 26), .ref (u 29), .ref (u 40), .ref (u 49), .ref (u 50), .ref (u 81)])), ((u 50), .inr (9, [.ref (u 51), .ref (u 52), .ref (u 58), .ref (u 59), .ref (u 60), .ref (u 61), .ref (u 62), .ref (u 63), .ref (u 64), .ref (u 65), .ref (u 66), .ref (u 67), .ref (u 68), .ref (u 69), .ref (u 72), .int 0])), ((u 51), .inl (cI, 8, .inl (fun _ => 0)))]) [0, 1, 2] rfl
  have hDc := hD.sub (ws' := [(x, .inr (11, [.ref (u 0), .ref (u 2), .ref (u 5), .ref (u 19), .ref (u 21), .ref (u 26), .ref (u 29), .ref (u 40), .ref (u 49), .ref (u 50), .ref (u 81)])), ((u 50), .inr (9, [.ref (u 51), .ref (u 52), .ref (u 58), .ref (u 59), .ref (u 60), .ref (u 61), .ref (u 62), .ref (u 63), .ref (u 64), .ref (u 65), .ref (u 66), .ref (u 67), .ref (u 68), .ref (u 69), .ref (u 72), .int 0])), ((u 51), .inl (cI, 8, .inl (fun _ => 0)))]) [0, 1, 2] (by decide) rfl
  have hFc := va_free (wc := [(x, .inr (11, [.ref (u 0), .ref (u 2), .ref (u 5), .ref (u 19), .ref (u 21), .ref (u 26), .ref (u 29), .ref (u 40), .ref (u 49), .ref (u 50), .ref (u 81)])), ((u 50), .inr (9, [.ref (u 51), .ref (u 52), .ref (u 58), .ref (u 59), .ref (u 60), .ref (u 61), .ref (u 62), .ref (u 63), .ref (u 64), .ref (u 65), .ref (u 66), .ref (u 67), .ref (u 68), .ref (u 69), .ref (u 72), .int 0])), ((u 51), .inl (cI, 8, .inl (fun _ => 0)))]) hD hS hA [0, 1, 2] rfl
  refine va_calli (va_runV (As := [.int (xs 1)]) (rest := []) ⟨hx, hb, hml, hown, hts⟩ (p_X11_has l dC dI cB cI cJ cZ cQ H.size x (u 0) (u 2) (u 5) (u 19) (u 21) (u 26) (u 29) (u 40) (u 49) (u 50) (u 81) (u 51) (u 52) (u 58) (u 59) (u 60) (u 61) (u 62) (u 63) (u 64) (u 65) (u 66) (u 67) (u 68) (u 69) (u 72) (xs 1)) (cwV 1 hts g_law_4_0 rfl rfl rfl (by decide +kernel) ⟨Nat.le_of_ble_eq_true rfl, Nat.le_of_ble_eq_true rfl⟩) ⟨fun a U g mk Z => by obtain ⟨q0, q1, qP, qK, qD⟩ := Z; exact ⟨q0, q1, qP, va_K.moved (u := U) (U := U.calling g mk a) (Vm.Alike.refl U.vm) qK, qD⟩, va_recv hK hPc (ci := 11) (q0 := 0) rfl rfl, fun U hU hW => ⟨rfl, by rw [hU], by rw [hU]; exact hPc, va_K.moved hW.alike hK, hDc.weaken (fun _ _ _ _ => trivial)⟩⟩ rfl rfl hl.1 rfl (lv_room (Nat.le_of_ble_eq_true rfl)) dL_law_324 ⟨Nat.le_of_ble_eq_true rfl, Nat.le_of_ble_eq_true rfl⟩) hS (fun b _ h => hFc b h) hFc (fun r2 u1 t H1 locs ht hvm hw hB hz1 hk1 hS => ?_)
  obtain ⟨hP, hD⟩ := va_join (wr := [((q 0), .inr (12, (mo q))), ((q 2), .inl (cI, 2, .inl (fun _ => 0))), ((q 4), .inl (cI, 2, .inl (fun _ => 0))), ((q 11), .inl (cI, 2, .inl (fun _ => 0))), ((q 16), .inl (cI, 2, .inl (fun _ => 0))), ((q 19), .inl (cI, 2, .inl (fun _ => 0))), ((q 22), .inl (cI, 2, .inl (fun _ => 0))), ((q 25), .inl (cI, 2, .inl (fun _ => 0))), ((q 29), .inl (cI, 2, .inl (fun _ => 0)))]) (w1 := []) hP hD [0, 1, 2] [3, 4, 5, 6, 7, 8, 9, 10, 11] rfl rfl (by decide) (by decide) hk1 hFc (fun k b h => by simp at h) ⟨fun i j p b h => by simp at h, fun k b h => by simp at h⟩
  clear hk1 hz1 hvm hPc hDc hFc
  generalize H1 = H at hP hS ⊢
  have hP : va_P (dC, dI) vwCl [((q 0), .inr (12, (mo q))), ((q 2), .inl (cI, 2, .inl (fun _ => 0))), ((q 4), .inl (cI, 2, .inl (fun _ => 0))), ((q 11), .inl (cI, 2, .inl (fun _ => 0))), ((q 16), .inl (cI, 2, .inl (fun _ => 0))), ((q 19), .inl (cI, 2, .inl (fun _ => 0))), ((q 22), .inl (cI, 2, .inl (fun _ => 0))), ((q 25), .inl (cI, 2, .inl (fun _ => 0))), ((q 29), .inl (cI, 2, .inl (fun _ => 0)))] H := hP
  have hD : va_D A [((q 0), .inr (12, (mo q))), ((q 2), .inl (cI, 2, .inl (fun _ => 0))), ((q 4), .inl (cI, 2, .inl (fun _ => 0))), ((q 11), .inl (cI, 2, .inl (fun _ => 0))), ((q 16), .inl (cI, 2, .inl (fun _ => 0))), ((q 19), .inl (cI, 2, .inl (fun _ => 0))), ((q 22), .inl (cI, 2, .inl (fun _ => 0))), ((q 25), .inl (cI, 2, .inl (fun _ => 0))), ((q 29), .inl (cI, 2, .inl (fun _ => 0)))] := hD
  rcases hw with ⟨hw, hcu1⟩ | ⟨hw, hcu1⟩
  · subst hw
    refine lv_aload_n hx hb dL_law_327 rfl (lv_at hl 1 rfl) ?_
    refine lv_aload_n hx hb dL_law_328 rfl (lv_at hl 3 rfl) ?_
    refine lv_iload_n hx hb dL_law_329 rfl (lv_at hl 0 rfl) ?_
    refine lv_iconst (v := 1) hx hb dL_law_330 (by decide +kernel) ?_
    refine lv_iadd hx hb dL_law_331 ?_
    refine tp_i (y := 1) (by decide +kernel) ?_
    refine va_sld hx hb hX hbl hbA hS (vpc _ _ (by decide +kernel)) dL_law_332 ?_
    refine tp_i (y := xs 1) (congrArg xs (by decide +kernel)) ?_
    have hPc := hP.sub (ws' := [((q 0), .inr (12, (mo q))), ((q 2), .inl (cI, 2, .inl (fun _ => 0))), ((q 4), .inl (cI, 2, .inl (fun _ => 0))), ((q 11), .inl (cI, 2, .inl (fun _ => 0))), ((q 16), .inl (cI, 2, .inl (fun _ => 0))), ((q 19), .inl (cI, 2, .inl (fun _ => 0))), ((q 22), .inl (cI, 2, .inl (fun _ => 0))), ((q 25), .inl (cI, 2, .inl (fun _ => 0))), ((q 29), .inl (cI, 2, .inl (fun _ => 0)))]) [0, 1, 2, 3, 4, 5, 6, 7, 8] rfl
    have hDc := hD.sub (ws' := [((q 0), .inr (12, (mo q))), ((q 2), .inl (cI, 2, .inl (fun _ => 0))), ((q 4), .inl (cI, 2, .inl (fun _ => 0))), ((q 11), .inl (cI, 2, .inl (fun _ => 0))), ((q 16), .inl (cI, 2, .inl (fun _ => 0))), ((q 19), .inl (cI, 2, .inl (fun _ => 0))), ((q 22), .inl (cI, 2, .inl (fun _ => 0))), ((q 25), .inl (cI, 2, .inl (fun _ => 0))), ((q 29), .inl (cI, 2, .inl (fun _ => 0)))]) [0, 1, 2, 3, 4, 5, 6, 7, 8] (by decide) rfl
    have hFc := va_free (wc := [((q 0), .inr (12, (mo q))), ((q 2), .inl (cI, 2, .inl (fun _ => 0))), ((q 4), .inl (cI, 2, .inl (fun _ => 0))), ((q 11), .inl (cI, 2, .inl (fun _ => 0))), ((q 16), .inl (cI, 2, .inl (fun _ => 0))), ((q 19), .inl (cI, 2, .inl (fun _ => 0))), ((q 22), .inl (cI, 2, .inl (fun _ => 0))), ((q 25), .inl (cI, 2, .inl (fun _ => 0))), ((q 29), .inl (cI, 2, .inl (fun _ => 0)))]) hD hS hA [0, 1, 2, 3, 4, 5, 6, 7, 8] rfl
    refine va_calli (va_runV (As := [.int (xs 1)]) (rest := [.int (-1)]) ⟨hx, hb, hml, hown, hts⟩ (p_X12_has l dC dI cB cI cJ cZ cQ H.size q (xs 1)) (cwV 1 hts g_law_4_1 rfl rfl rfl (by decide +kernel) ⟨Nat.le_of_ble_eq_true rfl, Nat.le_of_ble_eq_true rfl⟩) ⟨fun a U g mk Z => by obtain ⟨q0, q1, qP, qK, qD⟩ := Z; exact ⟨q0, q1, qP, va_K.moved (u := U) (U := U.calling g mk a) (Vm.Alike.refl U.vm) qK, qD⟩, va_recv hK hPc (ci := 12) (q0 := 0) rfl rfl, fun U hU hW => ⟨rfl, by rw [hU], by rw [hU]; exact hPc, va_K.moved hW.alike hK, hDc.weaken (fun _ _ _ _ => trivial)⟩⟩ rfl rfl hl.1 rfl (lv_room (Nat.le_of_ble_eq_true rfl)) dL_law_333 ⟨Nat.le_of_ble_eq_true rfl, Nat.le_of_ble_eq_true rfl⟩) hS (fun b _ h => hFc b h) hFc (fun r4 u3 t H1 locs ht hvm hw hB hz1 hk1 hS => ?_)
    obtain ⟨hP, hD⟩ := va_join (wr := []) (w1 := []) hP hD [0, 1, 2, 3, 4, 5, 6, 7, 8] [] rfl rfl (by decide) (by decide) hk1 hFc (fun k b h => by simp at h) ⟨fun i j p b h => by simp at h, fun k b h => by simp at h⟩
    clear hk1 hz1 hvm hPc hDc hFc
    generalize H1 = H at hP hS ⊢
    have hP : va_P (dC, dI) vwCl [] H := hP
    have hD : va_D A [] := hD
    rcases hw with ⟨hw, hcu3⟩ | ⟨hw, hcu3⟩
    · subst hw
      refine lv_icmp_eq (tgt := 1273) hx hb dL_law_336 (by decide) (fun _ => ?_) (fun c => absurd c (by decide +kernel))
      exact law_tail l C0 (by decide) (by decide) (by rw [hAe] at hS; exact hS) (lv_sub hl [3, 2, 1, 0] rfl)
    · subst hw
      refine lv_icmp_eq (tgt := 1273) hx hb dL_law_336 (by decide) (fun c => absurd c (by decide +kernel)) (fun _ => ?_)
      refine lv_iconst (v := 0) hx hb dL_law_339 (by decide +kernel) ?_
      exact False.elim (by omega)
  · subst hw
    refine lv_aload_n hx hb dL_law_327 rfl (lv_at hl 1 rfl) ?_
    refine lv_aload_n hx hb dL_law_328 rfl (lv_at hl 3 rfl) ?_
    refine lv_iload_n hx hb dL_law_329 rfl (lv_at hl 0 rfl) ?_
    refine lv_iconst (v := 1) hx hb dL_law_330 (by decide +kernel) ?_
    refine lv_iadd hx hb dL_law_331 ?_
    refine tp_i (y := 1) (by decide +kernel) ?_
    refine va_sld hx hb hX hbl hbA hS (vpc _ _ (by decide +kernel)) dL_law_332 ?_
    refine tp_i (y := xs 1) (congrArg xs (by decide +kernel)) ?_
    have hPc := hP.sub (ws' := [((q 0), .inr (12, (mo q))), ((q 2), .inl (cI, 2, .inl (fun _ => 0))), ((q 4), .inl (cI, 2, .inl (fun _ => 0))), ((q 11), .inl (cI, 2, .inl (fun _ => 0))), ((q 16), .inl (cI, 2, .inl (fun _ => 0))), ((q 19), .inl (cI, 2, .inl (fun _ => 0))), ((q 22), .inl (cI, 2, .inl (fun _ => 0))), ((q 25), .inl (cI, 2, .inl (fun _ => 0))), ((q 29), .inl (cI, 2, .inl (fun _ => 0)))]) [0, 1, 2, 3, 4, 5, 6, 7, 8] rfl
    have hDc := hD.sub (ws' := [((q 0), .inr (12, (mo q))), ((q 2), .inl (cI, 2, .inl (fun _ => 0))), ((q 4), .inl (cI, 2, .inl (fun _ => 0))), ((q 11), .inl (cI, 2, .inl (fun _ => 0))), ((q 16), .inl (cI, 2, .inl (fun _ => 0))), ((q 19), .inl (cI, 2, .inl (fun _ => 0))), ((q 22), .inl (cI, 2, .inl (fun _ => 0))), ((q 25), .inl (cI, 2, .inl (fun _ => 0))), ((q 29), .inl (cI, 2, .inl (fun _ => 0)))]) [0, 1, 2, 3, 4, 5, 6, 7, 8] (by decide) rfl
    have hFc := va_free (wc := [((q 0), .inr (12, (mo q))), ((q 2), .inl (cI, 2, .inl (fun _ => 0))), ((q 4), .inl (cI, 2, .inl (fun _ => 0))), ((q 11), .inl (cI, 2, .inl (fun _ => 0))), ((q 16), .inl (cI, 2, .inl (fun _ => 0))), ((q 19), .inl (cI, 2, .inl (fun _ => 0))), ((q 22), .inl (cI, 2, .inl (fun _ => 0))), ((q 25), .inl (cI, 2, .inl (fun _ => 0))), ((q 29), .inl (cI, 2, .inl (fun _ => 0)))]) hD hS hA [0, 1, 2, 3, 4, 5, 6, 7, 8] rfl
    refine va_calli (va_runV (As := [.int (xs 1)]) (rest := [.int 0]) ⟨hx, hb, hml, hown, hts⟩ (p_X12_has l dC dI cB cI cJ cZ cQ H.size q (xs 1)) (cwV 1 hts g_law_4_2 rfl rfl rfl (by decide +kernel) ⟨Nat.le_of_ble_eq_true rfl, Nat.le_of_ble_eq_true rfl⟩) ⟨fun a U g mk Z => by obtain ⟨q0, q1, qP, qK, qD⟩ := Z; exact ⟨q0, q1, qP, va_K.moved (u := U) (U := U.calling g mk a) (Vm.Alike.refl U.vm) qK, qD⟩, va_recv hK hPc (ci := 12) (q0 := 0) rfl rfl, fun U hU hW => ⟨rfl, by rw [hU], by rw [hU]; exact hPc, va_K.moved hW.alike hK, hDc.weaken (fun _ _ _ _ => trivial)⟩⟩ rfl rfl hl.1 rfl (lv_room (Nat.le_of_ble_eq_true rfl)) dL_law_333 ⟨Nat.le_of_ble_eq_true rfl, Nat.le_of_ble_eq_true rfl⟩) hS (fun b _ h => hFc b h) hFc (fun r6 u5 t H1 locs ht hvm hw hB hz1 hk1 hS => ?_)
    obtain ⟨hP, hD⟩ := va_join (wr := []) (w1 := []) hP hD [0, 1, 2, 3, 4, 5, 6, 7, 8] [] rfl rfl (by decide) (by decide) hk1 hFc (fun k b h => by simp at h) ⟨fun i j p b h => by simp at h, fun k b h => by simp at h⟩
    clear hk1 hz1 hvm hPc hDc hFc
    generalize H1 = H at hP hS ⊢
    have hP : va_P (dC, dI) vwCl [] H := hP
    have hD : va_D A [] := hD
    rcases hw with ⟨hw, hcu5⟩ | ⟨hw, hcu5⟩
    · subst hw
      refine lv_icmp_eq (tgt := 1273) hx hb dL_law_336 (by decide) (fun c => absurd c (by decide +kernel)) (fun _ => ?_)
      refine lv_iconst (v := 0) hx hb dL_law_339 (by decide +kernel) ?_
      exact False.elim (by omega)
    · subst hw
      refine lv_icmp_eq (tgt := 1273) hx hb dL_law_336 (by decide) (fun _ => ?_) (fun c => absurd c (by decide +kernel))
      exact law_tail l C0 (by decide) (by decide) (by rw [hAe] at hS; exact hS) (lv_sub hl [3, 2, 1, 0] rfl)
set_option maxRecDepth 100000 in
theorem g_law_5_0 : GoodIn lw_tbl (wsV RL 37 RX11 yX11_letter ws_p_X11_letter) := goodIn_sub (show ∀ w ∈ wsV RL 37 RX11 yX11_letter ws_p_X11_letter, w ∈ lw_tbl from (all_app (List.forall_mem_cons.mpr ⟨t_in_4 _ (List.mem_of_getElem? (i := 20) rfl), (List.forall_mem_cons.mpr ⟨t_in_4 _ (List.mem_of_getElem? (i := 21) rfl), (List.forall_mem_cons.mpr ⟨t_in_4 _ (List.mem_of_getElem? (i := 22) rfl), (List.forall_mem_cons.mpr ⟨t_in_1 _ (List.mem_of_getElem? (i := 1) rfl), (fun _ h => absurd h List.not_mem_nil)⟩)⟩)⟩)⟩) (List.forall_mem_cons.mpr ⟨t_in_4 _ (List.mem_of_getElem? (i := 23) rfl), (all_app (all_app (List.forall_mem_cons.mpr ⟨t_in_2 _ (List.mem_of_getElem? (i := 206) rfl), (List.forall_mem_cons.mpr ⟨t_in_4 _ (List.mem_of_getElem? (i := 24) rfl), (List.forall_mem_cons.mpr ⟨t_in_4 _ (List.mem_of_getElem? (i := 25) rfl), (List.forall_mem_cons.mpr ⟨t_in_4 _ (List.mem_of_getElem? (i := 26) rfl), (List.forall_mem_cons.mpr ⟨t_in_1 _ (List.mem_of_getElem? (i := 15) rfl), (List.forall_mem_cons.mpr ⟨t_in_4 _ (List.mem_of_getElem? (i := 27) rfl), (List.forall_mem_cons.mpr ⟨t_in_2 _ (List.mem_of_getElem? (i := 115) rfl), (fun _ h => absurd h List.not_mem_nil)⟩)⟩)⟩)⟩)⟩)⟩)⟩) inX11) inX9)⟩))) (by decide +kernel)
set_option maxRecDepth 100000 in
theorem g_law_5_1 : GoodIn lw_tbl (wsV RL 41 RX12 yX12_letter ws_p_X12_letter) := goodIn_sub (show ∀ w ∈ wsV RL 41 RX12 yX12_letter ws_p_X12_letter, w ∈ lw_tbl from (all_app (List.forall_mem_cons.mpr ⟨t_in_8 _ (List.mem_of_getElem? (i := 37) rfl), (List.forall_mem_cons.mpr ⟨t_in_8 _ (List.mem_of_getElem? (i := 38) rfl), (List.forall_mem_cons.mpr ⟨t_in_8 _ (List.mem_of_getElem? (i := 39) rfl), (List.forall_mem_cons.mpr ⟨t_in_1 _ (List.mem_of_getElem? (i := 17) rfl), (fun _ h => absurd h List.not_mem_nil)⟩)⟩)⟩)⟩) (List.forall_mem_cons.mpr ⟨t_in_8 _ (List.mem_of_getElem? (i := 40) rfl), (all_app (List.forall_mem_cons.mpr ⟨t_in_7 _ (List.mem_of_getElem? (i := 144) rfl), (List.forall_mem_cons.mpr ⟨t_in_7 _ (List.mem_of_getElem? (i := 145) rfl), (List.forall_mem_cons.mpr ⟨t_in_1 _ (List.mem_of_getElem? (i := 17) rfl), (List.forall_mem_cons.mpr ⟨t_in_7 _ (List.mem_of_getElem? (i := 146) rfl), (List.forall_mem_cons.mpr ⟨t_in_8 _ (List.mem_of_getElem? (i := 41) rfl), (List.forall_mem_cons.mpr ⟨t_in_8 _ (List.mem_of_getElem? (i := 43) rfl), (List.forall_mem_cons.mpr ⟨s_in_8 (yX12_manyOf, 85) (List.mem_of_getElem? (i := 1) rfl), (List.forall_mem_cons.mpr ⟨t_in_8 _ (List.mem_of_getElem? (i := 44) rfl), (List.forall_mem_cons.mpr ⟨t_in_6 _ (List.mem_of_getElem? (i := 46) rfl), (List.forall_mem_cons.mpr ⟨t_in_6 _ (List.mem_of_getElem? (i := 28) rfl), (List.forall_mem_cons.mpr ⟨t_in_6 _ (List.mem_of_getElem? (i := 43) rfl), (List.forall_mem_cons.mpr ⟨t_in_6 _ (List.mem_of_getElem? (i := 38) rfl), (List.forall_mem_cons.mpr ⟨t_in_6 _ (List.mem_of_getElem? (i := 31) rfl), (List.forall_mem_cons.mpr ⟨t_in_6 _ (List.mem_of_getElem? (i := 29) rfl), (fun _ h => absurd h List.not_mem_nil)⟩)⟩)⟩)⟩)⟩)⟩)⟩)⟩)⟩)⟩)⟩)⟩)⟩)⟩) inX12)⟩))) (by decide +kernel)
set_option maxHeartbeats 4000000 in
set_option maxRecDepth 100000 in
theorem law_case_5 {p : Program} {e : Env} {s : State} {m : MethodId} {below : List Frame} {meth : Method} {c : Code} (l : Launch) {b : Nat} {xs : Nat → Int32} (C0 : lw_At p s m meth c b 6 xs) (dC : Nat → ClassId) (dI : Nat → Nat → Nat) (cB cI cJ cZ cQ : ClassId) (x : Nat) (u q : Nat → Nat) {H : Heap} {locs : List Loc} {ls : Array Slot} (hK : va_K (dC, dI) vwCl (tyA cB cI cJ cZ cQ) s) (hP : va_P (dC, dI) vwCl [(x, .inr (11, [.ref (u 0), .ref (u 2), .ref (u 5), .ref (u 19), .ref (u 21), .ref (u 26), .ref (u 29), .ref (u 40), .ref (u 49), .ref (u 50), .ref (u 81)])), ((u 50), .inr (9, [.ref (u 51), .ref (u 52), .ref (u 58), .ref (u 59), .ref (u 60), .ref (u 61), .ref (u 62), .ref (u 63), .ref (u 64), .ref (u 65), .ref (u 66), .ref (u 67), .ref (u 68), .ref (u 69), .ref (u 72), .int 0])), ((u 51), .inl (cI, 8, .inl (fun _ => 0))), ((q 0), .inr (12, (mo q))), ((q 19), .inl (cI, 2, .inl (fun _ => 0))), ((q 16), .inl (cI, 2, .inl (fun _ => 0))), ((q 11), .inl (cI, 2, .inl (fun _ => 0))), ((q 4), .inl (cI, 2, .inl (fun _ => 0))), ((q 2), .inl (cI, 2, .inl (fun _ => 0)))] H) (hD : va_D (fun b : Nat => s.heap.size ≤ b) [(x, .inr (11, [.ref (u 0), .ref (u 2), .ref (u 5), .ref (u 19), .ref (u 21), .ref (u 26), .ref (u 29), .ref (u 40), .ref (u 49), .ref (u 50), .ref (u 81)])), ((u 50), .inr (9, [.ref (u 51), .ref (u 52), .ref (u 58), .ref (u 59), .ref (u 60), .ref (u 61), .ref (u 62), .ref (u 63), .ref (u 64), .ref (u 65), .ref (u 66), .ref (u 67), .ref (u 68), .ref (u 69), .ref (u 72), .int 0])), ((u 51), .inl (cI, 8, .inl (fun _ => 0))), ((q 0), .inr (12, (mo q))), ((q 19), .inl (cI, 2, .inl (fun _ => 0))), ((q 16), .inl (cI, 2, .inl (fun _ => 0))), ((q 11), .inl (cI, 2, .inl (fun _ => 0))), ((q 4), .inl (cI, 2, .inl (fun _ => 0))), ((q 2), .inl (cI, 2, .inl (fun _ => 0)))]) (hS : va_S (fun b : Nat => s.heap.size ≤ b) s.heap H locs) (hl : lv_has ls 4 [(3, .int 0), (2, .ref (q 0)), (1, .ref x), (0, .ref b)]) : W p l e room_1 s m #[Value.ref b] below meth c H locs 171 178311 (lw_Z below #[Value.ref b] s) (F0 m 341 ls []) := by
  obtain ⟨hx, hb, hr, hml, hown, hts, hX, hbl, hlocks, hgv⟩ := id C0
  have hA : ∀ a : Nat, s.heap.size ≤ a → (fun b : Nat => s.heap.size ≤ b) a := fun _ h => h
  have hbA : ¬ (fun b : Nat => s.heap.size ≤ b) b := Nat.not_le.mpr hbl
  obtain ⟨A, hAe⟩ : ∃ A : Nat → Prop, A = (fun b : Nat => s.heap.size ≤ b) := ⟨_, rfl⟩
  rw [← hAe] at hD hS hA hbA
  refine lv_aload_n hx hb dL_law_341 rfl (lv_at hl 2 rfl) ?_
  refine lv_aload_n hx hb dL_law_342 rfl (lv_at hl 3 rfl) ?_
  refine lv_iload_n hx hb dL_law_343 rfl (lv_at hl 0 rfl) ?_
  refine lv_iconst (v := 1) hx hb dL_law_344 (by decide +kernel) ?_
  refine lv_iadd hx hb dL_law_345 ?_
  refine tp_i (y := 1) (by decide +kernel) ?_
  refine va_sld hx hb hX hbl hbA hS (vpc _ _ (by decide +kernel)) dL_law_346 ?_
  refine tp_i (y := xs 1) (congrArg xs (by decide +kernel)) ?_
  refine lv_aload_n hx hb dL_law_347 rfl (lv_at hl 3 rfl) ?_
  refine lv_iload_n hx hb dL_law_348 rfl (lv_at hl 0 rfl) ?_
  refine lv_iconst (v := 2) hx hb dL_law_349 (by decide +kernel) ?_
  refine lv_iadd hx hb dL_law_350 ?_
  refine tp_i (y := 2) (by decide +kernel) ?_
  refine va_sld hx hb hX hbl hbA hS (vpc _ _ (by decide +kernel)) dL_law_351 ?_
  refine tp_i (y := xs 2) (congrArg xs (by decide +kernel)) ?_
  refine lv_aload_n hx hb dL_law_352 rfl (lv_at hl 3 rfl) ?_
  refine lv_iload_n hx hb dL_law_353 rfl (lv_at hl 0 rfl) ?_
  refine lv_iconst (v := 3) hx hb dL_law_354 (by decide +kernel) ?_
  refine lv_iadd hx hb dL_law_355 ?_
  refine tp_i (y := 3) (by decide +kernel) ?_
  refine va_sld hx hb hX hbl hbA hS (vpc _ _ (by decide +kernel)) dL_law_356 ?_
  refine tp_i (y := xs 3) (congrArg xs (by decide +kernel)) ?_
  have hPc := hP.sub (ws' := [(x, .inr (11, [.ref (u 0), .ref (u 2), .ref (u 5), .ref (u 19), .ref (u 21), .ref (u 26), .ref (u 29), .ref (u 40), .ref (u 49), .ref (u 50), .ref (u 81)])), ((u 50), .inr (9, [.ref (u 51), .ref (u 52), .ref (u 58), .ref (u 59), .ref (u 60), .ref (u 61), .ref (u 62), .ref (u 63), .ref (u 64), .ref (u 65), .ref (u 66), .ref (u 67), .ref (u 68), .ref (u 69), .ref (u 72), .int 0])), ((u 51), .inl (cI, 8, .inl (fun _ => 0)))]) [0, 1, 2] rfl
  have hDc := hD.sub (ws' := [(x, .inr (11, [.ref (u 0), .ref (u 2), .ref (u 5), .ref (u 19), .ref (u 21), .ref (u 26), .ref (u 29), .ref (u 40), .ref (u 49), .ref (u 50), .ref (u 81)])), ((u 50), .inr (9, [.ref (u 51), .ref (u 52), .ref (u 58), .ref (u 59), .ref (u 60), .ref (u 61), .ref (u 62), .ref (u 63), .ref (u 64), .ref (u 65), .ref (u 66), .ref (u 67), .ref (u 68), .ref (u 69), .ref (u 72), .int 0])), ((u 51), .inl (cI, 8, .inl (fun _ => 0)))]) [0, 1, 2] (by decide) rfl
  have hFc := va_free (wc := [(x, .inr (11, [.ref (u 0), .ref (u 2), .ref (u 5), .ref (u 19), .ref (u 21), .ref (u 26), .ref (u 29), .ref (u 40), .ref (u 49), .ref (u 50), .ref (u 81)])), ((u 50), .inr (9, [.ref (u 51), .ref (u 52), .ref (u 58), .ref (u 59), .ref (u 60), .ref (u 61), .ref (u 62), .ref (u 63), .ref (u 64), .ref (u 65), .ref (u 66), .ref (u 67), .ref (u 68), .ref (u 69), .ref (u 72), .int 0])), ((u 51), .inl (cI, 8, .inl (fun _ => 0)))]) hD hS hA [0, 1, 2] rfl
  refine va_calli (va_runV (As := [.int (xs 1), .int (xs 2), .int (xs 3)]) (rest := []) ⟨hx, hb, hml, hown, hts⟩ (p_X11_letter l dC dI cB cI cJ cZ cQ H.size x (u 0) (u 2) (u 5) (u 19) (u 21) (u 26) (u 29) (u 40) (u 49) (u 50) (u 81) (u 51) (u 52) (u 58) (u 59) (u 60) (u 61) (u 62) (u 63) (u 64) (u 65) (u 66) (u 67) (u 68) (u 69) (u 72) (xs 1) (xs 2) (xs 3)) (cwV 3 hts g_law_5_0 rfl rfl rfl (by decide +kernel) ⟨Nat.le_of_ble_eq_true rfl, Nat.le_of_ble_eq_true rfl⟩) ⟨fun a U g mk Z => by obtain ⟨q0, q1, qP, qK, qD⟩ := Z; exact ⟨q0, q1, qP, va_K.moved (u := U) (U := U.calling g mk a) (Vm.Alike.refl U.vm) qK, qD⟩, va_recv hK hPc (ci := 11) (q0 := 0) rfl rfl, fun U hU hW => ⟨rfl, by rw [hU], by rw [hU]; exact hPc, va_K.moved hW.alike hK, hDc.weaken (fun _ _ _ _ => trivial)⟩⟩ rfl rfl hl.1 rfl (lv_room (Nat.le_of_ble_eq_true rfl)) dL_law_357 ⟨Nat.le_of_ble_eq_true rfl, Nat.le_of_ble_eq_true rfl⟩) hS (fun b _ h => hFc b h) hFc (fun r2 u1 t H1 locs ht hvm hw hB hz1 hk1 hS => ?_)
  obtain ⟨hP, hD⟩ := va_join (wr := [((q 0), .inr (12, (mo q))), ((q 19), .inl (cI, 2, .inl (fun _ => 0))), ((q 16), .inl (cI, 2, .inl (fun _ => 0))), ((q 11), .inl (cI, 2, .inl (fun _ => 0))), ((q 4), .inl (cI, 2, .inl (fun _ => 0))), ((q 2), .inl (cI, 2, .inl (fun _ => 0)))]) (w1 := []) hP hD [0, 1, 2] [3, 4, 5, 6, 7, 8] rfl rfl (by decide) (by decide) hk1 hFc (fun k b h => by simp at h) ⟨fun i j p b h => by simp at h, fun k b h => by simp at h⟩
  clear hk1 hz1 hvm hPc hDc hFc
  generalize H1 = H at hP hS ⊢
  have hP : va_P (dC, dI) vwCl [((q 0), .inr (12, (mo q))), ((q 19), .inl (cI, 2, .inl (fun _ => 0))), ((q 16), .inl (cI, 2, .inl (fun _ => 0))), ((q 11), .inl (cI, 2, .inl (fun _ => 0))), ((q 4), .inl (cI, 2, .inl (fun _ => 0))), ((q 2), .inl (cI, 2, .inl (fun _ => 0)))] H := hP
  have hD : va_D A [((q 0), .inr (12, (mo q))), ((q 19), .inl (cI, 2, .inl (fun _ => 0))), ((q 16), .inl (cI, 2, .inl (fun _ => 0))), ((q 11), .inl (cI, 2, .inl (fun _ => 0))), ((q 4), .inl (cI, 2, .inl (fun _ => 0))), ((q 2), .inl (cI, 2, .inl (fun _ => 0)))] := hD
  subst hw
  refine lv_aload_n hx hb dL_law_360 rfl (lv_at hl 1 rfl) ?_
  refine lv_aload_n hx hb dL_law_361 rfl (lv_at hl 3 rfl) ?_
  refine lv_iload_n hx hb dL_law_362 rfl (lv_at hl 0 rfl) ?_
  refine lv_iconst (v := 1) hx hb dL_law_363 (by decide +kernel) ?_
  refine lv_iadd hx hb dL_law_364 ?_
  refine tp_i (y := 1) (by decide +kernel) ?_
  refine va_sld hx hb hX hbl hbA hS (vpc _ _ (by decide +kernel)) dL_law_365 ?_
  refine tp_i (y := xs 1) (congrArg xs (by decide +kernel)) ?_
  refine lv_aload_n hx hb dL_law_366 rfl (lv_at hl 3 rfl) ?_
  refine lv_iload_n hx hb dL_law_367 rfl (lv_at hl 0 rfl) ?_
  refine lv_iconst (v := 2) hx hb dL_law_368 (by decide +kernel) ?_
  refine lv_iadd hx hb dL_law_369 ?_
  refine tp_i (y := 2) (by decide +kernel) ?_
  refine va_sld hx hb hX hbl hbA hS (vpc _ _ (by decide +kernel)) dL_law_370 ?_
  refine tp_i (y := xs 2) (congrArg xs (by decide +kernel)) ?_
  refine lv_aload_n hx hb dL_law_371 rfl (lv_at hl 3 rfl) ?_
  refine lv_iload_n hx hb dL_law_372 rfl (lv_at hl 0 rfl) ?_
  refine lv_iconst (v := 3) hx hb dL_law_373 (by decide +kernel) ?_
  refine lv_iadd hx hb dL_law_374 ?_
  refine tp_i (y := 3) (by decide +kernel) ?_
  refine va_sld hx hb hX hbl hbA hS (vpc _ _ (by decide +kernel)) dL_law_375 ?_
  refine tp_i (y := xs 3) (congrArg xs (by decide +kernel)) ?_
  have hPc := hP.sub (ws' := [((q 0), .inr (12, (mo q))), ((q 19), .inl (cI, 2, .inl (fun _ => 0))), ((q 16), .inl (cI, 2, .inl (fun _ => 0))), ((q 11), .inl (cI, 2, .inl (fun _ => 0))), ((q 4), .inl (cI, 2, .inl (fun _ => 0))), ((q 2), .inl (cI, 2, .inl (fun _ => 0)))]) [0, 1, 2, 3, 4, 5] rfl
  have hDc := hD.sub (ws' := [((q 0), .inr (12, (mo q))), ((q 19), .inl (cI, 2, .inl (fun _ => 0))), ((q 16), .inl (cI, 2, .inl (fun _ => 0))), ((q 11), .inl (cI, 2, .inl (fun _ => 0))), ((q 4), .inl (cI, 2, .inl (fun _ => 0))), ((q 2), .inl (cI, 2, .inl (fun _ => 0)))]) [0, 1, 2, 3, 4, 5] (by decide) rfl
  have hFc := va_free (wc := [((q 0), .inr (12, (mo q))), ((q 19), .inl (cI, 2, .inl (fun _ => 0))), ((q 16), .inl (cI, 2, .inl (fun _ => 0))), ((q 11), .inl (cI, 2, .inl (fun _ => 0))), ((q 4), .inl (cI, 2, .inl (fun _ => 0))), ((q 2), .inl (cI, 2, .inl (fun _ => 0)))]) hD hS hA [0, 1, 2, 3, 4, 5] rfl
  refine va_calli (va_runV (As := [.int (xs 1), .int (xs 2), .int (xs 3)]) (rest := [.int (-1)]) ⟨hx, hb, hml, hown, hts⟩ (p_X12_letter l dC dI cB cI cJ cZ cQ H.size q (xs 1) (xs 2) (xs 3)) (cwV 3 hts g_law_5_1 rfl rfl rfl (by decide +kernel) ⟨Nat.le_of_ble_eq_true rfl, Nat.le_of_ble_eq_true rfl⟩) ⟨fun a U g mk Z => by obtain ⟨q0, q1, qP, qK, qD⟩ := Z; exact ⟨q0, q1, qP, va_K.moved (u := U) (U := U.calling g mk a) (Vm.Alike.refl U.vm) qK, qD⟩, va_recv hK hPc (ci := 12) (q0 := 0) rfl rfl, fun U hU hW => ⟨rfl, by rw [hU], by rw [hU]; exact hPc, va_K.moved hW.alike hK, hDc.weaken (fun _ _ _ _ => trivial)⟩⟩ rfl rfl hl.1 rfl (lv_room (Nat.le_of_ble_eq_true rfl)) dL_law_376 ⟨Nat.le_of_ble_eq_true rfl, Nat.le_of_ble_eq_true rfl⟩) hS (fun b _ h => hFc b h) hFc (fun r4 u3 t H1 locs ht hvm hw hB hz1 hk1 hS => ?_)
  obtain ⟨hP, hD⟩ := va_join (wr := []) (w1 := []) hP hD [0, 1, 2, 3, 4, 5] [] rfl rfl (by decide) (by decide) hk1 hFc (fun k b h => by simp at h) ⟨fun i j p b h => by simp at h, fun k b h => by simp at h⟩
  clear hk1 hz1 hvm hPc hDc hFc
  generalize H1 = H at hP hS ⊢
  have hP : va_P (dC, dI) vwCl [] H := hP
  have hD : va_D A [] := hD
  subst hw
  refine lv_icmp_eq (tgt := 1273) hx hb dL_law_379 (by decide) (fun _ => ?_) (fun c => absurd c (by decide +kernel))
  exact law_tail l C0 (by decide) (by decide) (by rw [hAe] at hS; exact hS) (lv_sub hl [3, 2, 1, 0] rfl)
