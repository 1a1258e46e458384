def ws_k_X12_writes_152 : List Cond := .code yX12_writes cX12_writes 2 none :: ([.fieldLink RX12 265 "StackKeysModel" "out" "[I", .fieldLink RX12 268 "StackKeysModel" "outs" "I"] ++ wsX120)
set_option maxHeartbeats 4000000 in
set_option maxRecDepth 100000 in
theorem k_X12_writes_152 (l : Launch) (dC : Nat → ClassId) (dI : Nat → Nat → Nat) (cB cI cJ cZ cQ : ClassId) (sz : Nat) (q : Nat → Nat) (f0 : Nat → Int32) : Met l yX12_writes ws_k_X12_writes_152 ({ frames := 0, cells := 0, slots := 0, locals := 0 }) (va_Pc [.ref (q 0), .int 19] (fun U => U.heap.size = sz ∧ va_P (dC, dI) vwCl [((q 0), .inr (12, (mo q))), ((q 57), .inl (cI, 48, .inl f0))] U.heap ∧ va_K (dC, dI) vwCl (tyA cB cI cJ cZ cQ) U ∧ va_D (fun _ => True) [((q 0), .inr (12, (mo q))), ((q 57), .inl (cI, 48, .inl f0))])) (va_Qv (fun _ : Unit => True) (fun (u : Unit) t => va_P (dC, dI) vwCl [((q 0), .inr (12, ((mo q).set 84 (.int 1)))), ((q 57), .inl (cI, 48, .inl (upd f0 0 19)))] t.heap ∧ va_K (dC, dI) vwCl (tyA cB cI cJ cZ cQ) t ∧ va_D (va_A [((q 0), .inr (12, (mo q))), ((q 57), .inl (cI, 48, .inl f0))] sz) [((q 0), .inr (12, ((mo q).set 84 (.int 1)))), ((q 57), .inl (cI, 48, .inl (upd f0 0 19)))]) (va_A [((q 0), .inr (12, (mo q))), ((q 57), .inl (cI, 48, .inl f0))] sz)) 0 0 (va_A [((q 0), .inr (12, (mo q))), ((q 57), .inl (cI, 48, .inl f0))] sz) := by
  refine Met.ofW (cc := cX12_writes) (maxL := 2) (ret := none) (by decide +kernel) rfl ?_
  intro p e s m args below meth c s₁ B hml hv
  obtain ⟨rfl, hsz, hP, hK, hD0⟩ := hv
  have hx := B.exec
  have hb := B.bytes
  have hr := B.returns
  have hts := atoms_spec (ws := ws_k_X12_writes_152) B.pre
  have hown : s.vm.findClass RX12 = some m.cls := findClass_of_methodNamed B.named
  have hiX12 : ∀ w ∈ u_ws RX12 TX12 85, w ∈ ws_k_X12_writes_152 := fun w h => List.mem_cons_of_mem _ (List.mem_append_right _ h)
  subst hsz
  have hD := hD0.self (sz := s.heap.size)
  generalize hAe : va_A [((q 0), .inr (12, (mo q))), ((q 57), .inl (cI, 48, .inl f0))] s.heap.size = A at hD ⊢
  have hA : ∀ b : Nat, s.heap.size ≤ b → A b := fun b h => by rw [← hAe]; exact Or.inr h
  clear hD0 hAe
  have hS : va_S A s.heap s.heap [] := va_S.rf
  have hl := lv_entry ([.ref (q 0), .int 19]) (n := 2) (Nat.le_of_ble_eq_true rfl)
  rw [lg_entry_eq]
  generalize (lg_sl ([.ref (q 0), .int 19]) ++ List.replicate (2 - (lg_sl ([.ref (q 0), .int 19])).length) Slot.unset).toArray = ls at hl ⊢
  have hl : lv_has ls 2 [(0, .ref (q 0)), (1, .int 19)] := hl
  obtain ⟨H, hHe⟩ : ∃ H : Heap, H = s.heap := ⟨_, rfl⟩
  rw [← hHe] at hP
  have hS : va_S A s.heap H [] := by rw [hHe]; exact hS
  rw [← hHe]
  refine lv_aload_n hx hb dX12_writes_0 rfl (lv_at hl 0 rfl) ?_
  refine va_get (D := (dC, dI)) (ci := 12) (v := .ref (q 57)) (C := RX12) (T := TX12) (N := 85) hx hb hts hiX12 hown hK hP 0 rfl rfl 83 (by decide) (hts _ (List.mem_of_getElem? (i := 1) rfl)) (fun _ h9 => h9) rfl dX12_writes_1 ?_
  refine lv_aload_n hx hb dX12_writes_4 rfl (lv_at hl 0 rfl) ?_
  refine va_get (D := (dC, dI)) (ci := 12) (v := .int 0) (C := RX12) (T := TX12) (N := 85) hx hb hts hiX12 hown hK hP 0 rfl rfl 84 (by decide) (hts _ (List.mem_of_getElem? (i := 2) rfl)) (fun _ h9 => h9) rfl dX12_writes_5 ?_
  refine lv_iload_n hx hb dX12_writes_8 rfl (lv_at hl 1 rfl) ?_
  refine lv_sipush (v := 255) hx hb dX12_writes_9 (by decide +kernel) ?_
  refine lv_iand hx hb dX12_writes_12 ?_
  refine tp_i (y := 19) (by decide +kernel) ?_
  refine va_iast hx hb hK hP hD hS 1 1 rfl rfl (vpc _ _ (by decide +kernel)) dX12_writes_13 (fun H locs hP hD hS => ?_)
  have hP : va_P (dC, dI) vwCl [((q 0), .inr (12, (mo q))), ((q 57), .inl (cI, 48, .inl (upd f0 0 19)))] H := hP
  have hD : va_D A [((q 0), .inr (12, (mo q))), ((q 57), .inl (cI, 48, .inl (upd f0 0 19)))] := hD
  refine lv_aload_n hx hb dX12_writes_14 rfl (lv_at hl 0 rfl) ?_
  refine lv_dup hx hb dX12_writes_15 rfl ?_
  refine va_get (D := (dC, dI)) (ci := 12) (v := .int 0) (C := RX12) (T := TX12) (N := 85) hx hb hts hiX12 hown hK hP 0 rfl rfl 84 (by decide) (hts _ (List.mem_of_getElem? (i := 2) rfl)) (fun _ h9 => h9) rfl dX12_writes_16 ?_
  refine lv_iconst (v := 1) hx hb dX12_writes_19 (by decide +kernel) ?_
  refine lv_iadd hx hb dX12_writes_20 ?_
  refine tp_i (y := 1) (by decide +kernel) ?_
  refine va_put (D := (dC, dI)) (ci := 12) (v := .int 1) (ty := .int) (C := RX12) (T := TX12) (N := 85) hx hb hts hiX12 tyX12 tyX12_ok nmX12 hown hK hP hD hS 0 rfl rfl 84 (by decide) (hts _ (List.mem_of_getElem? (i := 2) rfl)) (fun _ h9 => h9) rfl (by decide +kernel) rfl rfl (Nat.le_of_ble_eq_true rfl) dX12_writes_21 (fun H locs hP hD hS => ?_)
  have hP : va_P (dC, dI) vwCl [((q 0), .inr (12, ((mo q).set 84 (.int 1)))), ((q 57), .inl (cI, 48, .inl (upd f0 0 19)))] H := hP
  have hD : va_D A [((q 0), .inr (12, ((mo q).set 84 (.int 1)))), ((q 57), .inl (cI, 48, .inl (upd f0 0 19)))] := hD
  have hP9 := hP.sub (ws' := [((q 0), .inr (12, ((mo q).set 84 (.int 1)))), ((q 57), .inl (cI, 48, .inl (upd f0 0 19)))]) [0, 1] rfl
  have hD9 := hD.sub (ws' := [((q 0), .inr (12, ((mo q).set 84 (.int 1)))), ((q 57), .inl (cI, 48, .inl (upd f0 0 19)))]) [0, 1] (by decide) rfl
  exact W.vret hx hb hr (fun t ht hW => ⟨⟨(), rfl, trivial, by rw [ht]; exact hP9, va_K.moved hW.alike hK, hD9⟩, hS.F ht⟩) hS.2.2 dX12_writes_24
def ws_p_X12_image : List Cond := .code yX12_image cX12_image 3 (some .int) :: ([.fieldLink RX12 268 "StackKeysModel" "outs" "I", .fieldLink RX12 95 "StackKeysModel" "persons" "[I", .fieldLink RX12 48 "StackKeysModel" "bank" "I", .fieldLink RX12 80 "StackKeysModel" "keys" "[I", .methodLink RX12 631 yX12_writes, .instanceMethod yX12_writes, .selects RX12 yX12_writes yX12_writes, .initialized RX12, .code yX12_writes cX12_writes 2 none, .fieldLink RX12 265 "StackKeysModel" "out" "[I"] ++ wsX120)
set_option maxRecDepth 20000 in
theorem g_p_X12_image_0 : GoodIn ws_p_X12_image (wsV RX12 631 RX12 yX12_writes ws_k_X12_writes_152) := goodIn_r _ [5, 6, 7, 8, 9, 10, 1, 11, 12, 13, 14, 15, 16, 17, 18, 19, 20, 21, 22, 23, 24, 25, 26, 27, 28, 29, 30, 31, 32, 33, 34, 35, 36, 37, 38, 39, 40, 41, 42, 43, 44, 45, 46, 47, 48, 49, 50, 51, 52, 53, 54, 55, 56, 57, 58, 59, 60, 61, 62, 63, 64, 65, 66, 67, 68, 69, 70, 71, 72, 73, 74, 75, 76, 77, 78, 79, 80, 81, 82, 83, 84, 85, 86, 87, 88, 89, 90, 91, 92, 93, 94, 95] (by decide +kernel) (by decide +kernel)
set_option maxHeartbeats 4000000 in
set_option maxRecDepth 100000 in
theorem p_X12_image (l : Launch) (dC : Nat → ClassId) (dI : Nat → Nat → Nat) (cB cI cJ cZ cQ : ClassId) (sz : Nat) (q : Nat → Nat) : Met l yX12_image ws_p_X12_image ({ frames := 1, cells := 0, slots := 0, locals := 21 }) (va_Pc [.ref (q 0)] (fun U => U.heap.size = sz ∧ va_P (dC, dI) vwCl [((q 0), .inr (12, (mo q))), ((q 16), .inl (cI, 2, .inl (fun _ => 0))), ((q 11), .inl (cI, 2, .inl (fun _ => 0))), ((q 57), .inl (cI, 48, .inl (fun _ => 0)))] U.heap ∧ va_K (dC, dI) vwCl (tyA cB cI cJ cZ cQ) U ∧ va_D (fun _ => True) [((q 0), .inr (12, (mo q))), ((q 16), .inl (cI, 2, .inl (fun _ => 0))), ((q 11), .inl (cI, 2, .inl (fun _ => 0))), ((q 57), .inl (cI, 48, .inl (fun _ => 0)))])) (va_Qi (fun (r : Int32) (_ : Unit) => r = 1) (fun (_ : Unit) _ => True) (va_A [((q 0), .inr (12, (mo q))), ((q 16), .inl (cI, 2, .inl (fun _ => 0))), ((q 11), .inl (cI, 2, .inl (fun _ => 0))), ((q 57), .inl (cI, 48, .inl (fun _ => 0)))] sz)) 0 0 (va_A [((q 0), .inr (12, (mo q))), ((q 16), .inl (cI, 2, .inl (fun _ => 0))), ((q 11), .inl (cI, 2, .inl (fun _ => 0))), ((q 57), .inl (cI, 48, .inl (fun _ => 0)))] sz) := by
  refine Met.ofW (cc := cX12_image) (maxL := 3) (ret := (some .int)) (by decide +kernel) rfl ?_
  intro p e s m args below meth c s₁ B hml hv
  obtain ⟨rfl, hsz, hP, hK, hD0⟩ := hv
  have hx := B.exec
  have hb := B.bytes
  have hr := B.returns
  have hts := atoms_spec (ws := ws_p_X12_image) B.pre
  have hown : s.vm.findClass RX12 = some m.cls := findClass_of_methodNamed B.named
  have hiX12 : ∀ w ∈ u_ws RX12 TX12 85, w ∈ ws_p_X12_image := fun w h => List.mem_cons_of_mem _ (List.mem_append_right _ h)
  subst hsz
  have hD := hD0.self (sz := s.heap.size)
  generalize hAe : va_A [((q 0), .inr (12, (mo q))), ((q 16), .inl (cI, 2, .inl (fun _ => 0))), ((q 11), .inl (cI, 2, .inl (fun _ => 0))), ((q 57), .inl (cI, 48, .inl (fun _ => 0)))] s.heap.size = A at hD ⊢
  have hA : ∀ b : Nat, s.heap.size ≤ b → A b := fun b h => by rw [← hAe]; exact Or.inr h
  clear hD0 hAe
  have hS : va_S A s.heap s.heap [] := va_S.rf
  have hl := lv_entry ([.ref (q 0)]) (n := 3) (Nat.le_of_ble_eq_true rfl)
  rw [lg_entry_eq]
  generalize (lg_sl ([.ref (q 0)]) ++ List.replicate (3 - (lg_sl ([.ref (q 0)])).length) Slot.unset).toArray = ls at hl ⊢
  have hl : lv_has ls 3 [(0, .ref (q 0))] := hl
  obtain ⟨H, hHe⟩ : ∃ H : Heap, H = s.heap := ⟨_, rfl⟩
  rw [← hHe] at hP
  have hS : va_S A s.heap H [] := by rw [hHe]; exact hS
  rw [← hHe]
  refine lv_aload_n hx hb dX12_image_0 rfl (lv_at hl 0 rfl) ?_
  refine lv_iconst (v := 0) hx hb dX12_image_1 (by decide +kernel) ?_
  refine va_put (D := (dC, dI)) (ci := 12) (v := .int 0) (ty := .int) (C := RX12) (T := TX12) (N := 85) hx hb hts hiX12 tyX12 tyX12_ok nmX12 hown hK hP hD hS 0 rfl rfl 84 (by decide) (hts _ (List.mem_of_getElem? (i := 1) rfl)) (fun _ h9 => h9) rfl (by decide +kernel) rfl rfl (Nat.le_of_ble_eq_true rfl) dX12_image_2 (fun H locs hP hD hS => ?_)
  have hP : va_P (dC, dI) vwCl [((q 0), .inr (12, (mo q))), ((q 16), .inl (cI, 2, .inl (fun _ => 0))), ((q 11), .inl (cI, 2, .inl (fun _ => 0))), ((q 57), .inl (cI, 48, .inl (fun _ => 0)))] H := hP
  have hD : va_D A [((q 0), .inr (12, (mo q))), ((q 16), .inl (cI, 2, .inl (fun _ => 0))), ((q 11), .inl (cI, 2, .inl (fun _ => 0))), ((q 57), .inl (cI, 48, .inl (fun _ => 0)))] := hD
  refine lv_iconst (v := 0) hx hb dX12_image_5 (by decide +kernel) ?_
  refine lv_istore_n (lv' := [(1, .int 0), (0, .ref (q 0))]) hx hb dX12_image_6 rfl hl (by decide) rfl (fun ls hl => ?_)
  refine lv_iload_n hx hb dX12_image_7 rfl (lv_at hl 0 rfl) ?_
  refine lv_aload_n hx hb dX12_image_8 rfl (lv_at hl 1 rfl) ?_
  refine va_get (D := (dC, dI)) (ci := 12) (v := .ref (q 16)) (C := RX12) (T := TX12) (N := 85) hx hb hts hiX12 hown hK hP 0 rfl rfl 27 (by decide) (hts _ (List.mem_of_getElem? (i := 2) rfl)) (fun _ h9 => h9) rfl dX12_image_9 ?_
  refine lv_aload_n hx hb dX12_image_12 rfl (lv_at hl 1 rfl) ?_
  refine va_get (D := (dC, dI)) (ci := 12) (v := .int 0) (C := RX12) (T := TX12) (N := 85) hx hb hts hiX12 hown hK hP 0 rfl rfl 12 (by decide) (hts _ (List.mem_of_getElem? (i := 3) rfl)) (fun _ h9 => h9) rfl dX12_image_13 ?_
  refine va_iald hx hb hK hP 1 1 rfl rfl (vpc _ _ (by decide +kernel)) dX12_image_16 ?_
  refine tp_i (y := 0) rfl ?_
  refine lv_icmp_ge (tgt := 35) hx hb dX12_image_17 (by decide) (fun _ => ?_) (fun c => absurd c (by decide +kernel))
  refine lv_iconst (v := 0) hx hb dX12_image_35 (by decide +kernel) ?_
  refine lv_istore_n (lv' := [(1, .int 0), (0, .ref (q 0))]) hx hb dX12_image_36 rfl hl (by decide) rfl (fun ls hl => ?_)
  refine lv_iload_n hx hb dX12_image_37 rfl (lv_at hl 0 rfl) ?_
  refine lv_aload_n hx hb dX12_image_38 rfl (lv_at hl 1 rfl) ?_
  refine va_get (D := (dC, dI)) (ci := 12) (v := .ref (q 11)) (C := RX12) (T := TX12) (N := 85) hx hb hts hiX12 hown hK hP 0 rfl rfl 22 (by decide) (hts _ (List.mem_of_getElem? (i := 4) rfl)) (fun _ h9 => h9) rfl dX12_image_39 ?_
  refine lv_aload_n hx hb dX12_image_42 rfl (lv_at hl 1 rfl) ?_
  refine va_get (D := (dC, dI)) (ci := 12) (v := .int 0) (C := RX12) (T := TX12) (N := 85) hx hb hts hiX12 hown hK hP 0 rfl rfl 12 (by decide) (hts _ (List.mem_of_getElem? (i := 3) rfl)) (fun _ h9 => h9) rfl dX12_image_43 ?_
  refine va_iald hx hb hK hP 2 1 rfl rfl (vpc _ _ (by decide +kernel)) dX12_image_46 ?_
  refine tp_i (y := 0) rfl ?_
  refine lv_icmp_ge (tgt := 125) hx hb dX12_image_47 (by decide) (fun _ => ?_) (fun c => absurd c (by decide +kernel))
  refine lv_bipush (v := 19) hx hb dX12_image_125 (by decide +kernel) ?_
  refine lv_istore_n (lv' := [(1, .int 19), (0, .ref (q 0))]) hx hb dX12_image_127 rfl hl (by decide) rfl (fun ls hl => ?_)
  refine lv_iconst (v := 0) hx hb dX12_image_128 (by decide +kernel) ?_
  refine lv_istore_n (lv' := [(2, .int 0), (1, .int 19), (0, .ref (q 0))]) hx hb dX12_image_129 rfl hl (by decide) rfl (fun ls hl => ?_)
  refine lv_iload_n hx hb dX12_image_130 rfl (lv_at hl 0 rfl) ?_
  refine lv_aload_n hx hb dX12_image_131 rfl (lv_at hl 2 rfl) ?_
  refine va_get (D := (dC, dI)) (ci := 12) (v := .int 0) (C := RX12) (T := TX12) (N := 85) hx hb hts hiX12 hown hK hP 0 rfl rfl 84 (by decide) (hts _ (List.mem_of_getElem? (i := 1) rfl)) (fun _ h9 => h9) rfl dX12_image_132 ?_
  refine lv_icmp_ge (tgt := 159) hx hb dX12_image_135 (by decide) (fun _ => ?_) (fun c => absurd c (by decide +kernel))
  refine lv_aload_n hx hb dX12_image_159 rfl (lv_at hl 2 rfl) ?_
  refine lv_iload_n hx hb dX12_image_160 rfl (lv_at hl 1 rfl) ?_
  have hPc := hP.sub (ws' := [((q 0), .inr (12, (mo q))), ((q 57), .inl (cI, 48, .inl (fun _ => 0)))]) [0, 3] rfl
  have hDc := hD.sub (ws' := [((q 0), .inr (12, (mo q))), ((q 57), .inl (cI, 48, .inl (fun _ => 0)))]) [0, 3] (by decide) rfl
  have hFc := va_free (wc := [((q 0), .inr (12, (mo q))), ((q 57), .inl (cI, 48, .inl (fun _ => 0)))]) hD hS hA [0, 3] rfl
  refine va_callv (va_runV (As := [.int 19]) (rest := []) ⟨hx, hb, hml, hown, hts⟩ (k_X12_writes_152 l dC dI cB cI cJ cZ cQ H.size q (fun _ => 0)) (cwV 1 hts g_p_X12_image_0 rfl rfl rfl (by decide +kernel) ⟨Nat.le_of_ble_eq_true rfl, Nat.le_of_ble_eq_true rfl⟩) ⟨fun a U g mk Z => by obtain ⟨q0, q1, qP, qK, qD⟩ := Z; exact ⟨q0, q1, qP, va_K.moved (u := U) (U := U.calling g mk a) (Vm.Alike.refl U.vm) qK, qD⟩, va_recv hK hPc (ci := 12) (q0 := 0) rfl rfl, fun U hU hW => ⟨rfl, by rw [hU], by rw [hU]; exact hPc, va_K.moved hW.alike hK, hDc.weaken (fun _ _ _ _ => trivial)⟩⟩ rfl rfl hl.1 rfl (lv_room (Nat.le_of_ble_eq_true rfl)) dX12_image_161 ⟨Nat.le_of_ble_eq_true rfl, Nat.le_of_ble_eq_true rfl⟩) hS (fun b _ h => hFc b h) hFc (fun u1 t H1 locs ht hvm hw hB hz1 hk1 hS => ?_)
  obtain ⟨hP1, hK1, hD1⟩ := hB
  rw [ht] at hP1
  obtain ⟨hP, hD⟩ := va_join (wr := [((q 16), .inl (cI, 2, .inl (fun _ => 0))), ((q 11), .inl (cI, 2, .inl (fun _ => 0)))]) (w1 := [((q 0), .inr (12, ((mo q).set 84 (.int 1)))), ((q 57), .inl (cI, 48, .inl (upd (fun _ => 0) 0 19)))]) hP hD [0, 3] [1, 2] rfl rfl (by decide) (by decide) hk1 hFc hP1 hD1
  clear hP1 hK1 hD1 hk1 hz1 hvm hPc hDc hFc
  generalize H1 = H at hP hS ⊢
  have hP : va_P (dC, dI) vwCl [((q 16), .inl (cI, 2, .inl (fun _ => 0))), ((q 11), .inl (cI, 2, .inl (fun _ => 0))), ((q 0), .inr (12, ((mo q).set 84 (.int 1)))), ((q 57), .inl (cI, 48, .inl (upd (fun _ => 0) 0 19)))] H := hP
  have hD : va_D A [((q 16), .inl (cI, 2, .inl (fun _ => 0))), ((q 11), .inl (cI, 2, .inl (fun _ => 0))), ((q 0), .inr (12, ((mo q).set 84 (.int 1)))), ((q 57), .inl (cI, 48, .inl (upd (fun _ => 0) 0 19)))] := hD
  refine lv_aload_n hx hb dX12_image_164 rfl (lv_at hl 2 rfl) ?_
  refine va_get (D := (dC, dI)) (ci := 12) (v := .int 1) (C := RX12) (T := TX12) (N := 85) hx hb hts hiX12 hown hK hP 2 rfl rfl 84 (by decide) (hts _ (List.mem_of_getElem? (i := 1) rfl)) (fun _ h9 => h9) rfl dX12_image_165 ?_
  exact W.iret (v := 1) hx hb hr (fun t ht hW => ⟨⟨1, (), rfl, rfl, trivial⟩, hS.F ht⟩) hS.2.2 dX12_image_168
