def ws_k_X12_put_85 : List Cond := .code yX12_put cX12_put 3 none :: ([.fieldLink RX12 7 "StackKeysModel" "tape" "[I", .fieldLink RX12 13 "StackKeysModel" "taped" "I"] ++ wsX120)
set_option maxHeartbeats 4000000 in
set_option maxRecDepth 100000 in
theorem k_X12_put_85 (l : Launch) (dC : Nat → ClassId) (dI : Nat → Nat → Nat) (cB cI cJ cZ cQ : ClassId) (sz : Nat) (q : Nat → Nat) (x0 : Int32) (f0 : Nat → Int32) : Met l yX12_put ws_k_X12_put_85 ({ frames := 0, cells := 0, slots := 0, locals := 0 }) (va_Pc [.ref (q 0), .int x0] (fun U => U.heap.size = sz ∧ va_P (dC, dI) vwCl [((q 0), .inr (12, (mo q))), ((q 1), .inl (cI, 1800, .inl f0))] U.heap ∧ va_K (dC, dI) vwCl (tyA cB cI cJ cZ cQ) U ∧ va_D (fun _ => True) [((q 0), .inr (12, (mo q))), ((q 1), .inl (cI, 1800, .inl f0))])) (va_Qv (fun _ : Unit => True) (fun (u : Unit) t => va_P (dC, dI) vwCl [((q 0), .inr (12, ((mo q).set 1 (.int 4)))), ((q 1), .inl (cI, 1800, .inl (upd (upd (upd (upd f0 0 ((x0 >>> (24 &&& 31)) &&& 255)) 1 ((x0 >>> (16 &&& 31)) &&& 255)) 2 ((x0 >>> (8 &&& 31)) &&& 255)) 3 ((x0 >>> (0 &&& 31)) &&& 255))))] t.heap ∧ va_K (dC, dI) vwCl (tyA cB cI cJ cZ cQ) t ∧ va_D (va_A [((q 0), .inr (12, (mo q))), ((q 1), .inl (cI, 1800, .inl f0))] sz) [((q 0), .inr (12, ((mo q).set 1 (.int 4)))), ((q 1), .inl (cI, 1800, .inl (upd (upd (upd (upd f0 0 ((x0 >>> (24 &&& 31)) &&& 255)) 1 ((x0 >>> (16 &&& 31)) &&& 255)) 2 ((x0 >>> (8 &&& 31)) &&& 255)) 3 ((x0 >>> (0 &&& 31)) &&& 255))))]) (va_A [((q 0), .inr (12, (mo q))), ((q 1), .inl (cI, 1800, .inl f0))] sz)) 0 0 (va_A [((q 0), .inr (12, (mo q))), ((q 1), .inl (cI, 1800, .inl f0))] sz) := by
  refine Met.ofW (cc := cX12_put) (maxL := 3) (ret := none) (by decide +kernel) rfl ?_
  intro p e s m args below meth c s₁ B hml hv
  obtain ⟨rfl, hsz, hP, hK, hD0⟩ := hv
  have hx := B.exec
  have hb := B.bytes
  have hr := B.returns
  have hts := atoms_spec (ws := ws_k_X12_put_85) B.pre
  have hown : s.vm.findClass RX12 = some m.cls := findClass_of_methodNamed B.named
  have hiX12 : ∀ w ∈ u_ws RX12 TX12 85, w ∈ ws_k_X12_put_85 := fun w h => List.mem_cons_of_mem _ (List.mem_append_right _ h)
  subst hsz
  have hD := hD0.self (sz := s.heap.size)
  generalize hAe : va_A [((q 0), .inr (12, (mo q))), ((q 1), .inl (cI, 1800, .inl f0))] s.heap.size = A at hD ⊢
  have hA : ∀ b : Nat, s.heap.size ≤ b → A b := fun b h => by rw [← hAe]; exact Or.inr h
  clear hD0 hAe
  have hS : va_S A s.heap s.heap [] := va_S.rf
  have hl := lv_entry ([.ref (q 0), .int x0]) (n := 3) (Nat.le_of_ble_eq_true rfl)
  rw [lg_entry_eq]
  generalize (lg_sl ([.ref (q 0), .int x0]) ++ List.replicate (3 - (lg_sl ([.ref (q 0), .int x0])).length) Slot.unset).toArray = ls at hl ⊢
  have hl : lv_has ls 3 [(0, .ref (q 0)), (1, .int x0)] := hl
  obtain ⟨H, hHe⟩ : ∃ H : Heap, H = s.heap := ⟨_, rfl⟩
  rw [← hHe] at hP
  have hS : va_S A s.heap H [] := by rw [hHe]; exact hS
  rw [← hHe]
  refine lv_bipush (v := 24) hx hb dX12_put_0 (by decide +kernel) ?_
  refine lv_istore_n (lv' := [(2, .int 24), (0, .ref (q 0)), (1, .int x0)]) hx hb dX12_put_2 rfl hl (by decide) rfl (fun ls hl => ?_)
  refine lv_iload_n hx hb dX12_put_3 rfl (lv_at hl 0 rfl) ?_
  refine lv_if_lt (tgt := 39) hx hb dX12_put_4 (by decide) (fun c => absurd c (by decide +kernel)) (fun _ => ?_)
  refine lv_aload_n hx hb dX12_put_7 rfl (lv_at hl 1 rfl) ?_
  refine va_get (D := (dC, dI)) (ci := 12) (v := .ref (q 1)) (C := RX12) (T := TX12) (N := 85) hx hb hts hiX12 hown hK hP 0 rfl rfl 0 (by decide) (hts _ (List.mem_of_getElem? (i := 1) rfl)) (fun _ h9 => h9) rfl dX12_put_8 ?_
  refine lv_aload_n hx hb dX12_put_11 rfl (lv_at hl 1 rfl) ?_
  refine va_get (D := (dC, dI)) (ci := 12) (v := .int 0) (C := RX12) (T := TX12) (N := 85) hx hb hts hiX12 hown hK hP 0 rfl rfl 1 (by decide) (hts _ (List.mem_of_getElem? (i := 2) rfl)) (fun _ h9 => h9) rfl dX12_put_12 ?_
  refine lv_iload_n hx hb dX12_put_15 rfl (lv_at hl 2 rfl) ?_
  refine lv_iload_n hx hb dX12_put_16 rfl (lv_at hl 0 rfl) ?_
  refine lv_ishr hx hb dX12_put_17 ?_
  refine lv_sipush (v := 255) hx hb dX12_put_18 (by decide +kernel) ?_
  refine lv_iand hx hb dX12_put_21 ?_
  refine va_iast hx hb hK hP hD hS 1 1 rfl rfl (vpc _ _ (by decide +kernel)) dX12_put_22 (fun H locs hP hD hS => ?_)
  have hP : va_P (dC, dI) vwCl [((q 0), .inr (12, (mo q))), ((q 1), .inl (cI, 1800, .inl (upd f0 0 ((x0 >>> (24 &&& 31)) &&& 255))))] H := hP
  have hD : va_D A [((q 0), .inr (12, (mo q))), ((q 1), .inl (cI, 1800, .inl (upd f0 0 ((x0 >>> (24 &&& 31)) &&& 255))))] := hD
  refine lv_aload_n hx hb dX12_put_23 rfl (lv_at hl 1 rfl) ?_
  refine lv_dup hx hb dX12_put_24 rfl ?_
  refine va_get (D := (dC, dI)) (ci := 12) (v := .int 0) (C := RX12) (T := TX12) (N := 85) hx hb hts hiX12 hown hK hP 0 rfl rfl 1 (by decide) (hts _ (List.mem_of_getElem? (i := 2) rfl)) (fun _ h9 => h9) rfl dX12_put_25 ?_
  refine lv_iconst (v := 1) hx hb dX12_put_28 (by decide +kernel) ?_
  refine lv_iadd hx hb dX12_put_29 ?_
  refine tp_i (y := 1) (by decide +kernel) ?_
  refine va_put (D := (dC, dI)) (ci := 12) (v := .int 1) (ty := .int) (C := RX12) (T := TX12) (N := 85) hx hb hts hiX12 tyX12 tyX12_ok nmX12 hown hK hP hD hS 0 rfl rfl 1 (by decide) (hts _ (List.mem_of_getElem? (i := 2) rfl)) (fun _ h9 => h9) rfl (by decide +kernel) rfl rfl (Nat.le_of_ble_eq_true rfl) dX12_put_30 (fun H locs hP hD hS => ?_)
  have hP : va_P (dC, dI) vwCl [((q 0), .inr (12, ((mo q).set 1 (.int 1)))), ((q 1), .inl (cI, 1800, .inl (upd f0 0 ((x0 >>> (24 &&& 31)) &&& 255))))] H := hP
  have hD : va_D A [((q 0), .inr (12, ((mo q).set 1 (.int 1)))), ((q 1), .inl (cI, 1800, .inl (upd f0 0 ((x0 >>> (24 &&& 31)) &&& 255))))] := hD
  refine lv_iinc (v := 16) (lv' := [(2, .int 16), (0, .ref (q 0)), (1, .int x0)]) hx hb dX12_put_33 hl (k := 0) rfl (by decide +kernel) (by decide) rfl (fun ls hl => ?_)
  refine lv_goto (tgt := 3) hx hb dX12_put_36 (by decide) ?_
  refine lv_iload_n hx hb dX12_put_3 rfl (lv_at hl 0 rfl) ?_
  refine lv_if_lt (tgt := 39) hx hb dX12_put_4 (by decide) (fun c => absurd c (by decide +kernel)) (fun _ => ?_)
  refine lv_aload_n hx hb dX12_put_7 rfl (lv_at hl 1 rfl) ?_
  refine va_get (D := (dC, dI)) (ci := 12) (v := .ref (q 1)) (C := RX12) (T := TX12) (N := 85) hx hb hts hiX12 hown hK hP 0 rfl rfl 0 (by decide) (hts _ (List.mem_of_getElem? (i := 1) rfl)) (fun _ h9 => h9) rfl dX12_put_8 ?_
  refine lv_aload_n hx hb dX12_put_11 rfl (lv_at hl 1 rfl) ?_
  refine va_get (D := (dC, dI)) (ci := 12) (v := .int 1) (C := RX12) (T := TX12) (N := 85) hx hb hts hiX12 hown hK hP 0 rfl rfl 1 (by decide) (hts _ (List.mem_of_getElem? (i := 2) rfl)) (fun _ h9 => h9) rfl dX12_put_12 ?_
  refine lv_iload_n hx hb dX12_put_15 rfl (lv_at hl 2 rfl) ?_
  refine lv_iload_n hx hb dX12_put_16 rfl (lv_at hl 0 rfl) ?_
  refine lv_ishr hx hb dX12_put_17 ?_
  refine lv_sipush (v := 255) hx hb dX12_put_18 (by decide +kernel) ?_
  refine lv_iand hx hb dX12_put_21 ?_
  refine va_iast hx hb hK hP hD hS 1 1 rfl rfl (vpc _ _ (by decide +kernel)) dX12_put_22 (fun H locs hP hD hS => ?_)
  have hP : va_P (dC, dI) vwCl [((q 0), .inr (12, ((mo q).set 1 (.int 1)))), ((q 1), .inl (cI, 1800, .inl (upd (upd f0 0 ((x0 >>> (24 &&& 31)) &&& 255)) 1 ((x0 >>> (16 &&& 31)) &&& 255))))] H := hP
  have hD : va_D A [((q 0), .inr (12, ((mo q).set 1 (.int 1)))), ((q 1), .inl (cI, 1800, .inl (upd (upd f0 0 ((x0 >>> (24 &&& 31)) &&& 255)) 1 ((x0 >>> (16 &&& 31)) &&& 255))))] := hD
  refine lv_aload_n hx hb dX12_put_23 rfl (lv_at hl 1 rfl) ?_
  refine lv_dup hx hb dX12_put_24 rfl ?_
  refine va_get (D := (dC, dI)) (ci := 12) (v := .int 1) (C := RX12) (T := TX12) (N := 85) hx hb hts hiX12 hown hK hP 0 rfl rfl 1 (by decide) (hts _ (List.mem_of_getElem? (i := 2) rfl)) (fun _ h9 => h9) rfl dX12_put_25 ?_
  refine lv_iconst (v := 1) hx hb dX12_put_28 (by decide +kernel) ?_
  refine lv_iadd hx hb dX12_put_29 ?_
  refine tp_i (y := 2) (by decide +kernel) ?_
  refine va_put (D := (dC, dI)) (ci := 12) (v := .int 2) (ty := .int) (C := RX12) (T := TX12) (N := 85) hx hb hts hiX12 tyX12 tyX12_ok nmX12 hown hK hP hD hS 0 rfl rfl 1 (by decide) (hts _ (List.mem_of_getElem? (i := 2) rfl)) (fun _ h9 => h9) rfl (by decide +kernel) rfl rfl (Nat.le_of_ble_eq_true rfl) dX12_put_30 (fun H locs hP hD hS => ?_)
  have hP : va_P (dC, dI) vwCl [((q 0), .inr (12, ((mo q).set 1 (.int 2)))), ((q 1), .inl (cI, 1800, .inl (upd (upd f0 0 ((x0 >>> (24 &&& 31)) &&& 255)) 1 ((x0 >>> (16 &&& 31)) &&& 255))))] H := hP
  have hD : va_D A [((q 0), .inr (12, ((mo q).set 1 (.int 2)))), ((q 1), .inl (cI, 1800, .inl (upd (upd f0 0 ((x0 >>> (24 &&& 31)) &&& 255)) 1 ((x0 >>> (16 &&& 31)) &&& 255))))] := hD
  refine lv_iinc (v := 8) (lv' := [(2, .int 8), (0, .ref (q 0)), (1, .int x0)]) hx hb dX12_put_33 hl (k := 0) rfl (by decide +kernel) (by decide) rfl (fun ls hl => ?_)
  refine lv_goto (tgt := 3) hx hb dX12_put_36 (by decide) ?_
  refine lv_iload_n hx hb dX12_put_3 rfl (lv_at hl 0 rfl) ?_
  refine lv_if_lt (tgt := 39) hx hb dX12_put_4 (by decide) (fun c => absurd c (by decide +kernel)) (fun _ => ?_)
  refine lv_aload_n hx hb dX12_put_7 rfl (lv_at hl 1 rfl) ?_
  refine va_get (D := (dC, dI)) (ci := 12) (v := .ref (q 1)) (C := RX12) (T := TX12) (N := 85) hx hb hts hiX12 hown hK hP 0 rfl rfl 0 (by decide) (hts _ (List.mem_of_getElem? (i := 1) rfl)) (fun _ h9 => h9) rfl dX12_put_8 ?_
  refine lv_aload_n hx hb dX12_put_11 rfl (lv_at hl 1 rfl) ?_
  refine va_get (D := (dC, dI)) (ci := 12) (v := .int 2) (C := RX12) (T := TX12) (N := 85) hx hb hts hiX12 hown hK hP 0 rfl rfl 1 (by decide) (hts _ (List.mem_of_getElem? (i := 2) rfl)) (fun _ h9 => h9) rfl dX12_put_12 ?_
  refine lv_iload_n hx hb dX12_put_15 rfl (lv_at hl 2 rfl) ?_
  refine lv_iload_n hx hb dX12_put_16 rfl (lv_at hl 0 rfl) ?_
  refine lv_ishr hx hb dX12_put_17 ?_
  refine lv_sipush (v := 255) hx hb dX12_put_18 (by decide +kernel) ?_
  refine lv_iand hx hb dX12_put_21 ?_
  refine va_iast hx hb hK hP hD hS 1 1 rfl rfl (vpc _ _ (by decide +kernel)) dX12_put_22 (fun H locs hP hD hS => ?_)
  have hP : va_P (dC, dI) vwCl [((q 0), .inr (12, ((mo q).set 1 (.int 2)))), ((q 1), .inl (cI, 1800, .inl (upd (upd (upd f0 0 ((x0 >>> (24 &&& 31)) &&& 255)) 1 ((x0 >>> (16 &&& 31)) &&& 255)) 2 ((x0 >>> (8 &&& 31)) &&& 255))))] H := hP
  have hD : va_D A [((q 0), .inr (12, ((mo q).set 1 (.int 2)))), ((q 1), .inl (cI, 1800, .inl (upd (upd (upd f0 0 ((x0 >>> (24 &&& 31)) &&& 255)) 1 ((x0 >>> (16 &&& 31)) &&& 255)) 2 ((x0 >>> (8 &&& 31)) &&& 255))))] := hD
  refine lv_aload_n hx hb dX12_put_23 rfl (lv_at hl 1 rfl) ?_
  refine lv_dup hx hb dX12_put_24 rfl ?_
  refine va_get (D := (dC, dI)) (ci := 12) (v := .int 2) (C := RX12) (T := TX12) (N := 85) hx hb hts hiX12 hown hK hP 0 rfl rfl 1 (by decide) (hts _ (List.mem_of_getElem? (i := 2) rfl)) (fun _ h9 => h9) rfl dX12_put_25 ?_
  refine lv_iconst (v := 1) hx hb dX12_put_28 (by decide +kernel) ?_
  refine lv_iadd hx hb dX12_put_29 ?_
  refine tp_i (y := 3) (by decide +kernel) ?_
  refine va_put (D := (dC, dI)) (ci := 12) (v := .int 3) (ty := .int) (C := RX12) (T := TX12) (N := 85) hx hb hts hiX12 tyX12 tyX12_ok nmX12 hown hK hP hD hS 0 rfl rfl 1 (by decide) (hts _ (List.mem_of_getElem? (i := 2) rfl)) (fun _ h9 => h9) rfl (by decide +kernel) rfl rfl (Nat.le_of_ble_eq_true rfl) dX12_put_30 (fun H locs hP hD hS => ?_)
  have hP : va_P (dC, dI) vwCl [((q 0), .inr (12, ((mo q).set 1 (.int 3)))), ((q 1), .inl (cI, 1800, .inl (upd (upd (upd f0 0 ((x0 >>> (24 &&& 31)) &&& 255)) 1 ((x0 >>> (16 &&& 31)) &&& 255)) 2 ((x0 >>> (8 &&& 31)) &&& 255))))] H := hP
  have hD : va_D A [((q 0), .inr (12, ((mo q).set 1 (.int 3)))), ((q 1), .inl (cI, 1800, .inl (upd (upd (upd f0 0 ((x0 >>> (24 &&& 31)) &&& 255)) 1 ((x0 >>> (16 &&& 31)) &&& 255)) 2 ((x0 >>> (8 &&& 31)) &&& 255))))] := hD
  refine lv_iinc (v := 0) (lv' := [(2, .int 0), (0, .ref (q 0)), (1, .int x0)]) hx hb dX12_put_33 hl (k := 0) rfl (by decide +kernel) (by decide) rfl (fun ls hl => ?_)
  refine lv_goto (tgt := 3) hx hb dX12_put_36 (by decide) ?_
  refine lv_iload_n hx hb dX12_put_3 rfl (lv_at hl 0 rfl) ?_
  refine lv_if_lt (tgt := 39) hx hb dX12_put_4 (by decide) (fun c => absurd c (by decide +kernel)) (fun _ => ?_)
  refine lv_aload_n hx hb dX12_put_7 rfl (lv_at hl 1 rfl) ?_
  refine va_get (D := (dC, dI)) (ci := 12) (v := .ref (q 1)) (C := RX12) (T := TX12) (N := 85) hx hb hts hiX12 hown hK hP 0 rfl rfl 0 (by decide) (hts _ (List.mem_of_getElem? (i := 1) rfl)) (fun _ h9 => h9) rfl dX12_put_8 ?_
  refine lv_aload_n hx hb dX12_put_11 rfl (lv_at hl 1 rfl) ?_
  refine va_get (D := (dC, dI)) (ci := 12) (v := .int 3) (C := RX12) (T := TX12) (N := 85) hx hb hts hiX12 hown hK hP 0 rfl rfl 1 (by decide) (hts _ (List.mem_of_getElem? (i := 2) rfl)) (fun _ h9 => h9) rfl dX12_put_12 ?_
  refine lv_iload_n hx hb dX12_put_15 rfl (lv_at hl 2 rfl) ?_
  refine lv_iload_n hx hb dX12_put_16 rfl (lv_at hl 0 rfl) ?_
  refine lv_ishr hx hb dX12_put_17 ?_
  refine lv_sipush (v := 255) hx hb dX12_put_18 (by decide +kernel) ?_
  refine lv_iand hx hb dX12_put_21 ?_
  refine va_iast hx hb hK hP hD hS 1 1 rfl rfl (vpc _ _ (by decide +kernel)) dX12_put_22 (fun H locs hP hD hS => ?_)
  have hP : va_P (dC, dI) vwCl [((q 0), .inr (12, ((mo q).set 1 (.int 3)))), ((q 1), .inl (cI, 1800, .inl (upd (upd (upd (upd f0 0 ((x0 >>> (24 &&& 31)) &&& 255)) 1 ((x0 >>> (16 &&& 31)) &&& 255)) 2 ((x0 >>> (8 &&& 31)) &&& 255)) 3 ((x0 >>> (0 &&& 31)) &&& 255))))] H := hP
  have hD : va_D A [((q 0), .inr (12, ((mo q).set 1 (.int 3)))), ((q 1), .inl (cI, 1800, .inl (upd (upd (upd (upd f0 0 ((x0 >>> (24 &&& 31)) &&& 255)) 1 ((x0 >>> (16 &&& 31)) &&& 255)) 2 ((x0 >>> (8 &&& 31)) &&& 255)) 3 ((x0 >>> (0 &&& 31)) &&& 255))))] := hD
  refine lv_aload_n hx hb dX12_put_23 rfl (lv_at hl 1 rfl) ?_
  refine lv_dup hx hb dX12_put_24 rfl ?_
  refine va_get (D := (dC, dI)) (ci := 12) (v := .int 3) (C := RX12) (T := TX12) (N := 85) hx hb hts hiX12 hown hK hP 0 rfl rfl 1 (by decide) (hts _ (List.mem_of_getElem? (i := 2) rfl)) (fun _ h9 => h9) rfl dX12_put_25 ?_
  refine lv_iconst (v := 1) hx hb dX12_put_28 (by decide +kernel) ?_
  refine lv_iadd hx hb dX12_put_29 ?_
  refine tp_i (y := 4) (by decide +kernel) ?_
  refine va_put (D := (dC, dI)) (ci := 12) (v := .int 4) (ty := .int) (C := RX12) (T := TX12) (N := 85) hx hb hts hiX12 tyX12 tyX12_ok nmX12 hown hK hP hD hS 0 rfl rfl 1 (by decide) (hts _ (List.mem_of_getElem? (i := 2) rfl)) (fun _ h9 => h9) rfl (by decide +kernel) rfl rfl (Nat.le_of_ble_eq_true rfl) dX12_put_30 (fun H locs hP hD hS => ?_)
  have hP : va_P (dC, dI) vwCl [((q 0), .inr (12, ((mo q).set 1 (.int 4)))), ((q 1), .inl (cI, 1800, .inl (upd (upd (upd (upd f0 0 ((x0 >>> (24 &&& 31)) &&& 255)) 1 ((x0 >>> (16 &&& 31)) &&& 255)) 2 ((x0 >>> (8 &&& 31)) &&& 255)) 3 ((x0 >>> (0 &&& 31)) &&& 255))))] H := hP
  have hD : va_D A [((q 0), .inr (12, ((mo q).set 1 (.int 4)))), ((q 1), .inl (cI, 1800, .inl (upd (upd (upd (upd f0 0 ((x0 >>> (24 &&& 31)) &&& 255)) 1 ((x0 >>> (16 &&& 31)) &&& 255)) 2 ((x0 >>> (8 &&& 31)) &&& 255)) 3 ((x0 >>> (0 &&& 31)) &&& 255))))] := hD
  refine lv_iinc (v := (-8)) (lv' := [(2, .int (-8)), (0, .ref (q 0)), (1, .int x0)]) hx hb dX12_put_33 hl (k := 0) rfl (by decide +kernel) (by decide) rfl (fun ls hl => ?_)
  refine lv_goto (tgt := 3) hx hb dX12_put_36 (by decide) ?_
  refine lv_iload_n hx hb dX12_put_3 rfl (lv_at hl 0 rfl) ?_
  refine lv_if_lt (tgt := 39) hx hb dX12_put_4 (by decide) (fun _ => ?_) (fun c => absurd c (by decide +kernel))
  have hP9 := hP.sub (ws' := [((q 0), .inr (12, ((mo q).set 1 (.int 4)))), ((q 1), .inl (cI, 1800, .inl (upd (upd (upd (upd f0 0 ((x0 >>> (24 &&& 31)) &&& 255)) 1 ((x0 >>> (16 &&& 31)) &&& 255)) 2 ((x0 >>> (8 &&& 31)) &&& 255)) 3 ((x0 >>> (0 &&& 31)) &&& 255))))]) [0, 1] rfl
  have hD9 := hD.sub (ws' := [((q 0), .inr (12, ((mo q).set 1 (.int 4)))), ((q 1), .inl (cI, 1800, .inl (upd (upd (upd (upd f0 0 ((x0 >>> (24 &&& 31)) &&& 255)) 1 ((x0 >>> (16 &&& 31)) &&& 255)) 2 ((x0 >>> (8 &&& 31)) &&& 255)) 3 ((x0 >>> (0 &&& 31)) &&& 255))))]) [0, 1] (by decide) rfl
  exact W.vret hx hb hr (fun t ht hW => ⟨⟨(), rfl, trivial, by rw [ht]; exact hP9, va_K.moved hW.alike hK, hD9⟩, hS.F ht⟩) hS.2.2 dX12_put_39
def ws_k_X12_put_86 : List Cond := .code yX12_put cX12_put 3 none :: ([.fieldLink RX12 7 "StackKeysModel" "tape" "[I", .fieldLink RX12 13 "StackKeysModel" "taped" "I"] ++ wsX120)
set_option maxHeartbeats 4000000 in
set_option maxRecDepth 100000 in
theorem k_X12_put_86 (l : Launch) (dC : Nat → ClassId) (dI : Nat → Nat → Nat) (cB cI cJ cZ cQ : ClassId) (sz : Nat) (q : Nat → Nat) (x0 : Int32) (f0 : Nat → Int32) : Met l yX12_put ws_k_X12_put_86 ({ frames := 0, cells := 0, slots := 0, locals := 0 }) (va_Pc [.ref (q 0), .int x0] (fun U => U.heap.size = sz ∧ va_P (dC, dI) vwCl [((q 0), .inr (12, ((mo q).set 1 (.int 4)))), ((q 1), .inl (cI, 1800, .inl f0))] U.heap ∧ va_K (dC, dI) vwCl (tyA cB cI cJ cZ cQ) U ∧ va_D (fun _ => True) [((q 0), .inr (12, ((mo q).set 1 (.int 4)))), ((q 1), .inl (cI, 1800, .inl f0))])) (va_Qv (fun _ : Unit => True) (fun (u : Unit) t => va_P (dC, dI) vwCl [((q 0), .inr (12, ((mo q).set 1 (.int 8)))), ((q 1), .inl (cI, 1800, .inl (upd (upd (upd (upd f0 4 ((x0 >>> (24 &&& 31)) &&& 255)) 5 ((x0 >>> (16 &&& 31)) &&& 255)) 6 ((x0 >>> (8 &&& 31)) &&& 255)) 7 ((x0 >>> (0 &&& 31)) &&& 255))))] t.heap ∧ va_K (dC, dI) vwCl (tyA cB cI cJ cZ cQ) t ∧ va_D (va_A [((q 0), .inr (12, ((mo q).set 1 (.int 4)))), ((q 1), .inl (cI, 1800, .inl f0))] sz) [((q 0), .inr (12, ((mo q).set 1 (.int 8)))), ((q 1), .inl (cI, 1800, .inl (upd (upd (upd (upd f0 4 ((x0 >>> (24 &&& 31)) &&& 255)) 5 ((x0 >>> (16 &&& 31)) &&& 255)) 6 ((x0 >>> (8 &&& 31)) &&& 255)) 7 ((x0 >>> (0 &&& 31)) &&& 255))))]) (va_A [((q 0), .inr (12, ((mo q).set 1 (.int 4)))), ((q 1), .inl (cI, 1800, .inl f0))] sz)) 0 0 (va_A [((q 0), .inr (12, ((mo q).set 1 (.int 4)))), ((q 1), .inl (cI, 1800, .inl f0))] sz) := by
  refine Met.ofW (cc := cX12_put) (maxL := 3) (ret := none) (by decide +kernel) rfl ?_
  intro p e s m args below meth c s₁ B hml hv
  obtain ⟨rfl, hsz, hP, hK, hD0⟩ := hv
  have hx := B.exec
  have hb := B.bytes
  have hr := B.returns
  have hts := atoms_spec (ws := ws_k_X12_put_86) B.pre
  have hown : s.vm.findClass RX12 = some m.cls := findClass_of_methodNamed B.named
  have hiX12 : ∀ w ∈ u_ws RX12 TX12 85, w ∈ ws_k_X12_put_86 := fun w h => List.mem_cons_of_mem _ (List.mem_append_right _ h)
  subst hsz
  have hD := hD0.self (sz := s.heap.size)
  generalize hAe : va_A [((q 0), .inr (12, ((mo q).set 1 (.int 4)))), ((q 1), .inl (cI, 1800, .inl f0))] s.heap.size = A at hD ⊢
  have hA : ∀ b : Nat, s.heap.size ≤ b → A b := fun b h => by rw [← hAe]; exact Or.inr h
  clear hD0 hAe
  have hS : va_S A s.heap s.heap [] := va_S.rf
  have hl := lv_entry ([.ref (q 0), .int x0]) (n := 3) (Nat.le_of_ble_eq_true rfl)
  rw [lg_entry_eq]
  generalize (lg_sl ([.ref (q 0), .int x0]) ++ List.replicate (3 - (lg_sl ([.ref (q 0), .int x0])).length) Slot.unset).toArray = ls at hl ⊢
  have hl : lv_has ls 3 [(0, .ref (q 0)), (1, .int x0)] := hl
  obtain ⟨H, hHe⟩ : ∃ H : Heap, H = s.heap := ⟨_, rfl⟩
  rw [← hHe] at hP
  have hS : va_S A s.heap H [] := by rw [hHe]; exact hS
  rw [← hHe]
  refine lv_bipush (v := 24) hx hb dX12_put_0 (by decide +kernel) ?_
  refine lv_istore_n (lv' := [(2, .int 24), (0, .ref (q 0)), (1, .int x0)]) hx hb dX12_put_2 rfl hl (by decide) rfl (fun ls hl => ?_)
  refine lv_iload_n hx hb dX12_put_3 rfl (lv_at hl 0 rfl) ?_
  refine lv_if_lt (tgt := 39) hx hb dX12_put_4 (by decide) (fun c => absurd c (by decide +kernel)) (fun _ => ?_)
  refine lv_aload_n hx hb dX12_put_7 rfl (lv_at hl 1 rfl) ?_
  refine va_get (D := (dC, dI)) (ci := 12) (v := .ref (q 1)) (C := RX12) (T := TX12) (N := 85) hx hb hts hiX12 hown hK hP 0 rfl rfl 0 (by decide) (hts _ (List.mem_of_getElem? (i := 1) rfl)) (fun _ h9 => h9) rfl dX12_put_8 ?_
  refine lv_aload_n hx hb dX12_put_11 rfl (lv_at hl 1 rfl) ?_
  refine va_get (D := (dC, dI)) (ci := 12) (v := .int 4) (C := RX12) (T := TX12) (N := 85) hx hb hts hiX12 hown hK hP 0 rfl rfl 1 (by decide) (hts _ (List.mem_of_getElem? (i := 2) rfl)) (fun _ h9 => h9) rfl dX12_put_12 ?_
  refine lv_iload_n hx hb dX12_put_15 rfl (lv_at hl 2 rfl) ?_
  refine lv_iload_n hx hb dX12_put_16 rfl (lv_at hl 0 rfl) ?_
  refine lv_ishr hx hb dX12_put_17 ?_
  refine lv_sipush (v := 255) hx hb dX12_put_18 (by decide +kernel) ?_
  refine lv_iand hx hb dX12_put_21 ?_
  refine va_iast hx hb hK hP hD hS 1 1 rfl rfl (vpc _ _ (by decide +kernel)) dX12_put_22 (fun H locs hP hD hS => ?_)
  have hP : va_P (dC, dI) vwCl [((q 0), .inr (12, ((mo q).set 1 (.int 4)))), ((q 1), .inl (cI, 1800, .inl (upd f0 4 ((x0 >>> (24 &&& 31)) &&& 255))))] H := hP
  have hD : va_D A [((q 0), .inr (12, ((mo q).set 1 (.int 4)))), ((q 1), .inl (cI, 1800, .inl (upd f0 4 ((x0 >>> (24 &&& 31)) &&& 255))))] := hD
  refine lv_aload_n hx hb dX12_put_23 rfl (lv_at hl 1 rfl) ?_
  refine lv_dup hx hb dX12_put_24 rfl ?_
  refine va_get (D := (dC, dI)) (ci := 12) (v := .int 4) (C := RX12) (T := TX12) (N := 85) hx hb hts hiX12 hown hK hP 0 rfl rfl 1 (by decide) (hts _ (List.mem_of_getElem? (i := 2) rfl)) (fun _ h9 => h9) rfl dX12_put_25 ?_
  refine lv_iconst (v := 1) hx hb dX12_put_28 (by decide +kernel) ?_
  refine lv_iadd hx hb dX12_put_29 ?_
  refine tp_i (y := 5) (by decide +kernel) ?_
  refine va_put (D := (dC, dI)) (ci := 12) (v := .int 5) (ty := .int) (C := RX12) (T := TX12) (N := 85) hx hb hts hiX12 tyX12 tyX12_ok nmX12 hown hK hP hD hS 0 rfl rfl 1 (by decide) (hts _ (List.mem_of_getElem? (i := 2) rfl)) (fun _ h9 => h9) rfl (by decide +kernel) rfl rfl (Nat.le_of_ble_eq_true rfl) dX12_put_30 (fun H locs hP hD hS => ?_)
  have hP : va_P (dC, dI) vwCl [((q 0), .inr (12, ((mo q).set 1 (.int 5)))), ((q 1), .inl (cI, 1800, .inl (upd f0 4 ((x0 >>> (24 &&& 31)) &&& 255))))] H := hP
  have hD : va_D A [((q 0), .inr (12, ((mo q).set 1 (.int 5)))), ((q 1), .inl (cI, 1800, .inl (upd f0 4 ((x0 >>> (24 &&& 31)) &&& 255))))] := hD
  refine lv_iinc (v := 16) (lv' := [(2, .int 16), (0, .ref (q 0)), (1, .int x0)]) hx hb dX12_put_33 hl (k := 0) rfl (by decide +kernel) (by decide) rfl (fun ls hl => ?_)
  refine lv_goto (tgt := 3) hx hb dX12_put_36 (by decide) ?_
  refine lv_iload_n hx hb dX12_put_3 rfl (lv_at hl 0 rfl) ?_
  refine lv_if_lt (tgt := 39) hx hb dX12_put_4 (by decide) (fun c => absurd c (by decide +kernel)) (fun _ => ?_)
  refine lv_aload_n hx hb dX12_put_7 rfl (lv_at hl 1 rfl) ?_
  refine va_get (D := (dC, dI)) (ci := 12) (v := .ref (q 1)) (C := RX12) (T := TX12) (N := 85) hx hb hts hiX12 hown hK hP 0 rfl rfl 0 (by decide) (hts _ (List.mem_of_getElem? (i := 1) rfl)) (fun _ h9 => h9) rfl dX12_put_8 ?_
  refine lv_aload_n hx hb dX12_put_11 rfl (lv_at hl 1 rfl) ?_
  refine va_get (D := (dC, dI)) (ci := 12) (v := .int 5) (C := RX12) (T := TX12) (N := 85) hx hb hts hiX12 hown hK hP 0 rfl rfl 1 (by decide) (hts _ (List.mem_of_getElem? (i := 2) rfl)) (fun _ h9 => h9) rfl dX12_put_12 ?_
  refine lv_iload_n hx hb dX12_put_15 rfl (lv_at hl 2 rfl) ?_
  refine lv_iload_n hx hb dX12_put_16 rfl (lv_at hl 0 rfl) ?_
  refine lv_ishr hx hb dX12_put_17 ?_
  refine lv_sipush (v := 255) hx hb dX12_put_18 (by decide +kernel) ?_
  refine lv_iand hx hb dX12_put_21 ?_
  refine va_iast hx hb hK hP hD hS 1 1 rfl rfl (vpc _ _ (by decide +kernel)) dX12_put_22 (fun H locs hP hD hS => ?_)
  have hP : va_P (dC, dI) vwCl [((q 0), .inr (12, ((mo q).set 1 (.int 5)))), ((q 1), .inl (cI, 1800, .inl (upd (upd f0 4 ((x0 >>> (24 &&& 31)) &&& 255)) 5 ((x0 >>> (16 &&& 31)) &&& 255))))] H := hP
  have hD : va_D A [((q 0), .inr (12, ((mo q).set 1 (.int 5)))), ((q 1), .inl (cI, 1800, .inl (upd (upd f0 4 ((x0 >>> (24 &&& 31)) &&& 255)) 5 ((x0 >>> (16 &&& 31)) &&& 255))))] := hD
  refine lv_aload_n hx hb dX12_put_23 rfl (lv_at hl 1 rfl) ?_
  refine lv_dup hx hb dX12_put_24 rfl ?_
  refine va_get (D := (dC, dI)) (ci := 12) (v := .int 5) (C := RX12) (T := TX12) (N := 85) hx hb hts hiX12 hown hK hP 0 rfl rfl 1 (by decide) (hts _ (List.mem_of_getElem? (i := 2) rfl)) (fun _ h9 => h9) rfl dX12_put_25 ?_
  refine lv_iconst (v := 1) hx hb dX12_put_28 (by decide +kernel) ?_
  refine lv_iadd hx hb dX12_put_29 ?_
  refine tp_i (y := 6) (by decide +kernel) ?_
  refine va_put (D := (dC, dI)) (ci := 12) (v := .int 6) (ty := .int) (C := RX12) (T := TX12) (N := 85) hx hb hts hiX12 tyX12 tyX12_ok nmX12 hown hK hP hD hS 0 rfl rfl 1 (by decide) (hts _ (List.mem_of_getElem? (i := 2) rfl)) (fun _ h9 => h9) rfl (by decide +kernel) rfl rfl (Nat.le_of_ble_eq_true rfl) dX12_put_30 (fun H locs hP hD hS => ?_)
  have hP : va_P (dC, dI) vwCl [((q 0), .inr (12, ((mo q).set 1 (.int 6)))), ((q 1), .inl (cI, 1800, .inl (upd (upd f0 4 ((x0 >>> (24 &&& 31)) &&& 255)) 5 ((x0 >>> (16 &&& 31)) &&& 255))))] H := hP
  have hD : va_D A [((q 0), .inr (12, ((mo q).set 1 (.int 6)))), ((q 1), .inl (cI, 1800, .inl (upd (upd f0 4 ((x0 >>> (24 &&& 31)) &&& 255)) 5 ((x0 >>> (16 &&& 31)) &&& 255))))] := hD
  refine lv_iinc (v := 8) (lv' := [(2, .int 8), (0, .ref (q 0)), (1, .int x0)]) hx hb dX12_put_33 hl (k := 0) rfl (by decide +kernel) (by decide) rfl (fun ls hl => ?_)
  refine lv_goto (tgt := 3) hx hb dX12_put_36 (by decide) ?_
  refine lv_iload_n hx hb dX12_put_3 rfl (lv_at hl 0 rfl) ?_
  refine lv_if_lt (tgt := 39) hx hb dX12_put_4 (by decide) (fun c => absurd c (by decide +kernel)) (fun _ => ?_)
  refine lv_aload_n hx hb dX12_put_7 rfl (lv_at hl 1 rfl) ?_
  refine va_get (D := (dC, dI)) (ci := 12) (v := .ref (q 1)) (C := RX12) (T := TX12) (N := 85) hx hb hts hiX12 hown hK hP 0 rfl rfl 0 (by decide) (hts _ (List.mem_of_getElem? (i := 1) rfl)) (fun _ h9 => h9) rfl dX12_put_8 ?_
  refine lv_aload_n hx hb dX12_put_11 rfl (lv_at hl 1 rfl) ?_
  refine va_get (D := (dC, dI)) (ci := 12) (v := .int 6) (C := RX12) (T := TX12) (N := 85) hx hb hts hiX12 hown hK hP 0 rfl rfl 1 (by decide) (hts _ (List.mem_of_getElem? (i := 2) rfl)) (fun _ h9 => h9) rfl dX12_put_12 ?_
  refine lv_iload_n hx hb dX12_put_15 rfl (lv_at hl 2 rfl) ?_
  refine lv_iload_n hx hb dX12_put_16 rfl (lv_at hl 0 rfl) ?_
  refine lv_ishr hx hb dX12_put_17 ?_
  refine lv_sipush (v := 255) hx hb dX12_put_18 (by decide +kernel) ?_
  refine lv_iand hx hb dX12_put_21 ?_
  refine va_iast hx hb hK hP hD hS 1 1 rfl rfl (vpc _ _ (by decide +kernel)) dX12_put_22 (fun H locs hP hD hS => ?_)
  have hP : va_P (dC, dI) vwCl [((q 0), .inr (12, ((mo q).set 1 (.int 6)))), ((q 1), .inl (cI, 1800, .inl (upd (upd (upd f0 4 ((x0 >>> (24 &&& 31)) &&& 255)) 5 ((x0 >>> (16 &&& 31)) &&& 255)) 6 ((x0 >>> (8 &&& 31)) &&& 255))))] H := hP
  have hD : va_D A [((q 0), .inr (12, ((mo q).set 1 (.int 6)))), ((q 1), .inl (cI, 1800, .inl (upd (upd (upd f0 4 ((x0 >>> (24 &&& 31)) &&& 255)) 5 ((x0 >>> (16 &&& 31)) &&& 255)) 6 ((x0 >>> (8 &&& 31)) &&& 255))))] := hD
  refine lv_aload_n hx hb dX12_put_23 rfl (lv_at hl 1 rfl) ?_
  refine lv_dup hx hb dX12_put_24 rfl ?_
  refine va_get (D := (dC, dI)) (ci := 12) (v := .int 6) (C := RX12) (T := TX12) (N := 85) hx hb hts hiX12 hown hK hP 0 rfl rfl 1 (by decide) (hts _ (List.mem_of_getElem? (i := 2) rfl)) (fun _ h9 => h9) rfl dX12_put_25 ?_
  refine lv_iconst (v := 1) hx hb dX12_put_28 (by decide +kernel) ?_
  refine lv_iadd hx hb dX12_put_29 ?_
  refine tp_i (y := 7) (by decide +kernel) ?_
  refine va_put (D := (dC, dI)) (ci := 12) (v := .int 7) (ty := .int) (C := RX12) (T := TX12) (N := 85) hx hb hts hiX12 tyX12 tyX12_ok nmX12 hown hK hP hD hS 0 rfl rfl 1 (by decide) (hts _ (List.mem_of_getElem? (i := 2) rfl)) (fun _ h9 => h9) rfl (by decide +kernel) rfl rfl (Nat.le_of_ble_eq_true rfl) dX12_put_30 (fun H locs hP hD hS => ?_)
  have hP : va_P (dC, dI) vwCl [((q 0), .inr (12, ((mo q).set 1 (.int 7)))), ((q 1), .inl (cI, 1800, .inl (upd (upd (upd f0 4 ((x0 >>> (24 &&& 31)) &&& 255)) 5 ((x0 >>> (16 &&& 31)) &&& 255)) 6 ((x0 >>> (8 &&& 31)) &&& 255))))] H := hP
  have hD : va_D A [((q 0), .inr (12, ((mo q).set 1 (.int 7)))), ((q 1), .inl (cI, 1800, .inl (upd (upd (upd f0 4 ((x0 >>> (24 &&& 31)) &&& 255)) 5 ((x0 >>> (16 &&& 31)) &&& 255)) 6 ((x0 >>> (8 &&& 31)) &&& 255))))] := hD
  refine lv_iinc (v := 0) (lv' := [(2, .int 0), (0, .ref (q 0)), (1, .int x0)]) hx hb dX12_put_33 hl (k := 0) rfl (by decide +kernel) (by decide) rfl (fun ls hl => ?_)
  refine lv_goto (tgt := 3) hx hb dX12_put_36 (by decide) ?_
  refine lv_iload_n hx hb dX12_put_3 rfl (lv_at hl 0 rfl) ?_
  refine lv_if_lt (tgt := 39) hx hb dX12_put_4 (by decide) (fun c => absurd c (by decide +kernel)) (fun _ => ?_)
  refine lv_aload_n hx hb dX12_put_7 rfl (lv_at hl 1 rfl) ?_
  refine va_get (D := (dC, dI)) (ci := 12) (v := .ref (q 1)) (C := RX12) (T := TX12) (N := 85) hx hb hts hiX12 hown hK hP 0 rfl rfl 0 (by decide) (hts _ (List.mem_of_getElem? (i := 1) rfl)) (fun _ h9 => h9) rfl dX12_put_8 ?_
  refine lv_aload_n hx hb dX12_put_11 rfl (lv_at hl 1 rfl) ?_
  refine va_get (D := (dC, dI)) (ci := 12) (v := .int 7) (C := RX12) (T := TX12) (N := 85) hx hb hts hiX12 hown hK hP 0 rfl rfl 1 (by decide) (hts _ (List.mem_of_getElem? (i := 2) rfl)) (fun _ h9 => h9) rfl dX12_put_12 ?_
  refine lv_iload_n hx hb dX12_put_15 rfl (lv_at hl 2 rfl) ?_
  refine lv_iload_n hx hb dX12_put_16 rfl (lv_at hl 0 rfl) ?_
  refine lv_ishr hx hb dX12_put_17 ?_
  refine lv_sipush (v := 255) hx hb dX12_put_18 (by decide +kernel) ?_
  refine lv_iand hx hb dX12_put_21 ?_
  refine va_iast hx hb hK hP hD hS 1 1 rfl rfl (vpc _ _ (by decide +kernel)) dX12_put_22 (fun H locs hP hD hS => ?_)
  have hP : va_P (dC, dI) vwCl [((q 0), .inr (12, ((mo q).set 1 (.int 7)))), ((q 1), .inl (cI, 1800, .inl (upd (upd (upd (upd f0 4 ((x0 >>> (24 &&& 31)) &&& 255)) 5 ((x0 >>> (16 &&& 31)) &&& 255)) 6 ((x0 >>> (8 &&& 31)) &&& 255)) 7 ((x0 >>> (0 &&& 31)) &&& 255))))] H := hP
  have hD : va_D A [((q 0), .inr (12, ((mo q).set 1 (.int 7)))), ((q 1), .inl (cI, 1800, .inl (upd (upd (upd (upd f0 4 ((x0 >>> (24 &&& 31)) &&& 255)) 5 ((x0 >>> (16 &&& 31)) &&& 255)) 6 ((x0 >>> (8 &&& 31)) &&& 255)) 7 ((x0 >>> (0 &&& 31)) &&& 255))))] := hD
  refine lv_aload_n hx hb dX12_put_23 rfl (lv_at hl 1 rfl) ?_
  refine lv_dup hx hb dX12_put_24 rfl ?_
  refine va_get (D := (dC, dI)) (ci := 12) (v := .int 7) (C := RX12) (T := TX12) (N := 85) hx hb hts hiX12 hown hK hP 0 rfl rfl 1 (by decide) (hts _ (List.mem_of_getElem? (i := 2) rfl)) (fun _ h9 => h9) rfl dX12_put_25 ?_
  refine lv_iconst (v := 1) hx hb dX12_put_28 (by decide +kernel) ?_
  refine lv_iadd hx hb dX12_put_29 ?_
  refine tp_i (y := 8) (by decide +kernel) ?_
  refine va_put (D := (dC, dI)) (ci := 12) (v := .int 8) (ty := .int) (C := RX12) (T := TX12) (N := 85) hx hb hts hiX12 tyX12 tyX12_ok nmX12 hown hK hP hD hS 0 rfl rfl 1 (by decide) (hts _ (List.mem_of_getElem? (i := 2) rfl)) (fun _ h9 => h9) rfl (by decide +kernel) rfl rfl (Nat.le_of_ble_eq_true rfl) dX12_put_30 (fun H locs hP hD hS => ?_)
  have hP : va_P (dC, dI) vwCl [((q 0), .inr (12, ((mo q).set 1 (.int 8)))), ((q 1), .inl (cI, 1800, .inl (upd (upd (upd (upd f0 4 ((x0 >>> (24 &&& 31)) &&& 255)) 5 ((x0 >>> (16 &&& 31)) &&& 255)) 6 ((x0 >>> (8 &&& 31)) &&& 255)) 7 ((x0 >>> (0 &&& 31)) &&& 255))))] H := hP
  have hD : va_D A [((q 0), .inr (12, ((mo q).set 1 (.int 8)))), ((q 1), .inl (cI, 1800, .inl (upd (upd (upd (upd f0 4 ((x0 >>> (24 &&& 31)) &&& 255)) 5 ((x0 >>> (16 &&& 31)) &&& 255)) 6 ((x0 >>> (8 &&& 31)) &&& 255)) 7 ((x0 >>> (0 &&& 31)) &&& 255))))] := hD
  refine lv_iinc (v := (-8)) (lv' := [(2, .int (-8)), (0, .ref (q 0)), (1, .int x0)]) hx hb dX12_put_33 hl (k := 0) rfl (by decide +kernel) (by decide) rfl (fun ls hl => ?_)
  refine lv_goto (tgt := 3) hx hb dX12_put_36 (by decide) ?_
  refine lv_iload_n hx hb dX12_put_3 rfl (lv_at hl 0 rfl) ?_
  refine lv_if_lt (tgt := 39) hx hb dX12_put_4 (by decide) (fun _ => ?_) (fun c => absurd c (by decide +kernel))
  have hP9 := hP.sub (ws' := [((q 0), .inr (12, ((mo q).set 1 (.int 8)))), ((q 1), .inl (cI, 1800, .inl (upd (upd (upd (upd f0 4 ((x0 >>> (24 &&& 31)) &&& 255)) 5 ((x0 >>> (16 &&& 31)) &&& 255)) 6 ((x0 >>> (8 &&& 31)) &&& 255)) 7 ((x0 >>> (0 &&& 31)) &&& 255))))]) [0, 1] rfl
  have hD9 := hD.sub (ws' := [((q 0), .inr (12, ((mo q).set 1 (.int 8)))), ((q 1), .inl (cI, 1800, .inl (upd (upd (upd (upd f0 4 ((x0 >>> (24 &&& 31)) &&& 255)) 5 ((x0 >>> (16 &&& 31)) &&& 255)) 6 ((x0 >>> (8 &&& 31)) &&& 255)) 7 ((x0 >>> (0 &&& 31)) &&& 255))))]) [0, 1] (by decide) rfl
  exact W.vret hx hb hr (fun t ht hW => ⟨⟨(), rfl, trivial, by rw [ht]; exact hP9, va_K.moved hW.alike hK, hD9⟩, hS.F ht⟩) hS.2.2 dX12_put_39
def ws_k_X12_put_87 : List Cond := .code yX12_put cX12_put 3 none :: ([.fieldLink RX12 7 "StackKeysModel" "tape" "[I", .fieldLink RX12 13 "StackKeysModel" "taped" "I"] ++ wsX120)
set_option maxHeartbeats 4000000 in
set_option maxRecDepth 100000 in
theorem k_X12_put_87 (l : Launch) (dC : Nat → ClassId) (dI : Nat → Nat → Nat) (cB cI cJ cZ cQ : ClassId) (sz : Nat) (q : Nat → Nat) (x0 : Int32) (f0 : Nat → Int32) : Met l yX12_put ws_k_X12_put_87 ({ frames := 0, cells := 0, slots := 0, locals := 0 }) (va_Pc [.ref (q 0), .int x0] (fun U => U.heap.size = sz ∧ va_P (dC, dI) vwCl [((q 0), .inr (12, ((mo q).set 1 (.int 8)))), ((q 1), .inl (cI, 1800, .inl f0))] U.heap ∧ va_K (dC, dI) vwCl (tyA cB cI cJ cZ cQ) U ∧ va_D (fun _ => True) [((q 0), .inr (12, ((mo q).set 1 (.int 8)))), ((q 1), .inl (cI, 1800, .inl f0))])) (va_Qv (fun _ : Unit => True) (fun (u : Unit) t => va_P (dC, dI) vwCl [((q 0), .inr (12, ((mo q).set 1 (.int 12)))), ((q 1), .inl (cI, 1800, .inl (upd (upd (upd (upd f0 8 ((x0 >>> (24 &&& 31)) &&& 255)) 9 ((x0 >>> (16 &&& 31)) &&& 255)) 10 ((x0 >>> (8 &&& 31)) &&& 255)) 11 ((x0 >>> (0 &&& 31)) &&& 255))))] t.heap ∧ va_K (dC, dI) vwCl (tyA cB cI cJ cZ cQ) t ∧ va_D (va_A [((q 0), .inr (12, ((mo q).set 1 (.int 8)))), ((q 1), .inl (cI, 1800, .inl f0))] sz) [((q 0), .inr (12, ((mo q).set 1 (.int 12)))), ((q 1), .inl (cI, 1800, .inl (upd (upd (upd (upd f0 8 ((x0 >>> (24 &&& 31)) &&& 255)) 9 ((x0 >>> (16 &&& 31)) &&& 255)) 10 ((x0 >>> (8 &&& 31)) &&& 255)) 11 ((x0 >>> (0 &&& 31)) &&& 255))))]) (va_A [((q 0), .inr (12, ((mo q).set 1 (.int 8)))), ((q 1), .inl (cI, 1800, .inl f0))] sz)) 0 0 (va_A [((q 0), .inr (12, ((mo q).set 1 (.int 8)))), ((q 1), .inl (cI, 1800, .inl f0))] sz) := by
  refine Met.ofW (cc := cX12_put) (maxL := 3) (ret := none) (by decide +kernel) rfl ?_
  intro p e s m args below meth c s₁ B hml hv
  obtain ⟨rfl, hsz, hP, hK, hD0⟩ := hv
  have hx := B.exec
  have hb := B.bytes
  have hr := B.returns
  have hts := atoms_spec (ws := ws_k_X12_put_87) B.pre
  have hown : s.vm.findClass RX12 = some m.cls := findClass_of_methodNamed B.named
  have hiX12 : ∀ w ∈ u_ws RX12 TX12 85, w ∈ ws_k_X12_put_87 := fun w h => List.mem_cons_of_mem _ (List.mem_append_right _ h)
  subst hsz
  have hD := hD0.self (sz := s.heap.size)
  generalize hAe : va_A [((q 0), .inr (12, ((mo q).set 1 (.int 8)))), ((q 1), .inl (cI, 1800, .inl f0))] s.heap.size = A at hD ⊢
  have hA : ∀ b : Nat, s.heap.size ≤ b → A b := fun b h => by rw [← hAe]; exact Or.inr h
  clear hD0 hAe
  have hS : va_S A s.heap s.heap [] := va_S.rf
  have hl := lv_entry ([.ref (q 0), .int x0]) (n := 3) (Nat.le_of_ble_eq_true rfl)
  rw [lg_entry_eq]
  generalize (lg_sl ([.ref (q 0), .int x0]) ++ List.replicate (3 - (lg_sl ([.ref (q 0), .int x0])).length) Slot.unset).toArray = ls at hl ⊢
  have hl : lv_has ls 3 [(0, .ref (q 0)), (1, .int x0)] := hl
  obtain ⟨H, hHe⟩ : ∃ H : Heap, H = s.heap := ⟨_, rfl⟩
  rw [← hHe] at hP
  have hS : va_S A s.heap H [] := by rw [hHe]; exact hS
  rw [← hHe]
  refine lv_bipush (v := 24) hx hb dX12_put_0 (by decide +kernel) ?_
  refine lv_istore_n (lv' := [(2, .int 24), (0, .ref (q 0)), (1, .int x0)]) hx hb dX12_put_2 rfl hl (by decide) rfl (fun ls hl => ?_)
  refine lv_iload_n hx hb dX12_put_3 rfl (lv_at hl 0 rfl) ?_
  refine lv_if_lt (tgt := 39) hx hb dX12_put_4 (by decide) (fun c => absurd c (by decide +kernel)) (fun _ => ?_)
  refine lv_aload_n hx hb dX12_put_7 rfl (lv_at hl 1 rfl) ?_
  refine va_get (D := (dC, dI)) (ci := 12) (v := .ref (q 1)) (C := RX12) (T := TX12) (N := 85) hx hb hts hiX12 hown hK hP 0 rfl rfl 0 (by decide) (hts _ (List.mem_of_getElem? (i := 1) rfl)) (fun _ h9 => h9) rfl dX12_put_8 ?_
  refine lv_aload_n hx hb dX12_put_11 rfl (lv_at hl 1 rfl) ?_
  refine va_get (D := (dC, dI)) (ci := 12) (v := .int 8) (C := RX12) (T := TX12) (N := 85) hx hb hts hiX12 hown hK hP 0 rfl rfl 1 (by decide) (hts _ (List.mem_of_getElem? (i := 2) rfl)) (fun _ h9 => h9) rfl dX12_put_12 ?_
  refine lv_iload_n hx hb dX12_put_15 rfl (lv_at hl 2 rfl) ?_
  refine lv_iload_n hx hb dX12_put_16 rfl (lv_at hl 0 rfl) ?_
  refine lv_ishr hx hb dX12_put_17 ?_
  refine lv_sipush (v := 255) hx hb dX12_put_18 (by decide +kernel) ?_
  refine lv_iand hx hb dX12_put_21 ?_
  refine va_iast hx hb hK hP hD hS 1 1 rfl rfl (vpc _ _ (by decide +kernel)) dX12_put_22 (fun H locs hP hD hS => ?_)
  have hP : va_P (dC, dI) vwCl [((q 0), .inr (12, ((mo q).set 1 (.int 8)))), ((q 1), .inl (cI, 1800, .inl (upd f0 8 ((x0 >>> (24 &&& 31)) &&& 255))))] H := hP
  have hD : va_D A [((q 0), .inr (12, ((mo q).set 1 (.int 8)))), ((q 1), .inl (cI, 1800, .inl (upd f0 8 ((x0 >>> (24 &&& 31)) &&& 255))))] := hD
  refine lv_aload_n hx hb dX12_put_23 rfl (lv_at hl 1 rfl) ?_
  refine lv_dup hx hb dX12_put_24 rfl ?_
  refine va_get (D := (dC, dI)) (ci := 12) (v := .int 8) (C := RX12) (T := TX12) (N := 85) hx hb hts hiX12 hown hK hP 0 rfl rfl 1 (by decide) (hts _ (List.mem_of_getElem? (i := 2) rfl)) (fun _ h9 => h9) rfl dX12_put_25 ?_
  refine lv_iconst (v := 1) hx hb dX12_put_28 (by decide +kernel) ?_
  refine lv_iadd hx hb dX12_put_29 ?_
  refine tp_i (y := 9) (by decide +kernel) ?_
  refine va_put (D := (dC, dI)) (ci := 12) (v := .int 9) (ty := .int) (C := RX12) (T := TX12) (N := 85) hx hb hts hiX12 tyX12 tyX12_ok nmX12 hown hK hP hD hS 0 rfl rfl 1 (by decide) (hts _ (List.mem_of_getElem? (i := 2) rfl)) (fun _ h9 => h9) rfl (by decide +kernel) rfl rfl (Nat.le_of_ble_eq_true rfl) dX12_put_30 (fun H locs hP hD hS => ?_)
  have hP : va_P (dC, dI) vwCl [((q 0), .inr (12, ((mo q).set 1 (.int 9)))), ((q 1), .inl (cI, 1800, .inl (upd f0 8 ((x0 >>> (24 &&& 31)) &&& 255))))] H := hP
  have hD : va_D A [((q 0), .inr (12, ((mo q).set 1 (.int 9)))), ((q 1), .inl (cI, 1800, .inl (upd f0 8 ((x0 >>> (24 &&& 31)) &&& 255))))] := hD
  refine lv_iinc (v := 16) (lv' := [(2, .int 16), (0, .ref (q 0)), (1, .int x0)]) hx hb dX12_put_33 hl (k := 0) rfl (by decide +kernel) (by decide) rfl (fun ls hl => ?_)
  refine lv_goto (tgt := 3) hx hb dX12_put_36 (by decide) ?_
  refine lv_iload_n hx hb dX12_put_3 rfl (lv_at hl 0 rfl) ?_
  refine lv_if_lt (tgt := 39) hx hb dX12_put_4 (by decide) (fun c => absurd c (by decide +kernel)) (fun _ => ?_)
  refine lv_aload_n hx hb dX12_put_7 rfl (lv_at hl 1 rfl) ?_
  refine va_get (D := (dC, dI)) (ci := 12) (v := .ref (q 1)) (C := RX12) (T := TX12) (N := 85) hx hb hts hiX12 hown hK hP 0 rfl rfl 0 (by decide) (hts _ (List.mem_of_getElem? (i := 1) rfl)) (fun _ h9 => h9) rfl dX12_put_8 ?_
  refine lv_aload_n hx hb dX12_put_11 rfl (lv_at hl 1 rfl) ?_
  refine va_get (D := (dC, dI)) (ci := 12) (v := .int 9) (C := RX12) (T := TX12) (N := 85) hx hb hts hiX12 hown hK hP 0 rfl rfl 1 (by decide) (hts _ (List.mem_of_getElem? (i := 2) rfl)) (fun _ h9 => h9) rfl dX12_put_12 ?_
  refine lv_iload_n hx hb dX12_put_15 rfl (lv_at hl 2 rfl) ?_
  refine lv_iload_n hx hb dX12_put_16 rfl (lv_at hl 0 rfl) ?_
  refine lv_ishr hx hb dX12_put_17 ?_
  refine lv_sipush (v := 255) hx hb dX12_put_18 (by decide +kernel) ?_
  refine lv_iand hx hb dX12_put_21 ?_
  refine va_iast hx hb hK hP hD hS 1 1 rfl rfl (vpc _ _ (by decide +kernel)) dX12_put_22 (fun H locs hP hD hS => ?_)
  have hP : va_P (dC, dI) vwCl [((q 0), .inr (12, ((mo q).set 1 (.int 9)))), ((q 1), .inl (cI, 1800, .inl (upd (upd f0 8 ((x0 >>> (24 &&& 31)) &&& 255)) 9 ((x0 >>> (16 &&& 31)) &&& 255))))] H := hP
  have hD : va_D A [((q 0), .inr (12, ((mo q).set 1 (.int 9)))), ((q 1), .inl (cI, 1800, .inl (upd (upd f0 8 ((x0 >>> (24 &&& 31)) &&& 255)) 9 ((x0 >>> (16 &&& 31)) &&& 255))))] := hD
  refine lv_aload_n hx hb dX12_put_23 rfl (lv_at hl 1 rfl) ?_
  refine lv_dup hx hb dX12_put_24 rfl ?_
  refine va_get (D := (dC, dI)) (ci := 12) (v := .int 9) (C := RX12) (T := TX12) (N := 85) hx hb hts hiX12 hown hK hP 0 rfl rfl 1 (by decide) (hts _ (List.mem_of_getElem? (i := 2) rfl)) (fun _ h9 => h9) rfl dX12_put_25 ?_
  refine lv_iconst (v := 1) hx hb dX12_put_28 (by decide +kernel) ?_
  refine lv_iadd hx hb dX12_put_29 ?_
  refine tp_i (y := 10) (by decide +kernel) ?_
  refine va_put (D := (dC, dI)) (ci := 12) (v := .int 10) (ty := .int) (C := RX12) (T := TX12) (N := 85) hx hb hts hiX12 tyX12 tyX12_ok nmX12 hown hK hP hD hS 0 rfl rfl 1 (by decide) (hts _ (List.mem_of_getElem? (i := 2) rfl)) (fun _ h9 => h9) rfl (by decide +kernel) rfl rfl (Nat.le_of_ble_eq_true rfl) dX12_put_30 (fun H locs hP hD hS => ?_)
  have hP : va_P (dC, dI) vwCl [((q 0), .inr (12, ((mo q).set 1 (.int 10)))), ((q 1), .inl (cI, 1800, .inl (upd (upd f0 8 ((x0 >>> (24 &&& 31)) &&& 255)) 9 ((x0 >>> (16 &&& 31)) &&& 255))))] H := hP
  have hD : va_D A [((q 0), .inr (12, ((mo q).set 1 (.int 10)))), ((q 1), .inl (cI, 1800, .inl (upd (upd f0 8 ((x0 >>> (24 &&& 31)) &&& 255)) 9 ((x0 >>> (16 &&& 31)) &&& 255))))] := hD
  refine lv_iinc (v := 8) (lv' := [(2, .int 8), (0, .ref (q 0)), (1, .int x0)]) hx hb dX12_put_33 hl (k := 0) rfl (by decide +kernel) (by decide) rfl (fun ls hl => ?_)
  refine lv_goto (tgt := 3) hx hb dX12_put_36 (by decide) ?_
  refine lv_iload_n hx hb dX12_put_3 rfl (lv_at hl 0 rfl) ?_
  refine lv_if_lt (tgt := 39) hx hb dX12_put_4 (by decide) (fun c => absurd c (by decide +kernel)) (fun _ => ?_)
  refine lv_aload_n hx hb dX12_put_7 rfl (lv_at hl 1 rfl) ?_
  refine va_get (D := (dC, dI)) (ci := 12) (v := .ref (q 1)) (C := RX12) (T := TX12) (N := 85) hx hb hts hiX12 hown hK hP 0 rfl rfl 0 (by decide) (hts _ (List.mem_of_getElem? (i := 1) rfl)) (fun _ h9 => h9) rfl dX12_put_8 ?_
  refine lv_aload_n hx hb dX12_put_11 rfl (lv_at hl 1 rfl) ?_
  refine va_get (D := (dC, dI)) (ci := 12) (v := .int 10) (C := RX12) (T := TX12) (N := 85) hx hb hts hiX12 hown hK hP 0 rfl rfl 1 (by decide) (hts _ (List.mem_of_getElem? (i := 2) rfl)) (fun _ h9 => h9) rfl dX12_put_12 ?_
  refine lv_iload_n hx hb dX12_put_15 rfl (lv_at hl 2 rfl) ?_
  refine lv_iload_n hx hb dX12_put_16 rfl (lv_at hl 0 rfl) ?_
  refine lv_ishr hx hb dX12_put_17 ?_
  refine lv_sipush (v := 255) hx hb dX12_put_18 (by decide +kernel) ?_
  refine lv_iand hx hb dX12_put_21 ?_
  refine va_iast hx hb hK hP hD hS 1 1 rfl rfl (vpc _ _ (by decide +kernel)) dX12_put_22 (fun H locs hP hD hS => ?_)
  have hP : va_P (dC, dI) vwCl [((q 0), .inr (12, ((mo q).set 1 (.int 10)))), ((q 1), .inl (cI, 1800, .inl (upd (upd (upd f0 8 ((x0 >>> (24 &&& 31)) &&& 255)) 9 ((x0 >>> (16 &&& 31)) &&& 255)) 10 ((x0 >>> (8 &&& 31)) &&& 255))))] H := hP
  have hD : va_D A [((q 0), .inr (12, ((mo q).set 1 (.int 10)))), ((q 1), .inl (cI, 1800, .inl (upd (upd (upd f0 8 ((x0 >>> (24 &&& 31)) &&& 255)) 9 ((x0 >>> (16 &&& 31)) &&& 255)) 10 ((x0 >>> (8 &&& 31)) &&& 255))))] := hD
  refine lv_aload_n hx hb dX12_put_23 rfl (lv_at hl 1 rfl) ?_
  refine lv_dup hx hb dX12_put_24 rfl ?_
  refine va_get (D := (dC, dI)) (ci := 12) (v := .int 10) (C := RX12) (T := TX12) (N := 85) hx hb hts hiX12 hown hK hP 0 rfl rfl 1 (by decide) (hts _ (List.mem_of_getElem? (i := 2) rfl)) (fun _ h9 => h9) rfl dX12_put_25 ?_
  refine lv_iconst (v := 1) hx hb dX12_put_28 (by decide +kernel) ?_
  refine lv_iadd hx hb dX12_put_29 ?_
  refine tp_i (y := 11) (by decide +kernel) ?_
  refine va_put (D := (dC, dI)) (ci := 12) (v := .int 11) (ty := .int) (C := RX12) (T := TX12) (N := 85) hx hb hts hiX12 tyX12 tyX12_ok nmX12 hown hK hP hD hS 0 rfl rfl 1 (by decide) (hts _ (List.mem_of_getElem? (i := 2) rfl)) (fun _ h9 => h9) rfl (by decide +kernel) rfl rfl (Nat.le_of_ble_eq_true rfl) dX12_put_30 (fun H locs hP hD hS => ?_)
  have hP : va_P (dC, dI) vwCl [((q 0), .inr (12, ((mo q).set 1 (.int 11)))), ((q 1), .inl (cI, 1800, .inl (upd (upd (upd f0 8 ((x0 >>> (24 &&& 31)) &&& 255)) 9 ((x0 >>> (16 &&& 31)) &&& 255)) 10 ((x0 >>> (8 &&& 31)) &&& 255))))] H := hP
  have hD : va_D A [((q 0), .inr (12, ((mo q).set 1 (.int 11)))), ((q 1), .inl (cI, 1800, .inl (upd (upd (upd f0 8 ((x0 >>> (24 &&& 31)) &&& 255)) 9 ((x0 >>> (16 &&& 31)) &&& 255)) 10 ((x0 >>> (8 &&& 31)) &&& 255))))] := hD
  refine lv_iinc (v := 0) (lv' := [(2, .int 0), (0, .ref (q 0)), (1, .int x0)]) hx hb dX12_put_33 hl (k := 0) rfl (by decide +kernel) (by decide) rfl (fun ls hl => ?_)
  refine lv_goto (tgt := 3) hx hb dX12_put_36 (by decide) ?_
  refine lv_iload_n hx hb dX12_put_3 rfl (lv_at hl 0 rfl) ?_
  refine lv_if_lt (tgt := 39) hx hb dX12_put_4 (by decide) (fun c => absurd c (by decide +kernel)) (fun _ => ?_)
  refine lv_aload_n hx hb dX12_put_7 rfl (lv_at hl 1 rfl) ?_
  refine va_get (D := (dC, dI)) (ci := 12) (v := .ref (q 1)) (C := RX12) (T := TX12) (N := 85) hx hb hts hiX12 hown hK hP 0 rfl rfl 0 (by decide) (hts _ (List.mem_of_getElem? (i := 1) rfl)) (fun _ h9 => h9) rfl dX12_put_8 ?_
  refine lv_aload_n hx hb dX12_put_11 rfl (lv_at hl 1 rfl) ?_
  refine va_get (D := (dC, dI)) (ci := 12) (v := .int 11) (C := RX12) (T := TX12) (N := 85) hx hb hts hiX12 hown hK hP 0 rfl rfl 1 (by decide) (hts _ (List.mem_of_getElem? (i := 2) rfl)) (fun _ h9 => h9) rfl dX12_put_12 ?_
  refine lv_iload_n hx hb dX12_put_15 rfl (lv_at hl 2 rfl) ?_
  refine lv_iload_n hx hb dX12_put_16 rfl (lv_at hl 0 rfl) ?_
  refine lv_ishr hx hb dX12_put_17 ?_
  refine lv_sipush (v := 255) hx hb dX12_put_18 (by decide +kernel) ?_
  refine lv_iand hx hb dX12_put_21 ?_
  refine va_iast hx hb hK hP hD hS 1 1 rfl rfl (vpc _ _ (by decide +kernel)) dX12_put_22 (fun H locs hP hD hS => ?_)
  have hP : va_P (dC, dI) vwCl [((q 0), .inr (12, ((mo q).set 1 (.int 11)))), ((q 1), .inl (cI, 1800, .inl (upd (upd (upd (upd f0 8 ((x0 >>> (24 &&& 31)) &&& 255)) 9 ((x0 >>> (16 &&& 31)) &&& 255)) 10 ((x0 >>> (8 &&& 31)) &&& 255)) 11 ((x0 >>> (0 &&& 31)) &&& 255))))] H := hP
  have hD : va_D A [((q 0), .inr (12, ((mo q).set 1 (.int 11)))), ((q 1), .inl (cI, 1800, .inl (upd (upd (upd (upd f0 8 ((x0 >>> (24 &&& 31)) &&& 255)) 9 ((x0 >>> (16 &&& 31)) &&& 255)) 10 ((x0 >>> (8 &&& 31)) &&& 255)) 11 ((x0 >>> (0 &&& 31)) &&& 255))))] := hD
  refine lv_aload_n hx hb dX12_put_23 rfl (lv_at hl 1 rfl) ?_
  refine lv_dup hx hb dX12_put_24 rfl ?_
  refine va_get (D := (dC, dI)) (ci := 12) (v := .int 11) (C := RX12) (T := TX12) (N := 85) hx hb hts hiX12 hown hK hP 0 rfl rfl 1 (by decide) (hts _ (List.mem_of_getElem? (i := 2) rfl)) (fun _ h9 => h9) rfl dX12_put_25 ?_
  refine lv_iconst (v := 1) hx hb dX12_put_28 (by decide +kernel) ?_
  refine lv_iadd hx hb dX12_put_29 ?_
  refine tp_i (y := 12) (by decide +kernel) ?_
  refine va_put (D := (dC, dI)) (ci := 12) (v := .int 12) (ty := .int) (C := RX12) (T := TX12) (N := 85) hx hb hts hiX12 tyX12 tyX12_ok nmX12 hown hK hP hD hS 0 rfl rfl 1 (by decide) (hts _ (List.mem_of_getElem? (i := 2) rfl)) (fun _ h9 => h9) rfl (by decide +kernel) rfl rfl (Nat.le_of_ble_eq_true rfl) dX12_put_30 (fun H locs hP hD hS => ?_)
  have hP : va_P (dC, dI) vwCl [((q 0), .inr (12, ((mo q).set 1 (.int 12)))), ((q 1), .inl (cI, 1800, .inl (upd (upd (upd (upd f0 8 ((x0 >>> (24 &&& 31)) &&& 255)) 9 ((x0 >>> (16 &&& 31)) &&& 255)) 10 ((x0 >>> (8 &&& 31)) &&& 255)) 11 ((x0 >>> (0 &&& 31)) &&& 255))))] H := hP
  have hD : va_D A [((q 0), .inr (12, ((mo q).set 1 (.int 12)))), ((q 1), .inl (cI, 1800, .inl (upd (upd (upd (upd f0 8 ((x0 >>> (24 &&& 31)) &&& 255)) 9 ((x0 >>> (16 &&& 31)) &&& 255)) 10 ((x0 >>> (8 &&& 31)) &&& 255)) 11 ((x0 >>> (0 &&& 31)) &&& 255))))] := hD
  refine lv_iinc (v := (-8)) (lv' := [(2, .int (-8)), (0, .ref (q 0)), (1, .int x0)]) hx hb dX12_put_33 hl (k := 0) rfl (by decide +kernel) (by decide) rfl (fun ls hl => ?_)
  refine lv_goto (tgt := 3) hx hb dX12_put_36 (by decide) ?_
  refine lv_iload_n hx hb dX12_put_3 rfl (lv_at hl 0 rfl) ?_
  refine lv_if_lt (tgt := 39) hx hb dX12_put_4 (by decide) (fun _ => ?_) (fun c => absurd c (by decide +kernel))
  have hP9 := hP.sub (ws' := [((q 0), .inr (12, ((mo q).set 1 (.int 12)))), ((q 1), .inl (cI, 1800, .inl (upd (upd (upd (upd f0 8 ((x0 >>> (24 &&& 31)) &&& 255)) 9 ((x0 >>> (16 &&& 31)) &&& 255)) 10 ((x0 >>> (8 &&& 31)) &&& 255)) 11 ((x0 >>> (0 &&& 31)) &&& 255))))]) [0, 1] rfl
  have hD9 := hD.sub (ws' := [((q 0), .inr (12, ((mo q).set 1 (.int 12)))), ((q 1), .inl (cI, 1800, .inl (upd (upd (upd (upd f0 8 ((x0 >>> (24 &&& 31)) &&& 255)) 9 ((x0 >>> (16 &&& 31)) &&& 255)) 10 ((x0 >>> (8 &&& 31)) &&& 255)) 11 ((x0 >>> (0 &&& 31)) &&& 255))))]) [0, 1] (by decide) rfl
  exact W.vret hx hb hr (fun t ht hW => ⟨⟨(), rfl, trivial, by rw [ht]; exact hP9, va_K.moved hW.alike hK, hD9⟩, hS.F ht⟩) hS.2.2 dX12_put_39
def ws_k_X12_put_88 : List Cond := .code yX12_put cX12_put 3 none :: ([.fieldLink RX12 7 "StackKeysModel" "tape" "[I", .fieldLink RX12 13 "StackKeysModel" "taped" "I"] ++ wsX120)
set_option maxHeartbeats 4000000 in
set_option maxRecDepth 100000 in
theorem k_X12_put_88 (l : Launch) (dC : Nat → ClassId) (dI : Nat → Nat → Nat) (cB cI cJ cZ cQ : ClassId) (sz : Nat) (q : Nat → Nat) (x0 : Int32) (f0 : Nat → Int32) : Met l yX12_put ws_k_X12_put_88 ({ frames := 0, cells := 0, slots := 0, locals := 0 }) (va_Pc [.ref (q 0), .int x0] (fun U => U.heap.size = sz ∧ va_P (dC, dI) vwCl [((q 0), .inr (12, ((mo q).set 1 (.int 12)))), ((q 1), .inl (cI, 1800, .inl f0))] U.heap ∧ va_K (dC, dI) vwCl (tyA cB cI cJ cZ cQ) U ∧ va_D (fun _ => True) [((q 0), .inr (12, ((mo q).set 1 (.int 12)))), ((q 1), .inl (cI, 1800, .inl f0))])) (va_Qv (fun _ : Unit => True) (fun (u : Unit) t => va_P (dC, dI) vwCl [((q 0), .inr (12, ((mo q).set 1 (.int 16)))), ((q 1), .inl (cI, 1800, .inl (upd (upd (upd (upd f0 12 ((x0 >>> (24 &&& 31)) &&& 255)) 13 ((x0 >>> (16 &&& 31)) &&& 255)) 14 ((x0 >>> (8 &&& 31)) &&& 255)) 15 ((x0 >>> (0 &&& 31)) &&& 255))))] t.heap ∧ va_K (dC, dI) vwCl (tyA cB cI cJ cZ cQ) t ∧ va_D (va_A [((q 0), .inr (12, ((mo q).set 1 (.int 12)))), ((q 1), .inl (cI, 1800, .inl f0))] sz) [((q 0), .inr (12, ((mo q).set 1 (.int 16)))), ((q 1), .inl (cI, 1800, .inl (upd (upd (upd (upd f0 12 ((x0 >>> (24 &&& 31)) &&& 255)) 13 ((x0 >>> (16 &&& 31)) &&& 255)) 14 ((x0 >>> (8 &&& 31)) &&& 255)) 15 ((x0 >>> (0 &&& 31)) &&& 255))))]) (va_A [((q 0), .inr (12, ((mo q).set 1 (.int 12)))), ((q 1), .inl (cI, 1800, .inl f0))] sz)) 0 0 (va_A [((q 0), .inr (12, ((mo q).set 1 (.int 12)))), ((q 1), .inl (cI, 1800, .inl f0))] sz) := by
  refine Met.ofW (cc := cX12_put) (maxL := 3) (ret := none) (by decide +kernel) rfl ?_
  intro p e s m args below meth c s₁ B hml hv
  obtain ⟨rfl, hsz, hP, hK, hD0⟩ := hv
  have hx := B.exec
  have hb := B.bytes
  have hr := B.returns
  have hts := atoms_spec (ws := ws_k_X12_put_88) B.pre
  have hown : s.vm.findClass RX12 = some m.cls := findClass_of_methodNamed B.named
  have hiX12 : ∀ w ∈ u_ws RX12 TX12 85, w ∈ ws_k_X12_put_88 := fun w h => List.mem_cons_of_mem _ (List.mem_append_right _ h)
  subst hsz
  have hD := hD0.self (sz := s.heap.size)
  generalize hAe : va_A [((q 0), .inr (12, ((mo q).set 1 (.int 12)))), ((q 1), .inl (cI, 1800, .inl f0))] s.heap.size = A at hD ⊢
  have hA : ∀ b : Nat, s.heap.size ≤ b → A b := fun b h => by rw [← hAe]; exact Or.inr h
  clear hD0 hAe
  have hS : va_S A s.heap s.heap [] := va_S.rf
  have hl := lv_entry ([.ref (q 0), .int x0]) (n := 3) (Nat.le_of_ble_eq_true rfl)
  rw [lg_entry_eq]
  generalize (lg_sl ([.ref (q 0), .int x0]) ++ List.replicate (3 - (lg_sl ([.ref (q 0), .int x0])).length) Slot.unset).toArray = ls at hl ⊢
  have hl : lv_has ls 3 [(0, .ref (q 0)), (1, .int x0)] := hl
  obtain ⟨H, hHe⟩ : ∃ H : Heap, H = s.heap := ⟨_, rfl⟩
  rw [← hHe] at hP
  have hS : va_S A s.heap H [] := by rw [hHe]; exact hS
  rw [← hHe]
  refine lv_bipush (v := 24) hx hb dX12_put_0 (by decide +kernel) ?_
  refine lv_istore_n (lv' := [(2, .int 24), (0, .ref (q 0)), (1, .int x0)]) hx hb dX12_put_2 rfl hl (by decide) rfl (fun ls hl => ?_)
  refine lv_iload_n hx hb dX12_put_3 rfl (lv_at hl 0 rfl) ?_
  refine lv_if_lt (tgt := 39) hx hb dX12_put_4 (by decide) (fun c => absurd c (by decide +kernel)) (fun _ => ?_)
  refine lv_aload_n hx hb dX12_put_7 rfl (lv_at hl 1 rfl) ?_
  refine va_get (D := (dC, dI)) (ci := 12) (v := .ref (q 1)) (C := RX12) (T := TX12) (N := 85) hx hb hts hiX12 hown hK hP 0 rfl rfl 0 (by decide) (hts _ (List.mem_of_getElem? (i := 1) rfl)) (fun _ h9 => h9) rfl dX12_put_8 ?_
  refine lv_aload_n hx hb dX12_put_11 rfl (lv_at hl 1 rfl) ?_
  refine va_get (D := (dC, dI)) (ci := 12) (v := .int 12) (C := RX12) (T := TX12) (N := 85) hx hb hts hiX12 hown hK hP 0 rfl rfl 1 (by decide) (hts _ (List.mem_of_getElem? (i := 2) rfl)) (fun _ h9 => h9) rfl dX12_put_12 ?_
  refine lv_iload_n hx hb dX12_put_15 rfl (lv_at hl 2 rfl) ?_
  refine lv_iload_n hx hb dX12_put_16 rfl (lv_at hl 0 rfl) ?_
  refine lv_ishr hx hb dX12_put_17 ?_
  refine lv_sipush (v := 255) hx hb dX12_put_18 (by decide +kernel) ?_
  refine lv_iand hx hb dX12_put_21 ?_
  refine va_iast hx hb hK hP hD hS 1 1 rfl rfl (vpc _ _ (by decide +kernel)) dX12_put_22 (fun H locs hP hD hS => ?_)
  have hP : va_P (dC, dI) vwCl [((q 0), .inr (12, ((mo q).set 1 (.int 12)))), ((q 1), .inl (cI, 1800, .inl (upd f0 12 ((x0 >>> (24 &&& 31)) &&& 255))))] H := hP
  have hD : va_D A [((q 0), .inr (12, ((mo q).set 1 (.int 12)))), ((q 1), .inl (cI, 1800, .inl (upd f0 12 ((x0 >>> (24 &&& 31)) &&& 255))))] := hD
  refine lv_aload_n hx hb dX12_put_23 rfl (lv_at hl 1 rfl) ?_
  refine lv_dup hx hb dX12_put_24 rfl ?_
  refine va_get (D := (dC, dI)) (ci := 12) (v := .int 12) (C := RX12) (T := TX12) (N := 85) hx hb hts hiX12 hown hK hP 0 rfl rfl 1 (by decide) (hts _ (List.mem_of_getElem? (i := 2) rfl)) (fun _ h9 => h9) rfl dX12_put_25 ?_
  refine lv_iconst (v := 1) hx hb dX12_put_28 (by decide +kernel) ?_
  refine lv_iadd hx hb dX12_put_29 ?_
  refine tp_i (y := 13) (by decide +kernel) ?_
  refine va_put (D := (dC, dI)) (ci := 12) (v := .int 13) (ty := .int) (C := RX12) (T := TX12) (N := 85) hx hb hts hiX12 tyX12 tyX12_ok nmX12 hown hK hP hD hS 0 rfl rfl 1 (by decide) (hts _ (List.mem_of_getElem? (i := 2) rfl)) (fun _ h9 => h9) rfl (by decide +kernel) rfl rfl (Nat.le_of_ble_eq_true rfl) dX12_put_30 (fun H locs hP hD hS => ?_)
  have hP : va_P (dC, dI) vwCl [((q 0), .inr (12, ((mo q).set 1 (.int 13)))), ((q 1), .inl (cI, 1800, .inl (upd f0 12 ((x0 >>> (24 &&& 31)) &&& 255))))] H := hP
  have hD : va_D A [((q 0), .inr (12, ((mo q).set 1 (.int 13)))), ((q 1), .inl (cI, 1800, .inl (upd f0 12 ((x0 >>> (24 &&& 31)) &&& 255))))] := hD
  refine lv_iinc (v := 16) (lv' := [(2, .int 16), (0, .ref (q 0)), (1, .int x0)]) hx hb dX12_put_33 hl (k := 0) rfl (by decide +kernel) (by decide) rfl (fun ls hl => ?_)
  refine lv_goto (tgt := 3) hx hb dX12_put_36 (by decide) ?_
  refine lv_iload_n hx hb dX12_put_3 rfl (lv_at hl 0 rfl) ?_
  refine lv_if_lt (tgt := 39) hx hb dX12_put_4 (by decide) (fun c => absurd c (by decide +kernel)) (fun _ => ?_)
  refine lv_aload_n hx hb dX12_put_7 rfl (lv_at hl 1 rfl) ?_
  refine va_get (D := (dC, dI)) (ci := 12) (v := .ref (q 1)) (C := RX12) (T := TX12) (N := 85) hx hb hts hiX12 hown hK hP 0 rfl rfl 0 (by decide) (hts _ (List.mem_of_getElem? (i := 1) rfl)) (fun _ h9 => h9) rfl dX12_put_8 ?_
  refine lv_aload_n hx hb dX12_put_11 rfl (lv_at hl 1 rfl) ?_
  refine va_get (D := (dC, dI)) (ci := 12) (v := .int 13) (C := RX12) (T := TX12) (N := 85) hx hb hts hiX12 hown hK hP 0 rfl rfl 1 (by decide) (hts _ (List.mem_of_getElem? (i := 2) rfl)) (fun _ h9 => h9) rfl dX12_put_12 ?_
  refine lv_iload_n hx hb dX12_put_15 rfl (lv_at hl 2 rfl) ?_
  refine lv_iload_n hx hb dX12_put_16 rfl (lv_at hl 0 rfl) ?_
  refine lv_ishr hx hb dX12_put_17 ?_
  refine lv_sipush (v := 255) hx hb dX12_put_18 (by decide +kernel) ?_
  refine lv_iand hx hb dX12_put_21 ?_
  refine va_iast hx hb hK hP hD hS 1 1 rfl rfl (vpc _ _ (by decide +kernel)) dX12_put_22 (fun H locs hP hD hS => ?_)
  have hP : va_P (dC, dI) vwCl [((q 0), .inr (12, ((mo q).set 1 (.int 13)))), ((q 1), .inl (cI, 1800, .inl (upd (upd f0 12 ((x0 >>> (24 &&& 31)) &&& 255)) 13 ((x0 >>> (16 &&& 31)) &&& 255))))] H := hP
  have hD : va_D A [((q 0), .inr (12, ((mo q).set 1 (.int 13)))), ((q 1), .inl (cI, 1800, .inl (upd (upd f0 12 ((x0 >>> (24 &&& 31)) &&& 255)) 13 ((x0 >>> (16 &&& 31)) &&& 255))))] := hD
  refine lv_aload_n hx hb dX12_put_23 rfl (lv_at hl 1 rfl) ?_
  refine lv_dup hx hb dX12_put_24 rfl ?_
  refine va_get (D := (dC, dI)) (ci := 12) (v := .int 13) (C := RX12) (T := TX12) (N := 85) hx hb hts hiX12 hown hK hP 0 rfl rfl 1 (by decide) (hts _ (List.mem_of_getElem? (i := 2) rfl)) (fun _ h9 => h9) rfl dX12_put_25 ?_
  refine lv_iconst (v := 1) hx hb dX12_put_28 (by decide +kernel) ?_
  refine lv_iadd hx hb dX12_put_29 ?_
  refine tp_i (y := 14) (by decide +kernel) ?_
  refine va_put (D := (dC, dI)) (ci := 12) (v := .int 14) (ty := .int) (C := RX12) (T := TX12) (N := 85) hx hb hts hiX12 tyX12 tyX12_ok nmX12 hown hK hP hD hS 0 rfl rfl 1 (by decide) (hts _ (List.mem_of_getElem? (i := 2) rfl)) (fun _ h9 => h9) rfl (by decide +kernel) rfl rfl (Nat.le_of_ble_eq_true rfl) dX12_put_30 (fun H locs hP hD hS => ?_)
  have hP : va_P (dC, dI) vwCl [((q 0), .inr (12, ((mo q).set 1 (.int 14)))), ((q 1), .inl (cI, 1800, .inl (upd (upd f0 12 ((x0 >>> (24 &&& 31)) &&& 255)) 13 ((x0 >>> (16 &&& 31)) &&& 255))))] H := hP
  have hD : va_D A [((q 0), .inr (12, ((mo q).set 1 (.int 14)))), ((q 1), .inl (cI, 1800, .inl (upd (upd f0 12 ((x0 >>> (24 &&& 31)) &&& 255)) 13 ((x0 >>> (16 &&& 31)) &&& 255))))] := hD
  refine lv_iinc (v := 8) (lv' := [(2, .int 8), (0, .ref (q 0)), (1, .int x0)]) hx hb dX12_put_33 hl (k := 0) rfl (by decide +kernel) (by decide) rfl (fun ls hl => ?_)
  refine lv_goto (tgt := 3) hx hb dX12_put_36 (by decide) ?_
  refine lv_iload_n hx hb dX12_put_3 rfl (lv_at hl 0 rfl) ?_
  refine lv_if_lt (tgt := 39) hx hb dX12_put_4 (by decide) (fun c => absurd c (by decide +kernel)) (fun _ => ?_)
  refine lv_aload_n hx hb dX12_put_7 rfl (lv_at hl 1 rfl) ?_
  refine va_get (D := (dC, dI)) (ci := 12) (v := .ref (q 1)) (C := RX12) (T := TX12) (N := 85) hx hb hts hiX12 hown hK hP 0 rfl rfl 0 (by decide) (hts _ (List.mem_of_getElem? (i := 1) rfl)) (fun _ h9 => h9) rfl dX12_put_8 ?_
  refine lv_aload_n hx hb dX12_put_11 rfl (lv_at hl 1 rfl) ?_
  refine va_get (D := (dC, dI)) (ci := 12) (v := .int 14) (C := RX12) (T := TX12) (N := 85) hx hb hts hiX12 hown hK hP 0 rfl rfl 1 (by decide) (hts _ (List.mem_of_getElem? (i := 2) rfl)) (fun _ h9 => h9) rfl dX12_put_12 ?_
  refine lv_iload_n hx hb dX12_put_15 rfl (lv_at hl 2 rfl) ?_
  refine lv_iload_n hx hb dX12_put_16 rfl (lv_at hl 0 rfl) ?_
  refine lv_ishr hx hb dX12_put_17 ?_
  refine lv_sipush (v := 255) hx hb dX12_put_18 (by decide +kernel) ?_
  refine lv_iand hx hb dX12_put_21 ?_
  refine va_iast hx hb hK hP hD hS 1 1 rfl rfl (vpc _ _ (by decide +kernel)) dX12_put_22 (fun H locs hP hD hS => ?_)
  have hP : va_P (dC, dI) vwCl [((q 0), .inr (12, ((mo q).set 1 (.int 14)))), ((q 1), .inl (cI, 1800, .inl (upd (upd (upd f0 12 ((x0 >>> (24 &&& 31)) &&& 255)) 13 ((x0 >>> (16 &&& 31)) &&& 255)) 14 ((x0 >>> (8 &&& 31)) &&& 255))))] H := hP
  have hD : va_D A [((q 0), .inr (12, ((mo q).set 1 (.int 14)))), ((q 1), .inl (cI, 1800, .inl (upd (upd (upd f0 12 ((x0 >>> (24 &&& 31)) &&& 255)) 13 ((x0 >>> (16 &&& 31)) &&& 255)) 14 ((x0 >>> (8 &&& 31)) &&& 255))))] := hD
  refine lv_aload_n hx hb dX12_put_23 rfl (lv_at hl 1 rfl) ?_
  refine lv_dup hx hb dX12_put_24 rfl ?_
  refine va_get (D := (dC, dI)) (ci := 12) (v := .int 14) (C := RX12) (T := TX12) (N := 85) hx hb hts hiX12 hown hK hP 0 rfl rfl 1 (by decide) (hts _ (List.mem_of_getElem? (i := 2) rfl)) (fun _ h9 => h9) rfl dX12_put_25 ?_
  refine lv_iconst (v := 1) hx hb dX12_put_28 (by decide +kernel) ?_
  refine lv_iadd hx hb dX12_put_29 ?_
  refine tp_i (y := 15) (by decide +kernel) ?_
  refine va_put (D := (dC, dI)) (ci := 12) (v := .int 15) (ty := .int) (C := RX12) (T := TX12) (N := 85) hx hb hts hiX12 tyX12 tyX12_ok nmX12 hown hK hP hD hS 0 rfl rfl 1 (by decide) (hts _ (List.mem_of_getElem? (i := 2) rfl)) (fun _ h9 => h9) rfl (by decide +kernel) rfl rfl (Nat.le_of_ble_eq_true rfl) dX12_put_30 (fun H locs hP hD hS => ?_)
  have hP : va_P (dC, dI) vwCl [((q 0), .inr (12, ((mo q).set 1 (.int 15)))), ((q 1), .inl (cI, 1800, .inl (upd (upd (upd f0 12 ((x0 >>> (24 &&& 31)) &&& 255)) 13 ((x0 >>> (16 &&& 31)) &&& 255)) 14 ((x0 >>> (8 &&& 31)) &&& 255))))] H := hP
  have hD : va_D A [((q 0), .inr (12, ((mo q).set 1 (.int 15)))), ((q 1), .inl (cI, 1800, .inl (upd (upd (upd f0 12 ((x0 >>> (24 &&& 31)) &&& 255)) 13 ((x0 >>> (16 &&& 31)) &&& 255)) 14 ((x0 >>> (8 &&& 31)) &&& 255))))] := hD
  refine lv_iinc (v := 0) (lv' := [(2, .int 0), (0, .ref (q 0)), (1, .int x0)]) hx hb dX12_put_33 hl (k := 0) rfl (by decide +kernel) (by decide) rfl (fun ls hl => ?_)
  refine lv_goto (tgt := 3) hx hb dX12_put_36 (by decide) ?_
  refine lv_iload_n hx hb dX12_put_3 rfl (lv_at hl 0 rfl) ?_
  refine lv_if_lt (tgt := 39) hx hb dX12_put_4 (by decide) (fun c => absurd c (by decide +kernel)) (fun _ => ?_)
  refine lv_aload_n hx hb dX12_put_7 rfl (lv_at hl 1 rfl) ?_
  refine va_get (D := (dC, dI)) (ci := 12) (v := .ref (q 1)) (C := RX12) (T := TX12) (N := 85) hx hb hts hiX12 hown hK hP 0 rfl rfl 0 (by decide) (hts _ (List.mem_of_getElem? (i := 1) rfl)) (fun _ h9 => h9) rfl dX12_put_8 ?_
  refine lv_aload_n hx hb dX12_put_11 rfl (lv_at hl 1 rfl) ?_
  refine va_get (D := (dC, dI)) (ci := 12) (v := .int 15) (C := RX12) (T := TX12) (N := 85) hx hb hts hiX12 hown hK hP 0 rfl rfl 1 (by decide) (hts _ (List.mem_of_getElem? (i := 2) rfl)) (fun _ h9 => h9) rfl dX12_put_12 ?_
  refine lv_iload_n hx hb dX12_put_15 rfl (lv_at hl 2 rfl) ?_
  refine lv_iload_n hx hb dX12_put_16 rfl (lv_at hl 0 rfl) ?_
  refine lv_ishr hx hb dX12_put_17 ?_
  refine lv_sipush (v := 255) hx hb dX12_put_18 (by decide +kernel) ?_
  refine lv_iand hx hb dX12_put_21 ?_
  refine va_iast hx hb hK hP hD hS 1 1 rfl rfl (vpc _ _ (by decide +kernel)) dX12_put_22 (fun H locs hP hD hS => ?_)
  have hP : va_P (dC, dI) vwCl [((q 0), .inr (12, ((mo q).set 1 (.int 15)))), ((q 1), .inl (cI, 1800, .inl (upd (upd (upd (upd f0 12 ((x0 >>> (24 &&& 31)) &&& 255)) 13 ((x0 >>> (16 &&& 31)) &&& 255)) 14 ((x0 >>> (8 &&& 31)) &&& 255)) 15 ((x0 >>> (0 &&& 31)) &&& 255))))] H := hP
  have hD : va_D A [((q 0), .inr (12, ((mo q).set 1 (.int 15)))), ((q 1), .inl (cI, 1800, .inl (upd (upd (upd (upd f0 12 ((x0 >>> (24 &&& 31)) &&& 255)) 13 ((x0 >>> (16 &&& 31)) &&& 255)) 14 ((x0 >>> (8 &&& 31)) &&& 255)) 15 ((x0 >>> (0 &&& 31)) &&& 255))))] := hD
  refine lv_aload_n hx hb dX12_put_23 rfl (lv_at hl 1 rfl) ?_
  refine lv_dup hx hb dX12_put_24 rfl ?_
  refine va_get (D := (dC, dI)) (ci := 12) (v := .int 15) (C := RX12) (T := TX12) (N := 85) hx hb hts hiX12 hown hK hP 0 rfl rfl 1 (by decide) (hts _ (List.mem_of_getElem? (i := 2) rfl)) (fun _ h9 => h9) rfl dX12_put_25 ?_
  refine lv_iconst (v := 1) hx hb dX12_put_28 (by decide +kernel) ?_
  refine lv_iadd hx hb dX12_put_29 ?_
  refine tp_i (y := 16) (by decide +kernel) ?_
  refine va_put (D := (dC, dI)) (ci := 12) (v := .int 16) (ty := .int) (C := RX12) (T := TX12) (N := 85) hx hb hts hiX12 tyX12 tyX12_ok nmX12 hown hK hP hD hS 0 rfl rfl 1 (by decide) (hts _ (List.mem_of_getElem? (i := 2) rfl)) (fun _ h9 => h9) rfl (by decide +kernel) rfl rfl (Nat.le_of_ble_eq_true rfl) dX12_put_30 (fun H locs hP hD hS => ?_)
  have hP : va_P (dC, dI) vwCl [((q 0), .inr (12, ((mo q).set 1 (.int 16)))), ((q 1), .inl (cI, 1800, .inl (upd (upd (upd (upd f0 12 ((x0 >>> (24 &&& 31)) &&& 255)) 13 ((x0 >>> (16 &&& 31)) &&& 255)) 14 ((x0 >>> (8 &&& 31)) &&& 255)) 15 ((x0 >>> (0 &&& 31)) &&& 255))))] H := hP
  have hD : va_D A [((q 0), .inr (12, ((mo q).set 1 (.int 16)))), ((q 1), .inl (cI, 1800, .inl (upd (upd (upd (upd f0 12 ((x0 >>> (24 &&& 31)) &&& 255)) 13 ((x0 >>> (16 &&& 31)) &&& 255)) 14 ((x0 >>> (8 &&& 31)) &&& 255)) 15 ((x0 >>> (0 &&& 31)) &&& 255))))] := hD
  refine lv_iinc (v := (-8)) (lv' := [(2, .int (-8)), (0, .ref (q 0)), (1, .int x0)]) hx hb dX12_put_33 hl (k := 0) rfl (by decide +kernel) (by decide) rfl (fun ls hl => ?_)
  refine lv_goto (tgt := 3) hx hb dX12_put_36 (by decide) ?_
  refine lv_iload_n hx hb dX12_put_3 rfl (lv_at hl 0 rfl) ?_
  refine lv_if_lt (tgt := 39) hx hb dX12_put_4 (by decide) (fun _ => ?_) (fun c => absurd c (by decide +kernel))
  have hP9 := hP.sub (ws' := [((q 0), .inr (12, ((mo q).set 1 (.int 16)))), ((q 1), .inl (cI, 1800, .inl (upd (upd (upd (upd f0 12 ((x0 >>> (24 &&& 31)) &&& 255)) 13 ((x0 >>> (16 &&& 31)) &&& 255)) 14 ((x0 >>> (8 &&& 31)) &&& 255)) 15 ((x0 >>> (0 &&& 31)) &&& 255))))]) [0, 1] rfl
  have hD9 := hD.sub (ws' := [((q 0), .inr (12, ((mo q).set 1 (.int 16)))), ((q 1), .inl (cI, 1800, .inl (upd (upd (upd (upd f0 12 ((x0 >>> (24 &&& 31)) &&& 255)) 13 ((x0 >>> (16 &&& 31)) &&& 255)) 14 ((x0 >>> (8 &&& 31)) &&& 255)) 15 ((x0 >>> (0 &&& 31)) &&& 255))))]) [0, 1] (by decide) rfl
  exact W.vret hx hb hr (fun t ht hW => ⟨⟨(), rfl, trivial, by rw [ht]; exact hP9, va_K.moved hW.alike hK, hD9⟩, hS.F ht⟩) hS.2.2 dX12_put_39
def ws_k_X12_put_89 : List Cond := .code yX12_put cX12_put 3 none :: ([.fieldLink RX12 7 "StackKeysModel" "tape" "[I", .fieldLink RX12 13 "StackKeysModel" "taped" "I"] ++ wsX120)
set_option maxHeartbeats 4000000 in
set_option maxRecDepth 100000 in
theorem k_X12_put_89 (l : Launch) (dC : Nat → ClassId) (dI : Nat → Nat → Nat) (cB cI cJ cZ cQ : ClassId) (sz : Nat) (q : Nat → Nat) (x0 : Int32) (f0 : Nat → Int32) : Met l yX12_put ws_k_X12_put_89 ({ frames := 0, cells := 0, slots := 0, locals := 0 }) (va_Pc [.ref (q 0), .int x0] (fun U => U.heap.size = sz ∧ va_P (dC, dI) vwCl [((q 0), .inr (12, ((mo q).set 1 (.int 16)))), ((q 1), .inl (cI, 1800, .inl f0))] U.heap ∧ va_K (dC, dI) vwCl (tyA cB cI cJ cZ cQ) U ∧ va_D (fun _ => True) [((q 0), .inr (12, ((mo q).set 1 (.int 16)))), ((q 1), .inl (cI, 1800, .inl f0))])) (va_Qv (fun _ : Unit => True) (fun (u : Unit) t => va_P (dC, dI) vwCl [((q 0), .inr (12, ((mo q).set 1 (.int 20)))), ((q 1), .inl (cI, 1800, .inl (upd (upd (upd (upd f0 16 ((x0 >>> (24 &&& 31)) &&& 255)) 17 ((x0 >>> (16 &&& 31)) &&& 255)) 18 ((x0 >>> (8 &&& 31)) &&& 255)) 19 ((x0 >>> (0 &&& 31)) &&& 255))))] t.heap ∧ va_K (dC, dI) vwCl (tyA cB cI cJ cZ cQ) t ∧ va_D (va_A [((q 0), .inr (12, ((mo q).set 1 (.int 16)))), ((q 1), .inl (cI, 1800, .inl f0))] sz) [((q 0), .inr (12, ((mo q).set 1 (.int 20)))), ((q 1), .inl (cI, 1800, .inl (upd (upd (upd (upd f0 16 ((x0 >>> (24 &&& 31)) &&& 255)) 17 ((x0 >>> (16 &&& 31)) &&& 255)) 18 ((x0 >>> (8 &&& 31)) &&& 255)) 19 ((x0 >>> (0 &&& 31)) &&& 255))))]) (va_A [((q 0), .inr (12, ((mo q).set 1 (.int 16)))), ((q 1), .inl (cI, 1800, .inl f0))] sz)) 0 0 (va_A [((q 0), .inr (12, ((mo q).set 1 (.int 16)))), ((q 1), .inl (cI, 1800, .inl f0))] sz) := by
  refine Met.ofW (cc := cX12_put) (maxL := 3) (ret := none) (by decide +kernel) rfl ?_
  intro p e s m args below meth c s₁ B hml hv
  obtain ⟨rfl, hsz, hP, hK, hD0⟩ := hv
  have hx := B.exec
  have hb := B.bytes
  have hr := B.returns
  have hts := atoms_spec (ws := ws_k_X12_put_89) B.pre
  have hown : s.vm.findClass RX12 = some m.cls := findClass_of_methodNamed B.named
  have hiX12 : ∀ w ∈ u_ws RX12 TX12 85, w ∈ ws_k_X12_put_89 := fun w h => List.mem_cons_of_mem _ (List.mem_append_right _ h)
  subst hsz
  have hD := hD0.self (sz := s.heap.size)
  generalize hAe : va_A [((q 0), .inr (12, ((mo q).set 1 (.int 16)))), ((q 1), .inl (cI, 1800, .inl f0))] s.heap.size = A at hD ⊢
  have hA : ∀ b : Nat, s.heap.size ≤ b → A b := fun b h => by rw [← hAe]; exact Or.inr h
  clear hD0 hAe
  have hS : va_S A s.heap s.heap [] := va_S.rf
  have hl := lv_entry ([.ref (q 0), .int x0]) (n := 3) (Nat.le_of_ble_eq_true rfl)
  rw [lg_entry_eq]
  generalize (lg_sl ([.ref (q 0), .int x0]) ++ List.replicate (3 - (lg_sl ([.ref (q 0), .int x0])).length) Slot.unset).toArray = ls at hl ⊢
  have hl : lv_has ls 3 [(0, .ref (q 0)), (1, .int x0)] := hl
  obtain ⟨H, hHe⟩ : ∃ H : Heap, H = s.heap := ⟨_, rfl⟩
  rw [← hHe] at hP
  have hS : va_S A s.heap H [] := by rw [hHe]; exact hS
  rw [← hHe]
  refine lv_bipush (v := 24) hx hb dX12_put_0 (by decide +kernel) ?_
  refine lv_istore_n (lv' := [(2, .int 24), (0, .ref (q 0)), (1, .int x0)]) hx hb dX12_put_2 rfl hl (by decide) rfl (fun ls hl => ?_)
  refine lv_iload_n hx hb dX12_put_3 rfl (lv_at hl 0 rfl) ?_
  refine lv_if_lt (tgt := 39) hx hb dX12_put_4 (by decide) (fun c => absurd c (by decide +kernel)) (fun _ => ?_)
  refine lv_aload_n hx hb dX12_put_7 rfl (lv_at hl 1 rfl) ?_
  refine va_get (D := (dC, dI)) (ci := 12) (v := .ref (q 1)) (C := RX12) (T := TX12) (N := 85) hx hb hts hiX12 hown hK hP 0 rfl rfl 0 (by decide) (hts _ (List.mem_of_getElem? (i := 1) rfl)) (fun _ h9 => h9) rfl dX12_put_8 ?_
  refine lv_aload_n hx hb dX12_put_11 rfl (lv_at hl 1 rfl) ?_
  refine va_get (D := (dC, dI)) (ci := 12) (v := .int 16) (C := RX12) (T := TX12) (N := 85) hx hb hts hiX12 hown hK hP 0 rfl rfl 1 (by decide) (hts _ (List.mem_of_getElem? (i := 2) rfl)) (fun _ h9 => h9) rfl dX12_put_12 ?_
  refine lv_iload_n hx hb dX12_put_15 rfl (lv_at hl 2 rfl) ?_
  refine lv_iload_n hx hb dX12_put_16 rfl (lv_at hl 0 rfl) ?_
  refine lv_ishr hx hb dX12_put_17 ?_
  refine lv_sipush (v := 255) hx hb dX12_put_18 (by decide +kernel) ?_
  refine lv_iand hx hb dX12_put_21 ?_
  refine va_iast hx hb hK hP hD hS 1 1 rfl rfl (vpc _ _ (by decide +kernel)) dX12_put_22 (fun H locs hP hD hS => ?_)
  have hP : va_P (dC, dI) vwCl [((q 0), .inr (12, ((mo q).set 1 (.int 16)))), ((q 1), .inl (cI, 1800, .inl (upd f0 16 ((x0 >>> (24 &&& 31)) &&& 255))))] H := hP
  have hD : va_D A [((q 0), .inr (12, ((mo q).set 1 (.int 16)))), ((q 1), .inl (cI, 1800, .inl (upd f0 16 ((x0 >>> (24 &&& 31)) &&& 255))))] := hD
  refine lv_aload_n hx hb dX12_put_23 rfl (lv_at hl 1 rfl) ?_
  refine lv_dup hx hb dX12_put_24 rfl ?_
  refine va_get (D := (dC, dI)) (ci := 12) (v := .int 16) (C := RX12) (T := TX12) (N := 85) hx hb hts hiX12 hown hK hP 0 rfl rfl 1 (by decide) (hts _ (List.mem_of_getElem? (i := 2) rfl)) (fun _ h9 => h9) rfl dX12_put_25 ?_
  refine lv_iconst (v := 1) hx hb dX12_put_28 (by decide +kernel) ?_
  refine lv_iadd hx hb dX12_put_29 ?_
  refine tp_i (y := 17) (by decide +kernel) ?_
  refine va_put (D := (dC, dI)) (ci := 12) (v := .int 17) (ty := .int) (C := RX12) (T := TX12) (N := 85) hx hb hts hiX12 tyX12 tyX12_ok nmX12 hown hK hP hD hS 0 rfl rfl 1 (by decide) (hts _ (List.mem_of_getElem? (i := 2) rfl)) (fun _ h9 => h9) rfl (by decide +kernel) rfl rfl (Nat.le_of_ble_eq_true rfl) dX12_put_30 (fun H locs hP hD hS => ?_)
  have hP : va_P (dC, dI) vwCl [((q 0), .inr (12, ((mo q).set 1 (.int 17)))), ((q 1), .inl (cI, 1800, .inl (upd f0 16 ((x0 >>> (24 &&& 31)) &&& 255))))] H := hP
  have hD : va_D A [((q 0), .inr (12, ((mo q).set 1 (.int 17)))), ((q 1), .inl (cI, 1800, .inl (upd f0 16 ((x0 >>> (24 &&& 31)) &&& 255))))] := hD
  refine lv_iinc (v := 16) (lv' := [(2, .int 16), (0, .ref (q 0)), (1, .int x0)]) hx hb dX12_put_33 hl (k := 0) rfl (by decide +kernel) (by decide) rfl (fun ls hl => ?_)
  refine lv_goto (tgt := 3) hx hb dX12_put_36 (by decide) ?_
  refine lv_iload_n hx hb dX12_put_3 rfl (lv_at hl 0 rfl) ?_
  refine lv_if_lt (tgt := 39) hx hb dX12_put_4 (by decide) (fun c => absurd c (by decide +kernel)) (fun _ => ?_)
  refine lv_aload_n hx hb dX12_put_7 rfl (lv_at hl 1 rfl) ?_
  refine va_get (D := (dC, dI)) (ci := 12) (v := .ref (q 1)) (C := RX12) (T := TX12) (N := 85) hx hb hts hiX12 hown hK hP 0 rfl rfl 0 (by decide) (hts _ (List.mem_of_getElem? (i := 1) rfl)) (fun _ h9 => h9) rfl dX12_put_8 ?_
  refine lv_aload_n hx hb dX12_put_11 rfl (lv_at hl 1 rfl) ?_
  refine va_get (D := (dC, dI)) (ci := 12) (v := .int 17) (C := RX12) (T := TX12) (N := 85) hx hb hts hiX12 hown hK hP 0 rfl rfl 1 (by decide) (hts _ (List.mem_of_getElem? (i := 2) rfl)) (fun _ h9 => h9) rfl dX12_put_12 ?_
  refine lv_iload_n hx hb dX12_put_15 rfl (lv_at hl 2 rfl) ?_
  refine lv_iload_n hx hb dX12_put_16 rfl (lv_at hl 0 rfl) ?_
  refine lv_ishr hx hb dX12_put_17 ?_
  refine lv_sipush (v := 255) hx hb dX12_put_18 (by decide +kernel) ?_
  refine lv_iand hx hb dX12_put_21 ?_
  refine va_iast hx hb hK hP hD hS 1 1 rfl rfl (vpc _ _ (by decide +kernel)) dX12_put_22 (fun H locs hP hD hS => ?_)
  have hP : va_P (dC, dI) vwCl [((q 0), .inr (12, ((mo q).set 1 (.int 17)))), ((q 1), .inl (cI, 1800, .inl (upd (upd f0 16 ((x0 >>> (24 &&& 31)) &&& 255)) 17 ((x0 >>> (16 &&& 31)) &&& 255))))] H := hP
  have hD : va_D A [((q 0), .inr (12, ((mo q).set 1 (.int 17)))), ((q 1), .inl (cI, 1800, .inl (upd (upd f0 16 ((x0 >>> (24 &&& 31)) &&& 255)) 17 ((x0 >>> (16 &&& 31)) &&& 255))))] := hD
  refine lv_aload_n hx hb dX12_put_23 rfl (lv_at hl 1 rfl) ?_
  refine lv_dup hx hb dX12_put_24 rfl ?_
  refine va_get (D := (dC, dI)) (ci := 12) (v := .int 17) (C := RX12) (T := TX12) (N := 85) hx hb hts hiX12 hown hK hP 0 rfl rfl 1 (by decide) (hts _ (List.mem_of_getElem? (i := 2) rfl)) (fun _ h9 => h9) rfl dX12_put_25 ?_
  refine lv_iconst (v := 1) hx hb dX12_put_28 (by decide +kernel) ?_
  refine lv_iadd hx hb dX12_put_29 ?_
  refine tp_i (y := 18) (by decide +kernel) ?_
  refine va_put (D := (dC, dI)) (ci := 12) (v := .int 18) (ty := .int) (C := RX12) (T := TX12) (N := 85) hx hb hts hiX12 tyX12 tyX12_ok nmX12 hown hK hP hD hS 0 rfl rfl 1 (by decide) (hts _ (List.mem_of_getElem? (i := 2) rfl)) (fun _ h9 => h9) rfl (by decide +kernel) rfl rfl (Nat.le_of_ble_eq_true rfl) dX12_put_30 (fun H locs hP hD hS => ?_)
  have hP : va_P (dC, dI) vwCl [((q 0), .inr (12, ((mo q).set 1 (.int 18)))), ((q 1), .inl (cI, 1800, .inl (upd (upd f0 16 ((x0 >>> (24 &&& 31)) &&& 255)) 17 ((x0 >>> (16 &&& 31)) &&& 255))))] H := hP
  have hD : va_D A [((q 0), .inr (12, ((mo q).set 1 (.int 18)))), ((q 1), .inl (cI, 1800, .inl (upd (upd f0 16 ((x0 >>> (24 &&& 31)) &&& 255)) 17 ((x0 >>> (16 &&& 31)) &&& 255))))] := hD
  refine lv_iinc (v := 8) (lv' := [(2, .int 8), (0, .ref (q 0)), (1, .int x0)]) hx hb dX12_put_33 hl (k := 0) rfl (by decide +kernel) (by decide) rfl (fun ls hl => ?_)
  refine lv_goto (tgt := 3) hx hb dX12_put_36 (by decide) ?_
  refine lv_iload_n hx hb dX12_put_3 rfl (lv_at hl 0 rfl) ?_
  refine lv_if_lt (tgt := 39) hx hb dX12_put_4 (by decide) (fun c => absurd c (by decide +kernel)) (fun _ => ?_)
  refine lv_aload_n hx hb dX12_put_7 rfl (lv_at hl 1 rfl) ?_
  refine va_get (D := (dC, dI)) (ci := 12) (v := .ref (q 1)) (C := RX12) (T := TX12) (N := 85) hx hb hts hiX12 hown hK hP 0 rfl rfl 0 (by decide) (hts _ (List.mem_of_getElem? (i := 1) rfl)) (fun _ h9 => h9) rfl dX12_put_8 ?_
  refine lv_aload_n hx hb dX12_put_11 rfl (lv_at hl 1 rfl) ?_
  refine va_get (D := (dC, dI)) (ci := 12) (v := .int 18) (C := RX12) (T := TX12) (N := 85) hx hb hts hiX12 hown hK hP 0 rfl rfl 1 (by decide) (hts _ (List.mem_of_getElem? (i := 2) rfl)) (fun _ h9 => h9) rfl dX12_put_12 ?_
  refine lv_iload_n hx hb dX12_put_15 rfl (lv_at hl 2 rfl) ?_
  refine lv_iload_n hx hb dX12_put_16 rfl (lv_at hl 0 rfl) ?_
  refine lv_ishr hx hb dX12_put_17 ?_
  refine lv_sipush (v := 255) hx hb dX12_put_18 (by decide +kernel) ?_
  refine lv_iand hx hb dX12_put_21 ?_
  refine va_iast hx hb hK hP hD hS 1 1 rfl rfl (vpc _ _ (by decide +kernel)) dX12_put_22 (fun H locs hP hD hS => ?_)
  have hP : va_P (dC, dI) vwCl [((q 0), .inr (12, ((mo q).set 1 (.int 18)))), ((q 1), .inl (cI, 1800, .inl (upd (upd (upd f0 16 ((x0 >>> (24 &&& 31)) &&& 255)) 17 ((x0 >>> (16 &&& 31)) &&& 255)) 18 ((x0 >>> (8 &&& 31)) &&& 255))))] H := hP
  have hD : va_D A [((q 0), .inr (12, ((mo q).set 1 (.int 18)))), ((q 1), .inl (cI, 1800, .inl (upd (upd (upd f0 16 ((x0 >>> (24 &&& 31)) &&& 255)) 17 ((x0 >>> (16 &&& 31)) &&& 255)) 18 ((x0 >>> (8 &&& 31)) &&& 255))))] := hD
  refine lv_aload_n hx hb dX12_put_23 rfl (lv_at hl 1 rfl) ?_
  refine lv_dup hx hb dX12_put_24 rfl ?_
  refine va_get (D := (dC, dI)) (ci := 12) (v := .int 18) (C := RX12) (T := TX12) (N := 85) hx hb hts hiX12 hown hK hP 0 rfl rfl 1 (by decide) (hts _ (List.mem_of_getElem? (i := 2) rfl)) (fun _ h9 => h9) rfl dX12_put_25 ?_
  refine lv_iconst (v := 1) hx hb dX12_put_28 (by decide +kernel) ?_
  refine lv_iadd hx hb dX12_put_29 ?_
  refine tp_i (y := 19) (by decide +kernel) ?_
  refine va_put (D := (dC, dI)) (ci := 12) (v := .int 19) (ty := .int) (C := RX12) (T := TX12) (N := 85) hx hb hts hiX12 tyX12 tyX12_ok nmX12 hown hK hP hD hS 0 rfl rfl 1 (by decide) (hts _ (List.mem_of_getElem? (i := 2) rfl)) (fun _ h9 => h9) rfl (by decide +kernel) rfl rfl (Nat.le_of_ble_eq_true rfl) dX12_put_30 (fun H locs hP hD hS => ?_)
  have hP : va_P (dC, dI) vwCl [((q 0), .inr (12, ((mo q).set 1 (.int 19)))), ((q 1), .inl (cI, 1800, .inl (upd (upd (upd f0 16 ((x0 >>> (24 &&& 31)) &&& 255)) 17 ((x0 >>> (16 &&& 31)) &&& 255)) 18 ((x0 >>> (8 &&& 31)) &&& 255))))] H := hP
  have hD : va_D A [((q 0), .inr (12, ((mo q).set 1 (.int 19)))), ((q 1), .inl (cI, 1800, .inl (upd (upd (upd f0 16 ((x0 >>> (24 &&& 31)) &&& 255)) 17 ((x0 >>> (16 &&& 31)) &&& 255)) 18 ((x0 >>> (8 &&& 31)) &&& 255))))] := hD
  refine lv_iinc (v := 0) (lv' := [(2, .int 0), (0, .ref (q 0)), (1, .int x0)]) hx hb dX12_put_33 hl (k := 0) rfl (by decide +kernel) (by decide) rfl (fun ls hl => ?_)
  refine lv_goto (tgt := 3) hx hb dX12_put_36 (by decide) ?_
  refine lv_iload_n hx hb dX12_put_3 rfl (lv_at hl 0 rfl) ?_
  refine lv_if_lt (tgt := 39) hx hb dX12_put_4 (by decide) (fun c => absurd c (by decide +kernel)) (fun _ => ?_)
  refine lv_aload_n hx hb dX12_put_7 rfl (lv_at hl 1 rfl) ?_
  refine va_get (D := (dC, dI)) (ci := 12) (v := .ref (q 1)) (C := RX12) (T := TX12) (N := 85) hx hb hts hiX12 hown hK hP 0 rfl rfl 0 (by decide) (hts _ (List.mem_of_getElem? (i := 1) rfl)) (fun _ h9 => h9) rfl dX12_put_8 ?_
  refine lv_aload_n hx hb dX12_put_11 rfl (lv_at hl 1 rfl) ?_
  refine va_get (D := (dC, dI)) (ci := 12) (v := .int 19) (C := RX12) (T := TX12) (N := 85) hx hb hts hiX12 hown hK hP 0 rfl rfl 1 (by decide) (hts _ (List.mem_of_getElem? (i := 2) rfl)) (fun _ h9 => h9) rfl dX12_put_12 ?_
  refine lv_iload_n hx hb dX12_put_15 rfl (lv_at hl 2 rfl) ?_
  refine lv_iload_n hx hb dX12_put_16 rfl (lv_at hl 0 rfl) ?_
  refine lv_ishr hx hb dX12_put_17 ?_
  refine lv_sipush (v := 255) hx hb dX12_put_18 (by decide +kernel) ?_
  refine lv_iand hx hb dX12_put_21 ?_
  refine va_iast hx hb hK hP hD hS 1 1 rfl rfl (vpc _ _ (by decide +kernel)) dX12_put_22 (fun H locs hP hD hS => ?_)
  have hP : va_P (dC, dI) vwCl [((q 0), .inr (12, ((mo q).set 1 (.int 19)))), ((q 1), .inl (cI, 1800, .inl (upd (upd (upd (upd f0 16 ((x0 >>> (24 &&& 31)) &&& 255)) 17 ((x0 >>> (16 &&& 31)) &&& 255)) 18 ((x0 >>> (8 &&& 31)) &&& 255)) 19 ((x0 >>> (0 &&& 31)) &&& 255))))] H := hP
  have hD : va_D A [((q 0), .inr (12, ((mo q).set 1 (.int 19)))), ((q 1), .inl (cI, 1800, .inl (upd (upd (upd (upd f0 16 ((x0 >>> (24 &&& 31)) &&& 255)) 17 ((x0 >>> (16 &&& 31)) &&& 255)) 18 ((x0 >>> (8 &&& 31)) &&& 255)) 19 ((x0 >>> (0 &&& 31)) &&& 255))))] := hD
  refine lv_aload_n hx hb dX12_put_23 rfl (lv_at hl 1 rfl) ?_
  refine lv_dup hx hb dX12_put_24 rfl ?_
  refine va_get (D := (dC, dI)) (ci := 12) (v := .int 19) (C := RX12) (T := TX12) (N := 85) hx hb hts hiX12 hown hK hP 0 rfl rfl 1 (by decide) (hts _ (List.mem_of_getElem? (i := 2) rfl)) (fun _ h9 => h9) rfl dX12_put_25 ?_
  refine lv_iconst (v := 1) hx hb dX12_put_28 (by decide +kernel) ?_
  refine lv_iadd hx hb dX12_put_29 ?_
  refine tp_i (y := 20) (by decide +kernel) ?_
  refine va_put (D := (dC, dI)) (ci := 12) (v := .int 20) (ty := .int) (C := RX12) (T := TX12) (N := 85) hx hb hts hiX12 tyX12 tyX12_ok nmX12 hown hK hP hD hS 0 rfl rfl 1 (by decide) (hts _ (List.mem_of_getElem? (i := 2) rfl)) (fun _ h9 => h9) rfl (by decide +kernel) rfl rfl (Nat.le_of_ble_eq_true rfl) dX12_put_30 (fun H locs hP hD hS => ?_)
  have hP : va_P (dC, dI) vwCl [((q 0), .inr (12, ((mo q).set 1 (.int 20)))), ((q 1), .inl (cI, 1800, .inl (upd (upd (upd (upd f0 16 ((x0 >>> (24 &&& 31)) &&& 255)) 17 ((x0 >>> (16 &&& 31)) &&& 255)) 18 ((x0 >>> (8 &&& 31)) &&& 255)) 19 ((x0 >>> (0 &&& 31)) &&& 255))))] H := hP
  have hD : va_D A [((q 0), .inr (12, ((mo q).set 1 (.int 20)))), ((q 1), .inl (cI, 1800, .inl (upd (upd (upd (upd f0 16 ((x0 >>> (24 &&& 31)) &&& 255)) 17 ((x0 >>> (16 &&& 31)) &&& 255)) 18 ((x0 >>> (8 &&& 31)) &&& 255)) 19 ((x0 >>> (0 &&& 31)) &&& 255))))] := hD
  refine lv_iinc (v := (-8)) (lv' := [(2, .int (-8)), (0, .ref (q 0)), (1, .int x0)]) hx hb dX12_put_33 hl (k := 0) rfl (by decide +kernel) (by decide) rfl (fun ls hl => ?_)
  refine lv_goto (tgt := 3) hx hb dX12_put_36 (by decide) ?_
  refine lv_iload_n hx hb dX12_put_3 rfl (lv_at hl 0 rfl) ?_
  refine lv_if_lt (tgt := 39) hx hb dX12_put_4 (by decide) (fun _ => ?_) (fun c => absurd c (by decide +kernel))
  have hP9 := hP.sub (ws' := [((q 0), .inr (12, ((mo q).set 1 (.int 20)))), ((q 1), .inl (cI, 1800, .inl (upd (upd (upd (upd f0 16 ((x0 >>> (24 &&& 31)) &&& 255)) 17 ((x0 >>> (16 &&& 31)) &&& 255)) 18 ((x0 >>> (8 &&& 31)) &&& 255)) 19 ((x0 >>> (0 &&& 31)) &&& 255))))]) [0, 1] rfl
  have hD9 := hD.sub (ws' := [((q 0), .inr (12, ((mo q).set 1 (.int 20)))), ((q 1), .inl (cI, 1800, .inl (upd (upd (upd (upd f0 16 ((x0 >>> (24 &&& 31)) &&& 255)) 17 ((x0 >>> (16 &&& 31)) &&& 255)) 18 ((x0 >>> (8 &&& 31)) &&& 255)) 19 ((x0 >>> (0 &&& 31)) &&& 255))))]) [0, 1] (by decide) rfl
  exact W.vret hx hb hr (fun t ht hW => ⟨⟨(), rfl, trivial, by rw [ht]; exact hP9, va_K.moved hW.alike hK, hD9⟩, hS.F ht⟩) hS.2.2 dX12_put_39
def ws_p_X12_feed : List Cond := .code yX12_feed cX12_feed 6 (some .int) :: ([.fieldLink RX12 13 "StackKeysModel" "taped" "I", .methodLink RX12 275 yX12_put, .instanceMethod yX12_put, .selects RX12 yX12_put yX12_put, .initialized RX12, .code yX12_put cX12_put 3 none, .fieldLink RX12 7 "StackKeysModel" "tape" "[I"] ++ wsX120)
set_option maxRecDepth 20000 in
theorem g_p_X12_feed_0 : GoodIn ws_p_X12_feed (wsV RX12 275 RX12 yX12_put ws_k_X12_put_85) := goodIn_r _ [2, 3, 4, 5, 6, 7, 1, 8, 9, 10, 11, 12, 13, 14, 15, 16, 17, 18, 19, 20, 21, 22, 23, 24, 25, 26, 27, 28, 29, 30, 31, 32, 33, 34, 35, 36, 37, 38, 39, 40, 41, 42, 43, 44, 45, 46, 47, 48, 49, 50, 51, 52, 53, 54, 55, 56, 57, 58, 59, 60, 61, 62, 63, 64, 65, 66, 67, 68, 69, 70, 71, 72, 73, 74, 75, 76, 77, 78, 79, 80, 81, 82, 83, 84, 85, 86, 87, 88, 89, 90, 91, 92] (by decide +kernel) (by decide +kernel)
set_option maxRecDepth 20000 in
theorem g_p_X12_feed_1 : GoodIn ws_p_X12_feed (wsV RX12 275 RX12 yX12_put ws_k_X12_put_86) := goodIn_r _ [2, 3, 4, 5, 6, 7, 1, 8, 9, 10, 11, 12, 13, 14, 15, 16, 17, 18, 19, 20, 21, 22, 23, 24, 25, 26, 27, 28, 29, 30, 31, 32, 33, 34, 35, 36, 37, 38, 39, 40, 41, 42, 43, 44, 45, 46, 47, 48, 49, 50, 51, 52, 53, 54, 55, 56, 57, 58, 59, 60, 61, 62, 63, 64, 65, 66, 67, 68, 69, 70, 71, 72, 73, 74, 75, 76, 77, 78, 79, 80, 81, 82, 83, 84, 85, 86, 87, 88, 89, 90, 91, 92] (by decide +kernel) (by decide +kernel)
set_option maxRecDepth 20000 in
theorem g_p_X12_feed_2 : GoodIn ws_p_X12_feed (wsV RX12 275 RX12 yX12_put ws_k_X12_put_87) := goodIn_r _ [2, 3, 4, 5, 6, 7, 1, 8, 9, 10, 11, 12, 13, 14, 15, 16, 17, 18, 19, 20, 21, 22, 23, 24, 25, 26, 27, 28, 29, 30, 31, 32, 33, 34, 35, 36, 37, 38, 39, 40, 41, 42, 43, 44, 45, 46, 47, 48, 49, 50, 51, 52, 53, 54, 55, 56, 57, 58, 59, 60, 61, 62, 63, 64, 65, 66, 67, 68, 69, 70, 71, 72, 73, 74, 75, 76, 77, 78, 79, 80, 81, 82, 83, 84, 85, 86, 87, 88, 89, 90, 91, 92] (by decide +kernel) (by decide +kernel)
set_option maxRecDepth 20000 in
theorem g_p_X12_feed_3 : GoodIn ws_p_X12_feed (wsV RX12 275 RX12 yX12_put ws_k_X12_put_88) := goodIn_r _ [2, 3, 4, 5, 6, 7, 1, 8, 9, 10, 11, 12, 13, 14, 15, 16, 17, 18, 19, 20, 21, 22, 23, 24, 25, 26, 27, 28, 29, 30, 31, 32, 33, 34, 35, 36, 37, 38, 39, 40, 41, 42, 43, 44, 45, 46, 47, 48, 49, 50, 51, 52, 53, 54, 55, 56, 57, 58, 59, 60, 61, 62, 63, 64, 65, 66, 67, 68, 69, 70, 71, 72, 73, 74, 75, 76, 77, 78, 79, 80, 81, 82, 83, 84, 85, 86, 87, 88, 89, 90, 91, 92] (by decide +kernel) (by decide +kernel)
set_option maxRecDepth 20000 in
theorem g_p_X12_feed_4 : GoodIn ws_p_X12_feed (wsV RX12 275 RX12 yX12_put ws_k_X12_put_89) := goodIn_r _ [2, 3, 4, 5, 6, 7, 1, 8, 9, 10, 11, 12, 13, 14, 15, 16, 17, 18, 19, 20, 21, 22, 23, 24, 25, 26, 27, 28, 29, 30, 31, 32, 33, 34, 35, 36, 37, 38, 39, 40, 41, 42, 43, 44, 45, 46, 47, 48, 49, 50, 51, 52, 53, 54, 55, 56, 57, 58, 59, 60, 61, 62, 63, 64, 65, 66, 67, 68, 69, 70, 71, 72, 73, 74, 75, 76, 77, 78, 79, 80, 81, 82, 83, 84, 85, 86, 87, 88, 89, 90, 91, 92] (by decide +kernel) (by decide +kernel)
set_option maxHeartbeats 4000000 in
set_option maxRecDepth 100000 in
theorem p_X12_feed (l : Launch) (dC : Nat → ClassId) (dI : Nat → Nat → Nat) (cB cI cJ cZ cQ : ClassId) (sz : Nat) (q : Nat → Nat) (x0 x1 x2 x3 x4 : Int32) : Met l yX12_feed ws_p_X12_feed ({ frames := 1, cells := 0, slots := 0, locals := 22 }) (va_Pc [.ref (q 0), .int x0, .int x1, .int x2, .int x3, .int x4] (fun U => U.heap.size = sz ∧ va_P (dC, dI) vwCl [((q 0), .inr (12, (mo q))), ((q 1), .inl (cI, 1800, .inl (fun _ => 0)))] U.heap ∧ va_K (dC, dI) vwCl (tyA cB cI cJ cZ cQ) U ∧ va_D (fun _ => True) [((q 0), .inr (12, (mo q))), ((q 1), .inl (cI, 1800, .inl (fun _ => 0)))])) (va_Qi (fun (r : Int32) (_ : Unit) => r = 20) (fun (_ : Unit) _ => True) (va_A [((q 0), .inr (12, (mo q))), ((q 1), .inl (cI, 1800, .inl (fun _ => 0)))] sz)) 0 0 (va_A [((q 0), .inr (12, (mo q))), ((q 1), .inl (cI, 1800, .inl (fun _ => 0)))] sz) := by
  refine Met.ofW (cc := cX12_feed) (maxL := 6) (ret := (some .int)) (by decide +kernel) rfl ?_
  intro p e s m args below meth c s₁ B hml hv
  obtain ⟨rfl, hsz, hP, hK, hD0⟩ := hv
  have hx := B.exec
  have hb := B.bytes
  have hr := B.returns
  have hts := atoms_spec (ws := ws_p_X12_feed) B.pre
  have hown : s.vm.findClass RX12 = some m.cls := findClass_of_methodNamed B.named
  have hiX12 : ∀ w ∈ u_ws RX12 TX12 85, w ∈ ws_p_X12_feed := fun w h => List.mem_cons_of_mem _ (List.mem_append_right _ h)
  subst hsz
  have hD := hD0.self (sz := s.heap.size)
  generalize hAe : va_A [((q 0), .inr (12, (mo q))), ((q 1), .inl (cI, 1800, .inl (fun _ => 0)))] s.heap.size = A at hD ⊢
  have hA : ∀ b : Nat, s.heap.size ≤ b → A b := fun b h => by rw [← hAe]; exact Or.inr h
  clear hD0 hAe
  have hS : va_S A s.heap s.heap [] := va_S.rf
  have hl := lv_entry ([.ref (q 0), .int x0, .int x1, .int x2, .int x3, .int x4]) (n := 6) (Nat.le_of_ble_eq_true rfl)
  rw [lg_entry_eq]
  generalize (lg_sl ([.ref (q 0), .int x0, .int x1, .int x2, .int x3, .int x4]) ++ List.replicate (6 - (lg_sl ([.ref (q 0), .int x0, .int x1, .int x2, .int x3, .int x4])).length) Slot.unset).toArray = ls at hl ⊢
  have hl : lv_has ls 6 [(0, .ref (q 0)), (1, .int x0), (2, .int x1), (3, .int x2), (4, .int x3), (5, .int x4)] := hl
  obtain ⟨H, hHe⟩ : ∃ H : Heap, H = s.heap := ⟨_, rfl⟩
  rw [← hHe] at hP
  have hS : va_S A s.heap H [] := by rw [hHe]; exact hS
  rw [← hHe]
  refine lv_aload_n hx hb dX12_feed_0 rfl (lv_at hl 0 rfl) ?_
  refine va_get (D := (dC, dI)) (ci := 12) (v := .int 0) (C := RX12) (T := TX12) (N := 85) hx hb hts hiX12 hown hK hP 0 rfl rfl 1 (by decide) (hts _ (List.mem_of_getElem? (i := 1) rfl)) (fun _ h9 => h9) rfl dX12_feed_1 ?_
  refine lv_bipush (v := 20) hx hb dX12_feed_4 (by decide +kernel) ?_
  refine lv_iadd hx hb dX12_feed_6 ?_
  refine tp_i (y := 20) (by decide +kernel) ?_
  refine lv_sipush (v := 1600) hx hb dX12_feed_7 (by decide +kernel) ?_
  refine lv_icmp_le (tgt := 19) hx hb dX12_feed_10 (by decide) (fun _ => ?_) (fun c => absurd c (by decide +kernel))
  refine lv_aload_n hx hb dX12_feed_19 rfl (lv_at hl 0 rfl) ?_
  refine lv_iload_n hx hb dX12_feed_20 rfl (lv_at hl 1 rfl) ?_
  have hPc := hP.sub (ws' := [((q 0), .inr (12, (mo q))), ((q 1), .inl (cI, 1800, .inl (fun _ => 0)))]) [0, 1] rfl
  have hDc := hD.sub (ws' := [((q 0), .inr (12, (mo q))), ((q 1), .inl (cI, 1800, .inl (fun _ => 0)))]) [0, 1] (by decide) rfl
  have hFc := va_free (wc := [((q 0), .inr (12, (mo q))), ((q 1), .inl (cI, 1800, .inl (fun _ => 0)))]) hD hS hA [0, 1] rfl
  refine va_callv (va_runV (As := [.int x0]) (rest := []) ⟨hx, hb, hml, hown, hts⟩ (k_X12_put_85 l dC dI cB cI cJ cZ cQ H.size q x0 (fun _ => 0)) (cwV 1 hts g_p_X12_feed_0 rfl rfl rfl (by decide +kernel) ⟨Nat.le_of_ble_eq_true rfl, Nat.le_of_ble_eq_true rfl⟩) ⟨fun a U g mk Z => by obtain ⟨q0, q1, qP, qK, qD⟩ := Z; exact ⟨q0, q1, qP, va_K.moved (u := U) (U := U.calling g mk a) (Vm.Alike.refl U.vm) qK, qD⟩, va_recv hK hPc (ci := 12) (q0 := 0) rfl rfl, fun U hU hW => ⟨rfl, by rw [hU], by rw [hU]; exact hPc, va_K.moved hW.alike hK, hDc.weaken (fun _ _ _ _ => trivial)⟩⟩ rfl rfl hl.1 rfl (lv_room (Nat.le_of_ble_eq_true rfl)) dX12_feed_21 ⟨Nat.le_of_ble_eq_true rfl, Nat.le_of_ble_eq_true rfl⟩) hS (fun b _ h => hFc b h) hFc (fun u1 t H1 locs ht hvm hw hB hz1 hk1 hS => ?_)
  obtain ⟨hP1, hK1, hD1⟩ := hB
  rw [ht] at hP1
  obtain ⟨hP, hD⟩ := va_join (wr := []) (w1 := [((q 0), .inr (12, ((mo q).set 1 (.int 4)))), ((q 1), .inl (cI, 1800, .inl (upd (upd (upd (upd (fun _ => 0) 0 ((x0 >>> (24 &&& 31)) &&& 255)) 1 ((x0 >>> (16 &&& 31)) &&& 255)) 2 ((x0 >>> (8 &&& 31)) &&& 255)) 3 ((x0 >>> (0 &&& 31)) &&& 255))))]) hP hD [0, 1] [] rfl rfl (by decide) (by decide) hk1 hFc hP1 hD1
  clear hP1 hK1 hD1 hk1 hz1 hvm hPc hDc hFc
  generalize H1 = H at hP hS ⊢
  have hP : va_P (dC, dI) vwCl [((q 0), .inr (12, ((mo q).set 1 (.int 4)))), ((q 1), .inl (cI, 1800, .inl (upd (upd (upd (upd (fun _ => 0) 0 ((x0 >>> (24 &&& 31)) &&& 255)) 1 ((x0 >>> (16 &&& 31)) &&& 255)) 2 ((x0 >>> (8 &&& 31)) &&& 255)) 3 ((x0 >>> (0 &&& 31)) &&& 255))))] H := hP
  have hD : va_D A [((q 0), .inr (12, ((mo q).set 1 (.int 4)))), ((q 1), .inl (cI, 1800, .inl (upd (upd (upd (upd (fun _ => 0) 0 ((x0 >>> (24 &&& 31)) &&& 255)) 1 ((x0 >>> (16 &&& 31)) &&& 255)) 2 ((x0 >>> (8 &&& 31)) &&& 255)) 3 ((x0 >>> (0 &&& 31)) &&& 255))))] := hD
  refine lv_aload_n hx hb dX12_feed_24 rfl (lv_at hl 0 rfl) ?_
  refine lv_iload_n hx hb dX12_feed_25 rfl (lv_at hl 2 rfl) ?_
  have hPc := hP.sub (ws' := [((q 0), .inr (12, ((mo q).set 1 (.int 4)))), ((q 1), .inl (cI, 1800, .inl (upd (upd (upd (upd (fun _ => 0) 0 ((x0 >>> (24 &&& 31)) &&& 255)) 1 ((x0 >>> (16 &&& 31)) &&& 255)) 2 ((x0 >>> (8 &&& 31)) &&& 255)) 3 ((x0 >>> (0 &&& 31)) &&& 255))))]) [0, 1] rfl
  have hDc := hD.sub (ws' := [((q 0), .inr (12, ((mo q).set 1 (.int 4)))), ((q 1), .inl (cI, 1800, .inl (upd (upd (upd (upd (fun _ => 0) 0 ((x0 >>> (24 &&& 31)) &&& 255)) 1 ((x0 >>> (16 &&& 31)) &&& 255)) 2 ((x0 >>> (8 &&& 31)) &&& 255)) 3 ((x0 >>> (0 &&& 31)) &&& 255))))]) [0, 1] (by decide) rfl
  have hFc := va_free (wc := [((q 0), .inr (12, ((mo q).set 1 (.int 4)))), ((q 1), .inl (cI, 1800, .inl (upd (upd (upd (upd (fun _ => 0) 0 ((x0 >>> (24 &&& 31)) &&& 255)) 1 ((x0 >>> (16 &&& 31)) &&& 255)) 2 ((x0 >>> (8 &&& 31)) &&& 255)) 3 ((x0 >>> (0 &&& 31)) &&& 255))))]) hD hS hA [0, 1] rfl
  refine va_callv (va_runV (As := [.int x1]) (rest := []) ⟨hx, hb, hml, hown, hts⟩ (k_X12_put_86 l dC dI cB cI cJ cZ cQ H.size q x1 (upd (upd (upd (upd (fun _ => 0) 0 ((x0 >>> (24 &&& 31)) &&& 255)) 1 ((x0 >>> (16 &&& 31)) &&& 255)) 2 ((x0 >>> (8 &&& 31)) &&& 255)) 3 ((x0 >>> (0 &&& 31)) &&& 255))) (cwV 1 hts g_p_X12_feed_1 rfl rfl rfl (by decide +kernel) ⟨Nat.le_of_ble_eq_true rfl, Nat.le_of_ble_eq_true rfl⟩) ⟨fun a U g mk Z => by obtain ⟨q0, q1, qP, qK, qD⟩ := Z; exact ⟨q0, q1, qP, va_K.moved (u := U) (U := U.calling g mk a) (Vm.Alike.refl U.vm) qK, qD⟩, va_recv hK hPc (ci := 12) (q0 := 0) rfl rfl, fun U hU hW => ⟨rfl, by rw [hU], by rw [hU]; exact hPc, va_K.moved hW.alike hK, hDc.weaken (fun _ _ _ _ => trivial)⟩⟩ rfl rfl hl.1 rfl (lv_room (Nat.le_of_ble_eq_true rfl)) dX12_feed_26 ⟨Nat.le_of_ble_eq_true rfl, Nat.le_of_ble_eq_true rfl⟩) hS (fun b _ h => hFc b h) hFc (fun u3 t H1 locs ht hvm hw hB hz1 hk1 hS => ?_)
  obtain ⟨hP1, hK1, hD1⟩ := hB
  rw [ht] at hP1
  obtain ⟨hP, hD⟩ := va_join (wr := []) (w1 := [((q 0), .inr (12, ((mo q).set 1 (.int 8)))), ((q 1), .inl (cI, 1800, .inl (upd (upd (upd (upd (upd (upd (upd (upd (fun _ => 0) 0 ((x0 >>> (24 &&& 31)) &&& 255)) 1 ((x0 >>> (16 &&& 31)) &&& 255)) 2 ((x0 >>> (8 &&& 31)) &&& 255)) 3 ((x0 >>> (0 &&& 31)) &&& 255)) 4 ((x1 >>> (24 &&& 31)) &&& 255)) 5 ((x1 >>> (16 &&& 31)) &&& 255)) 6 ((x1 >>> (8 &&& 31)) &&& 255)) 7 ((x1 >>> (0 &&& 31)) &&& 255))))]) hP hD [0, 1] [] rfl rfl (by decide) (by decide) hk1 hFc hP1 hD1
  clear hP1 hK1 hD1 hk1 hz1 hvm hPc hDc hFc
  generalize H1 = H at hP hS ⊢
  have hP : va_P (dC, dI) vwCl [((q 0), .inr (12, ((mo q).set 1 (.int 8)))), ((q 1), .inl (cI, 1800, .inl (upd (upd (upd (upd (upd (upd (upd (upd (fun _ => 0) 0 ((x0 >>> (24 &&& 31)) &&& 255)) 1 ((x0 >>> (16 &&& 31)) &&& 255)) 2 ((x0 >>> (8 &&& 31)) &&& 255)) 3 ((x0 >>> (0 &&& 31)) &&& 255)) 4 ((x1 >>> (24 &&& 31)) &&& 255)) 5 ((x1 >>> (16 &&& 31)) &&& 255)) 6 ((x1 >>> (8 &&& 31)) &&& 255)) 7 ((x1 >>> (0 &&& 31)) &&& 255))))] H := hP
  have hD : va_D A [((q 0), .inr (12, ((mo q).set 1 (.int 8)))), ((q 1), .inl (cI, 1800, .inl (upd (upd (upd (upd (upd (upd (upd (upd (fun _ => 0) 0 ((x0 >>> (24 &&& 31)) &&& 255)) 1 ((x0 >>> (16 &&& 31)) &&& 255)) 2 ((x0 >>> (8 &&& 31)) &&& 255)) 3 ((x0 >>> (0 &&& 31)) &&& 255)) 4 ((x1 >>> (24 &&& 31)) &&& 255)) 5 ((x1 >>> (16 &&& 31)) &&& 255)) 6 ((x1 >>> (8 &&& 31)) &&& 255)) 7 ((x1 >>> (0 &&& 31)) &&& 255))))] := hD
  refine lv_aload_n hx hb dX12_feed_29 rfl (lv_at hl 0 rfl) ?_
  refine lv_iload_n hx hb dX12_feed_30 rfl (lv_at hl 3 rfl) ?_
  have hPc := hP.sub (ws' := [((q 0), .inr (12, ((mo q).set 1 (.int 8)))), ((q 1), .inl (cI, 1800, .inl (upd (upd (upd (upd (upd (upd (upd (upd (fun _ => 0) 0 ((x0 >>> (24 &&& 31)) &&& 255)) 1 ((x0 >>> (16 &&& 31)) &&& 255)) 2 ((x0 >>> (8 &&& 31)) &&& 255)) 3 ((x0 >>> (0 &&& 31)) &&& 255)) 4 ((x1 >>> (24 &&& 31)) &&& 255)) 5 ((x1 >>> (16 &&& 31)) &&& 255)) 6 ((x1 >>> (8 &&& 31)) &&& 255)) 7 ((x1 >>> (0 &&& 31)) &&& 255))))]) [0, 1] rfl
  have hDc := hD.sub (ws' := [((q 0), .inr (12, ((mo q).set 1 (.int 8)))), ((q 1), .inl (cI, 1800, .inl (upd (upd (upd (upd (upd (upd (upd (upd (fun _ => 0) 0 ((x0 >>> (24 &&& 31)) &&& 255)) 1 ((x0 >>> (16 &&& 31)) &&& 255)) 2 ((x0 >>> (8 &&& 31)) &&& 255)) 3 ((x0 >>> (0 &&& 31)) &&& 255)) 4 ((x1 >>> (24 &&& 31)) &&& 255)) 5 ((x1 >>> (16 &&& 31)) &&& 255)) 6 ((x1 >>> (8 &&& 31)) &&& 255)) 7 ((x1 >>> (0 &&& 31)) &&& 255))))]) [0, 1] (by decide) rfl
  have hFc := va_free (wc := [((q 0), .inr (12, ((mo q).set 1 (.int 8)))), ((q 1), .inl (cI, 1800, .inl (upd (upd (upd (upd (upd (upd (upd (upd (fun _ => 0) 0 ((x0 >>> (24 &&& 31)) &&& 255)) 1 ((x0 >>> (16 &&& 31)) &&& 255)) 2 ((x0 >>> (8 &&& 31)) &&& 255)) 3 ((x0 >>> (0 &&& 31)) &&& 255)) 4 ((x1 >>> (24 &&& 31)) &&& 255)) 5 ((x1 >>> (16 &&& 31)) &&& 255)) 6 ((x1 >>> (8 &&& 31)) &&& 255)) 7 ((x1 >>> (0 &&& 31)) &&& 255))))]) hD hS hA [0, 1] rfl
  refine va_callv (va_runV (As := [.int x2]) (rest := []) ⟨hx, hb, hml, hown, hts⟩ (k_X12_put_87 l dC dI cB cI cJ cZ cQ H.size q x2 (upd (upd (upd (upd (upd (upd (upd (upd (fun _ => 0) 0 ((x0 >>> (24 &&& 31)) &&& 255)) 1 ((x0 >>> (16 &&& 31)) &&& 255)) 2 ((x0 >>> (8 &&& 31)) &&& 255)) 3 ((x0 >>> (0 &&& 31)) &&& 255)) 4 ((x1 >>> (24 &&& 31)) &&& 255)) 5 ((x1 >>> (16 &&& 31)) &&& 255)) 6 ((x1 >>> (8 &&& 31)) &&& 255)) 7 ((x1 >>> (0 &&& 31)) &&& 255))) (cwV 1 hts g_p_X12_feed_2 rfl rfl rfl (by decide +kernel) ⟨Nat.le_of_ble_eq_true rfl, Nat.le_of_ble_eq_true rfl⟩) ⟨fun a U g mk Z => by obtain ⟨q0, q1, qP, qK, qD⟩ := Z; exact ⟨q0, q1, qP, va_K.moved (u := U) (U := U.calling g mk a) (Vm.Alike.refl U.vm) qK, qD⟩, va_recv hK hPc (ci := 12) (q0 := 0) rfl rfl, fun U hU hW => ⟨rfl, by rw [hU], by rw [hU]; exact hPc, va_K.moved hW.alike hK, hDc.weaken (fun _ _ _ _ => trivial)⟩⟩ rfl rfl hl.1 rfl (lv_room (Nat.le_of_ble_eq_true rfl)) dX12_feed_31 ⟨Nat.le_of_ble_eq_true rfl, Nat.le_of_ble_eq_true rfl⟩) hS (fun b _ h => hFc b h) hFc (fun u5 t H1 locs ht hvm hw hB hz1 hk1 hS => ?_)
  obtain ⟨hP1, hK1, hD1⟩ := hB
  rw [ht] at hP1
  obtain ⟨hP, hD⟩ := va_join (wr := []) (w1 := [((q 0), .inr (12, ((mo q).set 1 (.int 12)))), ((q 1), .inl (cI, 1800, .inl (upd (upd (upd (upd (upd (upd (upd (upd (upd (upd (upd (upd (fun _ => 0) 0 ((x0 >>> (24 &&& 31)) &&& 255)) 1 ((x0 >>> (16 &&& 31)) &&& 255)) 2 ((x0 >>> (8 &&& 31)) &&& 255)) 3 ((x0 >>> (0 &&& 31)) &&& 255)) 4 ((x1 >>> (24 &&& 31)) &&& 255)) 5 ((x1 >>> (16 &&& 31)) &&& 255)) 6 ((x1 >>> (8 &&& 31)) &&& 255)) 7 ((x1 >>> (0 &&& 31)) &&& 255)) 8 ((x2 >>> (24 &&& 31)) &&& 255)) 9 ((x2 >>> (16 &&& 31)) &&& 255)) 10 ((x2 >>> (8 &&& 31)) &&& 255)) 11 ((x2 >>> (0 &&& 31)) &&& 255))))]) hP hD [0, 1] [] rfl rfl (by decide) (by decide) hk1 hFc hP1 hD1
  clear hP1 hK1 hD1 hk1 hz1 hvm hPc hDc hFc
  generalize H1 = H at hP hS ⊢
  have hP : va_P (dC, dI) vwCl [((q 0), .inr (12, ((mo q).set 1 (.int 12)))), ((q 1), .inl (cI, 1800, .inl (upd (upd (upd (upd (upd (upd (upd (upd (upd (upd (upd (upd (fun _ => 0) 0 ((x0 >>> (24 &&& 31)) &&& 255)) 1 ((x0 >>> (16 &&& 31)) &&& 255)) 2 ((x0 >>> (8 &&& 31)) &&& 255)) 3 ((x0 >>> (0 &&& 31)) &&& 255)) 4 ((x1 >>> (24 &&& 31)) &&& 255)) 5 ((x1 >>> (16 &&& 31)) &&& 255)) 6 ((x1 >>> (8 &&& 31)) &&& 255)) 7 ((x1 >>> (0 &&& 31)) &&& 255)) 8 ((x2 >>> (24 &&& 31)) &&& 255)) 9 ((x2 >>> (16 &&& 31)) &&& 255)) 10 ((x2 >>> (8 &&& 31)) &&& 255)) 11 ((x2 >>> (0 &&& 31)) &&& 255))))] H := hP
  have hD : va_D A [((q 0), .inr (12, ((mo q).set 1 (.int 12)))), ((q 1), .inl (cI, 1800, .inl (upd (upd (upd (upd (upd (upd (upd (upd (upd (upd (upd (upd (fun _ => 0) 0 ((x0 >>> (24 &&& 31)) &&& 255)) 1 ((x0 >>> (16 &&& 31)) &&& 255)) 2 ((x0 >>> (8 &&& 31)) &&& 255)) 3 ((x0 >>> (0 &&& 31)) &&& 255)) 4 ((x1 >>> (24 &&& 31)) &&& 255)) 5 ((x1 >>> (16 &&& 31)) &&& 255)) 6 ((x1 >>> (8 &&& 31)) &&& 255)) 7 ((x1 >>> (0 &&& 31)) &&& 255)) 8 ((x2 >>> (24 &&& 31)) &&& 255)) 9 ((x2 >>> (16 &&& 31)) &&& 255)) 10 ((x2 >>> (8 &&& 31)) &&& 255)) 11 ((x2 >>> (0 &&& 31)) &&& 255))))] := hD
  refine lv_aload_n hx hb dX12_feed_34 rfl (lv_at hl 0 rfl) ?_
  refine lv_iload hx hb dX12_feed_35 (lv_at hl 4 rfl) ?_
  have hPc := hP.sub (ws' := [((q 0), .inr (12, ((mo q).set 1 (.int 12)))), ((q 1), .inl (cI, 1800, .inl (upd (upd (upd (upd (upd (upd (upd (upd (upd (upd (upd (upd (fun _ => 0) 0 ((x0 >>> (24 &&& 31)) &&& 255)) 1 ((x0 >>> (16 &&& 31)) &&& 255)) 2 ((x0 >>> (8 &&& 31)) &&& 255)) 3 ((x0 >>> (0 &&& 31)) &&& 255)) 4 ((x1 >>> (24 &&& 31)) &&& 255)) 5 ((x1 >>> (16 &&& 31)) &&& 255)) 6 ((x1 >>> (8 &&& 31)) &&& 255)) 7 ((x1 >>> (0 &&& 31)) &&& 255)) 8 ((x2 >>> (24 &&& 31)) &&& 255)) 9 ((x2 >>> (16 &&& 31)) &&& 255)) 10 ((x2 >>> (8 &&& 31)) &&& 255)) 11 ((x2 >>> (0 &&& 31)) &&& 255))))]) [0, 1] rfl
  have hDc := hD.sub (ws' := [((q 0), .inr (12, ((mo q).set 1 (.int 12)))), ((q 1), .inl (cI, 1800, .inl (upd (upd (upd (upd (upd (upd (upd (upd (upd (upd (upd (upd (fun _ => 0) 0 ((x0 >>> (24 &&& 31)) &&& 255)) 1 ((x0 >>> (16 &&& 31)) &&& 255)) 2 ((x0 >>> (8 &&& 31)) &&& 255)) 3 ((x0 >>> (0 &&& 31)) &&& 255)) 4 ((x1 >>> (24 &&& 31)) &&& 255)) 5 ((x1 >>> (16 &&& 31)) &&& 255)) 6 ((x1 >>> (8 &&& 31)) &&& 255)) 7 ((x1 >>> (0 &&& 31)) &&& 255)) 8 ((x2 >>> (24 &&& 31)) &&& 255)) 9 ((x2 >>> (16 &&& 31)) &&& 255)) 10 ((x2 >>> (8 &&& 31)) &&& 255)) 11 ((x2 >>> (0 &&& 31)) &&& 255))))]) [0, 1] (by decide) rfl
  have hFc := va_free (wc := [((q 0), .inr (12, ((mo q).set 1 (.int 12)))), ((q 1), .inl (cI, 1800, .inl (upd (upd (upd (upd (upd (upd (upd (upd (upd (upd (upd (upd (fun _ => 0) 0 ((x0 >>> (24 &&& 31)) &&& 255)) 1 ((x0 >>> (16 &&& 31)) &&& 255)) 2 ((x0 >>> (8 &&& 31)) &&& 255)) 3 ((x0 >>> (0 &&& 31)) &&& 255)) 4 ((x1 >>> (24 &&& 31)) &&& 255)) 5 ((x1 >>> (16 &&& 31)) &&& 255)) 6 ((x1 >>> (8 &&& 31)) &&& 255)) 7 ((x1 >>> (0 &&& 31)) &&& 255)) 8 ((x2 >>> (24 &&& 31)) &&& 255)) 9 ((x2 >>> (16 &&& 31)) &&& 255)) 10 ((x2 >>> (8 &&& 31)) &&& 255)) 11 ((x2 >>> (0 &&& 31)) &&& 255))))]) hD hS hA [0, 1] rfl
  refine va_callv (va_runV (As := [.int x3]) (rest := []) ⟨hx, hb, hml, hown, hts⟩ (k_X12_put_88 l dC dI cB cI cJ cZ cQ H.size q x3 (upd (upd (upd (upd (upd (upd (upd (upd (upd (upd (upd (upd (fun _ => 0) 0 ((x0 >>> (24 &&& 31)) &&& 255)) 1 ((x0 >>> (16 &&& 31)) &&& 255)) 2 ((x0 >>> (8 &&& 31)) &&& 255)) 3 ((x0 >>> (0 &&& 31)) &&& 255)) 4 ((x1 >>> (24 &&& 31)) &&& 255)) 5 ((x1 >>> (16 &&& 31)) &&& 255)) 6 ((x1 >>> (8 &&& 31)) &&& 255)) 7 ((x1 >>> (0 &&& 31)) &&& 255)) 8 ((x2 >>> (24 &&& 31)) &&& 255)) 9 ((x2 >>> (16 &&& 31)) &&& 255)) 10 ((x2 >>> (8 &&& 31)) &&& 255)) 11 ((x2 >>> (0 &&& 31)) &&& 255))) (cwV 1 hts g_p_X12_feed_3 rfl rfl rfl (by decide +kernel) ⟨Nat.le_of_ble_eq_true rfl, Nat.le_of_ble_eq_true rfl⟩) ⟨fun a U g mk Z => by obtain ⟨q0, q1, qP, qK, qD⟩ := Z; exact ⟨q0, q1, qP, va_K.moved (u := U) (U := U.calling g mk a) (Vm.Alike.refl U.vm) qK, qD⟩, va_recv hK hPc (ci := 12) (q0 := 0) rfl rfl, fun U hU hW => ⟨rfl, by rw [hU], by rw [hU]; exact hPc, va_K.moved hW.alike hK, hDc.weaken (fun _ _ _ _ => trivial)⟩⟩ rfl rfl hl.1 rfl (lv_room (Nat.le_of_ble_eq_true rfl)) dX12_feed_37 ⟨Nat.le_of_ble_eq_true rfl, Nat.le_of_ble_eq_true rfl⟩) hS (fun b _ h => hFc b h) hFc (fun u7 t H1 locs ht hvm hw hB hz1 hk1 hS => ?_)
  obtain ⟨hP1, hK1, hD1⟩ := hB
  rw [ht] at hP1
  obtain ⟨hP, hD⟩ := va_join (wr := []) (w1 := [((q 0), .inr (12, ((mo q).set 1 (.int 16)))), ((q 1), .inl (cI, 1800, .inl (upd (upd (upd (upd (upd (upd (upd (upd (upd (upd (upd (upd (upd (upd (upd (upd (fun _ => 0) 0 ((x0 >>> (24 &&& 31)) &&& 255)) 1 ((x0 >>> (16 &&& 31)) &&& 255)) 2 ((x0 >>> (8 &&& 31)) &&& 255)) 3 ((x0 >>> (0 &&& 31)) &&& 255)) 4 ((x1 >>> (24 &&& 31)) &&& 255)) 5 ((x1 >>> (16 &&& 31)) &&& 255)) 6 ((x1 >>> (8 &&& 31)) &&& 255)) 7 ((x1 >>> (0 &&& 31)) &&& 255)) 8 ((x2 >>> (24 &&& 31)) &&& 255)) 9 ((x2 >>> (16 &&& 31)) &&& 255)) 10 ((x2 >>> (8 &&& 31)) &&& 255)) 11 ((x2 >>> (0 &&& 31)) &&& 255)) 12 ((x3 >>> (24 &&& 31)) &&& 255)) 13 ((x3 >>> (16 &&& 31)) &&& 255)) 14 ((x3 >>> (8 &&& 31)) &&& 255)) 15 ((x3 >>> (0 &&& 31)) &&& 255))))]) hP hD [0, 1] [] rfl rfl (by decide) (by decide) hk1 hFc hP1 hD1
  clear hP1 hK1 hD1 hk1 hz1 hvm hPc hDc hFc
  generalize H1 = H at hP hS ⊢
  have hP : va_P (dC, dI) vwCl [((q 0), .inr (12, ((mo q).set 1 (.int 16)))), ((q 1), .inl (cI, 1800, .inl (upd (upd (upd (upd (upd (upd (upd (upd (upd (upd (upd (upd (upd (upd (upd (upd (fun _ => 0) 0 ((x0 >>> (24 &&& 31)) &&& 255)) 1 ((x0 >>> (16 &&& 31)) &&& 255)) 2 ((x0 >>> (8 &&& 31)) &&& 255)) 3 ((x0 >>> (0 &&& 31)) &&& 255)) 4 ((x1 >>> (24 &&& 31)) &&& 255)) 5 ((x1 >>> (16 &&& 31)) &&& 255)) 6 ((x1 >>> (8 &&& 31)) &&& 255)) 7 ((x1 >>> (0 &&& 31)) &&& 255)) 8 ((x2 >>> (24 &&& 31)) &&& 255)) 9 ((x2 >>> (16 &&& 31)) &&& 255)) 10 ((x2 >>> (8 &&& 31)) &&& 255)) 11 ((x2 >>> (0 &&& 31)) &&& 255)) 12 ((x3 >>> (24 &&& 31)) &&& 255)) 13 ((x3 >>> (16 &&& 31)) &&& 255)) 14 ((x3 >>> (8 &&& 31)) &&& 255)) 15 ((x3 >>> (0 &&& 31)) &&& 255))))] H := hP
  have hD : va_D A [((q 0), .inr (12, ((mo q).set 1 (.int 16)))), ((q 1), .inl (cI, 1800, .inl (upd (upd (upd (upd (upd (upd (upd (upd (upd (upd (upd (upd (upd (upd (upd (upd (fun _ => 0) 0 ((x0 >>> (24 &&& 31)) &&& 255)) 1 ((x0 >>> (16 &&& 31)) &&& 255)) 2 ((x0 >>> (8 &&& 31)) &&& 255)) 3 ((x0 >>> (0 &&& 31)) &&& 255)) 4 ((x1 >>> (24 &&& 31)) &&& 255)) 5 ((x1 >>> (16 &&& 31)) &&& 255)) 6 ((x1 >>> (8 &&& 31)) &&& 255)) 7 ((x1 >>> (0 &&& 31)) &&& 255)) 8 ((x2 >>> (24 &&& 31)) &&& 255)) 9 ((x2 >>> (16 &&& 31)) &&& 255)) 10 ((x2 >>> (8 &&& 31)) &&& 255)) 11 ((x2 >>> (0 &&& 31)) &&& 255)) 12 ((x3 >>> (24 &&& 31)) &&& 255)) 13 ((x3 >>> (16 &&& 31)) &&& 255)) 14 ((x3 >>> (8 &&& 31)) &&& 255)) 15 ((x3 >>> (0 &&& 31)) &&& 255))))] := hD
  refine lv_aload_n hx hb dX12_feed_40 rfl (lv_at hl 0 rfl) ?_
  refine lv_iload hx hb dX12_feed_41 (lv_at hl 5 rfl) ?_
  have hPc := hP.sub (ws' := [((q 0), .inr (12, ((mo q).set 1 (.int 16)))), ((q 1), .inl (cI, 1800, .inl (upd (upd (upd (upd (upd (upd (upd (upd (upd (upd (upd (upd (upd (upd (upd (upd (fun _ => 0) 0 ((x0 >>> (24 &&& 31)) &&& 255)) 1 ((x0 >>> (16 &&& 31)) &&& 255)) 2 ((x0 >>> (8 &&& 31)) &&& 255)) 3 ((x0 >>> (0 &&& 31)) &&& 255)) 4 ((x1 >>> (24 &&& 31)) &&& 255)) 5 ((x1 >>> (16 &&& 31)) &&& 255)) 6 ((x1 >>> (8 &&& 31)) &&& 255)) 7 ((x1 >>> (0 &&& 31)) &&& 255)) 8 ((x2 >>> (24 &&& 31)) &&& 255)) 9 ((x2 >>> (16 &&& 31)) &&& 255)) 10 ((x2 >>> (8 &&& 31)) &&& 255)) 11 ((x2 >>> (0 &&& 31)) &&& 255)) 12 ((x3 >>> (24 &&& 31)) &&& 255)) 13 ((x3 >>> (16 &&& 31)) &&& 255)) 14 ((x3 >>> (8 &&& 31)) &&& 255)) 15 ((x3 >>> (0 &&& 31)) &&& 255))))]) [0, 1] rfl
  have hDc := hD.sub (ws' := [((q 0), .inr (12, ((mo q).set 1 (.int 16)))), ((q 1), .inl (cI, 1800, .inl (upd (upd (upd (upd (upd (upd (upd (upd (upd (upd (upd (upd (upd (upd (upd (upd (fun _ => 0) 0 ((x0 >>> (24 &&& 31)) &&& 255)) 1 ((x0 >>> (16 &&& 31)) &&& 255)) 2 ((x0 >>> (8 &&& 31)) &&& 255)) 3 ((x0 >>> (0 &&& 31)) &&& 255)) 4 ((x1 >>> (24 &&& 31)) &&& 255)) 5 ((x1 >>> (16 &&& 31)) &&& 255)) 6 ((x1 >>> (8 &&& 31)) &&& 255)) 7 ((x1 >>> (0 &&& 31)) &&& 255)) 8 ((x2 >>> (24 &&& 31)) &&& 255)) 9 ((x2 >>> (16 &&& 31)) &&& 255)) 10 ((x2 >>> (8 &&& 31)) &&& 255)) 11 ((x2 >>> (0 &&& 31)) &&& 255)) 12 ((x3 >>> (24 &&& 31)) &&& 255)) 13 ((x3 >>> (16 &&& 31)) &&& 255)) 14 ((x3 >>> (8 &&& 31)) &&& 255)) 15 ((x3 >>> (0 &&& 31)) &&& 255))))]) [0, 1] (by decide) rfl
  have hFc := va_free (wc := [((q 0), .inr (12, ((mo q).set 1 (.int 16)))), ((q 1), .inl (cI, 1800, .inl (upd (upd (upd (upd (upd (upd (upd (upd (upd (upd (upd (upd (upd (upd (upd (upd (fun _ => 0) 0 ((x0 >>> (24 &&& 31)) &&& 255)) 1 ((x0 >>> (16 &&& 31)) &&& 255)) 2 ((x0 >>> (8 &&& 31)) &&& 255)) 3 ((x0 >>> (0 &&& 31)) &&& 255)) 4 ((x1 >>> (24 &&& 31)) &&& 255)) 5 ((x1 >>> (16 &&& 31)) &&& 255)) 6 ((x1 >>> (8 &&& 31)) &&& 255)) 7 ((x1 >>> (0 &&& 31)) &&& 255)) 8 ((x2 >>> (24 &&& 31)) &&& 255)) 9 ((x2 >>> (16 &&& 31)) &&& 255)) 10 ((x2 >>> (8 &&& 31)) &&& 255)) 11 ((x2 >>> (0 &&& 31)) &&& 255)) 12 ((x3 >>> (24 &&& 31)) &&& 255)) 13 ((x3 >>> (16 &&& 31)) &&& 255)) 14 ((x3 >>> (8 &&& 31)) &&& 255)) 15 ((x3 >>> (0 &&& 31)) &&& 255))))]) hD hS hA [0, 1] rfl
  refine va_callv (va_runV (As := [.int x4]) (rest := []) ⟨hx, hb, hml, hown, hts⟩ (k_X12_put_89 l dC dI cB cI cJ cZ cQ H.size q x4 (upd (upd (upd (upd (upd (upd (upd (upd (upd (upd (upd (upd (upd (upd (upd (upd (fun _ => 0) 0 ((x0 >>> (24 &&& 31)) &&& 255)) 1 ((x0 >>> (16 &&& 31)) &&& 255)) 2 ((x0 >>> (8 &&& 31)) &&& 255)) 3 ((x0 >>> (0 &&& 31)) &&& 255)) 4 ((x1 >>> (24 &&& 31)) &&& 255)) 5 ((x1 >>> (16 &&& 31)) &&& 255)) 6 ((x1 >>> (8 &&& 31)) &&& 255)) 7 ((x1 >>> (0 &&& 31)) &&& 255)) 8 ((x2 >>> (24 &&& 31)) &&& 255)) 9 ((x2 >>> (16 &&& 31)) &&& 255)) 10 ((x2 >>> (8 &&& 31)) &&& 255)) 11 ((x2 >>> (0 &&& 31)) &&& 255)) 12 ((x3 >>> (24 &&& 31)) &&& 255)) 13 ((x3 >>> (16 &&& 31)) &&& 255)) 14 ((x3 >>> (8 &&& 31)) &&& 255)) 15 ((x3 >>> (0 &&& 31)) &&& 255))) (cwV 1 hts g_p_X12_feed_4 rfl rfl rfl (by decide +kernel) ⟨Nat.le_of_ble_eq_true rfl, Nat.le_of_ble_eq_true rfl⟩) ⟨fun a U g mk Z => by obtain ⟨q0, q1, qP, qK, qD⟩ := Z; exact ⟨q0, q1, qP, va_K.moved (u := U) (U := U.calling g mk a) (Vm.Alike.refl U.vm) qK, qD⟩, va_recv hK hPc (ci := 12) (q0 := 0) rfl rfl, fun U hU hW => ⟨rfl, by rw [hU], by rw [hU]; exact hPc, va_K.moved hW.alike hK, hDc.weaken (fun _ _ _ _ => trivial)⟩⟩ rfl rfl hl.1 rfl (lv_room (Nat.le_of_ble_eq_true rfl)) dX12_feed_43 ⟨Nat.le_of_ble_eq_true rfl, Nat.le_of_ble_eq_true rfl⟩) hS (fun b _ h => hFc b h) hFc (fun u9 t H1 locs ht hvm hw hB hz1 hk1 hS => ?_)
  obtain ⟨hP1, hK1, hD1⟩ := hB
  rw [ht] at hP1
  obtain ⟨hP, hD⟩ := va_join (wr := []) (w1 := [((q 0), .inr (12, ((mo q).set 1 (.int 20)))), ((q 1), .inl (cI, 1800, .inl (upd (upd (upd (upd (upd (upd (upd (upd (upd (upd (upd (upd (upd (upd (upd (upd (upd (upd (upd (upd (fun _ => 0) 0 ((x0 >>> (24 &&& 31)) &&& 255)) 1 ((x0 >>> (16 &&& 31)) &&& 255)) 2 ((x0 >>> (8 &&& 31)) &&& 255)) 3 ((x0 >>> (0 &&& 31)) &&& 255)) 4 ((x1 >>> (24 &&& 31)) &&& 255)) 5 ((x1 >>> (16 &&& 31)) &&& 255)) 6 ((x1 >>> (8 &&& 31)) &&& 255)) 7 ((x1 >>> (0 &&& 31)) &&& 255)) 8 ((x2 >>> (24 &&& 31)) &&& 255)) 9 ((x2 >>> (16 &&& 31)) &&& 255)) 10 ((x2 >>> (8 &&& 31)) &&& 255)) 11 ((x2 >>> (0 &&& 31)) &&& 255)) 12 ((x3 >>> (24 &&& 31)) &&& 255)) 13 ((x3 >>> (16 &&& 31)) &&& 255)) 14 ((x3 >>> (8 &&& 31)) &&& 255)) 15 ((x3 >>> (0 &&& 31)) &&& 255)) 16 ((x4 >>> (24 &&& 31)) &&& 255)) 17 ((x4 >>> (16 &&& 31)) &&& 255)) 18 ((x4 >>> (8 &&& 31)) &&& 255)) 19 ((x4 >>> (0 &&& 31)) &&& 255))))]) hP hD [0, 1] [] rfl rfl (by decide) (by decide) hk1 hFc hP1 hD1
  clear hP1 hK1 hD1 hk1 hz1 hvm hPc hDc hFc
  generalize H1 = H at hP hS ⊢
  have hP : va_P (dC, dI) vwCl [((q 0), .inr (12, ((mo q).set 1 (.int 20)))), ((q 1), .inl (cI, 1800, .inl (upd (upd (upd (upd (upd (upd (upd (upd (upd (upd (upd (upd (upd (upd (upd (upd (upd (upd (upd (upd (fun _ => 0) 0 ((x0 >>> (24 &&& 31)) &&& 255)) 1 ((x0 >>> (16 &&& 31)) &&& 255)) 2 ((x0 >>> (8 &&& 31)) &&& 255)) 3 ((x0 >>> (0 &&& 31)) &&& 255)) 4 ((x1 >>> (24 &&& 31)) &&& 255)) 5 ((x1 >>> (16 &&& 31)) &&& 255)) 6 ((x1 >>> (8 &&& 31)) &&& 255)) 7 ((x1 >>> (0 &&& 31)) &&& 255)) 8 ((x2 >>> (24 &&& 31)) &&& 255)) 9 ((x2 >>> (16 &&& 31)) &&& 255)) 10 ((x2 >>> (8 &&& 31)) &&& 255)) 11 ((x2 >>> (0 &&& 31)) &&& 255)) 12 ((x3 >>> (24 &&& 31)) &&& 255)) 13 ((x3 >>> (16 &&& 31)) &&& 255)) 14 ((x3 >>> (8 &&& 31)) &&& 255)) 15 ((x3 >>> (0 &&& 31)) &&& 255)) 16 ((x4 >>> (24 &&& 31)) &&& 255)) 17 ((x4 >>> (16 &&& 31)) &&& 255)) 18 ((x4 >>> (8 &&& 31)) &&& 255)) 19 ((x4 >>> (0 &&& 31)) &&& 255))))] H := hP
  have hD : va_D A [((q 0), .inr (12, ((mo q).set 1 (.int 20)))), ((q 1), .inl (cI, 1800, .inl (upd (upd (upd (upd (upd (upd (upd (upd (upd (upd (upd (upd (upd (upd (upd (upd (upd (upd (upd (upd (fun _ => 0) 0 ((x0 >>> (24 &&& 31)) &&& 255)) 1 ((x0 >>> (16 &&& 31)) &&& 255)) 2 ((x0 >>> (8 &&& 31)) &&& 255)) 3 ((x0 >>> (0 &&& 31)) &&& 255)) 4 ((x1 >>> (24 &&& 31)) &&& 255)) 5 ((x1 >>> (16 &&& 31)) &&& 255)) 6 ((x1 >>> (8 &&& 31)) &&& 255)) 7 ((x1 >>> (0 &&& 31)) &&& 255)) 8 ((x2 >>> (24 &&& 31)) &&& 255)) 9 ((x2 >>> (16 &&& 31)) &&& 255)) 10 ((x2 >>> (8 &&& 31)) &&& 255)) 11 ((x2 >>> (0 &&& 31)) &&& 255)) 12 ((x3 >>> (24 &&& 31)) &&& 255)) 13 ((x3 >>> (16 &&& 31)) &&& 255)) 14 ((x3 >>> (8 &&& 31)) &&& 255)) 15 ((x3 >>> (0 &&& 31)) &&& 255)) 16 ((x4 >>> (24 &&& 31)) &&& 255)) 17 ((x4 >>> (16 &&& 31)) &&& 255)) 18 ((x4 >>> (8 &&& 31)) &&& 255)) 19 ((x4 >>> (0 &&& 31)) &&& 255))))] := hD
  refine lv_aload_n hx hb dX12_feed_46 rfl (lv_at hl 0 rfl) ?_
  refine va_get (D := (dC, dI)) (ci := 12) (v := .int 20) (C := RX12) (T := TX12) (N := 85) hx hb hts hiX12 hown hK hP 0 rfl rfl 1 (by decide) (hts _ (List.mem_of_getElem? (i := 1) rfl)) (fun _ h9 => h9) rfl dX12_feed_47 ?_
  exact W.iret (v := 20) hx hb hr (fun t ht hW => ⟨⟨20, (), rfl, rfl, trivial⟩, hS.F ht⟩) hS.2.2 dX12_feed_50
