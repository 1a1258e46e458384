def ws_k_X7_hasRoom_1 : List Cond := .code yX7_hasRoom cX7_hasRoom 1 (some .boolean) :: ([.fieldLink RX7 15 "StackKeys$Tape" "size" "I"] ++ wsX70)
set_option maxHeartbeats 4000000 in
set_option maxRecDepth 100000 in
theorem k_X7_hasRoom_1 (l : Launch) (dC : Nat → ClassId) (dI : Nat → Nat → Nat) (cB cI cJ cZ cQ : ClassId) (sz : Nat) (a0 a1 : Nat) : Met l yX7_hasRoom ws_k_X7_hasRoom_1 ({ frames := 0, cells := 0, slots := 0, locals := 0 }) (va_Pc [.ref a0] (fun U => U.heap.size = sz ∧ va_P (dC, dI) vwCl [(a0, .inr (7, [.ref a1, .int 0]))] U.heap ∧ va_K (dC, dI) vwCl (tyA cB cI cJ cZ cQ) U ∧ va_D (fun _ => True) [(a0, .inr (7, [.ref a1, .int 0]))])) (va_Qi (fun (r : Int32) (_ : Unit) => r = 1) (fun (u : Unit) t => va_P (dC, dI) vwCl [(a0, .inr (7, [.ref a1, .int 0]))] t.heap ∧ va_K (dC, dI) vwCl (tyA cB cI cJ cZ cQ) t ∧ va_D (va_A [(a0, .inr (7, [.ref a1, .int 0]))] sz) [(a0, .inr (7, [.ref a1, .int 0]))]) (va_A [(a0, .inr (7, [.ref a1, .int 0]))] sz)) 0 0 (va_A [(a0, .inr (7, [.ref a1, .int 0]))] sz) := by
  refine Met.ofW (cc := cX7_hasRoom) (maxL := 1) (ret := (some .boolean)) (by decide +kernel) rfl ?_
  intro p e s m args below meth c s₁ B hml hv
  obtain ⟨rfl, hsz, hP, hK, hD0⟩ := hv
  have hx := B.exec
  have hb := B.bytes
  have hr := B.returns
  have hts := atoms_spec (ws := ws_k_X7_hasRoom_1) B.pre
  have hown : s.vm.findClass RX7 = some m.cls := findClass_of_methodNamed B.named
  have hiX7 : ∀ w ∈ u_ws RX7 TX7 2, w ∈ ws_k_X7_hasRoom_1 := fun w h => List.mem_cons_of_mem _ (List.mem_append_right _ h)
  subst hsz
  have hD := hD0.self (sz := s.heap.size)
  generalize hAe : va_A [(a0, .inr (7, [.ref a1, .int 0]))] s.heap.size = A at hD ⊢
  have hA : ∀ b : Nat, s.heap.size ≤ b → A b := fun b h => by rw [← hAe]; exact Or.inr h
  clear hD0 hAe
  have hS : va_S A s.heap s.heap [] := va_S.rf
  have hl := lv_entry ([.ref a0]) (n := 1) (Nat.le_of_ble_eq_true rfl)
  rw [lg_entry_eq]
  generalize (lg_sl ([.ref a0]) ++ List.replicate (1 - (lg_sl ([.ref a0])).length) Slot.unset).toArray = ls at hl ⊢
  have hl : lv_has ls 1 [(0, .ref a0)] := hl
  obtain ⟨H, hHe⟩ : ∃ H : Heap, H = s.heap := ⟨_, rfl⟩
  rw [← hHe] at hP
  have hS : va_S A s.heap H [] := by rw [hHe]; exact hS
  rw [← hHe]
  refine lv_aload_n hx hb dX7_hasRoom_0 rfl (lv_at hl 0 rfl) ?_
  refine va_get (D := (dC, dI)) (ci := 7) (v := .int 0) (C := RX7) (T := TX7) (N := 2) hx hb hts hiX7 hown hK hP 0 rfl rfl 1 (by decide) (hts _ (List.mem_of_getElem? (i := 1) rfl)) (fun _ h9 => h9) rfl dX7_hasRoom_1 ?_
  refine lv_bipush (v := 20) hx hb dX7_hasRoom_4 (by decide +kernel) ?_
  refine lv_iadd hx hb dX7_hasRoom_6 ?_
  refine tp_i (y := 20) (by decide +kernel) ?_
  refine lv_sipush (v := 1600) hx hb dX7_hasRoom_7 (by decide +kernel) ?_
  refine lv_icmp_gt (tgt := 17) hx hb dX7_hasRoom_10 (by decide) (fun c => absurd c (by decide +kernel)) (fun _ => ?_)
  refine lv_iconst (v := 1) hx hb dX7_hasRoom_13 (by decide +kernel) ?_
  refine lv_goto (tgt := 18) hx hb dX7_hasRoom_14 (by decide) ?_
  have hP9 := hP.sub (ws' := [(a0, .inr (7, [.ref a1, .int 0]))]) [0] rfl
  have hD9 := hD.sub (ws' := [(a0, .inr (7, [.ref a1, .int 0]))]) [0] (by decide) rfl
  exact W.zret (v := 1) hx hb hr (by decide +kernel) (fun t ht hW => ⟨⟨1, (), rfl, rfl, by rw [ht]; exact hP9, va_K.moved hW.alike hK, hD9⟩, hS.F ht⟩) hS.2.2 dX7_hasRoom_18
def ws_k_X7_put_2 : List Cond := .code yX7_put cX7_put 3 none :: ([.fieldLink RX7 15 "StackKeys$Tape" "size" "I", .fieldLink RX7 9 "StackKeys$Tape" "bytes" "[B"] ++ wsX70)
set_option maxHeartbeats 4000000 in
set_option maxRecDepth 100000 in
theorem k_X7_put_2 (l : Launch) (dC : Nat → ClassId) (dI : Nat → Nat → Nat) (cB cI cJ cZ cQ : ClassId) (sz : Nat) (a0 a1 : Nat) (x0 : Int32) (f0 : Nat → Int32) : Met l yX7_put ws_k_X7_put_2 ({ frames := 0, cells := 0, slots := 0, locals := 0 }) (va_Pc [.ref a0, .int x0] (fun U => U.heap.size = sz ∧ va_P (dC, dI) vwCl [(a0, .inr (7, [.ref a1, .int 0])), (a1, .inl (cB, 1600, .inl f0))] U.heap ∧ va_K (dC, dI) vwCl (tyA cB cI cJ cZ cQ) U ∧ va_D (fun _ => True) [(a0, .inr (7, [.ref a1, .int 0])), (a1, .inl (cB, 1600, .inl f0))])) (va_Qv (fun _ : Unit => True) (fun (u : Unit) t => va_P (dC, dI) vwCl [(a0, .inr (7, [.ref a1, .int 4])), (a1, .inl (cB, 1600, .inl (upd (upd (upd (upd f0 0 (vp_nar .byte ((x0 >>> (24 &&& 31)).toInt8.toInt32))) 1 (vp_nar .byte ((x0 >>> (16 &&& 31)).toInt8.toInt32))) 2 (vp_nar .byte ((x0 >>> (8 &&& 31)).toInt8.toInt32))) 3 (vp_nar .byte ((x0 >>> (0 &&& 31)).toInt8.toInt32)))))] t.heap ∧ va_K (dC, dI) vwCl (tyA cB cI cJ cZ cQ) t ∧ va_D (va_A [(a0, .inr (7, [.ref a1, .int 0])), (a1, .inl (cB, 1600, .inl f0))] sz) [(a0, .inr (7, [.ref a1, .int 4])), (a1, .inl (cB, 1600, .inl (upd (upd (upd (upd f0 0 (vp_nar .byte ((x0 >>> (24 &&& 31)).toInt8.toInt32))) 1 (vp_nar .byte ((x0 >>> (16 &&& 31)).toInt8.toInt32))) 2 (vp_nar .byte ((x0 >>> (8 &&& 31)).toInt8.toInt32))) 3 (vp_nar .byte ((x0 >>> (0 &&& 31)).toInt8.toInt32)))))]) (va_A [(a0, .inr (7, [.ref a1, .int 0])), (a1, .inl (cB, 1600, .inl f0))] sz)) 0 0 (va_A [(a0, .inr (7, [.ref a1, .int 0])), (a1, .inl (cB, 1600, .inl f0))] sz) := by
  refine Met.ofW (cc := cX7_put) (maxL := 3) (ret := none) (by decide +kernel) rfl ?_
  intro p e s m args below meth c s₁ B hml hv
  obtain ⟨rfl, hsz, hP, hK, hD0⟩ := hv
  have hx := B.exec
  have hb := B.bytes
  have hr := B.returns
  have hts := atoms_spec (ws := ws_k_X7_put_2) B.pre
  have hown : s.vm.findClass RX7 = some m.cls := findClass_of_methodNamed B.named
  have hiX7 : ∀ w ∈ u_ws RX7 TX7 2, w ∈ ws_k_X7_put_2 := fun w h => List.mem_cons_of_mem _ (List.mem_append_right _ h)
  subst hsz
  have hD := hD0.self (sz := s.heap.size)
  generalize hAe : va_A [(a0, .inr (7, [.ref a1, .int 0])), (a1, .inl (cB, 1600, .inl f0))] s.heap.size = A at hD ⊢
  have hA : ∀ b : Nat, s.heap.size ≤ b → A b := fun b h => by rw [← hAe]; exact Or.inr h
  clear hD0 hAe
  have hS : va_S A s.heap s.heap [] := va_S.rf
  have hl := lv_entry ([.ref a0, .int x0]) (n := 3) (Nat.le_of_ble_eq_true rfl)
  rw [lg_entry_eq]
  generalize (lg_sl ([.ref a0, .int x0]) ++ List.replicate (3 - (lg_sl ([.ref a0, .int x0])).length) Slot.unset).toArray = ls at hl ⊢
  have hl : lv_has ls 3 [(0, .ref a0), (1, .int x0)] := hl
  obtain ⟨H, hHe⟩ : ∃ H : Heap, H = s.heap := ⟨_, rfl⟩
  rw [← hHe] at hP
  have hS : va_S A s.heap H [] := by rw [hHe]; exact hS
  rw [← hHe]
  refine lv_bipush (v := 24) hx hb dX7_put_0 (by decide +kernel) ?_
  refine lv_istore_n (lv' := [(2, .int 24), (0, .ref a0), (1, .int x0)]) hx hb dX7_put_2 rfl hl (by decide) rfl (fun ls hl => ?_)
  refine lv_iload_n hx hb dX7_put_3 rfl (lv_at hl 0 rfl) ?_
  refine lv_if_lt (tgt := 53) hx hb dX7_put_4 (by decide) (fun c => absurd c (by decide +kernel)) (fun _ => ?_)
  refine lv_aload_n hx hb dX7_put_7 rfl (lv_at hl 1 rfl) ?_
  refine va_get (D := (dC, dI)) (ci := 7) (v := .int 0) (C := RX7) (T := TX7) (N := 2) hx hb hts hiX7 hown hK hP 0 rfl rfl 1 (by decide) (hts _ (List.mem_of_getElem? (i := 1) rfl)) (fun _ h9 => h9) rfl dX7_put_8 ?_
  refine lv_if_lt (tgt := 47) hx hb dX7_put_11 (by decide) (fun c => absurd c (by decide +kernel)) (fun _ => ?_)
  refine lv_aload_n hx hb dX7_put_14 rfl (lv_at hl 1 rfl) ?_
  refine va_get (D := (dC, dI)) (ci := 7) (v := .int 0) (C := RX7) (T := TX7) (N := 2) hx hb hts hiX7 hown hK hP 0 rfl rfl 1 (by decide) (hts _ (List.mem_of_getElem? (i := 1) rfl)) (fun _ h9 => h9) rfl dX7_put_15 ?_
  refine lv_sipush (v := 1600) hx hb dX7_put_18 (by decide +kernel) ?_
  refine lv_icmp_ge (tgt := 47) hx hb dX7_put_21 (by decide) (fun c => absurd c (by decide +kernel)) (fun _ => ?_)
  refine lv_aload_n hx hb dX7_put_24 rfl (lv_at hl 1 rfl) ?_
  refine va_get (D := (dC, dI)) (ci := 7) (v := .ref a1) (C := RX7) (T := TX7) (N := 2) hx hb hts hiX7 hown hK hP 0 rfl rfl 0 (by decide) (hts _ (List.mem_of_getElem? (i := 2) rfl)) (fun _ h9 => h9) rfl dX7_put_25 ?_
  refine lv_aload_n hx hb dX7_put_28 rfl (lv_at hl 1 rfl) ?_
  refine va_get (D := (dC, dI)) (ci := 7) (v := .int 0) (C := RX7) (T := TX7) (N := 2) hx hb hts hiX7 hown hK hP 0 rfl rfl 1 (by decide) (hts _ (List.mem_of_getElem? (i := 1) rfl)) (fun _ h9 => h9) rfl dX7_put_29 ?_
  refine lv_iload_n hx hb dX7_put_32 rfl (lv_at hl 2 rfl) ?_
  refine lv_iload_n hx hb dX7_put_33 rfl (lv_at hl 0 rfl) ?_
  refine lv_ishr hx hb dX7_put_34 ?_
  refine lv_i2b (v := (x0 >>> (24 &&& 31)).toInt8.toInt32) hx hb dX7_put_35 rfl ?_
  refine va_bast hx hb hK hP hD hS 1 0 rfl rfl (vpc _ _ (by decide +kernel)) dX7_put_36 (fun H locs hP hD hS => ?_)
  have hP : va_P (dC, dI) vwCl [(a0, .inr (7, [.ref a1, .int 0])), (a1, .inl (cB, 1600, .inl (upd f0 0 (vp_nar .byte ((x0 >>> (24 &&& 31)).toInt8.toInt32)))))] H := hP
  have hD : va_D A [(a0, .inr (7, [.ref a1, .int 0])), (a1, .inl (cB, 1600, .inl (upd f0 0 (vp_nar .byte ((x0 >>> (24 &&& 31)).toInt8.toInt32)))))] := hD
  refine lv_aload_n hx hb dX7_put_37 rfl (lv_at hl 1 rfl) ?_
  refine lv_dup hx hb dX7_put_38 rfl ?_
  refine va_get (D := (dC, dI)) (ci := 7) (v := .int 0) (C := RX7) (T := TX7) (N := 2) hx hb hts hiX7 hown hK hP 0 rfl rfl 1 (by decide) (hts _ (List.mem_of_getElem? (i := 1) rfl)) (fun _ h9 => h9) rfl dX7_put_39 ?_
  refine lv_iconst (v := 1) hx hb dX7_put_42 (by decide +kernel) ?_
  refine lv_iadd hx hb dX7_put_43 ?_
  refine tp_i (y := 1) (by decide +kernel) ?_
  refine va_put (D := (dC, dI)) (ci := 7) (v := .int 1) (ty := .int) (C := RX7) (T := TX7) (N := 2) hx hb hts hiX7 tyX7 tyX7_ok nmX7 hown hK hP hD hS 0 rfl rfl 1 (by decide) (hts _ (List.mem_of_getElem? (i := 1) rfl)) (fun _ h9 => h9) rfl (by decide +kernel) rfl rfl (Nat.le_of_ble_eq_true rfl) dX7_put_44 (fun H locs hP hD hS => ?_)
  have hP : va_P (dC, dI) vwCl [(a0, .inr (7, [.ref a1, .int 1])), (a1, .inl (cB, 1600, .inl (upd f0 0 (vp_nar .byte ((x0 >>> (24 &&& 31)).toInt8.toInt32)))))] H := hP
  have hD : va_D A [(a0, .inr (7, [.ref a1, .int 1])), (a1, .inl (cB, 1600, .inl (upd f0 0 (vp_nar .byte ((x0 >>> (24 &&& 31)).toInt8.toInt32)))))] := hD
  refine lv_iinc (v := 16) (lv' := [(2, .int 16), (0, .ref a0), (1, .int x0)]) hx hb dX7_put_47 hl (k := 0) rfl (by decide +kernel) (by decide) rfl (fun ls hl => ?_)
  refine lv_goto (tgt := 3) hx hb dX7_put_50 (by decide) ?_
  refine lv_iload_n hx hb dX7_put_3 rfl (lv_at hl 0 rfl) ?_
  refine lv_if_lt (tgt := 53) hx hb dX7_put_4 (by decide) (fun c => absurd c (by decide +kernel)) (fun _ => ?_)
  refine lv_aload_n hx hb dX7_put_7 rfl (lv_at hl 1 rfl) ?_
  refine va_get (D := (dC, dI)) (ci := 7) (v := .int 1) (C := RX7) (T := TX7) (N := 2) hx hb hts hiX7 hown hK hP 0 rfl rfl 1 (by decide) (hts _ (List.mem_of_getElem? (i := 1) rfl)) (fun _ h9 => h9) rfl dX7_put_8 ?_
  refine lv_if_lt (tgt := 47) hx hb dX7_put_11 (by decide) (fun c => absurd c (by decide +kernel)) (fun _ => ?_)
  refine lv_aload_n hx hb dX7_put_14 rfl (lv_at hl 1 rfl) ?_
  refine va_get (D := (dC, dI)) (ci := 7) (v := .int 1) (C := RX7) (T := TX7) (N := 2) hx hb hts hiX7 hown hK hP 0 rfl rfl 1 (by decide) (hts _ (List.mem_of_getElem? (i := 1) rfl)) (fun _ h9 => h9) rfl dX7_put_15 ?_
  refine lv_sipush (v := 1600) hx hb dX7_put_18 (by decide +kernel) ?_
  refine lv_icmp_ge (tgt := 47) hx hb dX7_put_21 (by decide) (fun c => absurd c (by decide +kernel)) (fun _ => ?_)
  refine lv_aload_n hx hb dX7_put_24 rfl (lv_at hl 1 rfl) ?_
  refine va_get (D := (dC, dI)) (ci := 7) (v := .ref a1) (C := RX7) (T := TX7) (N := 2) hx hb hts hiX7 hown hK hP 0 rfl rfl 0 (by decide) (hts _ (List.mem_of_getElem? (i := 2) rfl)) (fun _ h9 => h9) rfl dX7_put_25 ?_
  refine lv_aload_n hx hb dX7_put_28 rfl (lv_at hl 1 rfl) ?_
  refine va_get (D := (dC, dI)) (ci := 7) (v := .int 1) (C := RX7) (T := TX7) (N := 2) hx hb hts hiX7 hown hK hP 0 rfl rfl 1 (by decide) (hts _ (List.mem_of_getElem? (i := 1) rfl)) (fun _ h9 => h9) rfl dX7_put_29 ?_
  refine lv_iload_n hx hb dX7_put_32 rfl (lv_at hl 2 rfl) ?_
  refine lv_iload_n hx hb dX7_put_33 rfl (lv_at hl 0 rfl) ?_
  refine lv_ishr hx hb dX7_put_34 ?_
  refine lv_i2b (v := (x0 >>> (16 &&& 31)).toInt8.toInt32) hx hb dX7_put_35 rfl ?_
  refine va_bast hx hb hK hP hD hS 1 0 rfl rfl (vpc _ _ (by decide +kernel)) dX7_put_36 (fun H locs hP hD hS => ?_)
  have hP : va_P (dC, dI) vwCl [(a0, .inr (7, [.ref a1, .int 1])), (a1, .inl (cB, 1600, .inl (upd (upd f0 0 (vp_nar .byte ((x0 >>> (24 &&& 31)).toInt8.toInt32))) 1 (vp_nar .byte ((x0 >>> (16 &&& 31)).toInt8.toInt32)))))] H := hP
  have hD : va_D A [(a0, .inr (7, [.ref a1, .int 1])), (a1, .inl (cB, 1600, .inl (upd (upd f0 0 (vp_nar .byte ((x0 >>> (24 &&& 31)).toInt8.toInt32))) 1 (vp_nar .byte ((x0 >>> (16 &&& 31)).toInt8.toInt32)))))] := hD
  refine lv_aload_n hx hb dX7_put_37 rfl (lv_at hl 1 rfl) ?_
  refine lv_dup hx hb dX7_put_38 rfl ?_
  refine va_get (D := (dC, dI)) (ci := 7) (v := .int 1) (C := RX7) (T := TX7) (N := 2) hx hb hts hiX7 hown hK hP 0 rfl rfl 1 (by decide) (hts _ (List.mem_of_getElem? (i := 1) rfl)) (fun _ h9 => h9) rfl dX7_put_39 ?_
  refine lv_iconst (v := 1) hx hb dX7_put_42 (by decide +kernel) ?_
  refine lv_iadd hx hb dX7_put_43 ?_
  refine tp_i (y := 2) (by decide +kernel) ?_
  refine va_put (D := (dC, dI)) (ci := 7) (v := .int 2) (ty := .int) (C := RX7) (T := TX7) (N := 2) hx hb hts hiX7 tyX7 tyX7_ok nmX7 hown hK hP hD hS 0 rfl rfl 1 (by decide) (hts _ (List.mem_of_getElem? (i := 1) rfl)) (fun _ h9 => h9) rfl (by decide +kernel) rfl rfl (Nat.le_of_ble_eq_true rfl) dX7_put_44 (fun H locs hP hD hS => ?_)
  have hP : va_P (dC, dI) vwCl [(a0, .inr (7, [.ref a1, .int 2])), (a1, .inl (cB, 1600, .inl (upd (upd f0 0 (vp_nar .byte ((x0 >>> (24 &&& 31)).toInt8.toInt32))) 1 (vp_nar .byte ((x0 >>> (16 &&& 31)).toInt8.toInt32)))))] H := hP
  have hD : va_D A [(a0, .inr (7, [.ref a1, .int 2])), (a1, .inl (cB, 1600, .inl (upd (upd f0 0 (vp_nar .byte ((x0 >>> (24 &&& 31)).toInt8.toInt32))) 1 (vp_nar .byte ((x0 >>> (16 &&& 31)).toInt8.toInt32)))))] := hD
  refine lv_iinc (v := 8) (lv' := [(2, .int 8), (0, .ref a0), (1, .int x0)]) hx hb dX7_put_47 hl (k := 0) rfl (by decide +kernel) (by decide) rfl (fun ls hl => ?_)
  refine lv_goto (tgt := 3) hx hb dX7_put_50 (by decide) ?_
  refine lv_iload_n hx hb dX7_put_3 rfl (lv_at hl 0 rfl) ?_
  refine lv_if_lt (tgt := 53) hx hb dX7_put_4 (by decide) (fun c => absurd c (by decide +kernel)) (fun _ => ?_)
  refine lv_aload_n hx hb dX7_put_7 rfl (lv_at hl 1 rfl) ?_
  refine va_get (D := (dC, dI)) (ci := 7) (v := .int 2) (C := RX7) (T := TX7) (N := 2) hx hb hts hiX7 hown hK hP 0 rfl rfl 1 (by decide) (hts _ (List.mem_of_getElem? (i := 1) rfl)) (fun _ h9 => h9) rfl dX7_put_8 ?_
  refine lv_if_lt (tgt := 47) hx hb dX7_put_11 (by decide) (fun c => absurd c (by decide +kernel)) (fun _ => ?_)
  refine lv_aload_n hx hb dX7_put_14 rfl (lv_at hl 1 rfl) ?_
  refine va_get (D := (dC, dI)) (ci := 7) (v := .int 2) (C := RX7) (T := TX7) (N := 2) hx hb hts hiX7 hown hK hP 0 rfl rfl 1 (by decide) (hts _ (List.mem_of_getElem? (i := 1) rfl)) (fun _ h9 => h9) rfl dX7_put_15 ?_
  refine lv_sipush (v := 1600) hx hb dX7_put_18 (by decide +kernel) ?_
  refine lv_icmp_ge (tgt := 47) hx hb dX7_put_21 (by decide) (fun c => absurd c (by decide +kernel)) (fun _ => ?_)
  refine lv_aload_n hx hb dX7_put_24 rfl (lv_at hl 1 rfl) ?_
  refine va_get (D := (dC, dI)) (ci := 7) (v := .ref a1) (C := RX7) (T := TX7) (N := 2) hx hb hts hiX7 hown hK hP 0 rfl rfl 0 (by decide) (hts _ (List.mem_of_getElem? (i := 2) rfl)) (fun _ h9 => h9) rfl dX7_put_25 ?_
  refine lv_aload_n hx hb dX7_put_28 rfl (lv_at hl 1 rfl) ?_
  refine va_get (D := (dC, dI)) (ci := 7) (v := .int 2) (C := RX7) (T := TX7) (N := 2) hx hb hts hiX7 hown hK hP 0 rfl rfl 1 (by decide) (hts _ (List.mem_of_getElem? (i := 1) rfl)) (fun _ h9 => h9) rfl dX7_put_29 ?_
  refine lv_iload_n hx hb dX7_put_32 rfl (lv_at hl 2 rfl) ?_
  refine lv_iload_n hx hb dX7_put_33 rfl (lv_at hl 0 rfl) ?_
  refine lv_ishr hx hb dX7_put_34 ?_
  refine lv_i2b (v := (x0 >>> (8 &&& 31)).toInt8.toInt32) hx hb dX7_put_35 rfl ?_
  refine va_bast hx hb hK hP hD hS 1 0 rfl rfl (vpc _ _ (by decide +kernel)) dX7_put_36 (fun H locs hP hD hS => ?_)
  have hP : va_P (dC, dI) vwCl [(a0, .inr (7, [.ref a1, .int 2])), (a1, .inl (cB, 1600, .inl (upd (upd (upd f0 0 (vp_nar .byte ((x0 >>> (24 &&& 31)).toInt8.toInt32))) 1 (vp_nar .byte ((x0 >>> (16 &&& 31)).toInt8.toInt32))) 2 (vp_nar .byte ((x0 >>> (8 &&& 31)).toInt8.toInt32)))))] H := hP
  have hD : va_D A [(a0, .inr (7, [.ref a1, .int 2])), (a1, .inl (cB, 1600, .inl (upd (upd (upd f0 0 (vp_nar .byte ((x0 >>> (24 &&& 31)).toInt8.toInt32))) 1 (vp_nar .byte ((x0 >>> (16 &&& 31)).toInt8.toInt32))) 2 (vp_nar .byte ((x0 >>> (8 &&& 31)).toInt8.toInt32)))))] := hD
  refine lv_aload_n hx hb dX7_put_37 rfl (lv_at hl 1 rfl) ?_
  refine lv_dup hx hb dX7_put_38 rfl ?_
  refine va_get (D := (dC, dI)) (ci := 7) (v := .int 2) (C := RX7) (T := TX7) (N := 2) hx hb hts hiX7 hown hK hP 0 rfl rfl 1 (by decide) (hts _ (List.mem_of_getElem? (i := 1) rfl)) (fun _ h9 => h9) rfl dX7_put_39 ?_
  refine lv_iconst (v := 1) hx hb dX7_put_42 (by decide +kernel) ?_
  refine lv_iadd hx hb dX7_put_43 ?_
  refine tp_i (y := 3) (by decide +kernel) ?_
  refine va_put (D := (dC, dI)) (ci := 7) (v := .int 3) (ty := .int) (C := RX7) (T := TX7) (N := 2) hx hb hts hiX7 tyX7 tyX7_ok nmX7 hown hK hP hD hS 0 rfl rfl 1 (by decide) (hts _ (List.mem_of_getElem? (i := 1) rfl)) (fun _ h9 => h9) rfl (by decide +kernel) rfl rfl (Nat.le_of_ble_eq_true rfl) dX7_put_44 (fun H locs hP hD hS => ?_)
  have hP : va_P (dC, dI) vwCl [(a0, .inr (7, [.ref a1, .int 3])), (a1, .inl (cB, 1600, .inl (upd (upd (upd f0 0 (vp_nar .byte ((x0 >>> (24 &&& 31)).toInt8.toInt32))) 1 (vp_nar .byte ((x0 >>> (16 &&& 31)).toInt8.toInt32))) 2 (vp_nar .byte ((x0 >>> (8 &&& 31)).toInt8.toInt32)))))] H := hP
  have hD : va_D A [(a0, .inr (7, [.ref a1, .int 3])), (a1, .inl (cB, 1600, .inl (upd (upd (upd f0 0 (vp_nar .byte ((x0 >>> (24 &&& 31)).toInt8.toInt32))) 1 (vp_nar .byte ((x0 >>> (16 &&& 31)).toInt8.toInt32))) 2 (vp_nar .byte ((x0 >>> (8 &&& 31)).toInt8.toInt32)))))] := hD
  refine lv_iinc (v := 0) (lv' := [(2, .int 0), (0, .ref a0), (1, .int x0)]) hx hb dX7_put_47 hl (k := 0) rfl (by decide +kernel) (by decide) rfl (fun ls hl => ?_)
  refine lv_goto (tgt := 3) hx hb dX7_put_50 (by decide) ?_
  refine lv_iload_n hx hb dX7_put_3 rfl (lv_at hl 0 rfl) ?_
  refine lv_if_lt (tgt := 53) hx hb dX7_put_4 (by decide) (fun c => absurd c (by decide +kernel)) (fun _ => ?_)
  refine lv_aload_n hx hb dX7_put_7 rfl (lv_at hl 1 rfl) ?_
  refine va_get (D := (dC, dI)) (ci := 7) (v := .int 3) (C := RX7) (T := TX7) (N := 2) hx hb hts hiX7 hown hK hP 0 rfl rfl 1 (by decide) (hts _ (List.mem_of_getElem? (i := 1) rfl)) (fun _ h9 => h9) rfl dX7_put_8 ?_
  refine lv_if_lt (tgt := 47) hx hb dX7_put_11 (by decide) (fun c => absurd c (by decide +kernel)) (fun _ => ?_)
  refine lv_aload_n hx hb dX7_put_14 rfl (lv_at hl 1 rfl) ?_
  refine va_get (D := (dC, dI)) (ci := 7) (v := .int 3) (C := RX7) (T := TX7) (N := 2) hx hb hts hiX7 hown hK hP 0 rfl rfl 1 (by decide) (hts _ (List.mem_of_getElem? (i := 1) rfl)) (fun _ h9 => h9) rfl dX7_put_15 ?_
  refine lv_sipush (v := 1600) hx hb dX7_put_18 (by decide +kernel) ?_
  refine lv_icmp_ge (tgt := 47) hx hb dX7_put_21 (by decide) (fun c => absurd c (by decide +kernel)) (fun _ => ?_)
  refine lv_aload_n hx hb dX7_put_24 rfl (lv_at hl 1 rfl) ?_
  refine va_get (D := (dC, dI)) (ci := 7) (v := .ref a1) (C := RX7) (T := TX7) (N := 2) hx hb hts hiX7 hown hK hP 0 rfl rfl 0 (by decide) (hts _ (List.mem_of_getElem? (i := 2) rfl)) (fun _ h9 => h9) rfl dX7_put_25 ?_
  refine lv_aload_n hx hb dX7_put_28 rfl (lv_at hl 1 rfl) ?_
  refine va_get (D := (dC, dI)) (ci := 7) (v := .int 3) (C := RX7) (T := TX7) (N := 2) hx hb hts hiX7 hown hK hP 0 rfl rfl 1 (by decide) (hts _ (List.mem_of_getElem? (i := 1) rfl)) (fun _ h9 => h9) rfl dX7_put_29 ?_
  refine lv_iload_n hx hb dX7_put_32 rfl (lv_at hl 2 rfl) ?_
  refine lv_iload_n hx hb dX7_put_33 rfl (lv_at hl 0 rfl) ?_
  refine lv_ishr hx hb dX7_put_34 ?_
  refine lv_i2b (v := (x0 >>> (0 &&& 31)).toInt8.toInt32) hx hb dX7_put_35 rfl ?_
  refine va_bast hx hb hK hP hD hS 1 0 rfl rfl (vpc _ _ (by decide +kernel)) dX7_put_36 (fun H locs hP hD hS => ?_)
  have hP : va_P (dC, dI) vwCl [(a0, .inr (7, [.ref a1, .int 3])), (a1, .inl (cB, 1600, .inl (upd (upd (upd (upd f0 0 (vp_nar .byte ((x0 >>> (24 &&& 31)).toInt8.toInt32))) 1 (vp_nar .byte ((x0 >>> (16 &&& 31)).toInt8.toInt32))) 2 (vp_nar .byte ((x0 >>> (8 &&& 31)).toInt8.toInt32))) 3 (vp_nar .byte ((x0 >>> (0 &&& 31)).toInt8.toInt32)))))] H := hP
  have hD : va_D A [(a0, .inr (7, [.ref a1, .int 3])), (a1, .inl (cB, 1600, .inl (upd (upd (upd (upd f0 0 (vp_nar .byte ((x0 >>> (24 &&& 31)).toInt8.toInt32))) 1 (vp_nar .byte ((x0 >>> (16 &&& 31)).toInt8.toInt32))) 2 (vp_nar .byte ((x0 >>> (8 &&& 31)).toInt8.toInt32))) 3 (vp_nar .byte ((x0 >>> (0 &&& 31)).toInt8.toInt32)))))] := hD
  refine lv_aload_n hx hb dX7_put_37 rfl (lv_at hl 1 rfl) ?_
  refine lv_dup hx hb dX7_put_38 rfl ?_
  refine va_get (D := (dC, dI)) (ci := 7) (v := .int 3) (C := RX7) (T := TX7) (N := 2) hx hb hts hiX7 hown hK hP 0 rfl rfl 1 (by decide) (hts _ (List.mem_of_getElem? (i := 1) rfl)) (fun _ h9 => h9) rfl dX7_put_39 ?_
  refine lv_iconst (v := 1) hx hb dX7_put_42 (by decide +kernel) ?_
  refine lv_iadd hx hb dX7_put_43 ?_
  refine tp_i (y := 4) (by decide +kernel) ?_
  refine va_put (D := (dC, dI)) (ci := 7) (v := .int 4) (ty := .int) (C := RX7) (T := TX7) (N := 2) hx hb hts hiX7 tyX7 tyX7_ok nmX7 hown hK hP hD hS 0 rfl rfl 1 (by decide) (hts _ (List.mem_of_getElem? (i := 1) rfl)) (fun _ h9 => h9) rfl (by decide +kernel) rfl rfl (Nat.le_of_ble_eq_true rfl) dX7_put_44 (fun H locs hP hD hS => ?_)
  have hP : va_P (dC, dI) vwCl [(a0, .inr (7, [.ref a1, .int 4])), (a1, .inl (cB, 1600, .inl (upd (upd (upd (upd f0 0 (vp_nar .byte ((x0 >>> (24 &&& 31)).toInt8.toInt32))) 1 (vp_nar .byte ((x0 >>> (16 &&& 31)).toInt8.toInt32))) 2 (vp_nar .byte ((x0 >>> (8 &&& 31)).toInt8.toInt32))) 3 (vp_nar .byte ((x0 >>> (0 &&& 31)).toInt8.toInt32)))))] H := hP
  have hD : va_D A [(a0, .inr (7, [.ref a1, .int 4])), (a1, .inl (cB, 1600, .inl (upd (upd (upd (upd f0 0 (vp_nar .byte ((x0 >>> (24 &&& 31)).toInt8.toInt32))) 1 (vp_nar .byte ((x0 >>> (16 &&& 31)).toInt8.toInt32))) 2 (vp_nar .byte ((x0 >>> (8 &&& 31)).toInt8.toInt32))) 3 (vp_nar .byte ((x0 >>> (0 &&& 31)).toInt8.toInt32)))))] := hD
  refine lv_iinc (v := (-8)) (lv' := [(2, .int (-8)), (0, .ref a0), (1, .int x0)]) hx hb dX7_put_47 hl (k := 0) rfl (by decide +kernel) (by decide) rfl (fun ls hl => ?_)
  refine lv_goto (tgt := 3) hx hb dX7_put_50 (by decide) ?_
  refine lv_iload_n hx hb dX7_put_3 rfl (lv_at hl 0 rfl) ?_
  refine lv_if_lt (tgt := 53) hx hb dX7_put_4 (by decide) (fun _ => ?_) (fun c => absurd c (by decide +kernel))
  have hP9 := hP.sub (ws' := [(a0, .inr (7, [.ref a1, .int 4])), (a1, .inl (cB, 1600, .inl (upd (upd (upd (upd f0 0 (vp_nar .byte ((x0 >>> (24 &&& 31)).toInt8.toInt32))) 1 (vp_nar .byte ((x0 >>> (16 &&& 31)).toInt8.toInt32))) 2 (vp_nar .byte ((x0 >>> (8 &&& 31)).toInt8.toInt32))) 3 (vp_nar .byte ((x0 >>> (0 &&& 31)).toInt8.toInt32)))))]) [0, 1] rfl
  have hD9 := hD.sub (ws' := [(a0, .inr (7, [.ref a1, .int 4])), (a1, .inl (cB, 1600, .inl (upd (upd (upd (upd f0 0 (vp_nar .byte ((x0 >>> (24 &&& 31)).toInt8.toInt32))) 1 (vp_nar .byte ((x0 >>> (16 &&& 31)).toInt8.toInt32))) 2 (vp_nar .byte ((x0 >>> (8 &&& 31)).toInt8.toInt32))) 3 (vp_nar .byte ((x0 >>> (0 &&& 31)).toInt8.toInt32)))))]) [0, 1] (by decide) rfl
  exact W.vret hx hb hr (fun t ht hW => ⟨⟨(), rfl, trivial, by rw [ht]; exact hP9, va_K.moved hW.alike hK, hD9⟩, hS.F ht⟩) hS.2.2 dX7_put_53
def ws_k_X7_put_3 : List Cond := .code yX7_put cX7_put 3 none :: ([.fieldLink RX7 15 "StackKeys$Tape" "size" "I", .fieldLink RX7 9 "StackKeys$Tape" "bytes" "[B"] ++ wsX70)
set_option maxHeartbeats 4000000 in
set_option maxRecDepth 100000 in
theorem k_X7_put_3 (l : Launch) (dC : Nat → ClassId) (dI : Nat → Nat → Nat) (cB cI cJ cZ cQ : ClassId) (sz : Nat) (a0 a1 : Nat) (x0 : Int32) (f0 : Nat → Int32) : Met l yX7_put ws_k_X7_put_3 ({ frames := 0, cells := 0, slots := 0, locals := 0 }) (va_Pc [.ref a0, .int x0] (fun U => U.heap.size = sz ∧ va_P (dC, dI) vwCl [(a0, .inr (7, [.ref a1, .int 4])), (a1, .inl (cB, 1600, .inl f0))] U.heap ∧ va_K (dC, dI) vwCl (tyA cB cI cJ cZ cQ) U ∧ va_D (fun _ => True) [(a0, .inr (7, [.ref a1, .int 4])), (a1, .inl (cB, 1600, .inl f0))])) (va_Qv (fun _ : Unit => True) (fun (u : Unit) t => va_P (dC, dI) vwCl [(a0, .inr (7, [.ref a1, .int 8])), (a1, .inl (cB, 1600, .inl (upd (upd (upd (upd f0 4 (vp_nar .byte ((x0 >>> (24 &&& 31)).toInt8.toInt32))) 5 (vp_nar .byte ((x0 >>> (16 &&& 31)).toInt8.toInt32))) 6 (vp_nar .byte ((x0 >>> (8 &&& 31)).toInt8.toInt32))) 7 (vp_nar .byte ((x0 >>> (0 &&& 31)).toInt8.toInt32)))))] t.heap ∧ va_K (dC, dI) vwCl (tyA cB cI cJ cZ cQ) t ∧ va_D (va_A [(a0, .inr (7, [.ref a1, .int 4])), (a1, .inl (cB, 1600, .inl f0))] sz) [(a0, .inr (7, [.ref a1, .int 8])), (a1, .inl (cB, 1600, .inl (upd (upd (upd (upd f0 4 (vp_nar .byte ((x0 >>> (24 &&& 31)).toInt8.toInt32))) 5 (vp_nar .byte ((x0 >>> (16 &&& 31)).toInt8.toInt32))) 6 (vp_nar .byte ((x0 >>> (8 &&& 31)).toInt8.toInt32))) 7 (vp_nar .byte ((x0 >>> (0 &&& 31)).toInt8.toInt32)))))]) (va_A [(a0, .inr (7, [.ref a1, .int 4])), (a1, .inl (cB, 1600, .inl f0))] sz)) 0 0 (va_A [(a0, .inr (7, [.ref a1, .int 4])), (a1, .inl (cB, 1600, .inl f0))] sz) := by
  refine Met.ofW (cc := cX7_put) (maxL := 3) (ret := none) (by decide +kernel) rfl ?_
  intro p e s m args below meth c s₁ B hml hv
  obtain ⟨rfl, hsz, hP, hK, hD0⟩ := hv
  have hx := B.exec
  have hb := B.bytes
  have hr := B.returns
  have hts := atoms_spec (ws := ws_k_X7_put_3) B.pre
  have hown : s.vm.findClass RX7 = some m.cls := findClass_of_methodNamed B.named
  have hiX7 : ∀ w ∈ u_ws RX7 TX7 2, w ∈ ws_k_X7_put_3 := fun w h => List.mem_cons_of_mem _ (List.mem_append_right _ h)
  subst hsz
  have hD := hD0.self (sz := s.heap.size)
  generalize hAe : va_A [(a0, .inr (7, [.ref a1, .int 4])), (a1, .inl (cB, 1600, .inl f0))] s.heap.size = A at hD ⊢
  have hA : ∀ b : Nat, s.heap.size ≤ b → A b := fun b h => by rw [← hAe]; exact Or.inr h
  clear hD0 hAe
  have hS : va_S A s.heap s.heap [] := va_S.rf
  have hl := lv_entry ([.ref a0, .int x0]) (n := 3) (Nat.le_of_ble_eq_true rfl)
  rw [lg_entry_eq]
  generalize (lg_sl ([.ref a0, .int x0]) ++ List.replicate (3 - (lg_sl ([.ref a0, .int x0])).length) Slot.unset).toArray = ls at hl ⊢
  have hl : lv_has ls 3 [(0, .ref a0), (1, .int x0)] := hl
  obtain ⟨H, hHe⟩ : ∃ H : Heap, H = s.heap := ⟨_, rfl⟩
  rw [← hHe] at hP
  have hS : va_S A s.heap H [] := by rw [hHe]; exact hS
  rw [← hHe]
  refine lv_bipush (v := 24) hx hb dX7_put_0 (by decide +kernel) ?_
  refine lv_istore_n (lv' := [(2, .int 24), (0, .ref a0), (1, .int x0)]) hx hb dX7_put_2 rfl hl (by decide) rfl (fun ls hl => ?_)
  refine lv_iload_n hx hb dX7_put_3 rfl (lv_at hl 0 rfl) ?_
  refine lv_if_lt (tgt := 53) hx hb dX7_put_4 (by decide) (fun c => absurd c (by decide +kernel)) (fun _ => ?_)
  refine lv_aload_n hx hb dX7_put_7 rfl (lv_at hl 1 rfl) ?_
  refine va_get (D := (dC, dI)) (ci := 7) (v := .int 4) (C := RX7) (T := TX7) (N := 2) hx hb hts hiX7 hown hK hP 0 rfl rfl 1 (by decide) (hts _ (List.mem_of_getElem? (i := 1) rfl)) (fun _ h9 => h9) rfl dX7_put_8 ?_
  refine lv_if_lt (tgt := 47) hx hb dX7_put_11 (by decide) (fun c => absurd c (by decide +kernel)) (fun _ => ?_)
  refine lv_aload_n hx hb dX7_put_14 rfl (lv_at hl 1 rfl) ?_
  refine va_get (D := (dC, dI)) (ci := 7) (v := .int 4) (C := RX7) (T := TX7) (N := 2) hx hb hts hiX7 hown hK hP 0 rfl rfl 1 (by decide) (hts _ (List.mem_of_getElem? (i := 1) rfl)) (fun _ h9 => h9) rfl dX7_put_15 ?_
  refine lv_sipush (v := 1600) hx hb dX7_put_18 (by decide +kernel) ?_
  refine lv_icmp_ge (tgt := 47) hx hb dX7_put_21 (by decide) (fun c => absurd c (by decide +kernel)) (fun _ => ?_)
  refine lv_aload_n hx hb dX7_put_24 rfl (lv_at hl 1 rfl) ?_
  refine va_get (D := (dC, dI)) (ci := 7) (v := .ref a1) (C := RX7) (T := TX7) (N := 2) hx hb hts hiX7 hown hK hP 0 rfl rfl 0 (by decide) (hts _ (List.mem_of_getElem? (i := 2) rfl)) (fun _ h9 => h9) rfl dX7_put_25 ?_
  refine lv_aload_n hx hb dX7_put_28 rfl (lv_at hl 1 rfl) ?_
  refine va_get (D := (dC, dI)) (ci := 7) (v := .int 4) (C := RX7) (T := TX7) (N := 2) hx hb hts hiX7 hown hK hP 0 rfl rfl 1 (by decide) (hts _ (List.mem_of_getElem? (i := 1) rfl)) (fun _ h9 => h9) rfl dX7_put_29 ?_
  refine lv_iload_n hx hb dX7_put_32 rfl (lv_at hl 2 rfl) ?_
  refine lv_iload_n hx hb dX7_put_33 rfl (lv_at hl 0 rfl) ?_
  refine lv_ishr hx hb dX7_put_34 ?_
  refine lv_i2b (v := (x0 >>> (24 &&& 31)).toInt8.toInt32) hx hb dX7_put_35 rfl ?_
  refine va_bast hx hb hK hP hD hS 1 0 rfl rfl (vpc _ _ (by decide +kernel)) dX7_put_36 (fun H locs hP hD hS => ?_)
  have hP : va_P (dC, dI) vwCl [(a0, .inr (7, [.ref a1, .int 4])), (a1, .inl (cB, 1600, .inl (upd f0 4 (vp_nar .byte ((x0 >>> (24 &&& 31)).toInt8.toInt32)))))] H := hP
  have hD : va_D A [(a0, .inr (7, [.ref a1, .int 4])), (a1, .inl (cB, 1600, .inl (upd f0 4 (vp_nar .byte ((x0 >>> (24 &&& 31)).toInt8.toInt32)))))] := hD
  refine lv_aload_n hx hb dX7_put_37 rfl (lv_at hl 1 rfl) ?_
  refine lv_dup hx hb dX7_put_38 rfl ?_
  refine va_get (D := (dC, dI)) (ci := 7) (v := .int 4) (C := RX7) (T := TX7) (N := 2) hx hb hts hiX7 hown hK hP 0 rfl rfl 1 (by decide) (hts _ (List.mem_of_getElem? (i := 1) rfl)) (fun _ h9 => h9) rfl dX7_put_39 ?_
  refine lv_iconst (v := 1) hx hb dX7_put_42 (by decide +kernel) ?_
  refine lv_iadd hx hb dX7_put_43 ?_
  refine tp_i (y := 5) (by decide +kernel) ?_
  refine va_put (D := (dC, dI)) (ci := 7) (v := .int 5) (ty := .int) (C := RX7) (T := TX7) (N := 2) hx hb hts hiX7 tyX7 tyX7_ok nmX7 hown hK hP hD hS 0 rfl rfl 1 (by decide) (hts _ (List.mem_of_getElem? (i := 1) rfl)) (fun _ h9 => h9) rfl (by decide +kernel) rfl rfl (Nat.le_of_ble_eq_true rfl) dX7_put_44 (fun H locs hP hD hS => ?_)
  have hP : va_P (dC, dI) vwCl [(a0, .inr (7, [.ref a1, .int 5])), (a1, .inl (cB, 1600, .inl (upd f0 4 (vp_nar .byte ((x0 >>> (24 &&& 31)).toInt8.toInt32)))))] H := hP
  have hD : va_D A [(a0, .inr (7, [.ref a1, .int 5])), (a1, .inl (cB, 1600, .inl (upd f0 4 (vp_nar .byte ((x0 >>> (24 &&& 31)).toInt8.toInt32)))))] := hD
  refine lv_iinc (v := 16) (lv' := [(2, .int 16), (0, .ref a0), (1, .int x0)]) hx hb dX7_put_47 hl (k := 0) rfl (by decide +kernel) (by decide) rfl (fun ls hl => ?_)
  refine lv_goto (tgt := 3) hx hb dX7_put_50 (by decide) ?_
  refine lv_iload_n hx hb dX7_put_3 rfl (lv_at hl 0 rfl) ?_
  refine lv_if_lt (tgt := 53) hx hb dX7_put_4 (by decide) (fun c => absurd c (by decide +kernel)) (fun _ => ?_)
  refine lv_aload_n hx hb dX7_put_7 rfl (lv_at hl 1 rfl) ?_
  refine va_get (D := (dC, dI)) (ci := 7) (v := .int 5) (C := RX7) (T := TX7) (N := 2) hx hb hts hiX7 hown hK hP 0 rfl rfl 1 (by decide) (hts _ (List.mem_of_getElem? (i := 1) rfl)) (fun _ h9 => h9) rfl dX7_put_8 ?_
  refine lv_if_lt (tgt := 47) hx hb dX7_put_11 (by decide) (fun c => absurd c (by decide +kernel)) (fun _ => ?_)
  refine lv_aload_n hx hb dX7_put_14 rfl (lv_at hl 1 rfl) ?_
  refine va_get (D := (dC, dI)) (ci := 7) (v := .int 5) (C := RX7) (T := TX7) (N := 2) hx hb hts hiX7 hown hK hP 0 rfl rfl 1 (by decide) (hts _ (List.mem_of_getElem? (i := 1) rfl)) (fun _ h9 => h9) rfl dX7_put_15 ?_
  refine lv_sipush (v := 1600) hx hb dX7_put_18 (by decide +kernel) ?_
  refine lv_icmp_ge (tgt := 47) hx hb dX7_put_21 (by decide) (fun c => absurd c (by decide +kernel)) (fun _ => ?_)
  refine lv_aload_n hx hb dX7_put_24 rfl (lv_at hl 1 rfl) ?_
  refine va_get (D := (dC, dI)) (ci := 7) (v := .ref a1) (C := RX7) (T := TX7) (N := 2) hx hb hts hiX7 hown hK hP 0 rfl rfl 0 (by decide) (hts _ (List.mem_of_getElem? (i := 2) rfl)) (fun _ h9 => h9) rfl dX7_put_25 ?_
  refine lv_aload_n hx hb dX7_put_28 rfl (lv_at hl 1 rfl) ?_
  refine va_get (D := (dC, dI)) (ci := 7) (v := .int 5) (C := RX7) (T := TX7) (N := 2) hx hb hts hiX7 hown hK hP 0 rfl rfl 1 (by decide) (hts _ (List.mem_of_getElem? (i := 1) rfl)) (fun _ h9 => h9) rfl dX7_put_29 ?_
  refine lv_iload_n hx hb dX7_put_32 rfl (lv_at hl 2 rfl) ?_
  refine lv_iload_n hx hb dX7_put_33 rfl (lv_at hl 0 rfl) ?_
  refine lv_ishr hx hb dX7_put_34 ?_
  refine lv_i2b (v := (x0 >>> (16 &&& 31)).toInt8.toInt32) hx hb dX7_put_35 rfl ?_
  refine va_bast hx hb hK hP hD hS 1 0 rfl rfl (vpc _ _ (by decide +kernel)) dX7_put_36 (fun H locs hP hD hS => ?_)
  have hP : va_P (dC, dI) vwCl [(a0, .inr (7, [.ref a1, .int 5])), (a1, .inl (cB, 1600, .inl (upd (upd f0 4 (vp_nar .byte ((x0 >>> (24 &&& 31)).toInt8.toInt32))) 5 (vp_nar .byte ((x0 >>> (16 &&& 31)).toInt8.toInt32)))))] H := hP
  have hD : va_D A [(a0, .inr (7, [.ref a1, .int 5])), (a1, .inl (cB, 1600, .inl (upd (upd f0 4 (vp_nar .byte ((x0 >>> (24 &&& 31)).toInt8.toInt32))) 5 (vp_nar .byte ((x0 >>> (16 &&& 31)).toInt8.toInt32)))))] := hD
  refine lv_aload_n hx hb dX7_put_37 rfl (lv_at hl 1 rfl) ?_
  refine lv_dup hx hb dX7_put_38 rfl ?_
  refine va_get (D := (dC, dI)) (ci := 7) (v := .int 5) (C := RX7) (T := TX7) (N := 2) hx hb hts hiX7 hown hK hP 0 rfl rfl 1 (by decide) (hts _ (List.mem_of_getElem? (i := 1) rfl)) (fun _ h9 => h9) rfl dX7_put_39 ?_
  refine lv_iconst (v := 1) hx hb dX7_put_42 (by decide +kernel) ?_
  refine lv_iadd hx hb dX7_put_43 ?_
  refine tp_i (y := 6) (by decide +kernel) ?_
  refine va_put (D := (dC, dI)) (ci := 7) (v := .int 6) (ty := .int) (C := RX7) (T := TX7) (N := 2) hx hb hts hiX7 tyX7 tyX7_ok nmX7 hown hK hP hD hS 0 rfl rfl 1 (by decide) (hts _ (List.mem_of_getElem? (i := 1) rfl)) (fun _ h9 => h9) rfl (by decide +kernel) rfl rfl (Nat.le_of_ble_eq_true rfl) dX7_put_44 (fun H locs hP hD hS => ?_)
  have hP : va_P (dC, dI) vwCl [(a0, .inr (7, [.ref a1, .int 6])), (a1, .inl (cB, 1600, .inl (upd (upd f0 4 (vp_nar .byte ((x0 >>> (24 &&& 31)).toInt8.toInt32))) 5 (vp_nar .byte ((x0 >>> (16 &&& 31)).toInt8.toInt32)))))] H := hP
  have hD : va_D A [(a0, .inr (7, [.ref a1, .int 6])), (a1, .inl (cB, 1600, .inl (upd (upd f0 4 (vp_nar .byte ((x0 >>> (24 &&& 31)).toInt8.toInt32))) 5 (vp_nar .byte ((x0 >>> (16 &&& 31)).toInt8.toInt32)))))] := hD
  refine lv_iinc (v := 8) (lv' := [(2, .int 8), (0, .ref a0), (1, .int x0)]) hx hb dX7_put_47 hl (k := 0) rfl (by decide +kernel) (by decide) rfl (fun ls hl => ?_)
  refine lv_goto (tgt := 3) hx hb dX7_put_50 (by decide) ?_
  refine lv_iload_n hx hb dX7_put_3 rfl (lv_at hl 0 rfl) ?_
  refine lv_if_lt (tgt := 53) hx hb dX7_put_4 (by decide) (fun c => absurd c (by decide +kernel)) (fun _ => ?_)
  refine lv_aload_n hx hb dX7_put_7 rfl (lv_at hl 1 rfl) ?_
  refine va_get (D := (dC, dI)) (ci := 7) (v := .int 6) (C := RX7) (T := TX7) (N := 2) hx hb hts hiX7 hown hK hP 0 rfl rfl 1 (by decide) (hts _ (List.mem_of_getElem? (i := 1) rfl)) (fun _ h9 => h9) rfl dX7_put_8 ?_
  refine lv_if_lt (tgt := 47) hx hb dX7_put_11 (by decide) (fun c => absurd c (by decide +kernel)) (fun _ => ?_)
  refine lv_aload_n hx hb dX7_put_14 rfl (lv_at hl 1 rfl) ?_
  refine va_get (D := (dC, dI)) (ci := 7) (v := .int 6) (C := RX7) (T := TX7) (N := 2) hx hb hts hiX7 hown hK hP 0 rfl rfl 1 (by decide) (hts _ (List.mem_of_getElem? (i := 1) rfl)) (fun _ h9 => h9) rfl dX7_put_15 ?_
  refine lv_sipush (v := 1600) hx hb dX7_put_18 (by decide +kernel) ?_
  refine lv_icmp_ge (tgt := 47) hx hb dX7_put_21 (by decide) (fun c => absurd c (by decide +kernel)) (fun _ => ?_)
  refine lv_aload_n hx hb dX7_put_24 rfl (lv_at hl 1 rfl) ?_
  refine va_get (D := (dC, dI)) (ci := 7) (v := .ref a1) (C := RX7) (T := TX7) (N := 2) hx hb hts hiX7 hown hK hP 0 rfl rfl 0 (by decide) (hts _ (List.mem_of_getElem? (i := 2) rfl)) (fun _ h9 => h9) rfl dX7_put_25 ?_
  refine lv_aload_n hx hb dX7_put_28 rfl (lv_at hl 1 rfl) ?_
  refine va_get (D := (dC, dI)) (ci := 7) (v := .int 6) (C := RX7) (T := TX7) (N := 2) hx hb hts hiX7 hown hK hP 0 rfl rfl 1 (by decide) (hts _ (List.mem_of_getElem? (i := 1) rfl)) (fun _ h9 => h9) rfl dX7_put_29 ?_
  refine lv_iload_n hx hb dX7_put_32 rfl (lv_at hl 2 rfl) ?_
  refine lv_iload_n hx hb dX7_put_33 rfl (lv_at hl 0 rfl) ?_
  refine lv_ishr hx hb dX7_put_34 ?_
  refine lv_i2b (v := (x0 >>> (8 &&& 31)).toInt8.toInt32) hx hb dX7_put_35 rfl ?_
  refine va_bast hx hb hK hP hD hS 1 0 rfl rfl (vpc _ _ (by decide +kernel)) dX7_put_36 (fun H locs hP hD hS => ?_)
  have hP : va_P (dC, dI) vwCl [(a0, .inr (7, [.ref a1, .int 6])), (a1, .inl (cB, 1600, .inl (upd (upd (upd f0 4 (vp_nar .byte ((x0 >>> (24 &&& 31)).toInt8.toInt32))) 5 (vp_nar .byte ((x0 >>> (16 &&& 31)).toInt8.toInt32))) 6 (vp_nar .byte ((x0 >>> (8 &&& 31)).toInt8.toInt32)))))] H := hP
  have hD : va_D A [(a0, .inr (7, [.ref a1, .int 6])), (a1, .inl (cB, 1600, .inl (upd (upd (upd f0 4 (vp_nar .byte ((x0 >>> (24 &&& 31)).toInt8.toInt32))) 5 (vp_nar .byte ((x0 >>> (16 &&& 31)).toInt8.toInt32))) 6 (vp_nar .byte ((x0 >>> (8 &&& 31)).toInt8.toInt32)))))] := hD
  refine lv_aload_n hx hb dX7_put_37 rfl (lv_at hl 1 rfl) ?_
  refine lv_dup hx hb dX7_put_38 rfl ?_
  refine va_get (D := (dC, dI)) (ci := 7) (v := .int 6) (C := RX7) (T := TX7) (N := 2) hx hb hts hiX7 hown hK hP 0 rfl rfl 1 (by decide) (hts _ (List.mem_of_getElem? (i := 1) rfl)) (fun _ h9 => h9) rfl dX7_put_39 ?_
  refine lv_iconst (v := 1) hx hb dX7_put_42 (by decide +kernel) ?_
  refine lv_iadd hx hb dX7_put_43 ?_
  refine tp_i (y := 7) (by decide +kernel) ?_
  refine va_put (D := (dC, dI)) (ci := 7) (v := .int 7) (ty := .int) (C := RX7) (T := TX7) (N := 2) hx hb hts hiX7 tyX7 tyX7_ok nmX7 hown hK hP hD hS 0 rfl rfl 1 (by decide) (hts _ (List.mem_of_getElem? (i := 1) rfl)) (fun _ h9 => h9) rfl (by decide +kernel) rfl rfl (Nat.le_of_ble_eq_true rfl) dX7_put_44 (fun H locs hP hD hS => ?_)
  have hP : va_P (dC, dI) vwCl [(a0, .inr (7, [.ref a1, .int 7])), (a1, .inl (cB, 1600, .inl (upd (upd (upd f0 4 (vp_nar .byte ((x0 >>> (24 &&& 31)).toInt8.toInt32))) 5 (vp_nar .byte ((x0 >>> (16 &&& 31)).toInt8.toInt32))) 6 (vp_nar .byte ((x0 >>> (8 &&& 31)).toInt8.toInt32)))))] H := hP
  have hD : va_D A [(a0, .inr (7, [.ref a1, .int 7])), (a1, .inl (cB, 1600, .inl (upd (upd (upd f0 4 (vp_nar .byte ((x0 >>> (24 &&& 31)).toInt8.toInt32))) 5 (vp_nar .byte ((x0 >>> (16 &&& 31)).toInt8.toInt32))) 6 (vp_nar .byte ((x0 >>> (8 &&& 31)).toInt8.toInt32)))))] := hD
  refine lv_iinc (v := 0) (lv' := [(2, .int 0), (0, .ref a0), (1, .int x0)]) hx hb dX7_put_47 hl (k := 0) rfl (by decide +kernel) (by decide) rfl (fun ls hl => ?_)
  refine lv_goto (tgt := 3) hx hb dX7_put_50 (by decide) ?_
  refine lv_iload_n hx hb dX7_put_3 rfl (lv_at hl 0 rfl) ?_
  refine lv_if_lt (tgt := 53) hx hb dX7_put_4 (by decide) (fun c => absurd c (by decide +kernel)) (fun _ => ?_)
  refine lv_aload_n hx hb dX7_put_7 rfl (lv_at hl 1 rfl) ?_
  refine va_get (D := (dC, dI)) (ci := 7) (v := .int 7) (C := RX7) (T := TX7) (N := 2) hx hb hts hiX7 hown hK hP 0 rfl rfl 1 (by decide) (hts _ (List.mem_of_getElem? (i := 1) rfl)) (fun _ h9 => h9) rfl dX7_put_8 ?_
  refine lv_if_lt (tgt := 47) hx hb dX7_put_11 (by decide) (fun c => absurd c (by decide +kernel)) (fun _ => ?_)
  refine lv_aload_n hx hb dX7_put_14 rfl (lv_at hl 1 rfl) ?_
  refine va_get (D := (dC, dI)) (ci := 7) (v := .int 7) (C := RX7) (T := TX7) (N := 2) hx hb hts hiX7 hown hK hP 0 rfl rfl 1 (by decide) (hts _ (List.mem_of_getElem? (i := 1) rfl)) (fun _ h9 => h9) rfl dX7_put_15 ?_
  refine lv_sipush (v := 1600) hx hb dX7_put_18 (by decide +kernel) ?_
  refine lv_icmp_ge (tgt := 47) hx hb dX7_put_21 (by decide) (fun c => absurd c (by decide +kernel)) (fun _ => ?_)
  refine lv_aload_n hx hb dX7_put_24 rfl (lv_at hl 1 rfl) ?_
  refine va_get (D := (dC, dI)) (ci := 7) (v := .ref a1) (C := RX7) (T := TX7) (N := 2) hx hb hts hiX7 hown hK hP 0 rfl rfl 0 (by decide) (hts _ (List.mem_of_getElem? (i := 2) rfl)) (fun _ h9 => h9) rfl dX7_put_25 ?_
  refine lv_aload_n hx hb dX7_put_28 rfl (lv_at hl 1 rfl) ?_
  refine va_get (D := (dC, dI)) (ci := 7) (v := .int 7) (C := RX7) (T := TX7) (N := 2) hx hb hts hiX7 hown hK hP 0 rfl rfl 1 (by decide) (hts _ (List.mem_of_getElem? (i := 1) rfl)) (fun _ h9 => h9) rfl dX7_put_29 ?_
  refine lv_iload_n hx hb dX7_put_32 rfl (lv_at hl 2 rfl) ?_
  refine lv_iload_n hx hb dX7_put_33 rfl (lv_at hl 0 rfl) ?_
  refine lv_ishr hx hb dX7_put_34 ?_
  refine lv_i2b (v := (x0 >>> (0 &&& 31)).toInt8.toInt32) hx hb dX7_put_35 rfl ?_
  refine va_bast hx hb hK hP hD hS 1 0 rfl rfl (vpc _ _ (by decide +kernel)) dX7_put_36 (fun H locs hP hD hS => ?_)
  have hP : va_P (dC, dI) vwCl [(a0, .inr (7, [.ref a1, .int 7])), (a1, .inl (cB, 1600, .inl (upd (upd (upd (upd f0 4 (vp_nar .byte ((x0 >>> (24 &&& 31)).toInt8.toInt32))) 5 (vp_nar .byte ((x0 >>> (16 &&& 31)).toInt8.toInt32))) 6 (vp_nar .byte ((x0 >>> (8 &&& 31)).toInt8.toInt32))) 7 (vp_nar .byte ((x0 >>> (0 &&& 31)).toInt8.toInt32)))))] H := hP
  have hD : va_D A [(a0, .inr (7, [.ref a1, .int 7])), (a1, .inl (cB, 1600, .inl (upd (upd (upd (upd f0 4 (vp_nar .byte ((x0 >>> (24 &&& 31)).toInt8.toInt32))) 5 (vp_nar .byte ((x0 >>> (16 &&& 31)).toInt8.toInt32))) 6 (vp_nar .byte ((x0 >>> (8 &&& 31)).toInt8.toInt32))) 7 (vp_nar .byte ((x0 >>> (0 &&& 31)).toInt8.toInt32)))))] := hD
  refine lv_aload_n hx hb dX7_put_37 rfl (lv_at hl 1 rfl) ?_
  refine lv_dup hx hb dX7_put_38 rfl ?_
  refine va_get (D := (dC, dI)) (ci := 7) (v := .int 7) (C := RX7) (T := TX7) (N := 2) hx hb hts hiX7 hown hK hP 0 rfl rfl 1 (by decide) (hts _ (List.mem_of_getElem? (i := 1) rfl)) (fun _ h9 => h9) rfl dX7_put_39 ?_
  refine lv_iconst (v := 1) hx hb dX7_put_42 (by decide +kernel) ?_
  refine lv_iadd hx hb dX7_put_43 ?_
  refine tp_i (y := 8) (by decide +kernel) ?_
  refine va_put (D := (dC, dI)) (ci := 7) (v := .int 8) (ty := .int) (C := RX7) (T := TX7) (N := 2) hx hb hts hiX7 tyX7 tyX7_ok nmX7 hown hK hP hD hS 0 rfl rfl 1 (by decide) (hts _ (List.mem_of_getElem? (i := 1) rfl)) (fun _ h9 => h9) rfl (by decide +kernel) rfl rfl (Nat.le_of_ble_eq_true rfl) dX7_put_44 (fun H locs hP hD hS => ?_)
  have hP : va_P (dC, dI) vwCl [(a0, .inr (7, [.ref a1, .int 8])), (a1, .inl (cB, 1600, .inl (upd (upd (upd (upd f0 4 (vp_nar .byte ((x0 >>> (24 &&& 31)).toInt8.toInt32))) 5 (vp_nar .byte ((x0 >>> (16 &&& 31)).toInt8.toInt32))) 6 (vp_nar .byte ((x0 >>> (8 &&& 31)).toInt8.toInt32))) 7 (vp_nar .byte ((x0 >>> (0 &&& 31)).toInt8.toInt32)))))] H := hP
  have hD : va_D A [(a0, .inr (7, [.ref a1, .int 8])), (a1, .inl (cB, 1600, .inl (upd (upd (upd (upd f0 4 (vp_nar .byte ((x0 >>> (24 &&& 31)).toInt8.toInt32))) 5 (vp_nar .byte ((x0 >>> (16 &&& 31)).toInt8.toInt32))) 6 (vp_nar .byte ((x0 >>> (8 &&& 31)).toInt8.toInt32))) 7 (vp_nar .byte ((x0 >>> (0 &&& 31)).toInt8.toInt32)))))] := hD
  refine lv_iinc (v := (-8)) (lv' := [(2, .int (-8)), (0, .ref a0), (1, .int x0)]) hx hb dX7_put_47 hl (k := 0) rfl (by decide +kernel) (by decide) rfl (fun ls hl => ?_)
  refine lv_goto (tgt := 3) hx hb dX7_put_50 (by decide) ?_
  refine lv_iload_n hx hb dX7_put_3 rfl (lv_at hl 0 rfl) ?_
  refine lv_if_lt (tgt := 53) hx hb dX7_put_4 (by decide) (fun _ => ?_) (fun c => absurd c (by decide +kernel))
  have hP9 := hP.sub (ws' := [(a0, .inr (7, [.ref a1, .int 8])), (a1, .inl (cB, 1600, .inl (upd (upd (upd (upd f0 4 (vp_nar .byte ((x0 >>> (24 &&& 31)).toInt8.toInt32))) 5 (vp_nar .byte ((x0 >>> (16 &&& 31)).toInt8.toInt32))) 6 (vp_nar .byte ((x0 >>> (8 &&& 31)).toInt8.toInt32))) 7 (vp_nar .byte ((x0 >>> (0 &&& 31)).toInt8.toInt32)))))]) [0, 1] rfl
  have hD9 := hD.sub (ws' := [(a0, .inr (7, [.ref a1, .int 8])), (a1, .inl (cB, 1600, .inl (upd (upd (upd (upd f0 4 (vp_nar .byte ((x0 >>> (24 &&& 31)).toInt8.toInt32))) 5 (vp_nar .byte ((x0 >>> (16 &&& 31)).toInt8.toInt32))) 6 (vp_nar .byte ((x0 >>> (8 &&& 31)).toInt8.toInt32))) 7 (vp_nar .byte ((x0 >>> (0 &&& 31)).toInt8.toInt32)))))]) [0, 1] (by decide) rfl
  exact W.vret hx hb hr (fun t ht hW => ⟨⟨(), rfl, trivial, by rw [ht]; exact hP9, va_K.moved hW.alike hK, hD9⟩, hS.F ht⟩) hS.2.2 dX7_put_53
def ws_k_X7_put_4 : List Cond := .code yX7_put cX7_put 3 none :: ([.fieldLink RX7 15 "StackKeys$Tape" "size" "I", .fieldLink RX7 9 "StackKeys$Tape" "bytes" "[B"] ++ wsX70)
set_option maxHeartbeats 4000000 in
set_option maxRecDepth 100000 in
theorem k_X7_put_4 (l : Launch) (dC : Nat → ClassId) (dI : Nat → Nat → Nat) (cB cI cJ cZ cQ : ClassId) (sz : Nat) (a0 a1 : Nat) (x0 : Int32) (f0 : Nat → Int32) : Met l yX7_put ws_k_X7_put_4 ({ frames := 0, cells := 0, slots := 0, locals := 0 }) (va_Pc [.ref a0, .int x0] (fun U => U.heap.size = sz ∧ va_P (dC, dI) vwCl [(a0, .inr (7, [.ref a1, .int 8])), (a1, .inl (cB, 1600, .inl f0))] U.heap ∧ va_K (dC, dI) vwCl (tyA cB cI cJ cZ cQ) U ∧ va_D (fun _ => True) [(a0, .inr (7, [.ref a1, .int 8])), (a1, .inl (cB, 1600, .inl f0))])) (va_Qv (fun _ : Unit => True) (fun (u : Unit) t => va_P (dC, dI) vwCl [(a0, .inr (7, [.ref a1, .int 12])), (a1, .inl (cB, 1600, .inl (upd (upd (upd (upd f0 8 (vp_nar .byte ((x0 >>> (24 &&& 31)).toInt8.toInt32))) 9 (vp_nar .byte ((x0 >>> (16 &&& 31)).toInt8.toInt32))) 10 (vp_nar .byte ((x0 >>> (8 &&& 31)).toInt8.toInt32))) 11 (vp_nar .byte ((x0 >>> (0 &&& 31)).toInt8.toInt32)))))] t.heap ∧ va_K (dC, dI) vwCl (tyA cB cI cJ cZ cQ) t ∧ va_D (va_A [(a0, .inr (7, [.ref a1, .int 8])), (a1, .inl (cB, 1600, .inl f0))] sz) [(a0, .inr (7, [.ref a1, .int 12])), (a1, .inl (cB, 1600, .inl (upd (upd (upd (upd f0 8 (vp_nar .byte ((x0 >>> (24 &&& 31)).toInt8.toInt32))) 9 (vp_nar .byte ((x0 >>> (16 &&& 31)).toInt8.toInt32))) 10 (vp_nar .byte ((x0 >>> (8 &&& 31)).toInt8.toInt32))) 11 (vp_nar .byte ((x0 >>> (0 &&& 31)).toInt8.toInt32)))))]) (va_A [(a0, .inr (7, [.ref a1, .int 8])), (a1, .inl (cB, 1600, .inl f0))] sz)) 0 0 (va_A [(a0, .inr (7, [.ref a1, .int 8])), (a1, .inl (cB, 1600, .inl f0))] sz) := by
  refine Met.ofW (cc := cX7_put) (maxL := 3) (ret := none) (by decide +kernel) rfl ?_
  intro p e s m args below meth c s₁ B hml hv
  obtain ⟨rfl, hsz, hP, hK, hD0⟩ := hv
  have hx := B.exec
  have hb := B.bytes
  have hr := B.returns
  have hts := atoms_spec (ws := ws_k_X7_put_4) B.pre
  have hown : s.vm.findClass RX7 = some m.cls := findClass_of_methodNamed B.named
  have hiX7 : ∀ w ∈ u_ws RX7 TX7 2, w ∈ ws_k_X7_put_4 := fun w h => List.mem_cons_of_mem _ (List.mem_append_right _ h)
  subst hsz
  have hD := hD0.self (sz := s.heap.size)
  generalize hAe : va_A [(a0, .inr (7, [.ref a1, .int 8])), (a1, .inl (cB, 1600, .inl f0))] s.heap.size = A at hD ⊢
  have hA : ∀ b : Nat, s.heap.size ≤ b → A b := fun b h => by rw [← hAe]; exact Or.inr h
  clear hD0 hAe
  have hS : va_S A s.heap s.heap [] := va_S.rf
  have hl := lv_entry ([.ref a0, .int x0]) (n := 3) (Nat.le_of_ble_eq_true rfl)
  rw [lg_entry_eq]
  generalize (lg_sl ([.ref a0, .int x0]) ++ List.replicate (3 - (lg_sl ([.ref a0, .int x0])).length) Slot.unset).toArray = ls at hl ⊢
  have hl : lv_has ls 3 [(0, .ref a0), (1, .int x0)] := hl
  obtain ⟨H, hHe⟩ : ∃ H : Heap, H = s.heap := ⟨_, rfl⟩
  rw [← hHe] at hP
  have hS : va_S A s.heap H [] := by rw [hHe]; exact hS
  rw [← hHe]
  refine lv_bipush (v := 24) hx hb dX7_put_0 (by decide +kernel) ?_
  refine lv_istore_n (lv' := [(2, .int 24), (0, .ref a0), (1, .int x0)]) hx hb dX7_put_2 rfl hl (by decide) rfl (fun ls hl => ?_)
  refine lv_iload_n hx hb dX7_put_3 rfl (lv_at hl 0 rfl) ?_
  refine lv_if_lt (tgt := 53) hx hb dX7_put_4 (by decide) (fun c => absurd c (by decide +kernel)) (fun _ => ?_)
  refine lv_aload_n hx hb dX7_put_7 rfl (lv_at hl 1 rfl) ?_
  refine va_get (D := (dC, dI)) (ci := 7) (v := .int 8) (C := RX7) (T := TX7) (N := 2) hx hb hts hiX7 hown hK hP 0 rfl rfl 1 (by decide) (hts _ (List.mem_of_getElem? (i := 1) rfl)) (fun _ h9 => h9) rfl dX7_put_8 ?_
  refine lv_if_lt (tgt := 47) hx hb dX7_put_11 (by decide) (fun c => absurd c (by decide +kernel)) (fun _ => ?_)
  refine lv_aload_n hx hb dX7_put_14 rfl (lv_at hl 1 rfl) ?_
  refine va_get (D := (dC, dI)) (ci := 7) (v := .int 8) (C := RX7) (T := TX7) (N := 2) hx hb hts hiX7 hown hK hP 0 rfl rfl 1 (by decide) (hts _ (List.mem_of_getElem? (i := 1) rfl)) (fun _ h9 => h9) rfl dX7_put_15 ?_
  refine lv_sipush (v := 1600) hx hb dX7_put_18 (by decide +kernel) ?_
  refine lv_icmp_ge (tgt := 47) hx hb dX7_put_21 (by decide) (fun c => absurd c (by decide +kernel)) (fun _ => ?_)
  refine lv_aload_n hx hb dX7_put_24 rfl (lv_at hl 1 rfl) ?_
  refine va_get (D := (dC, dI)) (ci := 7) (v := .ref a1) (C := RX7) (T := TX7) (N := 2) hx hb hts hiX7 hown hK hP 0 rfl rfl 0 (by decide) (hts _ (List.mem_of_getElem? (i := 2) rfl)) (fun _ h9 => h9) rfl dX7_put_25 ?_
  refine lv_aload_n hx hb dX7_put_28 rfl (lv_at hl 1 rfl) ?_
  refine va_get (D := (dC, dI)) (ci := 7) (v := .int 8) (C := RX7) (T := TX7) (N := 2) hx hb hts hiX7 hown hK hP 0 rfl rfl 1 (by decide) (hts _ (List.mem_of_getElem? (i := 1) rfl)) (fun _ h9 => h9) rfl dX7_put_29 ?_
  refine lv_iload_n hx hb dX7_put_32 rfl (lv_at hl 2 rfl) ?_
  refine lv_iload_n hx hb dX7_put_33 rfl (lv_at hl 0 rfl) ?_
  refine lv_ishr hx hb dX7_put_34 ?_
  refine lv_i2b (v := (x0 >>> (24 &&& 31)).toInt8.toInt32) hx hb dX7_put_35 rfl ?_
  refine va_bast hx hb hK hP hD hS 1 0 rfl rfl (vpc _ _ (by decide +kernel)) dX7_put_36 (fun H locs hP hD hS => ?_)
  have hP : va_P (dC, dI) vwCl [(a0, .inr (7, [.ref a1, .int 8])), (a1, .inl (cB, 1600, .inl (upd f0 8 (vp_nar .byte ((x0 >>> (24 &&& 31)).toInt8.toInt32)))))] H := hP
  have hD : va_D A [(a0, .inr (7, [.ref a1, .int 8])), (a1, .inl (cB, 1600, .inl (upd f0 8 (vp_nar .byte ((x0 >>> (24 &&& 31)).toInt8.toInt32)))))] := hD
  refine lv_aload_n hx hb dX7_put_37 rfl (lv_at hl 1 rfl) ?_
  refine lv_dup hx hb dX7_put_38 rfl ?_
  refine va_get (D := (dC, dI)) (ci := 7) (v := .int 8) (C := RX7) (T := TX7) (N := 2) hx hb hts hiX7 hown hK hP 0 rfl rfl 1 (by decide) (hts _ (List.mem_of_getElem? (i := 1) rfl)) (fun _ h9 => h9) rfl dX7_put_39 ?_
  refine lv_iconst (v := 1) hx hb dX7_put_42 (by decide +kernel) ?_
  refine lv_iadd hx hb dX7_put_43 ?_
  refine tp_i (y := 9) (by decide +kernel) ?_
  refine va_put (D := (dC, dI)) (ci := 7) (v := .int 9) (ty := .int) (C := RX7) (T := TX7) (N := 2) hx hb hts hiX7 tyX7 tyX7_ok nmX7 hown hK hP hD hS 0 rfl rfl 1 (by decide) (hts _ (List.mem_of_getElem? (i := 1) rfl)) (fun _ h9 => h9) rfl (by decide +kernel) rfl rfl (Nat.le_of_ble_eq_true rfl) dX7_put_44 (fun H locs hP hD hS => ?_)
  have hP : va_P (dC, dI) vwCl [(a0, .inr (7, [.ref a1, .int 9])), (a1, .inl (cB, 1600, .inl (upd f0 8 (vp_nar .byte ((x0 >>> (24 &&& 31)).toInt8.toInt32)))))] H := hP
  have hD : va_D A [(a0, .inr (7, [.ref a1, .int 9])), (a1, .inl (cB, 1600, .inl (upd f0 8 (vp_nar .byte ((x0 >>> (24 &&& 31)).toInt8.toInt32)))))] := hD
  refine lv_iinc (v := 16) (lv' := [(2, .int 16), (0, .ref a0), (1, .int x0)]) hx hb dX7_put_47 hl (k := 0) rfl (by decide +kernel) (by decide) rfl (fun ls hl => ?_)
  refine lv_goto (tgt := 3) hx hb dX7_put_50 (by decide) ?_
  refine lv_iload_n hx hb dX7_put_3 rfl (lv_at hl 0 rfl) ?_
  refine lv_if_lt (tgt := 53) hx hb dX7_put_4 (by decide) (fun c => absurd c (by decide +kernel)) (fun _ => ?_)
  refine lv_aload_n hx hb dX7_put_7 rfl (lv_at hl 1 rfl) ?_
  refine va_get (D := (dC, dI)) (ci := 7) (v := .int 9) (C := RX7) (T := TX7) (N := 2) hx hb hts hiX7 hown hK hP 0 rfl rfl 1 (by decide) (hts _ (List.mem_of_getElem? (i := 1) rfl)) (fun _ h9 => h9) rfl dX7_put_8 ?_
  refine lv_if_lt (tgt := 47) hx hb dX7_put_11 (by decide) (fun c => absurd c (by decide +kernel)) (fun _ => ?_)
  refine lv_aload_n hx hb dX7_put_14 rfl (lv_at hl 1 rfl) ?_
  refine va_get (D := (dC, dI)) (ci := 7) (v := .int 9) (C := RX7) (T := TX7) (N := 2) hx hb hts hiX7 hown hK hP 0 rfl rfl 1 (by decide) (hts _ (List.mem_of_getElem? (i := 1) rfl)) (fun _ h9 => h9) rfl dX7_put_15 ?_
  refine lv_sipush (v := 1600) hx hb dX7_put_18 (by decide +kernel) ?_
  refine lv_icmp_ge (tgt := 47) hx hb dX7_put_21 (by decide) (fun c => absurd c (by decide +kernel)) (fun _ => ?_)
  refine lv_aload_n hx hb dX7_put_24 rfl (lv_at hl 1 rfl) ?_
  refine va_get (D := (dC, dI)) (ci := 7) (v := .ref a1) (C := RX7) (T := TX7) (N := 2) hx hb hts hiX7 hown hK hP 0 rfl rfl 0 (by decide) (hts _ (List.mem_of_getElem? (i := 2) rfl)) (fun _ h9 => h9) rfl dX7_put_25 ?_
  refine lv_aload_n hx hb dX7_put_28 rfl (lv_at hl 1 rfl) ?_
  refine va_get (D := (dC, dI)) (ci := 7) (v := .int 9) (C := RX7) (T := TX7) (N := 2) hx hb hts hiX7 hown hK hP 0 rfl rfl 1 (by decide) (hts _ (List.mem_of_getElem? (i := 1) rfl)) (fun _ h9 => h9) rfl dX7_put_29 ?_
  refine lv_iload_n hx hb dX7_put_32 rfl (lv_at hl 2 rfl) ?_
  refine lv_iload_n hx hb dX7_put_33 rfl (lv_at hl 0 rfl) ?_
  refine lv_ishr hx hb dX7_put_34 ?_
  refine lv_i2b (v := (x0 >>> (16 &&& 31)).toInt8.toInt32) hx hb dX7_put_35 rfl ?_
  refine va_bast hx hb hK hP hD hS 1 0 rfl rfl (vpc _ _ (by decide +kernel)) dX7_put_36 (fun H locs hP hD hS => ?_)
  have hP : va_P (dC, dI) vwCl [(a0, .inr (7, [.ref a1, .int 9])), (a1, .inl (cB, 1600, .inl (upd (upd f0 8 (vp_nar .byte ((x0 >>> (24 &&& 31)).toInt8.toInt32))) 9 (vp_nar .byte ((x0 >>> (16 &&& 31)).toInt8.toInt32)))))] H := hP
  have hD : va_D A [(a0, .inr (7, [.ref a1, .int 9])), (a1, .inl (cB, 1600, .inl (upd (upd f0 8 (vp_nar .byte ((x0 >>> (24 &&& 31)).toInt8.toInt32))) 9 (vp_nar .byte ((x0 >>> (16 &&& 31)).toInt8.toInt32)))))] := hD
  refine lv_aload_n hx hb dX7_put_37 rfl (lv_at hl 1 rfl) ?_
  refine lv_dup hx hb dX7_put_38 rfl ?_
  refine va_get (D := (dC, dI)) (ci := 7) (v := .int 9) (C := RX7) (T := TX7) (N := 2) hx hb hts hiX7 hown hK hP 0 rfl rfl 1 (by decide) (hts _ (List.mem_of_getElem? (i := 1) rfl)) (fun _ h9 => h9) rfl dX7_put_39 ?_
  refine lv_iconst (v := 1) hx hb dX7_put_42 (by decide +kernel) ?_
  refine lv_iadd hx hb dX7_put_43 ?_
  refine tp_i (y := 10) (by decide +kernel) ?_
  refine va_put (D := (dC, dI)) (ci := 7) (v := .int 10) (ty := .int) (C := RX7) (T := TX7) (N := 2) hx hb hts hiX7 tyX7 tyX7_ok nmX7 hown hK hP hD hS 0 rfl rfl 1 (by decide) (hts _ (List.mem_of_getElem? (i := 1) rfl)) (fun _ h9 => h9) rfl (by decide +kernel) rfl rfl (Nat.le_of_ble_eq_true rfl) dX7_put_44 (fun H locs hP hD hS => ?_)
  have hP : va_P (dC, dI) vwCl [(a0, .inr (7, [.ref a1, .int 10])), (a1, .inl (cB, 1600, .inl (upd (upd f0 8 (vp_nar .byte ((x0 >>> (24 &&& 31)).toInt8.toInt32))) 9 (vp_nar .byte ((x0 >>> (16 &&& 31)).toInt8.toInt32)))))] H := hP
  have hD : va_D A [(a0, .inr (7, [.ref a1, .int 10])), (a1, .inl (cB, 1600, .inl (upd (upd f0 8 (vp_nar .byte ((x0 >>> (24 &&& 31)).toInt8.toInt32))) 9 (vp_nar .byte ((x0 >>> (16 &&& 31)).toInt8.toInt32)))))] := hD
  refine lv_iinc (v := 8) (lv' := [(2, .int 8), (0, .ref a0), (1, .int x0)]) hx hb dX7_put_47 hl (k := 0) rfl (by decide +kernel) (by decide) rfl (fun ls hl => ?_)
  refine lv_goto (tgt := 3) hx hb dX7_put_50 (by decide) ?_
  refine lv_iload_n hx hb dX7_put_3 rfl (lv_at hl 0 rfl) ?_
  refine lv_if_lt (tgt := 53) hx hb dX7_put_4 (by decide) (fun c => absurd c (by decide +kernel)) (fun _ => ?_)
  refine lv_aload_n hx hb dX7_put_7 rfl (lv_at hl 1 rfl) ?_
  refine va_get (D := (dC, dI)) (ci := 7) (v := .int 10) (C := RX7) (T := TX7) (N := 2) hx hb hts hiX7 hown hK hP 0 rfl rfl 1 (by decide) (hts _ (List.mem_of_getElem? (i := 1) rfl)) (fun _ h9 => h9) rfl dX7_put_8 ?_
  refine lv_if_lt (tgt := 47) hx hb dX7_put_11 (by decide) (fun c => absurd c (by decide +kernel)) (fun _ => ?_)
  refine lv_aload_n hx hb dX7_put_14 rfl (lv_at hl 1 rfl) ?_
  refine va_get (D := (dC, dI)) (ci := 7) (v := .int 10) (C := RX7) (T := TX7) (N := 2) hx hb hts hiX7 hown hK hP 0 rfl rfl 1 (by decide) (hts _ (List.mem_of_getElem? (i := 1) rfl)) (fun _ h9 => h9) rfl dX7_put_15 ?_
  refine lv_sipush (v := 1600) hx hb dX7_put_18 (by decide +kernel) ?_
  refine lv_icmp_ge (tgt := 47) hx hb dX7_put_21 (by decide) (fun c => absurd c (by decide +kernel)) (fun _ => ?_)
  refine lv_aload_n hx hb dX7_put_24 rfl (lv_at hl 1 rfl) ?_
  refine va_get (D := (dC, dI)) (ci := 7) (v := .ref a1) (C := RX7) (T := TX7) (N := 2) hx hb hts hiX7 hown hK hP 0 rfl rfl 0 (by decide) (hts _ (List.mem_of_getElem? (i := 2) rfl)) (fun _ h9 => h9) rfl dX7_put_25 ?_
  refine lv_aload_n hx hb dX7_put_28 rfl (lv_at hl 1 rfl) ?_
  refine va_get (D := (dC, dI)) (ci := 7) (v := .int 10) (C := RX7) (T := TX7) (N := 2) hx hb hts hiX7 hown hK hP 0 rfl rfl 1 (by decide) (hts _ (List.mem_of_getElem? (i := 1) rfl)) (fun _ h9 => h9) rfl dX7_put_29 ?_
  refine lv_iload_n hx hb dX7_put_32 rfl (lv_at hl 2 rfl) ?_
  refine lv_iload_n hx hb dX7_put_33 rfl (lv_at hl 0 rfl) ?_
  refine lv_ishr hx hb dX7_put_34 ?_
  refine lv_i2b (v := (x0 >>> (8 &&& 31)).toInt8.toInt32) hx hb dX7_put_35 rfl ?_
  refine va_bast hx hb hK hP hD hS 1 0 rfl rfl (vpc _ _ (by decide +kernel)) dX7_put_36 (fun H locs hP hD hS => ?_)
  have hP : va_P (dC, dI) vwCl [(a0, .inr (7, [.ref a1, .int 10])), (a1, .inl (cB, 1600, .inl (upd (upd (upd f0 8 (vp_nar .byte ((x0 >>> (24 &&& 31)).toInt8.toInt32))) 9 (vp_nar .byte ((x0 >>> (16 &&& 31)).toInt8.toInt32))) 10 (vp_nar .byte ((x0 >>> (8 &&& 31)).toInt8.toInt32)))))] H := hP
  have hD : va_D A [(a0, .inr (7, [.ref a1, .int 10])), (a1, .inl (cB, 1600, .inl (upd (upd (upd f0 8 (vp_nar .byte ((x0 >>> (24 &&& 31)).toInt8.toInt32))) 9 (vp_nar .byte ((x0 >>> (16 &&& 31)).toInt8.toInt32))) 10 (vp_nar .byte ((x0 >>> (8 &&& 31)).toInt8.toInt32)))))] := hD
  refine lv_aload_n hx hb dX7_put_37 rfl (lv_at hl 1 rfl) ?_
  refine lv_dup hx hb dX7_put_38 rfl ?_
  refine va_get (D := (dC, dI)) (ci := 7) (v := .int 10) (C := RX7) (T := TX7) (N := 2) hx hb hts hiX7 hown hK hP 0 rfl rfl 1 (by decide) (hts _ (List.mem_of_getElem? (i := 1) rfl)) (fun _ h9 => h9) rfl dX7_put_39 ?_
  refine lv_iconst (v := 1) hx hb dX7_put_42 (by decide +kernel) ?_
  refine lv_iadd hx hb dX7_put_43 ?_
  refine tp_i (y := 11) (by decide +kernel) ?_
  refine va_put (D := (dC, dI)) (ci := 7) (v := .int 11) (ty := .int) (C := RX7) (T := TX7) (N := 2) hx hb hts hiX7 tyX7 tyX7_ok nmX7 hown hK hP hD hS 0 rfl rfl 1 (by decide) (hts _ (List.mem_of_getElem? (i := 1) rfl)) (fun _ h9 => h9) rfl (by decide +kernel) rfl rfl (Nat.le_of_ble_eq_true rfl) dX7_put_44 (fun H locs hP hD hS => ?_)
  have hP : va_P (dC, dI) vwCl [(a0, .inr (7, [.ref a1, .int 11])), (a1, .inl (cB, 1600, .inl (upd (upd (upd f0 8 (vp_nar .byte ((x0 >>> (24 &&& 31)).toInt8.toInt32))) 9 (vp_nar .byte ((x0 >>> (16 &&& 31)).toInt8.toInt32))) 10 (vp_nar .byte ((x0 >>> (8 &&& 31)).toInt8.toInt32)))))] H := hP
  have hD : va_D A [(a0, .inr (7, [.ref a1, .int 11])), (a1, .inl (cB, 1600, .inl (upd (upd (upd f0 8 (vp_nar .byte ((x0 >>> (24 &&& 31)).toInt8.toInt32))) 9 (vp_nar .byte ((x0 >>> (16 &&& 31)).toInt8.toInt32))) 10 (vp_nar .byte ((x0 >>> (8 &&& 31)).toInt8.toInt32)))))] := hD
  refine lv_iinc (v := 0) (lv' := [(2, .int 0), (0, .ref a0), (1, .int x0)]) hx hb dX7_put_47 hl (k := 0) rfl (by decide +kernel) (by decide) rfl (fun ls hl => ?_)
  refine lv_goto (tgt := 3) hx hb dX7_put_50 (by decide) ?_
  refine lv_iload_n hx hb dX7_put_3 rfl (lv_at hl 0 rfl) ?_
  refine lv_if_lt (tgt := 53) hx hb dX7_put_4 (by decide) (fun c => absurd c (by decide +kernel)) (fun _ => ?_)
  refine lv_aload_n hx hb dX7_put_7 rfl (lv_at hl 1 rfl) ?_
  refine va_get (D := (dC, dI)) (ci := 7) (v := .int 11) (C := RX7) (T := TX7) (N := 2) hx hb hts hiX7 hown hK hP 0 rfl rfl 1 (by decide) (hts _ (List.mem_of_getElem? (i := 1) rfl)) (fun _ h9 => h9) rfl dX7_put_8 ?_
  refine lv_if_lt (tgt := 47) hx hb dX7_put_11 (by decide) (fun c => absurd c (by decide +kernel)) (fun _ => ?_)
  refine lv_aload_n hx hb dX7_put_14 rfl (lv_at hl 1 rfl) ?_
  refine va_get (D := (dC, dI)) (ci := 7) (v := .int 11) (C := RX7) (T := TX7) (N := 2) hx hb hts hiX7 hown hK hP 0 rfl rfl 1 (by decide) (hts _ (List.mem_of_getElem? (i := 1) rfl)) (fun _ h9 => h9) rfl dX7_put_15 ?_
  refine lv_sipush (v := 1600) hx hb dX7_put_18 (by decide +kernel) ?_
  refine lv_icmp_ge (tgt := 47) hx hb dX7_put_21 (by decide) (fun c => absurd c (by decide +kernel)) (fun _ => ?_)
  refine lv_aload_n hx hb dX7_put_24 rfl (lv_at hl 1 rfl) ?_
  refine va_get (D := (dC, dI)) (ci := 7) (v := .ref a1) (C := RX7) (T := TX7) (N := 2) hx hb hts hiX7 hown hK hP 0 rfl rfl 0 (by decide) (hts _ (List.mem_of_getElem? (i := 2) rfl)) (fun _ h9 => h9) rfl dX7_put_25 ?_
  refine lv_aload_n hx hb dX7_put_28 rfl (lv_at hl 1 rfl) ?_
  refine va_get (D := (dC, dI)) (ci := 7) (v := .int 11) (C := RX7) (T := TX7) (N := 2) hx hb hts hiX7 hown hK hP 0 rfl rfl 1 (by decide) (hts _ (List.mem_of_getElem? (i := 1) rfl)) (fun _ h9 => h9) rfl dX7_put_29 ?_
  refine lv_iload_n hx hb dX7_put_32 rfl (lv_at hl 2 rfl) ?_
  refine lv_iload_n hx hb dX7_put_33 rfl (lv_at hl 0 rfl) ?_
  refine lv_ishr hx hb dX7_put_34 ?_
  refine lv_i2b (v := (x0 >>> (0 &&& 31)).toInt8.toInt32) hx hb dX7_put_35 rfl ?_
  refine va_bast hx hb hK hP hD hS 1 0 rfl rfl (vpc _ _ (by decide +kernel)) dX7_put_36 (fun H locs hP hD hS => ?_)
  have hP : va_P (dC, dI) vwCl [(a0, .inr (7, [.ref a1, .int 11])), (a1, .inl (cB, 1600, .inl (upd (upd (upd (upd f0 8 (vp_nar .byte ((x0 >>> (24 &&& 31)).toInt8.toInt32))) 9 (vp_nar .byte ((x0 >>> (16 &&& 31)).toInt8.toInt32))) 10 (vp_nar .byte ((x0 >>> (8 &&& 31)).toInt8.toInt32))) 11 (vp_nar .byte ((x0 >>> (0 &&& 31)).toInt8.toInt32)))))] H := hP
  have hD : va_D A [(a0, .inr (7, [.ref a1, .int 11])), (a1, .inl (cB, 1600, .inl (upd (upd (upd (upd f0 8 (vp_nar .byte ((x0 >>> (24 &&& 31)).toInt8.toInt32))) 9 (vp_nar .byte ((x0 >>> (16 &&& 31)).toInt8.toInt32))) 10 (vp_nar .byte ((x0 >>> (8 &&& 31)).toInt8.toInt32))) 11 (vp_nar .byte ((x0 >>> (0 &&& 31)).toInt8.toInt32)))))] := hD
  refine lv_aload_n hx hb dX7_put_37 rfl (lv_at hl 1 rfl) ?_
  refine lv_dup hx hb dX7_put_38 rfl ?_
  refine va_get (D := (dC, dI)) (ci := 7) (v := .int 11) (C := RX7) (T := TX7) (N := 2) hx hb hts hiX7 hown hK hP 0 rfl rfl 1 (by decide) (hts _ (List.mem_of_getElem? (i := 1) rfl)) (fun _ h9 => h9) rfl dX7_put_39 ?_
  refine lv_iconst (v := 1) hx hb dX7_put_42 (by decide +kernel) ?_
  refine lv_iadd hx hb dX7_put_43 ?_
  refine tp_i (y := 12) (by decide +kernel) ?_
  refine va_put (D := (dC, dI)) (ci := 7) (v := .int 12) (ty := .int) (C := RX7) (T := TX7) (N := 2) hx hb hts hiX7 tyX7 tyX7_ok nmX7 hown hK hP hD hS 0 rfl rfl 1 (by decide) (hts _ (List.mem_of_getElem? (i := 1) rfl)) (fun _ h9 => h9) rfl (by decide +kernel) rfl rfl (Nat.le_of_ble_eq_true rfl) dX7_put_44 (fun H locs hP hD hS => ?_)
  have hP : va_P (dC, dI) vwCl [(a0, .inr (7, [.ref a1, .int 12])), (a1, .inl (cB, 1600, .inl (upd (upd (upd (upd f0 8 (vp_nar .byte ((x0 >>> (24 &&& 31)).toInt8.toInt32))) 9 (vp_nar .byte ((x0 >>> (16 &&& 31)).toInt8.toInt32))) 10 (vp_nar .byte ((x0 >>> (8 &&& 31)).toInt8.toInt32))) 11 (vp_nar .byte ((x0 >>> (0 &&& 31)).toInt8.toInt32)))))] H := hP
  have hD : va_D A [(a0, .inr (7, [.ref a1, .int 12])), (a1, .inl (cB, 1600, .inl (upd (upd (upd (upd f0 8 (vp_nar .byte ((x0 >>> (24 &&& 31)).toInt8.toInt32))) 9 (vp_nar .byte ((x0 >>> (16 &&& 31)).toInt8.toInt32))) 10 (vp_nar .byte ((x0 >>> (8 &&& 31)).toInt8.toInt32))) 11 (vp_nar .byte ((x0 >>> (0 &&& 31)).toInt8.toInt32)))))] := hD
  refine lv_iinc (v := (-8)) (lv' := [(2, .int (-8)), (0, .ref a0), (1, .int x0)]) hx hb dX7_put_47 hl (k := 0) rfl (by decide +kernel) (by decide) rfl (fun ls hl => ?_)
  refine lv_goto (tgt := 3) hx hb dX7_put_50 (by decide) ?_
  refine lv_iload_n hx hb dX7_put_3 rfl (lv_at hl 0 rfl) ?_
  refine lv_if_lt (tgt := 53) hx hb dX7_put_4 (by decide) (fun _ => ?_) (fun c => absurd c (by decide +kernel))
  have hP9 := hP.sub (ws' := [(a0, .inr (7, [.ref a1, .int 12])), (a1, .inl (cB, 1600, .inl (upd (upd (upd (upd f0 8 (vp_nar .byte ((x0 >>> (24 &&& 31)).toInt8.toInt32))) 9 (vp_nar .byte ((x0 >>> (16 &&& 31)).toInt8.toInt32))) 10 (vp_nar .byte ((x0 >>> (8 &&& 31)).toInt8.toInt32))) 11 (vp_nar .byte ((x0 >>> (0 &&& 31)).toInt8.toInt32)))))]) [0, 1] rfl
  have hD9 := hD.sub (ws' := [(a0, .inr (7, [.ref a1, .int 12])), (a1, .inl (cB, 1600, .inl (upd (upd (upd (upd f0 8 (vp_nar .byte ((x0 >>> (24 &&& 31)).toInt8.toInt32))) 9 (vp_nar .byte ((x0 >>> (16 &&& 31)).toInt8.toInt32))) 10 (vp_nar .byte ((x0 >>> (8 &&& 31)).toInt8.toInt32))) 11 (vp_nar .byte ((x0 >>> (0 &&& 31)).toInt8.toInt32)))))]) [0, 1] (by decide) rfl
  exact W.vret hx hb hr (fun t ht hW => ⟨⟨(), rfl, trivial, by rw [ht]; exact hP9, va_K.moved hW.alike hK, hD9⟩, hS.F ht⟩) hS.2.2 dX7_put_53
def ws_k_X7_put_5 : List Cond := .code yX7_put cX7_put 3 none :: ([.fieldLink RX7 15 "StackKeys$Tape" "size" "I", .fieldLink RX7 9 "StackKeys$Tape" "bytes" "[B"] ++ wsX70)
set_option maxHeartbeats 4000000 in
set_option maxRecDepth 100000 in
theorem k_X7_put_5 (l : Launch) (dC : Nat → ClassId) (dI : Nat → Nat → Nat) (cB cI cJ cZ cQ : ClassId) (sz : Nat) (a0 a1 : Nat) (x0 : Int32) (f0 : Nat → Int32) : Met l yX7_put ws_k_X7_put_5 ({ frames := 0, cells := 0, slots := 0, locals := 0 }) (va_Pc [.ref a0, .int x0] (fun U => U.heap.size = sz ∧ va_P (dC, dI) vwCl [(a0, .inr (7, [.ref a1, .int 12])), (a1, .inl (cB, 1600, .inl f0))] U.heap ∧ va_K (dC, dI) vwCl (tyA cB cI cJ cZ cQ) U ∧ va_D (fun _ => True) [(a0, .inr (7, [.ref a1, .int 12])), (a1, .inl (cB, 1600, .inl f0))])) (va_Qv (fun _ : Unit => True) (fun (u : Unit) t => va_P (dC, dI) vwCl [(a0, .inr (7, [.ref a1, .int 16])), (a1, .inl (cB, 1600, .inl (upd (upd (upd (upd f0 12 (vp_nar .byte ((x0 >>> (24 &&& 31)).toInt8.toInt32))) 13 (vp_nar .byte ((x0 >>> (16 &&& 31)).toInt8.toInt32))) 14 (vp_nar .byte ((x0 >>> (8 &&& 31)).toInt8.toInt32))) 15 (vp_nar .byte ((x0 >>> (0 &&& 31)).toInt8.toInt32)))))] t.heap ∧ va_K (dC, dI) vwCl (tyA cB cI cJ cZ cQ) t ∧ va_D (va_A [(a0, .inr (7, [.ref a1, .int 12])), (a1, .inl (cB, 1600, .inl f0))] sz) [(a0, .inr (7, [.ref a1, .int 16])), (a1, .inl (cB, 1600, .inl (upd (upd (upd (upd f0 12 (vp_nar .byte ((x0 >>> (24 &&& 31)).toInt8.toInt32))) 13 (vp_nar .byte ((x0 >>> (16 &&& 31)).toInt8.toInt32))) 14 (vp_nar .byte ((x0 >>> (8 &&& 31)).toInt8.toInt32))) 15 (vp_nar .byte ((x0 >>> (0 &&& 31)).toInt8.toInt32)))))]) (va_A [(a0, .inr (7, [.ref a1, .int 12])), (a1, .inl (cB, 1600, .inl f0))] sz)) 0 0 (va_A [(a0, .inr (7, [.ref a1, .int 12])), (a1, .inl (cB, 1600, .inl f0))] sz) := by
  refine Met.ofW (cc := cX7_put) (maxL := 3) (ret := none) (by decide +kernel) rfl ?_
  intro p e s m args below meth c s₁ B hml hv
  obtain ⟨rfl, hsz, hP, hK, hD0⟩ := hv
  have hx := B.exec
  have hb := B.bytes
  have hr := B.returns
  have hts := atoms_spec (ws := ws_k_X7_put_5) B.pre
  have hown : s.vm.findClass RX7 = some m.cls := findClass_of_methodNamed B.named
  have hiX7 : ∀ w ∈ u_ws RX7 TX7 2, w ∈ ws_k_X7_put_5 := fun w h => List.mem_cons_of_mem _ (List.mem_append_right _ h)
  subst hsz
  have hD := hD0.self (sz := s.heap.size)
  generalize hAe : va_A [(a0, .inr (7, [.ref a1, .int 12])), (a1, .inl (cB, 1600, .inl f0))] s.heap.size = A at hD ⊢
  have hA : ∀ b : Nat, s.heap.size ≤ b → A b := fun b h => by rw [← hAe]; exact Or.inr h
  clear hD0 hAe
  have hS : va_S A s.heap s.heap [] := va_S.rf
  have hl := lv_entry ([.ref a0, .int x0]) (n := 3) (Nat.le_of_ble_eq_true rfl)
  rw [lg_entry_eq]
  generalize (lg_sl ([.ref a0, .int x0]) ++ List.replicate (3 - (lg_sl ([.ref a0, .int x0])).length) Slot.unset).toArray = ls at hl ⊢
  have hl : lv_has ls 3 [(0, .ref a0), (1, .int x0)] := hl
  obtain ⟨H, hHe⟩ : ∃ H : Heap, H = s.heap := ⟨_, rfl⟩
  rw [← hHe] at hP
  have hS : va_S A s.heap H [] := by rw [hHe]; exact hS
  rw [← hHe]
  refine lv_bipush (v := 24) hx hb dX7_put_0 (by decide +kernel) ?_
  refine lv_istore_n (lv' := [(2, .int 24), (0, .ref a0), (1, .int x0)]) hx hb dX7_put_2 rfl hl (by decide) rfl (fun ls hl => ?_)
  refine lv_iload_n hx hb dX7_put_3 rfl (lv_at hl 0 rfl) ?_
  refine lv_if_lt (tgt := 53) hx hb dX7_put_4 (by decide) (fun c => absurd c (by decide +kernel)) (fun _ => ?_)
  refine lv_aload_n hx hb dX7_put_7 rfl (lv_at hl 1 rfl) ?_
  refine va_get (D := (dC, dI)) (ci := 7) (v := .int 12) (C := RX7) (T := TX7) (N := 2) hx hb hts hiX7 hown hK hP 0 rfl rfl 1 (by decide) (hts _ (List.mem_of_getElem? (i := 1) rfl)) (fun _ h9 => h9) rfl dX7_put_8 ?_
  refine lv_if_lt (tgt := 47) hx hb dX7_put_11 (by decide) (fun c => absurd c (by decide +kernel)) (fun _ => ?_)
  refine lv_aload_n hx hb dX7_put_14 rfl (lv_at hl 1 rfl) ?_
  refine va_get (D := (dC, dI)) (ci := 7) (v := .int 12) (C := RX7) (T := TX7) (N := 2) hx hb hts hiX7 hown hK hP 0 rfl rfl 1 (by decide) (hts _ (List.mem_of_getElem? (i := 1) rfl)) (fun _ h9 => h9) rfl dX7_put_15 ?_
  refine lv_sipush (v := 1600) hx hb dX7_put_18 (by decide +kernel) ?_
  refine lv_icmp_ge (tgt := 47) hx hb dX7_put_21 (by decide) (fun c => absurd c (by decide +kernel)) (fun _ => ?_)
  refine lv_aload_n hx hb dX7_put_24 rfl (lv_at hl 1 rfl) ?_
  refine va_get (D := (dC, dI)) (ci := 7) (v := .ref a1) (C := RX7) (T := TX7) (N := 2) hx hb hts hiX7 hown hK hP 0 rfl rfl 0 (by decide) (hts _ (List.mem_of_getElem? (i := 2) rfl)) (fun _ h9 => h9) rfl dX7_put_25 ?_
  refine lv_aload_n hx hb dX7_put_28 rfl (lv_at hl 1 rfl) ?_
  refine va_get (D := (dC, dI)) (ci := 7) (v := .int 12) (C := RX7) (T := TX7) (N := 2) hx hb hts hiX7 hown hK hP 0 rfl rfl 1 (by decide) (hts _ (List.mem_of_getElem? (i := 1) rfl)) (fun _ h9 => h9) rfl dX7_put_29 ?_
  refine lv_iload_n hx hb dX7_put_32 rfl (lv_at hl 2 rfl) ?_
  refine lv_iload_n hx hb dX7_put_33 rfl (lv_at hl 0 rfl) ?_
  refine lv_ishr hx hb dX7_put_34 ?_
  refine lv_i2b (v := (x0 >>> (24 &&& 31)).toInt8.toInt32) hx hb dX7_put_35 rfl ?_
  refine va_bast hx hb hK hP hD hS 1 0 rfl rfl (vpc _ _ (by decide +kernel)) dX7_put_36 (fun H locs hP hD hS => ?_)
  have hP : va_P (dC, dI) vwCl [(a0, .inr (7, [.ref a1, .int 12])), (a1, .inl (cB, 1600, .inl (upd f0 12 (vp_nar .byte ((x0 >>> (24 &&& 31)).toInt8.toInt32)))))] H := hP
  have hD : va_D A [(a0, .inr (7, [.ref a1, .int 12])), (a1, .inl (cB, 1600, .inl (upd f0 12 (vp_nar .byte ((x0 >>> (24 &&& 31)).toInt8.toInt32)))))] := hD
  refine lv_aload_n hx hb dX7_put_37 rfl (lv_at hl 1 rfl) ?_
  refine lv_dup hx hb dX7_put_38 rfl ?_
  refine va_get (D := (dC, dI)) (ci := 7) (v := .int 12) (C := RX7) (T := TX7) (N := 2) hx hb hts hiX7 hown hK hP 0 rfl rfl 1 (by decide) (hts _ (List.mem_of_getElem? (i := 1) rfl)) (fun _ h9 => h9) rfl dX7_put_39 ?_
  refine lv_iconst (v := 1) hx hb dX7_put_42 (by decide +kernel) ?_
  refine lv_iadd hx hb dX7_put_43 ?_
  refine tp_i (y := 13) (by decide +kernel) ?_
  refine va_put (D := (dC, dI)) (ci := 7) (v := .int 13) (ty := .int) (C := RX7) (T := TX7) (N := 2) hx hb hts hiX7 tyX7 tyX7_ok nmX7 hown hK hP hD hS 0 rfl rfl 1 (by decide) (hts _ (List.mem_of_getElem? (i := 1) rfl)) (fun _ h9 => h9) rfl (by decide +kernel) rfl rfl (Nat.le_of_ble_eq_true rfl) dX7_put_44 (fun H locs hP hD hS => ?_)
  have hP : va_P (dC, dI) vwCl [(a0, .inr (7, [.ref a1, .int 13])), (a1, .inl (cB, 1600, .inl (upd f0 12 (vp_nar .byte ((x0 >>> (24 &&& 31)).toInt8.toInt32)))))] H := hP
  have hD : va_D A [(a0, .inr (7, [.ref a1, .int 13])), (a1, .inl (cB, 1600, .inl (upd f0 12 (vp_nar .byte ((x0 >>> (24 &&& 31)).toInt8.toInt32)))))] := hD
  refine lv_iinc (v := 16) (lv' := [(2, .int 16), (0, .ref a0), (1, .int x0)]) hx hb dX7_put_47 hl (k := 0) rfl (by decide +kernel) (by decide) rfl (fun ls hl => ?_)
  refine lv_goto (tgt := 3) hx hb dX7_put_50 (by decide) ?_
  refine lv_iload_n hx hb dX7_put_3 rfl (lv_at hl 0 rfl) ?_
  refine lv_if_lt (tgt := 53) hx hb dX7_put_4 (by decide) (fun c => absurd c (by decide +kernel)) (fun _ => ?_)
  refine lv_aload_n hx hb dX7_put_7 rfl (lv_at hl 1 rfl) ?_
  refine va_get (D := (dC, dI)) (ci := 7) (v := .int 13) (C := RX7) (T := TX7) (N := 2) hx hb hts hiX7 hown hK hP 0 rfl rfl 1 (by decide) (hts _ (List.mem_of_getElem? (i := 1) rfl)) (fun _ h9 => h9) rfl dX7_put_8 ?_
  refine lv_if_lt (tgt := 47) hx hb dX7_put_11 (by decide) (fun c => absurd c (by decide +kernel)) (fun _ => ?_)
  refine lv_aload_n hx hb dX7_put_14 rfl (lv_at hl 1 rfl) ?_
  refine va_get (D := (dC, dI)) (ci := 7) (v := .int 13) (C := RX7) (T := TX7) (N := 2) hx hb hts hiX7 hown hK hP 0 rfl rfl 1 (by decide) (hts _ (List.mem_of_getElem? (i := 1) rfl)) (fun _ h9 => h9) rfl dX7_put_15 ?_
  refine lv_sipush (v := 1600) hx hb dX7_put_18 (by decide +kernel) ?_
  refine lv_icmp_ge (tgt := 47) hx hb dX7_put_21 (by decide) (fun c => absurd c (by decide +kernel)) (fun _ => ?_)
  refine lv_aload_n hx hb dX7_put_24 rfl (lv_at hl 1 rfl) ?_
  refine va_get (D := (dC, dI)) (ci := 7) (v := .ref a1) (C := RX7) (T := TX7) (N := 2) hx hb hts hiX7 hown hK hP 0 rfl rfl 0 (by decide) (hts _ (List.mem_of_getElem? (i := 2) rfl)) (fun _ h9 => h9) rfl dX7_put_25 ?_
  refine lv_aload_n hx hb dX7_put_28 rfl (lv_at hl 1 rfl) ?_
  refine va_get (D := (dC, dI)) (ci := 7) (v := .int 13) (C := RX7) (T := TX7) (N := 2) hx hb hts hiX7 hown hK hP 0 rfl rfl 1 (by decide) (hts _ (List.mem_of_getElem? (i := 1) rfl)) (fun _ h9 => h9) rfl dX7_put_29 ?_
  refine lv_iload_n hx hb dX7_put_32 rfl (lv_at hl 2 rfl) ?_
  refine lv_iload_n hx hb dX7_put_33 rfl (lv_at hl 0 rfl) ?_
  refine lv_ishr hx hb dX7_put_34 ?_
  refine lv_i2b (v := (x0 >>> (16 &&& 31)).toInt8.toInt32) hx hb dX7_put_35 rfl ?_
  refine va_bast hx hb hK hP hD hS 1 0 rfl rfl (vpc _ _ (by decide +kernel)) dX7_put_36 (fun H locs hP hD hS => ?_)
  have hP : va_P (dC, dI) vwCl [(a0, .inr (7, [.ref a1, .int 13])), (a1, .inl (cB, 1600, .inl (upd (upd f0 12 (vp_nar .byte ((x0 >>> (24 &&& 31)).toInt8.toInt32))) 13 (vp_nar .byte ((x0 >>> (16 &&& 31)).toInt8.toInt32)))))] H := hP
  have hD : va_D A [(a0, .inr (7, [.ref a1, .int 13])), (a1, .inl (cB, 1600, .inl (upd (upd f0 12 (vp_nar .byte ((x0 >>> (24 &&& 31)).toInt8.toInt32))) 13 (vp_nar .byte ((x0 >>> (16 &&& 31)).toInt8.toInt32)))))] := hD
  refine lv_aload_n hx hb dX7_put_37 rfl (lv_at hl 1 rfl) ?_
  refine lv_dup hx hb dX7_put_38 rfl ?_
  refine va_get (D := (dC, dI)) (ci := 7) (v := .int 13) (C := RX7) (T := TX7) (N := 2) hx hb hts hiX7 hown hK hP 0 rfl rfl 1 (by decide) (hts _ (List.mem_of_getElem? (i := 1) rfl)) (fun _ h9 => h9) rfl dX7_put_39 ?_
  refine lv_iconst (v := 1) hx hb dX7_put_42 (by decide +kernel) ?_
  refine lv_iadd hx hb dX7_put_43 ?_
  refine tp_i (y := 14) (by decide +kernel) ?_
  refine va_put (D := (dC, dI)) (ci := 7) (v := .int 14) (ty := .int) (C := RX7) (T := TX7) (N := 2) hx hb hts hiX7 tyX7 tyX7_ok nmX7 hown hK hP hD hS 0 rfl rfl 1 (by decide) (hts _ (List.mem_of_getElem? (i := 1) rfl)) (fun _ h9 => h9) rfl (by decide +kernel) rfl rfl (Nat.le_of_ble_eq_true rfl) dX7_put_44 (fun H locs hP hD hS => ?_)
  have hP : va_P (dC, dI) vwCl [(a0, .inr (7, [.ref a1, .int 14])), (a1, .inl (cB, 1600, .inl (upd (upd f0 12 (vp_nar .byte ((x0 >>> (24 &&& 31)).toInt8.toInt32))) 13 (vp_nar .byte ((x0 >>> (16 &&& 31)).toInt8.toInt32)))))] H := hP
  have hD : va_D A [(a0, .inr (7, [.ref a1, .int 14])), (a1, .inl (cB, 1600, .inl (upd (upd f0 12 (vp_nar .byte ((x0 >>> (24 &&& 31)).toInt8.toInt32))) 13 (vp_nar .byte ((x0 >>> (16 &&& 31)).toInt8.toInt32)))))] := hD
  refine lv_iinc (v := 8) (lv' := [(2, .int 8), (0, .ref a0), (1, .int x0)]) hx hb dX7_put_47 hl (k := 0) rfl (by decide +kernel) (by decide) rfl (fun ls hl => ?_)
  refine lv_goto (tgt := 3) hx hb dX7_put_50 (by decide) ?_
  refine lv_iload_n hx hb dX7_put_3 rfl (lv_at hl 0 rfl) ?_
  refine lv_if_lt (tgt := 53) hx hb dX7_put_4 (by decide) (fun c => absurd c (by decide +kernel)) (fun _ => ?_)
  refine lv_aload_n hx hb dX7_put_7 rfl (lv_at hl 1 rfl) ?_
  refine va_get (D := (dC, dI)) (ci := 7) (v := .int 14) (C := RX7) (T := TX7) (N := 2) hx hb hts hiX7 hown hK hP 0 rfl rfl 1 (by decide) (hts _ (List.mem_of_getElem? (i := 1) rfl)) (fun _ h9 => h9) rfl dX7_put_8 ?_
  refine lv_if_lt (tgt := 47) hx hb dX7_put_11 (by decide) (fun c => absurd c (by decide +kernel)) (fun _ => ?_)
  refine lv_aload_n hx hb dX7_put_14 rfl (lv_at hl 1 rfl) ?_
  refine va_get (D := (dC, dI)) (ci := 7) (v := .int 14) (C := RX7) (T := TX7) (N := 2) hx hb hts hiX7 hown hK hP 0 rfl rfl 1 (by decide) (hts _ (List.mem_of_getElem? (i := 1) rfl)) (fun _ h9 => h9) rfl dX7_put_15 ?_
  refine lv_sipush (v := 1600) hx hb dX7_put_18 (by decide +kernel) ?_
  refine lv_icmp_ge (tgt := 47) hx hb dX7_put_21 (by decide) (fun c => absurd c (by decide +kernel)) (fun _ => ?_)
  refine lv_aload_n hx hb dX7_put_24 rfl (lv_at hl 1 rfl) ?_
  refine va_get (D := (dC, dI)) (ci := 7) (v := .ref a1) (C := RX7) (T := TX7) (N := 2) hx hb hts hiX7 hown hK hP 0 rfl rfl 0 (by decide) (hts _ (List.mem_of_getElem? (i := 2) rfl)) (fun _ h9 => h9) rfl dX7_put_25 ?_
  refine lv_aload_n hx hb dX7_put_28 rfl (lv_at hl 1 rfl) ?_
  refine va_get (D := (dC, dI)) (ci := 7) (v := .int 14) (C := RX7) (T := TX7) (N := 2) hx hb hts hiX7 hown hK hP 0 rfl rfl 1 (by decide) (hts _ (List.mem_of_getElem? (i := 1) rfl)) (fun _ h9 => h9) rfl dX7_put_29 ?_
  refine lv_iload_n hx hb dX7_put_32 rfl (lv_at hl 2 rfl) ?_
  refine lv_iload_n hx hb dX7_put_33 rfl (lv_at hl 0 rfl) ?_
  refine lv_ishr hx hb dX7_put_34 ?_
  refine lv_i2b (v := (x0 >>> (8 &&& 31)).toInt8.toInt32) hx hb dX7_put_35 rfl ?_
  refine va_bast hx hb hK hP hD hS 1 0 rfl rfl (vpc _ _ (by decide +kernel)) dX7_put_36 (fun H locs hP hD hS => ?_)
  have hP : va_P (dC, dI) vwCl [(a0, .inr (7, [.ref a1, .int 14])), (a1, .inl (cB, 1600, .inl (upd (upd (upd f0 12 (vp_nar .byte ((x0 >>> (24 &&& 31)).toInt8.toInt32))) 13 (vp_nar .byte ((x0 >>> (16 &&& 31)).toInt8.toInt32))) 14 (vp_nar .byte ((x0 >>> (8 &&& 31)).toInt8.toInt32)))))] H := hP
  have hD : va_D A [(a0, .inr (7, [.ref a1, .int 14])), (a1, .inl (cB, 1600, .inl (upd (upd (upd f0 12 (vp_nar .byte ((x0 >>> (24 &&& 31)).toInt8.toInt32))) 13 (vp_nar .byte ((x0 >>> (16 &&& 31)).toInt8.toInt32))) 14 (vp_nar .byte ((x0 >>> (8 &&& 31)).toInt8.toInt32)))))] := hD
  refine lv_aload_n hx hb dX7_put_37 rfl (lv_at hl 1 rfl) ?_
  refine lv_dup hx hb dX7_put_38 rfl ?_
  refine va_get (D := (dC, dI)) (ci := 7) (v := .int 14) (C := RX7) (T := TX7) (N := 2) hx hb hts hiX7 hown hK hP 0 rfl rfl 1 (by decide) (hts _ (List.mem_of_getElem? (i := 1) rfl)) (fun _ h9 => h9) rfl dX7_put_39 ?_
  refine lv_iconst (v := 1) hx hb dX7_put_42 (by decide +kernel) ?_
  refine lv_iadd hx hb dX7_put_43 ?_
  refine tp_i (y := 15) (by decide +kernel) ?_
  refine va_put (D := (dC, dI)) (ci := 7) (v := .int 15) (ty := .int) (C := RX7) (T := TX7) (N := 2) hx hb hts hiX7 tyX7 tyX7_ok nmX7 hown hK hP hD hS 0 rfl rfl 1 (by decide) (hts _ (List.mem_of_getElem? (i := 1) rfl)) (fun _ h9 => h9) rfl (by decide +kernel) rfl rfl (Nat.le_of_ble_eq_true rfl) dX7_put_44 (fun H locs hP hD hS => ?_)
  have hP : va_P (dC, dI) vwCl [(a0, .inr (7, [.ref a1, .int 15])), (a1, .inl (cB, 1600, .inl (upd (upd (upd f0 12 (vp_nar .byte ((x0 >>> (24 &&& 31)).toInt8.toInt32))) 13 (vp_nar .byte ((x0 >>> (16 &&& 31)).toInt8.toInt32))) 14 (vp_nar .byte ((x0 >>> (8 &&& 31)).toInt8.toInt32)))))] H := hP
  have hD : va_D A [(a0, .inr (7, [.ref a1, .int 15])), (a1, .inl (cB, 1600, .inl (upd (upd (upd f0 12 (vp_nar .byte ((x0 >>> (24 &&& 31)).toInt8.toInt32))) 13 (vp_nar .byte ((x0 >>> (16 &&& 31)).toInt8.toInt32))) 14 (vp_nar .byte ((x0 >>> (8 &&& 31)).toInt8.toInt32)))))] := hD
  refine lv_iinc (v := 0) (lv' := [(2, .int 0), (0, .ref a0), (1, .int x0)]) hx hb dX7_put_47 hl (k := 0) rfl (by decide +kernel) (by decide) rfl (fun ls hl => ?_)
  refine lv_goto (tgt := 3) hx hb dX7_put_50 (by decide) ?_
  refine lv_iload_n hx hb dX7_put_3 rfl (lv_at hl 0 rfl) ?_
  refine lv_if_lt (tgt := 53) hx hb dX7_put_4 (by decide) (fun c => absurd c (by decide +kernel)) (fun _ => ?_)
  refine lv_aload_n hx hb dX7_put_7 rfl (lv_at hl 1 rfl) ?_
  refine va_get (D := (dC, dI)) (ci := 7) (v := .int 15) (C := RX7) (T := TX7) (N := 2) hx hb hts hiX7 hown hK hP 0 rfl rfl 1 (by decide) (hts _ (List.mem_of_getElem? (i := 1) rfl)) (fun _ h9 => h9) rfl dX7_put_8 ?_
  refine lv_if_lt (tgt := 47) hx hb dX7_put_11 (by decide) (fun c => absurd c (by decide +kernel)) (fun _ => ?_)
  refine lv_aload_n hx hb dX7_put_14 rfl (lv_at hl 1 rfl) ?_
  refine va_get (D := (dC, dI)) (ci := 7) (v := .int 15) (C := RX7) (T := TX7) (N := 2) hx hb hts hiX7 hown hK hP 0 rfl rfl 1 (by decide) (hts _ (List.mem_of_getElem? (i := 1) rfl)) (fun _ h9 => h9) rfl dX7_put_15 ?_
  refine lv_sipush (v := 1600) hx hb dX7_put_18 (by decide +kernel) ?_
  refine lv_icmp_ge (tgt := 47) hx hb dX7_put_21 (by decide) (fun c => absurd c (by decide +kernel)) (fun _ => ?_)
  refine lv_aload_n hx hb dX7_put_24 rfl (lv_at hl 1 rfl) ?_
  refine va_get (D := (dC, dI)) (ci := 7) (v := .ref a1) (C := RX7) (T := TX7) (N := 2) hx hb hts hiX7 hown hK hP 0 rfl rfl 0 (by decide) (hts _ (List.mem_of_getElem? (i := 2) rfl)) (fun _ h9 => h9) rfl dX7_put_25 ?_
  refine lv_aload_n hx hb dX7_put_28 rfl (lv_at hl 1 rfl) ?_
  refine va_get (D := (dC, dI)) (ci := 7) (v := .int 15) (C := RX7) (T := TX7) (N := 2) hx hb hts hiX7 hown hK hP 0 rfl rfl 1 (by decide) (hts _ (List.mem_of_getElem? (i := 1) rfl)) (fun _ h9 => h9) rfl dX7_put_29 ?_
  refine lv_iload_n hx hb dX7_put_32 rfl (lv_at hl 2 rfl) ?_
  refine lv_iload_n hx hb dX7_put_33 rfl (lv_at hl 0 rfl) ?_
  refine lv_ishr hx hb dX7_put_34 ?_
  refine lv_i2b (v := (x0 >>> (0 &&& 31)).toInt8.toInt32) hx hb dX7_put_35 rfl ?_
  refine va_bast hx hb hK hP hD hS 1 0 rfl rfl (vpc _ _ (by decide +kernel)) dX7_put_36 (fun H locs hP hD hS => ?_)
  have hP : va_P (dC, dI) vwCl [(a0, .inr (7, [.ref a1, .int 15])), (a1, .inl (cB, 1600, .inl (upd (upd (upd (upd f0 12 (vp_nar .byte ((x0 >>> (24 &&& 31)).toInt8.toInt32))) 13 (vp_nar .byte ((x0 >>> (16 &&& 31)).toInt8.toInt32))) 14 (vp_nar .byte ((x0 >>> (8 &&& 31)).toInt8.toInt32))) 15 (vp_nar .byte ((x0 >>> (0 &&& 31)).toInt8.toInt32)))))] H := hP
  have hD : va_D A [(a0, .inr (7, [.ref a1, .int 15])), (a1, .inl (cB, 1600, .inl (upd (upd (upd (upd f0 12 (vp_nar .byte ((x0 >>> (24 &&& 31)).toInt8.toInt32))) 13 (vp_nar .byte ((x0 >>> (16 &&& 31)).toInt8.toInt32))) 14 (vp_nar .byte ((x0 >>> (8 &&& 31)).toInt8.toInt32))) 15 (vp_nar .byte ((x0 >>> (0 &&& 31)).toInt8.toInt32)))))] := hD
  refine lv_aload_n hx hb dX7_put_37 rfl (lv_at hl 1 rfl) ?_
  refine lv_dup hx hb dX7_put_38 rfl ?_
  refine va_get (D := (dC, dI)) (ci := 7) (v := .int 15) (C := RX7) (T := TX7) (N := 2) hx hb hts hiX7 hown hK hP 0 rfl rfl 1 (by decide) (hts _ (List.mem_of_getElem? (i := 1) rfl)) (fun _ h9 => h9) rfl dX7_put_39 ?_
  refine lv_iconst (v := 1) hx hb dX7_put_42 (by decide +kernel) ?_
  refine lv_iadd hx hb dX7_put_43 ?_
  refine tp_i (y := 16) (by decide +kernel) ?_
  refine va_put (D := (dC, dI)) (ci := 7) (v := .int 16) (ty := .int) (C := RX7) (T := TX7) (N := 2) hx hb hts hiX7 tyX7 tyX7_ok nmX7 hown hK hP hD hS 0 rfl rfl 1 (by decide) (hts _ (List.mem_of_getElem? (i := 1) rfl)) (fun _ h9 => h9) rfl (by decide +kernel) rfl rfl (Nat.le_of_ble_eq_true rfl) dX7_put_44 (fun H locs hP hD hS => ?_)
  have hP : va_P (dC, dI) vwCl [(a0, .inr (7, [.ref a1, .int 16])), (a1, .inl (cB, 1600, .inl (upd (upd (upd (upd f0 12 (vp_nar .byte ((x0 >>> (24 &&& 31)).toInt8.toInt32))) 13 (vp_nar .byte ((x0 >>> (16 &&& 31)).toInt8.toInt32))) 14 (vp_nar .byte ((x0 >>> (8 &&& 31)).toInt8.toInt32))) 15 (vp_nar .byte ((x0 >>> (0 &&& 31)).toInt8.toInt32)))))] H := hP
  have hD : va_D A [(a0, .inr (7, [.ref a1, .int 16])), (a1, .inl (cB, 1600, .inl (upd (upd (upd (upd f0 12 (vp_nar .byte ((x0 >>> (24 &&& 31)).toInt8.toInt32))) 13 (vp_nar .byte ((x0 >>> (16 &&& 31)).toInt8.toInt32))) 14 (vp_nar .byte ((x0 >>> (8 &&& 31)).toInt8.toInt32))) 15 (vp_nar .byte ((x0 >>> (0 &&& 31)).toInt8.toInt32)))))] := hD
  refine lv_iinc (v := (-8)) (lv' := [(2, .int (-8)), (0, .ref a0), (1, .int x0)]) hx hb dX7_put_47 hl (k := 0) rfl (by decide +kernel) (by decide) rfl (fun ls hl => ?_)
  refine lv_goto (tgt := 3) hx hb dX7_put_50 (by decide) ?_
  refine lv_iload_n hx hb dX7_put_3 rfl (lv_at hl 0 rfl) ?_
  refine lv_if_lt (tgt := 53) hx hb dX7_put_4 (by decide) (fun _ => ?_) (fun c => absurd c (by decide +kernel))
  have hP9 := hP.sub (ws' := [(a0, .inr (7, [.ref a1, .int 16])), (a1, .inl (cB, 1600, .inl (upd (upd (upd (upd f0 12 (vp_nar .byte ((x0 >>> (24 &&& 31)).toInt8.toInt32))) 13 (vp_nar .byte ((x0 >>> (16 &&& 31)).toInt8.toInt32))) 14 (vp_nar .byte ((x0 >>> (8 &&& 31)).toInt8.toInt32))) 15 (vp_nar .byte ((x0 >>> (0 &&& 31)).toInt8.toInt32)))))]) [0, 1] rfl
  have hD9 := hD.sub (ws' := [(a0, .inr (7, [.ref a1, .int 16])), (a1, .inl (cB, 1600, .inl (upd (upd (upd (upd f0 12 (vp_nar .byte ((x0 >>> (24 &&& 31)).toInt8.toInt32))) 13 (vp_nar .byte ((x0 >>> (16 &&& 31)).toInt8.toInt32))) 14 (vp_nar .byte ((x0 >>> (8 &&& 31)).toInt8.toInt32))) 15 (vp_nar .byte ((x0 >>> (0 &&& 31)).toInt8.toInt32)))))]) [0, 1] (by decide) rfl
  exact W.vret hx hb hr (fun t ht hW => ⟨⟨(), rfl, trivial, by rw [ht]; exact hP9, va_K.moved hW.alike hK, hD9⟩, hS.F ht⟩) hS.2.2 dX7_put_53
def ws_k_X7_put_6 : List Cond := .code yX7_put cX7_put 3 none :: ([.fieldLink RX7 15 "StackKeys$Tape" "size" "I", .fieldLink RX7 9 "StackKeys$Tape" "bytes" "[B"] ++ wsX70)
set_option maxHeartbeats 4000000 in
set_option maxRecDepth 100000 in
theorem k_X7_put_6 (l : Launch) (dC : Nat → ClassId) (dI : Nat → Nat → Nat) (cB cI cJ cZ cQ : ClassId) (sz : Nat) (a0 a1 : Nat) (x0 : Int32) (f0 : Nat → Int32) : Met l yX7_put ws_k_X7_put_6 ({ frames := 0, cells := 0, slots := 0, locals := 0 }) (va_Pc [.ref a0, .int x0] (fun U => U.heap.size = sz ∧ va_P (dC, dI) vwCl [(a0, .inr (7, [.ref a1, .int 16])), (a1, .inl (cB, 1600, .inl f0))] U.heap ∧ va_K (dC, dI) vwCl (tyA cB cI cJ cZ cQ) U ∧ va_D (fun _ => True) [(a0, .inr (7, [.ref a1, .int 16])), (a1, .inl (cB, 1600, .inl f0))])) (va_Qv (fun _ : Unit => True) (fun (u : Unit) t => va_P (dC, dI) vwCl [(a0, .inr (7, [.ref a1, .int 20])), (a1, .inl (cB, 1600, .inl (upd (upd (upd (upd f0 16 (vp_nar .byte ((x0 >>> (24 &&& 31)).toInt8.toInt32))) 17 (vp_nar .byte ((x0 >>> (16 &&& 31)).toInt8.toInt32))) 18 (vp_nar .byte ((x0 >>> (8 &&& 31)).toInt8.toInt32))) 19 (vp_nar .byte ((x0 >>> (0 &&& 31)).toInt8.toInt32)))))] t.heap ∧ va_K (dC, dI) vwCl (tyA cB cI cJ cZ cQ) t ∧ va_D (va_A [(a0, .inr (7, [.ref a1, .int 16])), (a1, .inl (cB, 1600, .inl f0))] sz) [(a0, .inr (7, [.ref a1, .int 20])), (a1, .inl (cB, 1600, .inl (upd (upd (upd (upd f0 16 (vp_nar .byte ((x0 >>> (24 &&& 31)).toInt8.toInt32))) 17 (vp_nar .byte ((x0 >>> (16 &&& 31)).toInt8.toInt32))) 18 (vp_nar .byte ((x0 >>> (8 &&& 31)).toInt8.toInt32))) 19 (vp_nar .byte ((x0 >>> (0 &&& 31)).toInt8.toInt32)))))]) (va_A [(a0, .inr (7, [.ref a1, .int 16])), (a1, .inl (cB, 1600, .inl f0))] sz)) 0 0 (va_A [(a0, .inr (7, [.ref a1, .int 16])), (a1, .inl (cB, 1600, .inl f0))] sz) := by
  refine Met.ofW (cc := cX7_put) (maxL := 3) (ret := none) (by decide +kernel) rfl ?_
  intro p e s m args below meth c s₁ B hml hv
  obtain ⟨rfl, hsz, hP, hK, hD0⟩ := hv
  have hx := B.exec
  have hb := B.bytes
  have hr := B.returns
  have hts := atoms_spec (ws := ws_k_X7_put_6) B.pre
  have hown : s.vm.findClass RX7 = some m.cls := findClass_of_methodNamed B.named
  have hiX7 : ∀ w ∈ u_ws RX7 TX7 2, w ∈ ws_k_X7_put_6 := fun w h => List.mem_cons_of_mem _ (List.mem_append_right _ h)
  subst hsz
  have hD := hD0.self (sz := s.heap.size)
  generalize hAe : va_A [(a0, .inr (7, [.ref a1, .int 16])), (a1, .inl (cB, 1600, .inl f0))] s.heap.size = A at hD ⊢
  have hA : ∀ b : Nat, s.heap.size ≤ b → A b := fun b h => by rw [← hAe]; exact Or.inr h
  clear hD0 hAe
  have hS : va_S A s.heap s.heap [] := va_S.rf
  have hl := lv_entry ([.ref a0, .int x0]) (n := 3) (Nat.le_of_ble_eq_true rfl)
  rw [lg_entry_eq]
  generalize (lg_sl ([.ref a0, .int x0]) ++ List.replicate (3 - (lg_sl ([.ref a0, .int x0])).length) Slot.unset).toArray = ls at hl ⊢
  have hl : lv_has ls 3 [(0, .ref a0), (1, .int x0)] := hl
  obtain ⟨H, hHe⟩ : ∃ H : Heap, H = s.heap := ⟨_, rfl⟩
  rw [← hHe] at hP
  have hS : va_S A s.heap H [] := by rw [hHe]; exact hS
  rw [← hHe]
  refine lv_bipush (v := 24) hx hb dX7_put_0 (by decide +kernel) ?_
  refine lv_istore_n (lv' := [(2, .int 24), (0, .ref a0), (1, .int x0)]) hx hb dX7_put_2 rfl hl (by decide) rfl (fun ls hl => ?_)
  refine lv_iload_n hx hb dX7_put_3 rfl (lv_at hl 0 rfl) ?_
  refine lv_if_lt (tgt := 53) hx hb dX7_put_4 (by decide) (fun c => absurd c (by decide +kernel)) (fun _ => ?_)
  refine lv_aload_n hx hb dX7_put_7 rfl (lv_at hl 1 rfl) ?_
  refine va_get (D := (dC, dI)) (ci := 7) (v := .int 16) (C := RX7) (T := TX7) (N := 2) hx hb hts hiX7 hown hK hP 0 rfl rfl 1 (by decide) (hts _ (List.mem_of_getElem? (i := 1) rfl)) (fun _ h9 => h9) rfl dX7_put_8 ?_
  refine lv_if_lt (tgt := 47) hx hb dX7_put_11 (by decide) (fun c => absurd c (by decide +kernel)) (fun _ => ?_)
  refine lv_aload_n hx hb dX7_put_14 rfl (lv_at hl 1 rfl) ?_
  refine va_get (D := (dC, dI)) (ci := 7) (v := .int 16) (C := RX7) (T := TX7) (N := 2) hx hb hts hiX7 hown hK hP 0 rfl rfl 1 (by decide) (hts _ (List.mem_of_getElem? (i := 1) rfl)) (fun _ h9 => h9) rfl dX7_put_15 ?_
  refine lv_sipush (v := 1600) hx hb dX7_put_18 (by decide +kernel) ?_
  refine lv_icmp_ge (tgt := 47) hx hb dX7_put_21 (by decide) (fun c => absurd c (by decide +kernel)) (fun _ => ?_)
  refine lv_aload_n hx hb dX7_put_24 rfl (lv_at hl 1 rfl) ?_
  refine va_get (D := (dC, dI)) (ci := 7) (v := .ref a1) (C := RX7) (T := TX7) (N := 2) hx hb hts hiX7 hown hK hP 0 rfl rfl 0 (by decide) (hts _ (List.mem_of_getElem? (i := 2) rfl)) (fun _ h9 => h9) rfl dX7_put_25 ?_
  refine lv_aload_n hx hb dX7_put_28 rfl (lv_at hl 1 rfl) ?_
  refine va_get (D := (dC, dI)) (ci := 7) (v := .int 16) (C := RX7) (T := TX7) (N := 2) hx hb hts hiX7 hown hK hP 0 rfl rfl 1 (by decide) (hts _ (List.mem_of_getElem? (i := 1) rfl)) (fun _ h9 => h9) rfl dX7_put_29 ?_
  refine lv_iload_n hx hb dX7_put_32 rfl (lv_at hl 2 rfl) ?_
  refine lv_iload_n hx hb dX7_put_33 rfl (lv_at hl 0 rfl) ?_
  refine lv_ishr hx hb dX7_put_34 ?_
  refine lv_i2b (v := (x0 >>> (24 &&& 31)).toInt8.toInt32) hx hb dX7_put_35 rfl ?_
  refine va_bast hx hb hK hP hD hS 1 0 rfl rfl (vpc _ _ (by decide +kernel)) dX7_put_36 (fun H locs hP hD hS => ?_)
  have hP : va_P (dC, dI) vwCl [(a0, .inr (7, [.ref a1, .int 16])), (a1, .inl (cB, 1600, .inl (upd f0 16 (vp_nar .byte ((x0 >>> (24 &&& 31)).toInt8.toInt32)))))] H := hP
  have hD : va_D A [(a0, .inr (7, [.ref a1, .int 16])), (a1, .inl (cB, 1600, .inl (upd f0 16 (vp_nar .byte ((x0 >>> (24 &&& 31)).toInt8.toInt32)))))] := hD
  refine lv_aload_n hx hb dX7_put_37 rfl (lv_at hl 1 rfl) ?_
  refine lv_dup hx hb dX7_put_38 rfl ?_
  refine va_get (D := (dC, dI)) (ci := 7) (v := .int 16) (C := RX7) (T := TX7) (N := 2) hx hb hts hiX7 hown hK hP 0 rfl rfl 1 (by decide) (hts _ (List.mem_of_getElem? (i := 1) rfl)) (fun _ h9 => h9) rfl dX7_put_39 ?_
  refine lv_iconst (v := 1) hx hb dX7_put_42 (by decide +kernel) ?_
  refine lv_iadd hx hb dX7_put_43 ?_
  refine tp_i (y := 17) (by decide +kernel) ?_
  refine va_put (D := (dC, dI)) (ci := 7) (v := .int 17) (ty := .int) (C := RX7) (T := TX7) (N := 2) hx hb hts hiX7 tyX7 tyX7_ok nmX7 hown hK hP hD hS 0 rfl rfl 1 (by decide) (hts _ (List.mem_of_getElem? (i := 1) rfl)) (fun _ h9 => h9) rfl (by decide +kernel) rfl rfl (Nat.le_of_ble_eq_true rfl) dX7_put_44 (fun H locs hP hD hS => ?_)
  have hP : va_P (dC, dI) vwCl [(a0, .inr (7, [.ref a1, .int 17])), (a1, .inl (cB, 1600, .inl (upd f0 16 (vp_nar .byte ((x0 >>> (24 &&& 31)).toInt8.toInt32)))))] H := hP
  have hD : va_D A [(a0, .inr (7, [.ref a1, .int 17])), (a1, .inl (cB, 1600, .inl (upd f0 16 (vp_nar .byte ((x0 >>> (24 &&& 31)).toInt8.toInt32)))))] := hD
  refine lv_iinc (v := 16) (lv' := [(2, .int 16), (0, .ref a0), (1, .int x0)]) hx hb dX7_put_47 hl (k := 0) rfl (by decide +kernel) (by decide) rfl (fun ls hl => ?_)
  refine lv_goto (tgt := 3) hx hb dX7_put_50 (by decide) ?_
  refine lv_iload_n hx hb dX7_put_3 rfl (lv_at hl 0 rfl) ?_
  refine lv_if_lt (tgt := 53) hx hb dX7_put_4 (by decide) (fun c => absurd c (by decide +kernel)) (fun _ => ?_)
  refine lv_aload_n hx hb dX7_put_7 rfl (lv_at hl 1 rfl) ?_
  refine va_get (D := (dC, dI)) (ci := 7) (v := .int 17) (C := RX7) (T := TX7) (N := 2) hx hb hts hiX7 hown hK hP 0 rfl rfl 1 (by decide) (hts _ (List.mem_of_getElem? (i := 1) rfl)) (fun _ h9 => h9) rfl dX7_put_8 ?_
  refine lv_if_lt (tgt := 47) hx hb dX7_put_11 (by decide) (fun c => absurd c (by decide +kernel)) (fun _ => ?_)
  refine lv_aload_n hx hb dX7_put_14 rfl (lv_at hl 1 rfl) ?_
  refine va_get (D := (dC, dI)) (ci := 7) (v := .int 17) (C := RX7) (T := TX7) (N := 2) hx hb hts hiX7 hown hK hP 0 rfl rfl 1 (by decide) (hts _ (List.mem_of_getElem? (i := 1) rfl)) (fun _ h9 => h9) rfl dX7_put_15 ?_
  refine lv_sipush (v := 1600) hx hb dX7_put_18 (by decide +kernel) ?_
  refine lv_icmp_ge (tgt := 47) hx hb dX7_put_21 (by decide) (fun c => absurd c (by decide +kernel)) (fun _ => ?_)
  refine lv_aload_n hx hb dX7_put_24 rfl (lv_at hl 1 rfl) ?_
  refine va_get (D := (dC, dI)) (ci := 7) (v := .ref a1) (C := RX7) (T := TX7) (N := 2) hx hb hts hiX7 hown hK hP 0 rfl rfl 0 (by decide) (hts _ (List.mem_of_getElem? (i := 2) rfl)) (fun _ h9 => h9) rfl dX7_put_25 ?_
  refine lv_aload_n hx hb dX7_put_28 rfl (lv_at hl 1 rfl) ?_
  refine va_get (D := (dC, dI)) (ci := 7) (v := .int 17) (C := RX7) (T := TX7) (N := 2) hx hb hts hiX7 hown hK hP 0 rfl rfl 1 (by decide) (hts _ (List.mem_of_getElem? (i := 1) rfl)) (fun _ h9 => h9) rfl dX7_put_29 ?_
  refine lv_iload_n hx hb dX7_put_32 rfl (lv_at hl 2 rfl) ?_
  refine lv_iload_n hx hb dX7_put_33 rfl (lv_at hl 0 rfl) ?_
  refine lv_ishr hx hb dX7_put_34 ?_
  refine lv_i2b (v := (x0 >>> (16 &&& 31)).toInt8.toInt32) hx hb dX7_put_35 rfl ?_
  refine va_bast hx hb hK hP hD hS 1 0 rfl rfl (vpc _ _ (by decide +kernel)) dX7_put_36 (fun H locs hP hD hS => ?_)
  have hP : va_P (dC, dI) vwCl [(a0, .inr (7, [.ref a1, .int 17])), (a1, .inl (cB, 1600, .inl (upd (upd f0 16 (vp_nar .byte ((x0 >>> (24 &&& 31)).toInt8.toInt32))) 17 (vp_nar .byte ((x0 >>> (16 &&& 31)).toInt8.toInt32)))))] H := hP
  have hD : va_D A [(a0, .inr (7, [.ref a1, .int 17])), (a1, .inl (cB, 1600, .inl (upd (upd f0 16 (vp_nar .byte ((x0 >>> (24 &&& 31)).toInt8.toInt32))) 17 (vp_nar .byte ((x0 >>> (16 &&& 31)).toInt8.toInt32)))))] := hD
  refine lv_aload_n hx hb dX7_put_37 rfl (lv_at hl 1 rfl) ?_
  refine lv_dup hx hb dX7_put_38 rfl ?_
  refine va_get (D := (dC, dI)) (ci := 7) (v := .int 17) (C := RX7) (T := TX7) (N := 2) hx hb hts hiX7 hown hK hP 0 rfl rfl 1 (by decide) (hts _ (List.mem_of_getElem? (i := 1) rfl)) (fun _ h9 => h9) rfl dX7_put_39 ?_
  refine lv_iconst (v := 1) hx hb dX7_put_42 (by decide +kernel) ?_
  refine lv_iadd hx hb dX7_put_43 ?_
  refine tp_i (y := 18) (by decide +kernel) ?_
  refine va_put (D := (dC, dI)) (ci := 7) (v := .int 18) (ty := .int) (C := RX7) (T := TX7) (N := 2) hx hb hts hiX7 tyX7 tyX7_ok nmX7 hown hK hP hD hS 0 rfl rfl 1 (by decide) (hts _ (List.mem_of_getElem? (i := 1) rfl)) (fun _ h9 => h9) rfl (by decide +kernel) rfl rfl (Nat.le_of_ble_eq_true rfl) dX7_put_44 (fun H locs hP hD hS => ?_)
  have hP : va_P (dC, dI) vwCl [(a0, .inr (7, [.ref a1, .int 18])), (a1, .inl (cB, 1600, .inl (upd (upd f0 16 (vp_nar .byte ((x0 >>> (24 &&& 31)).toInt8.toInt32))) 17 (vp_nar .byte ((x0 >>> (16 &&& 31)).toInt8.toInt32)))))] H := hP
  have hD : va_D A [(a0, .inr (7, [.ref a1, .int 18])), (a1, .inl (cB, 1600, .inl (upd (upd f0 16 (vp_nar .byte ((x0 >>> (24 &&& 31)).toInt8.toInt32))) 17 (vp_nar .byte ((x0 >>> (16 &&& 31)).toInt8.toInt32)))))] := hD
  refine lv_iinc (v := 8) (lv' := [(2, .int 8), (0, .ref a0), (1, .int x0)]) hx hb dX7_put_47 hl (k := 0) rfl (by decide +kernel) (by decide) rfl (fun ls hl => ?_)
  refine lv_goto (tgt := 3) hx hb dX7_put_50 (by decide) ?_
  refine lv_iload_n hx hb dX7_put_3 rfl (lv_at hl 0 rfl) ?_
  refine lv_if_lt (tgt := 53) hx hb dX7_put_4 (by decide) (fun c => absurd c (by decide +kernel)) (fun _ => ?_)
  refine lv_aload_n hx hb dX7_put_7 rfl (lv_at hl 1 rfl) ?_
  refine va_get (D := (dC, dI)) (ci := 7) (v := .int 18) (C := RX7) (T := TX7) (N := 2) hx hb hts hiX7 hown hK hP 0 rfl rfl 1 (by decide) (hts _ (List.mem_of_getElem? (i := 1) rfl)) (fun _ h9 => h9) rfl dX7_put_8 ?_
  refine lv_if_lt (tgt := 47) hx hb dX7_put_11 (by decide) (fun c => absurd c (by decide +kernel)) (fun _ => ?_)
  refine lv_aload_n hx hb dX7_put_14 rfl (lv_at hl 1 rfl) ?_
  refine va_get (D := (dC, dI)) (ci := 7) (v := .int 18) (C := RX7) (T := TX7) (N := 2) hx hb hts hiX7 hown hK hP 0 rfl rfl 1 (by decide) (hts _ (List.mem_of_getElem? (i := 1) rfl)) (fun _ h9 => h9) rfl dX7_put_15 ?_
  refine lv_sipush (v := 1600) hx hb dX7_put_18 (by decide +kernel) ?_
  refine lv_icmp_ge (tgt := 47) hx hb dX7_put_21 (by decide) (fun c => absurd c (by decide +kernel)) (fun _ => ?_)
  refine lv_aload_n hx hb dX7_put_24 rfl (lv_at hl 1 rfl) ?_
  refine va_get (D := (dC, dI)) (ci := 7) (v := .ref a1) (C := RX7) (T := TX7) (N := 2) hx hb hts hiX7 hown hK hP 0 rfl rfl 0 (by decide) (hts _ (List.mem_of_getElem? (i := 2) rfl)) (fun _ h9 => h9) rfl dX7_put_25 ?_
  refine lv_aload_n hx hb dX7_put_28 rfl (lv_at hl 1 rfl) ?_
  refine va_get (D := (dC, dI)) (ci := 7) (v := .int 18) (C := RX7) (T := TX7) (N := 2) hx hb hts hiX7 hown hK hP 0 rfl rfl 1 (by decide) (hts _ (List.mem_of_getElem? (i := 1) rfl)) (fun _ h9 => h9) rfl dX7_put_29 ?_
  refine lv_iload_n hx hb dX7_put_32 rfl (lv_at hl 2 rfl) ?_
  refine lv_iload_n hx hb dX7_put_33 rfl (lv_at hl 0 rfl) ?_
  refine lv_ishr hx hb dX7_put_34 ?_
  refine lv_i2b (v := (x0 >>> (8 &&& 31)).toInt8.toInt32) hx hb dX7_put_35 rfl ?_
  refine va_bast hx hb hK hP hD hS 1 0 rfl rfl (vpc _ _ (by decide +kernel)) dX7_put_36 (fun H locs hP hD hS => ?_)
  have hP : va_P (dC, dI) vwCl [(a0, .inr (7, [.ref a1, .int 18])), (a1, .inl (cB, 1600, .inl (upd (upd (upd f0 16 (vp_nar .byte ((x0 >>> (24 &&& 31)).toInt8.toInt32))) 17 (vp_nar .byte ((x0 >>> (16 &&& 31)).toInt8.toInt32))) 18 (vp_nar .byte ((x0 >>> (8 &&& 31)).toInt8.toInt32)))))] H := hP
  have hD : va_D A [(a0, .inr (7, [.ref a1, .int 18])), (a1, .inl (cB, 1600, .inl (upd (upd (upd f0 16 (vp_nar .byte ((x0 >>> (24 &&& 31)).toInt8.toInt32))) 17 (vp_nar .byte ((x0 >>> (16 &&& 31)).toInt8.toInt32))) 18 (vp_nar .byte ((x0 >>> (8 &&& 31)).toInt8.toInt32)))))] := hD
  refine lv_aload_n hx hb dX7_put_37 rfl (lv_at hl 1 rfl) ?_
  refine lv_dup hx hb dX7_put_38 rfl ?_
  refine va_get (D := (dC, dI)) (ci := 7) (v := .int 18) (C := RX7) (T := TX7) (N := 2) hx hb hts hiX7 hown hK hP 0 rfl rfl 1 (by decide) (hts _ (List.mem_of_getElem? (i := 1) rfl)) (fun _ h9 => h9) rfl dX7_put_39 ?_
  refine lv_iconst (v := 1) hx hb dX7_put_42 (by decide +kernel) ?_
  refine lv_iadd hx hb dX7_put_43 ?_
  refine tp_i (y := 19) (by decide +kernel) ?_
  refine va_put (D := (dC, dI)) (ci := 7) (v := .int 19) (ty := .int) (C := RX7) (T := TX7) (N := 2) hx hb hts hiX7 tyX7 tyX7_ok nmX7 hown hK hP hD hS 0 rfl rfl 1 (by decide) (hts _ (List.mem_of_getElem? (i := 1) rfl)) (fun _ h9 => h9) rfl (by decide +kernel) rfl rfl (Nat.le_of_ble_eq_true rfl) dX7_put_44 (fun H locs hP hD hS => ?_)
  have hP : va_P (dC, dI) vwCl [(a0, .inr (7, [.ref a1, .int 19])), (a1, .inl (cB, 1600, .inl (upd (upd (upd f0 16 (vp_nar .byte ((x0 >>> (24 &&& 31)).toInt8.toInt32))) 17 (vp_nar .byte ((x0 >>> (16 &&& 31)).toInt8.toInt32))) 18 (vp_nar .byte ((x0 >>> (8 &&& 31)).toInt8.toInt32)))))] H := hP
  have hD : va_D A [(a0, .inr (7, [.ref a1, .int 19])), (a1, .inl (cB, 1600, .inl (upd (upd (upd f0 16 (vp_nar .byte ((x0 >>> (24 &&& 31)).toInt8.toInt32))) 17 (vp_nar .byte ((x0 >>> (16 &&& 31)).toInt8.toInt32))) 18 (vp_nar .byte ((x0 >>> (8 &&& 31)).toInt8.toInt32)))))] := hD
  refine lv_iinc (v := 0) (lv' := [(2, .int 0), (0, .ref a0), (1, .int x0)]) hx hb dX7_put_47 hl (k := 0) rfl (by decide +kernel) (by decide) rfl (fun ls hl => ?_)
  refine lv_goto (tgt := 3) hx hb dX7_put_50 (by decide) ?_
  refine lv_iload_n hx hb dX7_put_3 rfl (lv_at hl 0 rfl) ?_
  refine lv_if_lt (tgt := 53) hx hb dX7_put_4 (by decide) (fun c => absurd c (by decide +kernel)) (fun _ => ?_)
  refine lv_aload_n hx hb dX7_put_7 rfl (lv_at hl 1 rfl) ?_
  refine va_get (D := (dC, dI)) (ci := 7) (v := .int 19) (C := RX7) (T := TX7) (N := 2) hx hb hts hiX7 hown hK hP 0 rfl rfl 1 (by decide) (hts _ (List.mem_of_getElem? (i := 1) rfl)) (fun _ h9 => h9) rfl dX7_put_8 ?_
  refine lv_if_lt (tgt := 47) hx hb dX7_put_11 (by decide) (fun c => absurd c (by decide +kernel)) (fun _ => ?_)
  refine lv_aload_n hx hb dX7_put_14 rfl (lv_at hl 1 rfl) ?_
  refine va_get (D := (dC, dI)) (ci := 7) (v := .int 19) (C := RX7) (T := TX7) (N := 2) hx hb hts hiX7 hown hK hP 0 rfl rfl 1 (by decide) (hts _ (List.mem_of_getElem? (i := 1) rfl)) (fun _ h9 => h9) rfl dX7_put_15 ?_
  refine lv_sipush (v := 1600) hx hb dX7_put_18 (by decide +kernel) ?_
  refine lv_icmp_ge (tgt := 47) hx hb dX7_put_21 (by decide) (fun c => absurd c (by decide +kernel)) (fun _ => ?_)
  refine lv_aload_n hx hb dX7_put_24 rfl (lv_at hl 1 rfl) ?_
  refine va_get (D := (dC, dI)) (ci := 7) (v := .ref a1) (C := RX7) (T := TX7) (N := 2) hx hb hts hiX7 hown hK hP 0 rfl rfl 0 (by decide) (hts _ (List.mem_of_getElem? (i := 2) rfl)) (fun _ h9 => h9) rfl dX7_put_25 ?_
  refine lv_aload_n hx hb dX7_put_28 rfl (lv_at hl 1 rfl) ?_
  refine va_get (D := (dC, dI)) (ci := 7) (v := .int 19) (C := RX7) (T := TX7) (N := 2) hx hb hts hiX7 hown hK hP 0 rfl rfl 1 (by decide) (hts _ (List.mem_of_getElem? (i := 1) rfl)) (fun _ h9 => h9) rfl dX7_put_29 ?_
  refine lv_iload_n hx hb dX7_put_32 rfl (lv_at hl 2 rfl) ?_
  refine lv_iload_n hx hb dX7_put_33 rfl (lv_at hl 0 rfl) ?_
  refine lv_ishr hx hb dX7_put_34 ?_
  refine lv_i2b (v := (x0 >>> (0 &&& 31)).toInt8.toInt32) hx hb dX7_put_35 rfl ?_
  refine va_bast hx hb hK hP hD hS 1 0 rfl rfl (vpc _ _ (by decide +kernel)) dX7_put_36 (fun H locs hP hD hS => ?_)
  have hP : va_P (dC, dI) vwCl [(a0, .inr (7, [.ref a1, .int 19])), (a1, .inl (cB, 1600, .inl (upd (upd (upd (upd f0 16 (vp_nar .byte ((x0 >>> (24 &&& 31)).toInt8.toInt32))) 17 (vp_nar .byte ((x0 >>> (16 &&& 31)).toInt8.toInt32))) 18 (vp_nar .byte ((x0 >>> (8 &&& 31)).toInt8.toInt32))) 19 (vp_nar .byte ((x0 >>> (0 &&& 31)).toInt8.toInt32)))))] H := hP
  have hD : va_D A [(a0, .inr (7, [.ref a1, .int 19])), (a1, .inl (cB, 1600, .inl (upd (upd (upd (upd f0 16 (vp_nar .byte ((x0 >>> (24 &&& 31)).toInt8.toInt32))) 17 (vp_nar .byte ((x0 >>> (16 &&& 31)).toInt8.toInt32))) 18 (vp_nar .byte ((x0 >>> (8 &&& 31)).toInt8.toInt32))) 19 (vp_nar .byte ((x0 >>> (0 &&& 31)).toInt8.toInt32)))))] := hD
  refine lv_aload_n hx hb dX7_put_37 rfl (lv_at hl 1 rfl) ?_
  refine lv_dup hx hb dX7_put_38 rfl ?_
  refine va_get (D := (dC, dI)) (ci := 7) (v := .int 19) (C := RX7) (T := TX7) (N := 2) hx hb hts hiX7 hown hK hP 0 rfl rfl 1 (by decide) (hts _ (List.mem_of_getElem? (i := 1) rfl)) (fun _ h9 => h9) rfl dX7_put_39 ?_
  refine lv_iconst (v := 1) hx hb dX7_put_42 (by decide +kernel) ?_
  refine lv_iadd hx hb dX7_put_43 ?_
  refine tp_i (y := 20) (by decide +kernel) ?_
  refine va_put (D := (dC, dI)) (ci := 7) (v := .int 20) (ty := .int) (C := RX7) (T := TX7) (N := 2) hx hb hts hiX7 tyX7 tyX7_ok nmX7 hown hK hP hD hS 0 rfl rfl 1 (by decide) (hts _ (List.mem_of_getElem? (i := 1) rfl)) (fun _ h9 => h9) rfl (by decide +kernel) rfl rfl (Nat.le_of_ble_eq_true rfl) dX7_put_44 (fun H locs hP hD hS => ?_)
  have hP : va_P (dC, dI) vwCl [(a0, .inr (7, [.ref a1, .int 20])), (a1, .inl (cB, 1600, .inl (upd (upd (upd (upd f0 16 (vp_nar .byte ((x0 >>> (24 &&& 31)).toInt8.toInt32))) 17 (vp_nar .byte ((x0 >>> (16 &&& 31)).toInt8.toInt32))) 18 (vp_nar .byte ((x0 >>> (8 &&& 31)).toInt8.toInt32))) 19 (vp_nar .byte ((x0 >>> (0 &&& 31)).toInt8.toInt32)))))] H := hP
  have hD : va_D A [(a0, .inr (7, [.ref a1, .int 20])), (a1, .inl (cB, 1600, .inl (upd (upd (upd (upd f0 16 (vp_nar .byte ((x0 >>> (24 &&& 31)).toInt8.toInt32))) 17 (vp_nar .byte ((x0 >>> (16 &&& 31)).toInt8.toInt32))) 18 (vp_nar .byte ((x0 >>> (8 &&& 31)).toInt8.toInt32))) 19 (vp_nar .byte ((x0 >>> (0 &&& 31)).toInt8.toInt32)))))] := hD
  refine lv_iinc (v := (-8)) (lv' := [(2, .int (-8)), (0, .ref a0), (1, .int x0)]) hx hb dX7_put_47 hl (k := 0) rfl (by decide +kernel) (by decide) rfl (fun ls hl => ?_)
  refine lv_goto (tgt := 3) hx hb dX7_put_50 (by decide) ?_
  refine lv_iload_n hx hb dX7_put_3 rfl (lv_at hl 0 rfl) ?_
  refine lv_if_lt (tgt := 53) hx hb dX7_put_4 (by decide) (fun _ => ?_) (fun c => absurd c (by decide +kernel))
  have hP9 := hP.sub (ws' := [(a0, .inr (7, [.ref a1, .int 20])), (a1, .inl (cB, 1600, .inl (upd (upd (upd (upd f0 16 (vp_nar .byte ((x0 >>> (24 &&& 31)).toInt8.toInt32))) 17 (vp_nar .byte ((x0 >>> (16 &&& 31)).toInt8.toInt32))) 18 (vp_nar .byte ((x0 >>> (8 &&& 31)).toInt8.toInt32))) 19 (vp_nar .byte ((x0 >>> (0 &&& 31)).toInt8.toInt32)))))]) [0, 1] rfl
  have hD9 := hD.sub (ws' := [(a0, .inr (7, [.ref a1, .int 20])), (a1, .inl (cB, 1600, .inl (upd (upd (upd (upd f0 16 (vp_nar .byte ((x0 >>> (24 &&& 31)).toInt8.toInt32))) 17 (vp_nar .byte ((x0 >>> (16 &&& 31)).toInt8.toInt32))) 18 (vp_nar .byte ((x0 >>> (8 &&& 31)).toInt8.toInt32))) 19 (vp_nar .byte ((x0 >>> (0 &&& 31)).toInt8.toInt32)))))]) [0, 1] (by decide) rfl
  exact W.vret hx hb hr (fun t ht hW => ⟨⟨(), rfl, trivial, by rw [ht]; exact hP9, va_K.moved hW.alike hK, hD9⟩, hS.F ht⟩) hS.2.2 dX7_put_53
def ws_p_X11_feed : List Cond := .code yX11_feed cX11_feed 6 (some .int) :: ([.fieldLink RX11 10 "StackKeys" "tape" "LStackKeys$Tape;", .methodLink RX11 81 yX7_hasRoom, .instanceMethod yX7_hasRoom, .selects RX7 yX7_hasRoom yX7_hasRoom, .initialized RX7, .code yX7_hasRoom cX7_hasRoom 1 (some .boolean), .fieldLink RX7 15 "StackKeys$Tape" "size" "I", .methodLink RX11 89 yX7_put, .instanceMethod yX7_put, .selects RX7 yX7_put yX7_put, .code yX7_put cX7_put 3 none, .fieldLink RX7 9 "StackKeys$Tape" "bytes" "[B", .fieldLink RX11 93 "StackKeys$Tape" "size" "I"] ++ wsX110 ++ wsX70)
set_option maxRecDepth 20000 in
theorem g_p_X11_feed_0 : GoodIn ws_p_X11_feed (wsV RX11 81 RX7 yX7_hasRoom ws_k_X7_hasRoom_1) := goodIn_r _ [2, 3, 4, 5, 6, 7, 25, 26] (by decide +kernel) (by decide +kernel)
set_option maxRecDepth 20000 in
theorem g_p_X11_feed_1 : GoodIn ws_p_X11_feed (wsV RX11 89 RX7 yX7_put ws_k_X7_put_2) := goodIn_r _ [8, 9, 10, 5, 11, 7, 12, 25, 26] (by decide +kernel) (by decide +kernel)
set_option maxRecDepth 20000 in
theorem g_p_X11_feed_2 : GoodIn ws_p_X11_feed (wsV RX11 89 RX7 yX7_put ws_k_X7_put_3) := goodIn_r _ [8, 9, 10, 5, 11, 7, 12, 25, 26] (by decide +kernel) (by decide +kernel)
set_option maxRecDepth 20000 in
theorem g_p_X11_feed_3 : GoodIn ws_p_X11_feed (wsV RX11 89 RX7 yX7_put ws_k_X7_put_4) := goodIn_r _ [8, 9, 10, 5, 11, 7, 12, 25, 26] (by decide +kernel) (by decide +kernel)
set_option maxRecDepth 20000 in
theorem g_p_X11_feed_4 : GoodIn ws_p_X11_feed (wsV RX11 89 RX7 yX7_put ws_k_X7_put_5) := goodIn_r _ [8, 9, 10, 5, 11, 7, 12, 25, 26] (by decide +kernel) (by decide +kernel)
set_option maxRecDepth 20000 in
theorem g_p_X11_feed_5 : GoodIn ws_p_X11_feed (wsV RX11 89 RX7 yX7_put ws_k_X7_put_6) := goodIn_r _ [8, 9, 10, 5, 11, 7, 12, 25, 26] (by decide +kernel) (by decide +kernel)
set_option maxHeartbeats 4000000 in
set_option maxRecDepth 100000 in
theorem p_X11_feed (l : Launch) (dC : Nat → ClassId) (dI : Nat → Nat → Nat) (cB cI cJ cZ cQ : ClassId) (sz : Nat) (a0 a1 a2 a3 a4 a5 a6 a7 a8 a9 a10 a11 a12 : Nat) (x0 x1 x2 x3 x4 : Int32) : Met l yX11_feed ws_p_X11_feed ({ frames := 1, cells := 0, slots := 0, locals := 22 }) (va_Pc [.ref a0, .int x0, .int x1, .int x2, .int x3, .int x4] (fun U => U.heap.size = sz ∧ va_P (dC, dI) vwCl [(a0, .inr (11, [.ref a1, .ref a2, .ref a3, .ref a4, .ref a5, .ref a6, .ref a7, .ref a8, .ref a9, .ref a10, .ref a11])), (a1, .inr (7, [.ref a12, .int 0])), (a12, .inl (cB, 1600, .inl (fun _ => 0)))] U.heap ∧ va_K (dC, dI) vwCl (tyA cB cI cJ cZ cQ) U ∧ va_D (fun _ => True) [(a0, .inr (11, [.ref a1, .ref a2, .ref a3, .ref a4, .ref a5, .ref a6, .ref a7, .ref a8, .ref a9, .ref a10, .ref a11])), (a1, .inr (7, [.ref a12, .int 0])), (a12, .inl (cB, 1600, .inl (fun _ => 0)))])) (va_Qi (fun (r : Int32) (_ : Unit) => r = 20) (fun (_ : Unit) _ => True) (va_A [(a0, .inr (11, [.ref a1, .ref a2, .ref a3, .ref a4, .ref a5, .ref a6, .ref a7, .ref a8, .ref a9, .ref a10, .ref a11])), (a1, .inr (7, [.ref a12, .int 0])), (a12, .inl (cB, 1600, .inl (fun _ => 0)))] sz)) 0 0 (va_A [(a0, .inr (11, [.ref a1, .ref a2, .ref a3, .ref a4, .ref a5, .ref a6, .ref a7, .ref a8, .ref a9, .ref a10, .ref a11])), (a1, .inr (7, [.ref a12, .int 0])), (a12, .inl (cB, 1600, .inl (fun _ => 0)))] sz) := by
  refine Met.ofW (cc := cX11_feed) (maxL := 6) (ret := (some .int)) (by decide +kernel) rfl ?_
  intro p e s m args below meth c s₁ B hml hv
  obtain ⟨rfl, hsz, hP, hK, hD0⟩ := hv
  have hx := B.exec
  have hb := B.bytes
  have hr := B.returns
  have hts := atoms_spec (ws := ws_p_X11_feed) B.pre
  have hown : s.vm.findClass RX11 = some m.cls := findClass_of_methodNamed B.named
  have hiX11 : ∀ w ∈ u_ws RX11 TX11 11, w ∈ ws_p_X11_feed := fun w h => List.mem_cons_of_mem _ (List.mem_append_left _ (List.mem_append_right _ h))
  have hiX7 : ∀ w ∈ u_ws RX7 TX7 2, w ∈ ws_p_X11_feed := fun w h => List.mem_cons_of_mem _ (List.mem_append_right _ h)
  subst hsz
  have hD := hD0.self (sz := s.heap.size)
  generalize hAe : va_A [(a0, .inr (11, [.ref a1, .ref a2, .ref a3, .ref a4, .ref a5, .ref a6, .ref a7, .ref a8, .ref a9, .ref a10, .ref a11])), (a1, .inr (7, [.ref a12, .int 0])), (a12, .inl (cB, 1600, .inl (fun _ => 0)))] s.heap.size = A at hD ⊢
  have hA : ∀ b : Nat, s.heap.size ≤ b → A b := fun b h => by rw [← hAe]; exact Or.inr h
  clear hD0 hAe
  have hS : va_S A s.heap s.heap [] := va_S.rf
  have hl := lv_entry ([.ref a0, .int x0, .int x1, .int x2, .int x3, .int x4]) (n := 6) (Nat.le_of_ble_eq_true rfl)
  rw [lg_entry_eq]
  generalize (lg_sl ([.ref a0, .int x0, .int x1, .int x2, .int x3, .int x4]) ++ List.replicate (6 - (lg_sl ([.ref a0, .int x0, .int x1, .int x2, .int x3, .int x4])).length) Slot.unset).toArray = ls at hl ⊢
  have hl : lv_has ls 6 [(0, .ref a0), (1, .int x0), (2, .int x1), (3, .int x2), (4, .int x3), (5, .int x4)] := hl
  obtain ⟨H, hHe⟩ : ∃ H : Heap, H = s.heap := ⟨_, rfl⟩
  rw [← hHe] at hP
  have hS : va_S A s.heap H [] := by rw [hHe]; exact hS
  rw [← hHe]
  refine lv_aload_n hx hb dX11_feed_0 rfl (lv_at hl 0 rfl) ?_
  refine va_get (D := (dC, dI)) (ci := 11) (v := .ref a1) (C := RX11) (T := TX11) (N := 11) hx hb hts hiX11 hown hK hP 0 rfl rfl 0 (by decide) (hts _ (List.mem_of_getElem? (i := 1) rfl)) (fun _ h9 => h9) rfl dX11_feed_1 ?_
  have hPc := hP.sub (ws' := [(a1, .inr (7, [.ref a12, .int 0]))]) [1] rfl
  have hDc := hD.sub (ws' := [(a1, .inr (7, [.ref a12, .int 0]))]) [1] (by decide) rfl
  have hFc := va_free (wc := [(a1, .inr (7, [.ref a12, .int 0]))]) hD hS hA [1] rfl
  refine va_calli (va_runV (As := []) (rest := []) ⟨hx, hb, hml, hown, hts⟩ (k_X7_hasRoom_1 l dC dI cB cI cJ cZ cQ H.size a1 a12) (cwV 0 hts g_p_X11_feed_0 rfl rfl rfl (by decide +kernel) ⟨Nat.le_of_ble_eq_true rfl, Nat.le_of_ble_eq_true rfl⟩) ⟨fun a U g mk Z => by obtain ⟨q0, q1, qP, qK, qD⟩ := Z; exact ⟨q0, q1, qP, va_K.moved (u := U) (U := U.calling g mk a) (Vm.Alike.refl U.vm) qK, qD⟩, va_recv hK hPc (ci := 7) (q0 := 0) rfl rfl, fun U hU hW => ⟨rfl, by rw [hU], by rw [hU]; exact hPc, va_K.moved hW.alike hK, hDc.weaken (fun _ _ _ _ => trivial)⟩⟩ rfl rfl hl.1 rfl (lv_room (Nat.le_of_ble_eq_true rfl)) dX11_feed_4 ⟨Nat.le_of_ble_eq_true rfl, Nat.le_of_ble_eq_true rfl⟩) hS (fun b _ h => hFc b h) hFc (fun r2 u1 t H1 locs ht hvm hw hB hz1 hk1 hS => ?_)
  obtain ⟨hP1, hK1, hD1⟩ := hB
  rw [ht] at hP1
  obtain ⟨hP, hD⟩ := va_join (wr := [(a0, .inr (11, [.ref a1, .ref a2, .ref a3, .ref a4, .ref a5, .ref a6, .ref a7, .ref a8, .ref a9, .ref a10, .ref a11])), (a12, .inl (cB, 1600, .inl (fun _ => 0)))]) (w1 := [(a1, .inr (7, [.ref a12, .int 0]))]) hP hD [1] [0, 2] rfl rfl (by decide) (by decide) hk1 hFc hP1 hD1
  clear hP1 hK1 hD1 hk1 hz1 hvm hPc hDc hFc
  generalize H1 = H at hP hS ⊢
  have hP : va_P (dC, dI) vwCl [(a0, .inr (11, [.ref a1, .ref a2, .ref a3, .ref a4, .ref a5, .ref a6, .ref a7, .ref a8, .ref a9, .ref a10, .ref a11])), (a12, .inl (cB, 1600, .inl (fun _ => 0))), (a1, .inr (7, [.ref a12, .int 0]))] H := hP
  have hD : va_D A [(a0, .inr (11, [.ref a1, .ref a2, .ref a3, .ref a4, .ref a5, .ref a6, .ref a7, .ref a8, .ref a9, .ref a10, .ref a11])), (a12, .inl (cB, 1600, .inl (fun _ => 0))), (a1, .inr (7, [.ref a12, .int 0]))] := hD
  subst hw
  refine lv_if_ne (tgt := 16) hx hb dX11_feed_7 (by decide) (fun _ => ?_) (fun c => absurd c (by decide +kernel))
  refine lv_aload_n hx hb dX11_feed_16 rfl (lv_at hl 0 rfl) ?_
  refine va_get (D := (dC, dI)) (ci := 11) (v := .ref a1) (C := RX11) (T := TX11) (N := 11) hx hb hts hiX11 hown hK hP 0 rfl rfl 0 (by decide) (hts _ (List.mem_of_getElem? (i := 1) rfl)) (fun _ h9 => h9) rfl dX11_feed_17 ?_
  refine lv_iload_n hx hb dX11_feed_20 rfl (lv_at hl 1 rfl) ?_
  have hPc := hP.sub (ws' := [(a1, .inr (7, [.ref a12, .int 0])), (a12, .inl (cB, 1600, .inl (fun _ => 0)))]) [2, 1] rfl
  have hDc := hD.sub (ws' := [(a1, .inr (7, [.ref a12, .int 0])), (a12, .inl (cB, 1600, .inl (fun _ => 0)))]) [2, 1] (by decide) rfl
  have hFc := va_free (wc := [(a1, .inr (7, [.ref a12, .int 0])), (a12, .inl (cB, 1600, .inl (fun _ => 0)))]) hD hS hA [2, 1] rfl
  refine va_callv (va_runV (As := [.int x0]) (rest := []) ⟨hx, hb, hml, hown, hts⟩ (k_X7_put_2 l dC dI cB cI cJ cZ cQ H.size a1 a12 x0 (fun _ => 0)) (cwV 1 hts g_p_X11_feed_1 rfl rfl rfl (by decide +kernel) ⟨Nat.le_of_ble_eq_true rfl, Nat.le_of_ble_eq_true rfl⟩) ⟨fun a U g mk Z => by obtain ⟨q0, q1, qP, qK, qD⟩ := Z; exact ⟨q0, q1, qP, va_K.moved (u := U) (U := U.calling g mk a) (Vm.Alike.refl U.vm) qK, qD⟩, va_recv hK hPc (ci := 7) (q0 := 0) rfl rfl, fun U hU hW => ⟨rfl, by rw [hU], by rw [hU]; exact hPc, va_K.moved hW.alike hK, hDc.weaken (fun _ _ _ _ => trivial)⟩⟩ rfl rfl hl.1 rfl (lv_room (Nat.le_of_ble_eq_true rfl)) dX11_feed_21 ⟨Nat.le_of_ble_eq_true rfl, Nat.le_of_ble_eq_true rfl⟩) hS (fun b _ h => hFc b h) hFc (fun u3 t H1 locs ht hvm hw hB hz1 hk1 hS => ?_)
  obtain ⟨hP1, hK1, hD1⟩ := hB
  rw [ht] at hP1
  obtain ⟨hP, hD⟩ := va_join (wr := [(a0, .inr (11, [.ref a1, .ref a2, .ref a3, .ref a4, .ref a5, .ref a6, .ref a7, .ref a8, .ref a9, .ref a10, .ref a11]))]) (w1 := [(a1, .inr (7, [.ref a12, .int 4])), (a12, .inl (cB, 1600, .inl (upd (upd (upd (upd (fun _ => 0) 0 (vp_nar .byte ((x0 >>> (24 &&& 31)).toInt8.toInt32))) 1 (vp_nar .byte ((x0 >>> (16 &&& 31)).toInt8.toInt32))) 2 (vp_nar .byte ((x0 >>> (8 &&& 31)).toInt8.toInt32))) 3 (vp_nar .byte ((x0 >>> (0 &&& 31)).toInt8.toInt32)))))]) hP hD [2, 1] [0] rfl rfl (by decide) (by decide) hk1 hFc hP1 hD1
  clear hP1 hK1 hD1 hk1 hz1 hvm hPc hDc hFc
  generalize H1 = H at hP hS ⊢
  have hP : va_P (dC, dI) vwCl [(a0, .inr (11, [.ref a1, .ref a2, .ref a3, .ref a4, .ref a5, .ref a6, .ref a7, .ref a8, .ref a9, .ref a10, .ref a11])), (a1, .inr (7, [.ref a12, .int 4])), (a12, .inl (cB, 1600, .inl (upd (upd (upd (upd (fun _ => 0) 0 (vp_nar .byte ((x0 >>> (24 &&& 31)).toInt8.toInt32))) 1 (vp_nar .byte ((x0 >>> (16 &&& 31)).toInt8.toInt32))) 2 (vp_nar .byte ((x0 >>> (8 &&& 31)).toInt8.toInt32))) 3 (vp_nar .byte ((x0 >>> (0 &&& 31)).toInt8.toInt32)))))] H := hP
  have hD : va_D A [(a0, .inr (11, [.ref a1, .ref a2, .ref a3, .ref a4, .ref a5, .ref a6, .ref a7, .ref a8, .ref a9, .ref a10, .ref a11])), (a1, .inr (7, [.ref a12, .int 4])), (a12, .inl (cB, 1600, .inl (upd (upd (upd (upd (fun _ => 0) 0 (vp_nar .byte ((x0 >>> (24 &&& 31)).toInt8.toInt32))) 1 (vp_nar .byte ((x0 >>> (16 &&& 31)).toInt8.toInt32))) 2 (vp_nar .byte ((x0 >>> (8 &&& 31)).toInt8.toInt32))) 3 (vp_nar .byte ((x0 >>> (0 &&& 31)).toInt8.toInt32)))))] := hD
  refine lv_aload_n hx hb dX11_feed_24 rfl (lv_at hl 0 rfl) ?_
  refine va_get (D := (dC, dI)) (ci := 11) (v := .ref a1) (C := RX11) (T := TX11) (N := 11) hx hb hts hiX11 hown hK hP 0 rfl rfl 0 (by decide) (hts _ (List.mem_of_getElem? (i := 1) rfl)) (fun _ h9 => h9) rfl dX11_feed_25 ?_
  refine lv_iload_n hx hb dX11_feed_28 rfl (lv_at hl 2 rfl) ?_
  have hPc := hP.sub (ws' := [(a1, .inr (7, [.ref a12, .int 4])), (a12, .inl (cB, 1600, .inl (upd (upd (upd (upd (fun _ => 0) 0 (vp_nar .byte ((x0 >>> (24 &&& 31)).toInt8.toInt32))) 1 (vp_nar .byte ((x0 >>> (16 &&& 31)).toInt8.toInt32))) 2 (vp_nar .byte ((x0 >>> (8 &&& 31)).toInt8.toInt32))) 3 (vp_nar .byte ((x0 >>> (0 &&& 31)).toInt8.toInt32)))))]) [1, 2] rfl
  have hDc := hD.sub (ws' := [(a1, .inr (7, [.ref a12, .int 4])), (a12, .inl (cB, 1600, .inl (upd (upd (upd (upd (fun _ => 0) 0 (vp_nar .byte ((x0 >>> (24 &&& 31)).toInt8.toInt32))) 1 (vp_nar .byte ((x0 >>> (16 &&& 31)).toInt8.toInt32))) 2 (vp_nar .byte ((x0 >>> (8 &&& 31)).toInt8.toInt32))) 3 (vp_nar .byte ((x0 >>> (0 &&& 31)).toInt8.toInt32)))))]) [1, 2] (by decide) rfl
  have hFc := va_free (wc := [(a1, .inr (7, [.ref a12, .int 4])), (a12, .inl (cB, 1600, .inl (upd (upd (upd (upd (fun _ => 0) 0 (vp_nar .byte ((x0 >>> (24 &&& 31)).toInt8.toInt32))) 1 (vp_nar .byte ((x0 >>> (16 &&& 31)).toInt8.toInt32))) 2 (vp_nar .byte ((x0 >>> (8 &&& 31)).toInt8.toInt32))) 3 (vp_nar .byte ((x0 >>> (0 &&& 31)).toInt8.toInt32)))))]) hD hS hA [1, 2] rfl
  refine va_callv (va_runV (As := [.int x1]) (rest := []) ⟨hx, hb, hml, hown, hts⟩ (k_X7_put_3 l dC dI cB cI cJ cZ cQ H.size a1 a12 x1 (upd (upd (upd (upd (fun _ => 0) 0 (vp_nar .byte ((x0 >>> (24 &&& 31)).toInt8.toInt32))) 1 (vp_nar .byte ((x0 >>> (16 &&& 31)).toInt8.toInt32))) 2 (vp_nar .byte ((x0 >>> (8 &&& 31)).toInt8.toInt32))) 3 (vp_nar .byte ((x0 >>> (0 &&& 31)).toInt8.toInt32)))) (cwV 1 hts g_p_X11_feed_2 rfl rfl rfl (by decide +kernel) ⟨Nat.le_of_ble_eq_true rfl, Nat.le_of_ble_eq_true rfl⟩) ⟨fun a U g mk Z => by obtain ⟨q0, q1, qP, qK, qD⟩ := Z; exact ⟨q0, q1, qP, va_K.moved (u := U) (U := U.calling g mk a) (Vm.Alike.refl U.vm) qK, qD⟩, va_recv hK hPc (ci := 7) (q0 := 0) rfl rfl, fun U hU hW => ⟨rfl, by rw [hU], by rw [hU]; exact hPc, va_K.moved hW.alike hK, hDc.weaken (fun _ _ _ _ => trivial)⟩⟩ rfl rfl hl.1 rfl (lv_room (Nat.le_of_ble_eq_true rfl)) dX11_feed_29 ⟨Nat.le_of_ble_eq_true rfl, Nat.le_of_ble_eq_true rfl⟩) hS (fun b _ h => hFc b h) hFc (fun u5 t H1 locs ht hvm hw hB hz1 hk1 hS => ?_)
  obtain ⟨hP1, hK1, hD1⟩ := hB
  rw [ht] at hP1
  obtain ⟨hP, hD⟩ := va_join (wr := [(a0, .inr (11, [.ref a1, .ref a2, .ref a3, .ref a4, .ref a5, .ref a6, .ref a7, .ref a8, .ref a9, .ref a10, .ref a11]))]) (w1 := [(a1, .inr (7, [.ref a12, .int 8])), (a12, .inl (cB, 1600, .inl (upd (upd (upd (upd (upd (upd (upd (upd (fun _ => 0) 0 (vp_nar .byte ((x0 >>> (24 &&& 31)).toInt8.toInt32))) 1 (vp_nar .byte ((x0 >>> (16 &&& 31)).toInt8.toInt32))) 2 (vp_nar .byte ((x0 >>> (8 &&& 31)).toInt8.toInt32))) 3 (vp_nar .byte ((x0 >>> (0 &&& 31)).toInt8.toInt32))) 4 (vp_nar .byte ((x1 >>> (24 &&& 31)).toInt8.toInt32))) 5 (vp_nar .byte ((x1 >>> (16 &&& 31)).toInt8.toInt32))) 6 (vp_nar .byte ((x1 >>> (8 &&& 31)).toInt8.toInt32))) 7 (vp_nar .byte ((x1 >>> (0 &&& 31)).toInt8.toInt32)))))]) hP hD [1, 2] [0] rfl rfl (by decide) (by decide) hk1 hFc hP1 hD1
  clear hP1 hK1 hD1 hk1 hz1 hvm hPc hDc hFc
  generalize H1 = H at hP hS ⊢
  have hP : va_P (dC, dI) vwCl [(a0, .inr (11, [.ref a1, .ref a2, .ref a3, .ref a4, .ref a5, .ref a6, .ref a7, .ref a8, .ref a9, .ref a10, .ref a11])), (a1, .inr (7, [.ref a12, .int 8])), (a12, .inl (cB, 1600, .inl (upd (upd (upd (upd (upd (upd (upd (upd (fun _ => 0) 0 (vp_nar .byte ((x0 >>> (24 &&& 31)).toInt8.toInt32))) 1 (vp_nar .byte ((x0 >>> (16 &&& 31)).toInt8.toInt32))) 2 (vp_nar .byte ((x0 >>> (8 &&& 31)).toInt8.toInt32))) 3 (vp_nar .byte ((x0 >>> (0 &&& 31)).toInt8.toInt32))) 4 (vp_nar .byte ((x1 >>> (24 &&& 31)).toInt8.toInt32))) 5 (vp_nar .byte ((x1 >>> (16 &&& 31)).toInt8.toInt32))) 6 (vp_nar .byte ((x1 >>> (8 &&& 31)).toInt8.toInt32))) 7 (vp_nar .byte ((x1 >>> (0 &&& 31)).toInt8.toInt32)))))] H := hP
  have hD : va_D A [(a0, .inr (11, [.ref a1, .ref a2, .ref a3, .ref a4, .ref a5, .ref a6, .ref a7, .ref a8, .ref a9, .ref a10, .ref a11])), (a1, .inr (7, [.ref a12, .int 8])), (a12, .inl (cB, 1600, .inl (upd (upd (upd (upd (upd (upd (upd (upd (fun _ => 0) 0 (vp_nar .byte ((x0 >>> (24 &&& 31)).toInt8.toInt32))) 1 (vp_nar .byte ((x0 >>> (16 &&& 31)).toInt8.toInt32))) 2 (vp_nar .byte ((x0 >>> (8 &&& 31)).toInt8.toInt32))) 3 (vp_nar .byte ((x0 >>> (0 &&& 31)).toInt8.toInt32))) 4 (vp_nar .byte ((x1 >>> (24 &&& 31)).toInt8.toInt32))) 5 (vp_nar .byte ((x1 >>> (16 &&& 31)).toInt8.toInt32))) 6 (vp_nar .byte ((x1 >>> (8 &&& 31)).toInt8.toInt32))) 7 (vp_nar .byte ((x1 >>> (0 &&& 31)).toInt8.toInt32)))))] := hD
  refine lv_aload_n hx hb dX11_feed_32 rfl (lv_at hl 0 rfl) ?_
  refine va_get (D := (dC, dI)) (ci := 11) (v := .ref a1) (C := RX11) (T := TX11) (N := 11) hx hb hts hiX11 hown hK hP 0 rfl rfl 0 (by decide) (hts _ (List.mem_of_getElem? (i := 1) rfl)) (fun _ h9 => h9) rfl dX11_feed_33 ?_
  refine lv_iload_n hx hb dX11_feed_36 rfl (lv_at hl 3 rfl) ?_
  have hPc := hP.sub (ws' := [(a1, .inr (7, [.ref a12, .int 8])), (a12, .inl (cB, 1600, .inl (upd (upd (upd (upd (upd (upd (upd (upd (fun _ => 0) 0 (vp_nar .byte ((x0 >>> (24 &&& 31)).toInt8.toInt32))) 1 (vp_nar .byte ((x0 >>> (16 &&& 31)).toInt8.toInt32))) 2 (vp_nar .byte ((x0 >>> (8 &&& 31)).toInt8.toInt32))) 3 (vp_nar .byte ((x0 >>> (0 &&& 31)).toInt8.toInt32))) 4 (vp_nar .byte ((x1 >>> (24 &&& 31)).toInt8.toInt32))) 5 (vp_nar .byte ((x1 >>> (16 &&& 31)).toInt8.toInt32))) 6 (vp_nar .byte ((x1 >>> (8 &&& 31)).toInt8.toInt32))) 7 (vp_nar .byte ((x1 >>> (0 &&& 31)).toInt8.toInt32)))))]) [1, 2] rfl
  have hDc := hD.sub (ws' := [(a1, .inr (7, [.ref a12, .int 8])), (a12, .inl (cB, 1600, .inl (upd (upd (upd (upd (upd (upd (upd (upd (fun _ => 0) 0 (vp_nar .byte ((x0 >>> (24 &&& 31)).toInt8.toInt32))) 1 (vp_nar .byte ((x0 >>> (16 &&& 31)).toInt8.toInt32))) 2 (vp_nar .byte ((x0 >>> (8 &&& 31)).toInt8.toInt32))) 3 (vp_nar .byte ((x0 >>> (0 &&& 31)).toInt8.toInt32))) 4 (vp_nar .byte ((x1 >>> (24 &&& 31)).toInt8.toInt32))) 5 (vp_nar .byte ((x1 >>> (16 &&& 31)).toInt8.toInt32))) 6 (vp_nar .byte ((x1 >>> (8 &&& 31)).toInt8.toInt32))) 7 (vp_nar .byte ((x1 >>> (0 &&& 31)).toInt8.toInt32)))))]) [1, 2] (by decide) rfl
  have hFc := va_free (wc := [(a1, .inr (7, [.ref a12, .int 8])), (a12, .inl (cB, 1600, .inl (upd (upd (upd (upd (upd (upd (upd (upd (fun _ => 0) 0 (vp_nar .byte ((x0 >>> (24 &&& 31)).toInt8.toInt32))) 1 (vp_nar .byte ((x0 >>> (16 &&& 31)).toInt8.toInt32))) 2 (vp_nar .byte ((x0 >>> (8 &&& 31)).toInt8.toInt32))) 3 (vp_nar .byte ((x0 >>> (0 &&& 31)).toInt8.toInt32))) 4 (vp_nar .byte ((x1 >>> (24 &&& 31)).toInt8.toInt32))) 5 (vp_nar .byte ((x1 >>> (16 &&& 31)).toInt8.toInt32))) 6 (vp_nar .byte ((x1 >>> (8 &&& 31)).toInt8.toInt32))) 7 (vp_nar .byte ((x1 >>> (0 &&& 31)).toInt8.toInt32)))))]) hD hS hA [1, 2] rfl
  refine va_callv (va_runV (As := [.int x2]) (rest := []) ⟨hx, hb, hml, hown, hts⟩ (k_X7_put_4 l dC dI cB cI cJ cZ cQ H.size a1 a12 x2 (upd (upd (upd (upd (upd (upd (upd (upd (fun _ => 0) 0 (vp_nar .byte ((x0 >>> (24 &&& 31)).toInt8.toInt32))) 1 (vp_nar .byte ((x0 >>> (16 &&& 31)).toInt8.toInt32))) 2 (vp_nar .byte ((x0 >>> (8 &&& 31)).toInt8.toInt32))) 3 (vp_nar .byte ((x0 >>> (0 &&& 31)).toInt8.toInt32))) 4 (vp_nar .byte ((x1 >>> (24 &&& 31)).toInt8.toInt32))) 5 (vp_nar .byte ((x1 >>> (16 &&& 31)).toInt8.toInt32))) 6 (vp_nar .byte ((x1 >>> (8 &&& 31)).toInt8.toInt32))) 7 (vp_nar .byte ((x1 >>> (0 &&& 31)).toInt8.toInt32)))) (cwV 1 hts g_p_X11_feed_3 rfl rfl rfl (by decide +kernel) ⟨Nat.le_of_ble_eq_true rfl, Nat.le_of_ble_eq_true rfl⟩) ⟨fun a U g mk Z => by obtain ⟨q0, q1, qP, qK, qD⟩ := Z; exact ⟨q0, q1, qP, va_K.moved (u := U) (U := U.calling g mk a) (Vm.Alike.refl U.vm) qK, qD⟩, va_recv hK hPc (ci := 7) (q0 := 0) rfl rfl, fun U hU hW => ⟨rfl, by rw [hU], by rw [hU]; exact hPc, va_K.moved hW.alike hK, hDc.weaken (fun _ _ _ _ => trivial)⟩⟩ rfl rfl hl.1 rfl (lv_room (Nat.le_of_ble_eq_true rfl)) dX11_feed_37 ⟨Nat.le_of_ble_eq_true rfl, Nat.le_of_ble_eq_true rfl⟩) hS (fun b _ h => hFc b h) hFc (fun u7 t H1 locs ht hvm hw hB hz1 hk1 hS => ?_)
  obtain ⟨hP1, hK1, hD1⟩ := hB
  rw [ht] at hP1
  obtain ⟨hP, hD⟩ := va_join (wr := [(a0, .inr (11, [.ref a1, .ref a2, .ref a3, .ref a4, .ref a5, .ref a6, .ref a7, .ref a8, .ref a9, .ref a10, .ref a11]))]) (w1 := [(a1, .inr (7, [.ref a12, .int 12])), (a12, .inl (cB, 1600, .inl (upd (upd (upd (upd (upd (upd (upd (upd (upd (upd (upd (upd (fun _ => 0) 0 (vp_nar .byte ((x0 >>> (24 &&& 31)).toInt8.toInt32))) 1 (vp_nar .byte ((x0 >>> (16 &&& 31)).toInt8.toInt32))) 2 (vp_nar .byte ((x0 >>> (8 &&& 31)).toInt8.toInt32))) 3 (vp_nar .byte ((x0 >>> (0 &&& 31)).toInt8.toInt32))) 4 (vp_nar .byte ((x1 >>> (24 &&& 31)).toInt8.toInt32))) 5 (vp_nar .byte ((x1 >>> (16 &&& 31)).toInt8.toInt32))) 6 (vp_nar .byte ((x1 >>> (8 &&& 31)).toInt8.toInt32))) 7 (vp_nar .byte ((x1 >>> (0 &&& 31)).toInt8.toInt32))) 8 (vp_nar .byte ((x2 >>> (24 &&& 31)).toInt8.toInt32))) 9 (vp_nar .byte ((x2 >>> (16 &&& 31)).toInt8.toInt32))) 10 (vp_nar .byte ((x2 >>> (8 &&& 31)).toInt8.toInt32))) 11 (vp_nar .byte ((x2 >>> (0 &&& 31)).toInt8.toInt32)))))]) hP hD [1, 2] [0] rfl rfl (by decide) (by decide) hk1 hFc hP1 hD1
  clear hP1 hK1 hD1 hk1 hz1 hvm hPc hDc hFc
  generalize H1 = H at hP hS ⊢
  have hP : va_P (dC, dI) vwCl [(a0, .inr (11, [.ref a1, .ref a2, .ref a3, .ref a4, .ref a5, .ref a6, .ref a7, .ref a8, .ref a9, .ref a10, .ref a11])), (a1, .inr (7, [.ref a12, .int 12])), (a12, .inl (cB, 1600, .inl (upd (upd (upd (upd (upd (upd (upd (upd (upd (upd (upd (upd (fun _ => 0) 0 (vp_nar .byte ((x0 >>> (24 &&& 31)).toInt8.toInt32))) 1 (vp_nar .byte ((x0 >>> (16 &&& 31)).toInt8.toInt32))) 2 (vp_nar .byte ((x0 >>> (8 &&& 31)).toInt8.toInt32))) 3 (vp_nar .byte ((x0 >>> (0 &&& 31)).toInt8.toInt32))) 4 (vp_nar .byte ((x1 >>> (24 &&& 31)).toInt8.toInt32))) 5 (vp_nar .byte ((x1 >>> (16 &&& 31)).toInt8.toInt32))) 6 (vp_nar .byte ((x1 >>> (8 &&& 31)).toInt8.toInt32))) 7 (vp_nar .byte ((x1 >>> (0 &&& 31)).toInt8.toInt32))) 8 (vp_nar .byte ((x2 >>> (24 &&& 31)).toInt8.toInt32))) 9 (vp_nar .byte ((x2 >>> (16 &&& 31)).toInt8.toInt32))) 10 (vp_nar .byte ((x2 >>> (8 &&& 31)).toInt8.toInt32))) 11 (vp_nar .byte ((x2 >>> (0 &&& 31)).toInt8.toInt32)))))] H := hP
  have hD : va_D A [(a0, .inr (11, [.ref a1, .ref a2, .ref a3, .ref a4, .ref a5, .ref a6, .ref a7, .ref a8, .ref a9, .ref a10, .ref a11])), (a1, .inr (7, [.ref a12, .int 12])), (a12, .inl (cB, 1600, .inl (upd (upd (upd (upd (upd (upd (upd (upd (upd (upd (upd (upd (fun _ => 0) 0 (vp_nar .byte ((x0 >>> (24 &&& 31)).toInt8.toInt32))) 1 (vp_nar .byte ((x0 >>> (16 &&& 31)).toInt8.toInt32))) 2 (vp_nar .byte ((x0 >>> (8 &&& 31)).toInt8.toInt32))) 3 (vp_nar .byte ((x0 >>> (0 &&& 31)).toInt8.toInt32))) 4 (vp_nar .byte ((x1 >>> (24 &&& 31)).toInt8.toInt32))) 5 (vp_nar .byte ((x1 >>> (16 &&& 31)).toInt8.toInt32))) 6 (vp_nar .byte ((x1 >>> (8 &&& 31)).toInt8.toInt32))) 7 (vp_nar .byte ((x1 >>> (0 &&& 31)).toInt8.toInt32))) 8 (vp_nar .byte ((x2 >>> (24 &&& 31)).toInt8.toInt32))) 9 (vp_nar .byte ((x2 >>> (16 &&& 31)).toInt8.toInt32))) 10 (vp_nar .byte ((x2 >>> (8 &&& 31)).toInt8.toInt32))) 11 (vp_nar .byte ((x2 >>> (0 &&& 31)).toInt8.toInt32)))))] := hD
  refine lv_aload_n hx hb dX11_feed_40 rfl (lv_at hl 0 rfl) ?_
  refine va_get (D := (dC, dI)) (ci := 11) (v := .ref a1) (C := RX11) (T := TX11) (N := 11) hx hb hts hiX11 hown hK hP 0 rfl rfl 0 (by decide) (hts _ (List.mem_of_getElem? (i := 1) rfl)) (fun _ h9 => h9) rfl dX11_feed_41 ?_
  refine lv_iload hx hb dX11_feed_44 (lv_at hl 4 rfl) ?_
  have hPc := hP.sub (ws' := [(a1, .inr (7, [.ref a12, .int 12])), (a12, .inl (cB, 1600, .inl (upd (upd (upd (upd (upd (upd (upd (upd (upd (upd (upd (upd (fun _ => 0) 0 (vp_nar .byte ((x0 >>> (24 &&& 31)).toInt8.toInt32))) 1 (vp_nar .byte ((x0 >>> (16 &&& 31)).toInt8.toInt32))) 2 (vp_nar .byte ((x0 >>> (8 &&& 31)).toInt8.toInt32))) 3 (vp_nar .byte ((x0 >>> (0 &&& 31)).toInt8.toInt32))) 4 (vp_nar .byte ((x1 >>> (24 &&& 31)).toInt8.toInt32))) 5 (vp_nar .byte ((x1 >>> (16 &&& 31)).toInt8.toInt32))) 6 (vp_nar .byte ((x1 >>> (8 &&& 31)).toInt8.toInt32))) 7 (vp_nar .byte ((x1 >>> (0 &&& 31)).toInt8.toInt32))) 8 (vp_nar .byte ((x2 >>> (24 &&& 31)).toInt8.toInt32))) 9 (vp_nar .byte ((x2 >>> (16 &&& 31)).toInt8.toInt32))) 10 (vp_nar .byte ((x2 >>> (8 &&& 31)).toInt8.toInt32))) 11 (vp_nar .byte ((x2 >>> (0 &&& 31)).toInt8.toInt32)))))]) [1, 2] rfl
  have hDc := hD.sub (ws' := [(a1, .inr (7, [.ref a12, .int 12])), (a12, .inl (cB, 1600, .inl (upd (upd (upd (upd (upd (upd (upd (upd (upd (upd (upd (upd (fun _ => 0) 0 (vp_nar .byte ((x0 >>> (24 &&& 31)).toInt8.toInt32))) 1 (vp_nar .byte ((x0 >>> (16 &&& 31)).toInt8.toInt32))) 2 (vp_nar .byte ((x0 >>> (8 &&& 31)).toInt8.toInt32))) 3 (vp_nar .byte ((x0 >>> (0 &&& 31)).toInt8.toInt32))) 4 (vp_nar .byte ((x1 >>> (24 &&& 31)).toInt8.toInt32))) 5 (vp_nar .byte ((x1 >>> (16 &&& 31)).toInt8.toInt32))) 6 (vp_nar .byte ((x1 >>> (8 &&& 31)).toInt8.toInt32))) 7 (vp_nar .byte ((x1 >>> (0 &&& 31)).toInt8.toInt32))) 8 (vp_nar .byte ((x2 >>> (24 &&& 31)).toInt8.toInt32))) 9 (vp_nar .byte ((x2 >>> (16 &&& 31)).toInt8.toInt32))) 10 (vp_nar .byte ((x2 >>> (8 &&& 31)).toInt8.toInt32))) 11 (vp_nar .byte ((x2 >>> (0 &&& 31)).toInt8.toInt32)))))]) [1, 2] (by decide) rfl
  have hFc := va_free (wc := [(a1, .inr (7, [.ref a12, .int 12])), (a12, .inl (cB, 1600, .inl (upd (upd (upd (upd (upd (upd (upd (upd (upd (upd (upd (upd (fun _ => 0) 0 (vp_nar .byte ((x0 >>> (24 &&& 31)).toInt8.toInt32))) 1 (vp_nar .byte ((x0 >>> (16 &&& 31)).toInt8.toInt32))) 2 (vp_nar .byte ((x0 >>> (8 &&& 31)).toInt8.toInt32))) 3 (vp_nar .byte ((x0 >>> (0 &&& 31)).toInt8.toInt32))) 4 (vp_nar .byte ((x1 >>> (24 &&& 31)).toInt8.toInt32))) 5 (vp_nar .byte ((x1 >>> (16 &&& 31)).toInt8.toInt32))) 6 (vp_nar .byte ((x1 >>> (8 &&& 31)).toInt8.toInt32))) 7 (vp_nar .byte ((x1 >>> (0 &&& 31)).toInt8.toInt32))) 8 (vp_nar .byte ((x2 >>> (24 &&& 31)).toInt8.toInt32))) 9 (vp_nar .byte ((x2 >>> (16 &&& 31)).toInt8.toInt32))) 10 (vp_nar .byte ((x2 >>> (8 &&& 31)).toInt8.toInt32))) 11 (vp_nar .byte ((x2 >>> (0 &&& 31)).toInt8.toInt32)))))]) hD hS hA [1, 2] rfl
  refine va_callv (va_runV (As := [.int x3]) (rest := []) ⟨hx, hb, hml, hown, hts⟩ (k_X7_put_5 l dC dI cB cI cJ cZ cQ H.size a1 a12 x3 (upd (upd (upd (upd (upd (upd (upd (upd (upd (upd (upd (upd (fun _ => 0) 0 (vp_nar .byte ((x0 >>> (24 &&& 31)).toInt8.toInt32))) 1 (vp_nar .byte ((x0 >>> (16 &&& 31)).toInt8.toInt32))) 2 (vp_nar .byte ((x0 >>> (8 &&& 31)).toInt8.toInt32))) 3 (vp_nar .byte ((x0 >>> (0 &&& 31)).toInt8.toInt32))) 4 (vp_nar .byte ((x1 >>> (24 &&& 31)).toInt8.toInt32))) 5 (vp_nar .byte ((x1 >>> (16 &&& 31)).toInt8.toInt32))) 6 (vp_nar .byte ((x1 >>> (8 &&& 31)).toInt8.toInt32))) 7 (vp_nar .byte ((x1 >>> (0 &&& 31)).toInt8.toInt32))) 8 (vp_nar .byte ((x2 >>> (24 &&& 31)).toInt8.toInt32))) 9 (vp_nar .byte ((x2 >>> (16 &&& 31)).toInt8.toInt32))) 10 (vp_nar .byte ((x2 >>> (8 &&& 31)).toInt8.toInt32))) 11 (vp_nar .byte ((x2 >>> (0 &&& 31)).toInt8.toInt32)))) (cwV 1 hts g_p_X11_feed_4 rfl rfl rfl (by decide +kernel) ⟨Nat.le_of_ble_eq_true rfl, Nat.le_of_ble_eq_true rfl⟩) ⟨fun a U g mk Z => by obtain ⟨q0, q1, qP, qK, qD⟩ := Z; exact ⟨q0, q1, qP, va_K.moved (u := U) (U := U.calling g mk a) (Vm.Alike.refl U.vm) qK, qD⟩, va_recv hK hPc (ci := 7) (q0 := 0) rfl rfl, fun U hU hW => ⟨rfl, by rw [hU], by rw [hU]; exact hPc, va_K.moved hW.alike hK, hDc.weaken (fun _ _ _ _ => trivial)⟩⟩ rfl rfl hl.1 rfl (lv_room (Nat.le_of_ble_eq_true rfl)) dX11_feed_46 ⟨Nat.le_of_ble_eq_true rfl, Nat.le_of_ble_eq_true rfl⟩) hS (fun b _ h => hFc b h) hFc (fun u9 t H1 locs ht hvm hw hB hz1 hk1 hS => ?_)
  obtain ⟨hP1, hK1, hD1⟩ := hB
  rw [ht] at hP1
  obtain ⟨hP, hD⟩ := va_join (wr := [(a0, .inr (11, [.ref a1, .ref a2, .ref a3, .ref a4, .ref a5, .ref a6, .ref a7, .ref a8, .ref a9, .ref a10, .ref a11]))]) (w1 := [(a1, .inr (7, [.ref a12, .int 16])), (a12, .inl (cB, 1600, .inl (upd (upd (upd (upd (upd (upd (upd (upd (upd (upd (upd (upd (upd (upd (upd (upd (fun _ => 0) 0 (vp_nar .byte ((x0 >>> (24 &&& 31)).toInt8.toInt32))) 1 (vp_nar .byte ((x0 >>> (16 &&& 31)).toInt8.toInt32))) 2 (vp_nar .byte ((x0 >>> (8 &&& 31)).toInt8.toInt32))) 3 (vp_nar .byte ((x0 >>> (0 &&& 31)).toInt8.toInt32))) 4 (vp_nar .byte ((x1 >>> (24 &&& 31)).toInt8.toInt32))) 5 (vp_nar .byte ((x1 >>> (16 &&& 31)).toInt8.toInt32))) 6 (vp_nar .byte ((x1 >>> (8 &&& 31)).toInt8.toInt32))) 7 (vp_nar .byte ((x1 >>> (0 &&& 31)).toInt8.toInt32))) 8 (vp_nar .byte ((x2 >>> (24 &&& 31)).toInt8.toInt32))) 9 (vp_nar .byte ((x2 >>> (16 &&& 31)).toInt8.toInt32))) 10 (vp_nar .byte ((x2 >>> (8 &&& 31)).toInt8.toInt32))) 11 (vp_nar .byte ((x2 >>> (0 &&& 31)).toInt8.toInt32))) 12 (vp_nar .byte ((x3 >>> (24 &&& 31)).toInt8.toInt32))) 13 (vp_nar .byte ((x3 >>> (16 &&& 31)).toInt8.toInt32))) 14 (vp_nar .byte ((x3 >>> (8 &&& 31)).toInt8.toInt32))) 15 (vp_nar .byte ((x3 >>> (0 &&& 31)).toInt8.toInt32)))))]) hP hD [1, 2] [0] rfl rfl (by decide) (by decide) hk1 hFc hP1 hD1
  clear hP1 hK1 hD1 hk1 hz1 hvm hPc hDc hFc
  generalize H1 = H at hP hS ⊢
  have hP : va_P (dC, dI) vwCl [(a0, .inr (11, [.ref a1, .ref a2, .ref a3, .ref a4, .ref a5, .ref a6, .ref a7, .ref a8, .ref a9, .ref a10, .ref a11])), (a1, .inr (7, [.ref a12, .int 16])), (a12, .inl (cB, 1600, .inl (upd (upd (upd (upd (upd (upd (upd (upd (upd (upd (upd (upd (upd (upd (upd (upd (fun _ => 0) 0 (vp_nar .byte ((x0 >>> (24 &&& 31)).toInt8.toInt32))) 1 (vp_nar .byte ((x0 >>> (16 &&& 31)).toInt8.toInt32))) 2 (vp_nar .byte ((x0 >>> (8 &&& 31)).toInt8.toInt32))) 3 (vp_nar .byte ((x0 >>> (0 &&& 31)).toInt8.toInt32))) 4 (vp_nar .byte ((x1 >>> (24 &&& 31)).toInt8.toInt32))) 5 (vp_nar .byte ((x1 >>> (16 &&& 31)).toInt8.toInt32))) 6 (vp_nar .byte ((x1 >>> (8 &&& 31)).toInt8.toInt32))) 7 (vp_nar .byte ((x1 >>> (0 &&& 31)).toInt8.toInt32))) 8 (vp_nar .byte ((x2 >>> (24 &&& 31)).toInt8.toInt32))) 9 (vp_nar .byte ((x2 >>> (16 &&& 31)).toInt8.toInt32))) 10 (vp_nar .byte ((x2 >>> (8 &&& 31)).toInt8.toInt32))) 11 (vp_nar .byte ((x2 >>> (0 &&& 31)).toInt8.toInt32))) 12 (vp_nar .byte ((x3 >>> (24 &&& 31)).toInt8.toInt32))) 13 (vp_nar .byte ((x3 >>> (16 &&& 31)).toInt8.toInt32))) 14 (vp_nar .byte ((x3 >>> (8 &&& 31)).toInt8.toInt32))) 15 (vp_nar .byte ((x3 >>> (0 &&& 31)).toInt8.toInt32)))))] H := hP
  have hD : va_D A [(a0, .inr (11, [.ref a1, .ref a2, .ref a3, .ref a4, .ref a5, .ref a6, .ref a7, .ref a8, .ref a9, .ref a10, .ref a11])), (a1, .inr (7, [.ref a12, .int 16])), (a12, .inl (cB, 1600, .inl (upd (upd (upd (upd (upd (upd (upd (upd (upd (upd (upd (upd (upd (upd (upd (upd (fun _ => 0) 0 (vp_nar .byte ((x0 >>> (24 &&& 31)).toInt8.toInt32))) 1 (vp_nar .byte ((x0 >>> (16 &&& 31)).toInt8.toInt32))) 2 (vp_nar .byte ((x0 >>> (8 &&& 31)).toInt8.toInt32))) 3 (vp_nar .byte ((x0 >>> (0 &&& 31)).toInt8.toInt32))) 4 (vp_nar .byte ((x1 >>> (24 &&& 31)).toInt8.toInt32))) 5 (vp_nar .byte ((x1 >>> (16 &&& 31)).toInt8.toInt32))) 6 (vp_nar .byte ((x1 >>> (8 &&& 31)).toInt8.toInt32))) 7 (vp_nar .byte ((x1 >>> (0 &&& 31)).toInt8.toInt32))) 8 (vp_nar .byte ((x2 >>> (24 &&& 31)).toInt8.toInt32))) 9 (vp_nar .byte ((x2 >>> (16 &&& 31)).toInt8.toInt32))) 10 (vp_nar .byte ((x2 >>> (8 &&& 31)).toInt8.toInt32))) 11 (vp_nar .byte ((x2 >>> (0 &&& 31)).toInt8.toInt32))) 12 (vp_nar .byte ((x3 >>> (24 &&& 31)).toInt8.toInt32))) 13 (vp_nar .byte ((x3 >>> (16 &&& 31)).toInt8.toInt32))) 14 (vp_nar .byte ((x3 >>> (8 &&& 31)).toInt8.toInt32))) 15 (vp_nar .byte ((x3 >>> (0 &&& 31)).toInt8.toInt32)))))] := hD
  refine lv_aload_n hx hb dX11_feed_49 rfl (lv_at hl 0 rfl) ?_
  refine va_get (D := (dC, dI)) (ci := 11) (v := .ref a1) (C := RX11) (T := TX11) (N := 11) hx hb hts hiX11 hown hK hP 0 rfl rfl 0 (by decide) (hts _ (List.mem_of_getElem? (i := 1) rfl)) (fun _ h9 => h9) rfl dX11_feed_50 ?_
  refine lv_iload hx hb dX11_feed_53 (lv_at hl 5 rfl) ?_
  have hPc := hP.sub (ws' := [(a1, .inr (7, [.ref a12, .int 16])), (a12, .inl (cB, 1600, .inl (upd (upd (upd (upd (upd (upd (upd (upd (upd (upd (upd (upd (upd (upd (upd (upd (fun _ => 0) 0 (vp_nar .byte ((x0 >>> (24 &&& 31)).toInt8.toInt32))) 1 (vp_nar .byte ((x0 >>> (16 &&& 31)).toInt8.toInt32))) 2 (vp_nar .byte ((x0 >>> (8 &&& 31)).toInt8.toInt32))) 3 (vp_nar .byte ((x0 >>> (0 &&& 31)).toInt8.toInt32))) 4 (vp_nar .byte ((x1 >>> (24 &&& 31)).toInt8.toInt32))) 5 (vp_nar .byte ((x1 >>> (16 &&& 31)).toInt8.toInt32))) 6 (vp_nar .byte ((x1 >>> (8 &&& 31)).toInt8.toInt32))) 7 (vp_nar .byte ((x1 >>> (0 &&& 31)).toInt8.toInt32))) 8 (vp_nar .byte ((x2 >>> (24 &&& 31)).toInt8.toInt32))) 9 (vp_nar .byte ((x2 >>> (16 &&& 31)).toInt8.toInt32))) 10 (vp_nar .byte ((x2 >>> (8 &&& 31)).toInt8.toInt32))) 11 (vp_nar .byte ((x2 >>> (0 &&& 31)).toInt8.toInt32))) 12 (vp_nar .byte ((x3 >>> (24 &&& 31)).toInt8.toInt32))) 13 (vp_nar .byte ((x3 >>> (16 &&& 31)).toInt8.toInt32))) 14 (vp_nar .byte ((x3 >>> (8 &&& 31)).toInt8.toInt32))) 15 (vp_nar .byte ((x3 >>> (0 &&& 31)).toInt8.toInt32)))))]) [1, 2] rfl
  have hDc := hD.sub (ws' := [(a1, .inr (7, [.ref a12, .int 16])), (a12, .inl (cB, 1600, .inl (upd (upd (upd (upd (upd (upd (upd (upd (upd (upd (upd (upd (upd (upd (upd (upd (fun _ => 0) 0 (vp_nar .byte ((x0 >>> (24 &&& 31)).toInt8.toInt32))) 1 (vp_nar .byte ((x0 >>> (16 &&& 31)).toInt8.toInt32))) 2 (vp_nar .byte ((x0 >>> (8 &&& 31)).toInt8.toInt32))) 3 (vp_nar .byte ((x0 >>> (0 &&& 31)).toInt8.toInt32))) 4 (vp_nar .byte ((x1 >>> (24 &&& 31)).toInt8.toInt32))) 5 (vp_nar .byte ((x1 >>> (16 &&& 31)).toInt8.toInt32))) 6 (vp_nar .byte ((x1 >>> (8 &&& 31)).toInt8.toInt32))) 7 (vp_nar .byte ((x1 >>> (0 &&& 31)).toInt8.toInt32))) 8 (vp_nar .byte ((x2 >>> (24 &&& 31)).toInt8.toInt32))) 9 (vp_nar .byte ((x2 >>> (16 &&& 31)).toInt8.toInt32))) 10 (vp_nar .byte ((x2 >>> (8 &&& 31)).toInt8.toInt32))) 11 (vp_nar .byte ((x2 >>> (0 &&& 31)).toInt8.toInt32))) 12 (vp_nar .byte ((x3 >>> (24 &&& 31)).toInt8.toInt32))) 13 (vp_nar .byte ((x3 >>> (16 &&& 31)).toInt8.toInt32))) 14 (vp_nar .byte ((x3 >>> (8 &&& 31)).toInt8.toInt32))) 15 (vp_nar .byte ((x3 >>> (0 &&& 31)).toInt8.toInt32)))))]) [1, 2] (by decide) rfl
  have hFc := va_free (wc := [(a1, .inr (7, [.ref a12, .int 16])), (a12, .inl (cB, 1600, .inl (upd (upd (upd (upd (upd (upd (upd (upd (upd (upd (upd (upd (upd (upd (upd (upd (fun _ => 0) 0 (vp_nar .byte ((x0 >>> (24 &&& 31)).toInt8.toInt32))) 1 (vp_nar .byte ((x0 >>> (16 &&& 31)).toInt8.toInt32))) 2 (vp_nar .byte ((x0 >>> (8 &&& 31)).toInt8.toInt32))) 3 (vp_nar .byte ((x0 >>> (0 &&& 31)).toInt8.toInt32))) 4 (vp_nar .byte ((x1 >>> (24 &&& 31)).toInt8.toInt32))) 5 (vp_nar .byte ((x1 >>> (16 &&& 31)).toInt8.toInt32))) 6 (vp_nar .byte ((x1 >>> (8 &&& 31)).toInt8.toInt32))) 7 (vp_nar .byte ((x1 >>> (0 &&& 31)).toInt8.toInt32))) 8 (vp_nar .byte ((x2 >>> (24 &&& 31)).toInt8.toInt32))) 9 (vp_nar .byte ((x2 >>> (16 &&& 31)).toInt8.toInt32))) 10 (vp_nar .byte ((x2 >>> (8 &&& 31)).toInt8.toInt32))) 11 (vp_nar .byte ((x2 >>> (0 &&& 31)).toInt8.toInt32))) 12 (vp_nar .byte ((x3 >>> (24 &&& 31)).toInt8.toInt32))) 13 (vp_nar .byte ((x3 >>> (16 &&& 31)).toInt8.toInt32))) 14 (vp_nar .byte ((x3 >>> (8 &&& 31)).toInt8.toInt32))) 15 (vp_nar .byte ((x3 >>> (0 &&& 31)).toInt8.toInt32)))))]) hD hS hA [1, 2] rfl
  refine va_callv (va_runV (As := [.int x4]) (rest := []) ⟨hx, hb, hml, hown, hts⟩ (k_X7_put_6 l dC dI cB cI cJ cZ cQ H.size a1 a12 x4 (upd (upd (upd (upd (upd (upd (upd (upd (upd (upd (upd (upd (upd (upd (upd (upd (fun _ => 0) 0 (vp_nar .byte ((x0 >>> (24 &&& 31)).toInt8.toInt32))) 1 (vp_nar .byte ((x0 >>> (16 &&& 31)).toInt8.toInt32))) 2 (vp_nar .byte ((x0 >>> (8 &&& 31)).toInt8.toInt32))) 3 (vp_nar .byte ((x0 >>> (0 &&& 31)).toInt8.toInt32))) 4 (vp_nar .byte ((x1 >>> (24 &&& 31)).toInt8.toInt32))) 5 (vp_nar .byte ((x1 >>> (16 &&& 31)).toInt8.toInt32))) 6 (vp_nar .byte ((x1 >>> (8 &&& 31)).toInt8.toInt32))) 7 (vp_nar .byte ((x1 >>> (0 &&& 31)).toInt8.toInt32))) 8 (vp_nar .byte ((x2 >>> (24 &&& 31)).toInt8.toInt32))) 9 (vp_nar .byte ((x2 >>> (16 &&& 31)).toInt8.toInt32))) 10 (vp_nar .byte ((x2 >>> (8 &&& 31)).toInt8.toInt32))) 11 (vp_nar .byte ((x2 >>> (0 &&& 31)).toInt8.toInt32))) 12 (vp_nar .byte ((x3 >>> (24 &&& 31)).toInt8.toInt32))) 13 (vp_nar .byte ((x3 >>> (16 &&& 31)).toInt8.toInt32))) 14 (vp_nar .byte ((x3 >>> (8 &&& 31)).toInt8.toInt32))) 15 (vp_nar .byte ((x3 >>> (0 &&& 31)).toInt8.toInt32)))) (cwV 1 hts g_p_X11_feed_5 rfl rfl rfl (by decide +kernel) ⟨Nat.le_of_ble_eq_true rfl, Nat.le_of_ble_eq_true rfl⟩) ⟨fun a U g mk Z => by obtain ⟨q0, q1, qP, qK, qD⟩ := Z; exact ⟨q0, q1, qP, va_K.moved (u := U) (U := U.calling g mk a) (Vm.Alike.refl U.vm) qK, qD⟩, va_recv hK hPc (ci := 7) (q0 := 0) rfl rfl, fun U hU hW => ⟨rfl, by rw [hU], by rw [hU]; exact hPc, va_K.moved hW.alike hK, hDc.weaken (fun _ _ _ _ => trivial)⟩⟩ rfl rfl hl.1 rfl (lv_room (Nat.le_of_ble_eq_true rfl)) dX11_feed_55 ⟨Nat.le_of_ble_eq_true rfl, Nat.le_of_ble_eq_true rfl⟩) hS (fun b _ h => hFc b h) hFc (fun u11 t H1 locs ht hvm hw hB hz1 hk1 hS => ?_)
  obtain ⟨hP1, hK1, hD1⟩ := hB
  rw [ht] at hP1
  obtain ⟨hP, hD⟩ := va_join (wr := [(a0, .inr (11, [.ref a1, .ref a2, .ref a3, .ref a4, .ref a5, .ref a6, .ref a7, .ref a8, .ref a9, .ref a10, .ref a11]))]) (w1 := [(a1, .inr (7, [.ref a12, .int 20])), (a12, .inl (cB, 1600, .inl (upd (upd (upd (upd (upd (upd (upd (upd (upd (upd (upd (upd (upd (upd (upd (upd (upd (upd (upd (upd (fun _ => 0) 0 (vp_nar .byte ((x0 >>> (24 &&& 31)).toInt8.toInt32))) 1 (vp_nar .byte ((x0 >>> (16 &&& 31)).toInt8.toInt32))) 2 (vp_nar .byte ((x0 >>> (8 &&& 31)).toInt8.toInt32))) 3 (vp_nar .byte ((x0 >>> (0 &&& 31)).toInt8.toInt32))) 4 (vp_nar .byte ((x1 >>> (24 &&& 31)).toInt8.toInt32))) 5 (vp_nar .byte ((x1 >>> (16 &&& 31)).toInt8.toInt32))) 6 (vp_nar .byte ((x1 >>> (8 &&& 31)).toInt8.toInt32))) 7 (vp_nar .byte ((x1 >>> (0 &&& 31)).toInt8.toInt32))) 8 (vp_nar .byte ((x2 >>> (24 &&& 31)).toInt8.toInt32))) 9 (vp_nar .byte ((x2 >>> (16 &&& 31)).toInt8.toInt32))) 10 (vp_nar .byte ((x2 >>> (8 &&& 31)).toInt8.toInt32))) 11 (vp_nar .byte ((x2 >>> (0 &&& 31)).toInt8.toInt32))) 12 (vp_nar .byte ((x3 >>> (24 &&& 31)).toInt8.toInt32))) 13 (vp_nar .byte ((x3 >>> (16 &&& 31)).toInt8.toInt32))) 14 (vp_nar .byte ((x3 >>> (8 &&& 31)).toInt8.toInt32))) 15 (vp_nar .byte ((x3 >>> (0 &&& 31)).toInt8.toInt32))) 16 (vp_nar .byte ((x4 >>> (24 &&& 31)).toInt8.toInt32))) 17 (vp_nar .byte ((x4 >>> (16 &&& 31)).toInt8.toInt32))) 18 (vp_nar .byte ((x4 >>> (8 &&& 31)).toInt8.toInt32))) 19 (vp_nar .byte ((x4 >>> (0 &&& 31)).toInt8.toInt32)))))]) hP hD [1, 2] [0] rfl rfl (by decide) (by decide) hk1 hFc hP1 hD1
  clear hP1 hK1 hD1 hk1 hz1 hvm hPc hDc hFc
  generalize H1 = H at hP hS ⊢
  have hP : va_P (dC, dI) vwCl [(a0, .inr (11, [.ref a1, .ref a2, .ref a3, .ref a4, .ref a5, .ref a6, .ref a7, .ref a8, .ref a9, .ref a10, .ref a11])), (a1, .inr (7, [.ref a12, .int 20])), (a12, .inl (cB, 1600, .inl (upd (upd (upd (upd (upd (upd (upd (upd (upd (upd (upd (upd (upd (upd (upd (upd (upd (upd (upd (upd (fun _ => 0) 0 (vp_nar .byte ((x0 >>> (24 &&& 31)).toInt8.toInt32))) 1 (vp_nar .byte ((x0 >>> (16 &&& 31)).toInt8.toInt32))) 2 (vp_nar .byte ((x0 >>> (8 &&& 31)).toInt8.toInt32))) 3 (vp_nar .byte ((x0 >>> (0 &&& 31)).toInt8.toInt32))) 4 (vp_nar .byte ((x1 >>> (24 &&& 31)).toInt8.toInt32))) 5 (vp_nar .byte ((x1 >>> (16 &&& 31)).toInt8.toInt32))) 6 (vp_nar .byte ((x1 >>> (8 &&& 31)).toInt8.toInt32))) 7 (vp_nar .byte ((x1 >>> (0 &&& 31)).toInt8.toInt32))) 8 (vp_nar .byte ((x2 >>> (24 &&& 31)).toInt8.toInt32))) 9 (vp_nar .byte ((x2 >>> (16 &&& 31)).toInt8.toInt32))) 10 (vp_nar .byte ((x2 >>> (8 &&& 31)).toInt8.toInt32))) 11 (vp_nar .byte ((x2 >>> (0 &&& 31)).toInt8.toInt32))) 12 (vp_nar .byte ((x3 >>> (24 &&& 31)).toInt8.toInt32))) 13 (vp_nar .byte ((x3 >>> (16 &&& 31)).toInt8.toInt32))) 14 (vp_nar .byte ((x3 >>> (8 &&& 31)).toInt8.toInt32))) 15 (vp_nar .byte ((x3 >>> (0 &&& 31)).toInt8.toInt32))) 16 (vp_nar .byte ((x4 >>> (24 &&& 31)).toInt8.toInt32))) 17 (vp_nar .byte ((x4 >>> (16 &&& 31)).toInt8.toInt32))) 18 (vp_nar .byte ((x4 >>> (8 &&& 31)).toInt8.toInt32))) 19 (vp_nar .byte ((x4 >>> (0 &&& 31)).toInt8.toInt32)))))] H := hP
  have hD : va_D A [(a0, .inr (11, [.ref a1, .ref a2, .ref a3, .ref a4, .ref a5, .ref a6, .ref a7, .ref a8, .ref a9, .ref a10, .ref a11])), (a1, .inr (7, [.ref a12, .int 20])), (a12, .inl (cB, 1600, .inl (upd (upd (upd (upd (upd (upd (upd (upd (upd (upd (upd (upd (upd (upd (upd (upd (upd (upd (upd (upd (fun _ => 0) 0 (vp_nar .byte ((x0 >>> (24 &&& 31)).toInt8.toInt32))) 1 (vp_nar .byte ((x0 >>> (16 &&& 31)).toInt8.toInt32))) 2 (vp_nar .byte ((x0 >>> (8 &&& 31)).toInt8.toInt32))) 3 (vp_nar .byte ((x0 >>> (0 &&& 31)).toInt8.toInt32))) 4 (vp_nar .byte ((x1 >>> (24 &&& 31)).toInt8.toInt32))) 5 (vp_nar .byte ((x1 >>> (16 &&& 31)).toInt8.toInt32))) 6 (vp_nar .byte ((x1 >>> (8 &&& 31)).toInt8.toInt32))) 7 (vp_nar .byte ((x1 >>> (0 &&& 31)).toInt8.toInt32))) 8 (vp_nar .byte ((x2 >>> (24 &&& 31)).toInt8.toInt32))) 9 (vp_nar .byte ((x2 >>> (16 &&& 31)).toInt8.toInt32))) 10 (vp_nar .byte ((x2 >>> (8 &&& 31)).toInt8.toInt32))) 11 (vp_nar .byte ((x2 >>> (0 &&& 31)).toInt8.toInt32))) 12 (vp_nar .byte ((x3 >>> (24 &&& 31)).toInt8.toInt32))) 13 (vp_nar .byte ((x3 >>> (16 &&& 31)).toInt8.toInt32))) 14 (vp_nar .byte ((x3 >>> (8 &&& 31)).toInt8.toInt32))) 15 (vp_nar .byte ((x3 >>> (0 &&& 31)).toInt8.toInt32))) 16 (vp_nar .byte ((x4 >>> (24 &&& 31)).toInt8.toInt32))) 17 (vp_nar .byte ((x4 >>> (16 &&& 31)).toInt8.toInt32))) 18 (vp_nar .byte ((x4 >>> (8 &&& 31)).toInt8.toInt32))) 19 (vp_nar .byte ((x4 >>> (0 &&& 31)).toInt8.toInt32)))))] := hD
  refine lv_aload_n hx hb dX11_feed_58 rfl (lv_at hl 0 rfl) ?_
  refine va_get (D := (dC, dI)) (ci := 11) (v := .ref a1) (C := RX11) (T := TX11) (N := 11) hx hb hts hiX11 hown hK hP 0 rfl rfl 0 (by decide) (hts _ (List.mem_of_getElem? (i := 1) rfl)) (fun _ h9 => h9) rfl dX11_feed_59 ?_
  refine va_get (D := (dC, dI)) (ci := 7) (v := .int 20) (C := RX7) (T := TX7) (N := 2) hx hb hts hiX7 hown hK hP 1 rfl rfl 1 (by decide) (hts _ (List.mem_of_getElem? (i := 13) rfl)) (fun _ h9 => h9) rfl dX11_feed_62 ?_
  exact W.iret (v := 20) hx hb hr (fun t ht hW => ⟨⟨20, (), rfl, rfl, trivial⟩, hS.F ht⟩) hS.2.2 dX11_feed_65
