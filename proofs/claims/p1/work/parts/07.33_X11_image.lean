def ws_k_X4_put_77 : List Cond := .code yX4_put cX4_put 2 none :: ([.fieldLink RX4 22 "StackKeys$Picture" "size" "I", .fieldLink RX4 11 "StackKeys$Picture" "bytes" "[I"] ++ wsX40)
set_option maxHeartbeats 4000000 in
set_option maxRecDepth 100000 in
theorem k_X4_put_77 (l : Launch) (dC : Nat → ClassId) (dI : Nat → Nat → Nat) (cB cI cJ cZ cQ : ClassId) (sz : Nat) (a0 a1 a2 : Nat) (f0 : Nat → Int32) : Met l yX4_put ws_k_X4_put_77 ({ frames := 0, cells := 0, slots := 0, locals := 0 }) (va_Pc [.ref a0, .int 19] (fun U => U.heap.size = sz ∧ va_P (dC, dI) vwCl [(a0, .inr (4, [.ref a1, .ref a2, .int 0])), (a1, .inl (cI, 36, .inl f0))] U.heap ∧ va_K (dC, dI) vwCl (tyA cB cI cJ cZ cQ) U ∧ va_D (fun _ => True) [(a0, .inr (4, [.ref a1, .ref a2, .int 0])), (a1, .inl (cI, 36, .inl f0))])) (va_Qv (fun _ : Unit => True) (fun (u : Unit) t => va_P (dC, dI) vwCl [(a0, .inr (4, [.ref a1, .ref a2, .int 1])), (a1, .inl (cI, 36, .inl (upd f0 0 19)))] t.heap ∧ va_K (dC, dI) vwCl (tyA cB cI cJ cZ cQ) t ∧ va_D (va_A [(a0, .inr (4, [.ref a1, .ref a2, .int 0])), (a1, .inl (cI, 36, .inl f0))] sz) [(a0, .inr (4, [.ref a1, .ref a2, .int 1])), (a1, .inl (cI, 36, .inl (upd f0 0 19)))]) (va_A [(a0, .inr (4, [.ref a1, .ref a2, .int 0])), (a1, .inl (cI, 36, .inl f0))] sz)) 0 0 (va_A [(a0, .inr (4, [.ref a1, .ref a2, .int 0])), (a1, .inl (cI, 36, .inl f0))] sz) := by
  refine Met.ofW (cc := cX4_put) (maxL := 2) (ret := none) (by decide +kernel) rfl ?_
  intro p e s m args below meth c s₁ B hml hv
  obtain ⟨rfl, hsz, hP, hK, hD0⟩ := hv
  have hx := B.exec
  have hb := B.bytes
  have hr := B.returns
  have hts := atoms_spec (ws := ws_k_X4_put_77) B.pre
  have hown : s.vm.findClass RX4 = some m.cls := findClass_of_methodNamed B.named
  have hiX4 : ∀ w ∈ u_ws RX4 TX4 3, w ∈ ws_k_X4_put_77 := fun w h => List.mem_cons_of_mem _ (List.mem_append_right _ h)
  subst hsz
  have hD := hD0.self (sz := s.heap.size)
  generalize hAe : va_A [(a0, .inr (4, [.ref a1, .ref a2, .int 0])), (a1, .inl (cI, 36, .inl f0))] s.heap.size = A at hD ⊢
  have hA : ∀ b : Nat, s.heap.size ≤ b → A b := fun b h => by rw [← hAe]; exact Or.inr h
  clear hD0 hAe
  have hS : va_S A s.heap s.heap [] := va_S.rf
  have hl := lv_entry ([.ref a0, .int 19]) (n := 2) (Nat.le_of_ble_eq_true rfl)
  rw [lg_entry_eq]
  generalize (lg_sl ([.ref a0, .int 19]) ++ List.replicate (2 - (lg_sl ([.ref a0, .int 19])).length) Slot.unset).toArray = ls at hl ⊢
  have hl : lv_has ls 2 [(0, .ref a0), (1, .int 19)] := hl
  obtain ⟨H, hHe⟩ : ∃ H : Heap, H = s.heap := ⟨_, rfl⟩
  rw [← hHe] at hP
  have hS : va_S A s.heap H [] := by rw [hHe]; exact hS
  rw [← hHe]
  refine lv_aload_n hx hb dX4_put_0 rfl (lv_at hl 0 rfl) ?_
  refine va_get (D := (dC, dI)) (ci := 4) (v := .int 0) (C := RX4) (T := TX4) (N := 3) hx hb hts hiX4 hown hK hP 0 rfl rfl 2 (by decide) (hts _ (List.mem_of_getElem? (i := 1) rfl)) (fun _ h9 => h9) rfl dX4_put_1 ?_
  refine lv_if_lt (tgt := 36) hx hb dX4_put_4 (by decide) (fun c => absurd c (by decide +kernel)) (fun _ => ?_)
  refine lv_aload_n hx hb dX4_put_7 rfl (lv_at hl 0 rfl) ?_
  refine va_get (D := (dC, dI)) (ci := 4) (v := .int 0) (C := RX4) (T := TX4) (N := 3) hx hb hts hiX4 hown hK hP 0 rfl rfl 2 (by decide) (hts _ (List.mem_of_getElem? (i := 1) rfl)) (fun _ h9 => h9) rfl dX4_put_8 ?_
  refine lv_bipush (v := 36) hx hb dX4_put_11 (by decide +kernel) ?_
  refine lv_icmp_ge (tgt := 36) hx hb dX4_put_13 (by decide) (fun c => absurd c (by decide +kernel)) (fun _ => ?_)
  refine lv_aload_n hx hb dX4_put_16 rfl (lv_at hl 0 rfl) ?_
  refine va_get (D := (dC, dI)) (ci := 4) (v := .ref a1) (C := RX4) (T := TX4) (N := 3) hx hb hts hiX4 hown hK hP 0 rfl rfl 0 (by decide) (hts _ (List.mem_of_getElem? (i := 2) rfl)) (fun _ h9 => h9) rfl dX4_put_17 ?_
  refine lv_aload_n hx hb dX4_put_20 rfl (lv_at hl 0 rfl) ?_
  refine va_get (D := (dC, dI)) (ci := 4) (v := .int 0) (C := RX4) (T := TX4) (N := 3) hx hb hts hiX4 hown hK hP 0 rfl rfl 2 (by decide) (hts _ (List.mem_of_getElem? (i := 1) rfl)) (fun _ h9 => h9) rfl dX4_put_21 ?_
  refine lv_iload_n hx hb dX4_put_24 rfl (lv_at hl 1 rfl) ?_
  refine va_iast hx hb hK hP hD hS 1 1 rfl rfl (vpc _ _ (by decide +kernel)) dX4_put_25 (fun H locs hP hD hS => ?_)
  have hP : va_P (dC, dI) vwCl [(a0, .inr (4, [.ref a1, .ref a2, .int 0])), (a1, .inl (cI, 36, .inl (upd f0 0 19)))] H := hP
  have hD : va_D A [(a0, .inr (4, [.ref a1, .ref a2, .int 0])), (a1, .inl (cI, 36, .inl (upd f0 0 19)))] := hD
  refine lv_aload_n hx hb dX4_put_26 rfl (lv_at hl 0 rfl) ?_
  refine lv_dup hx hb dX4_put_27 rfl ?_
  refine va_get (D := (dC, dI)) (ci := 4) (v := .int 0) (C := RX4) (T := TX4) (N := 3) hx hb hts hiX4 hown hK hP 0 rfl rfl 2 (by decide) (hts _ (List.mem_of_getElem? (i := 1) rfl)) (fun _ h9 => h9) rfl dX4_put_28 ?_
  refine lv_iconst (v := 1) hx hb dX4_put_31 (by decide +kernel) ?_
  refine lv_iadd hx hb dX4_put_32 ?_
  refine tp_i (y := 1) (by decide +kernel) ?_
  refine va_put (D := (dC, dI)) (ci := 4) (v := .int 1) (ty := .int) (C := RX4) (T := TX4) (N := 3) hx hb hts hiX4 tyX4 tyX4_ok nmX4 hown hK hP hD hS 0 rfl rfl 2 (by decide) (hts _ (List.mem_of_getElem? (i := 1) rfl)) (fun _ h9 => h9) rfl (by decide +kernel) rfl rfl (Nat.le_of_ble_eq_true rfl) dX4_put_33 (fun H locs hP hD hS => ?_)
  have hP : va_P (dC, dI) vwCl [(a0, .inr (4, [.ref a1, .ref a2, .int 1])), (a1, .inl (cI, 36, .inl (upd f0 0 19)))] H := hP
  have hD : va_D A [(a0, .inr (4, [.ref a1, .ref a2, .int 1])), (a1, .inl (cI, 36, .inl (upd f0 0 19)))] := hD
  have hP9 := hP.sub (ws' := [(a0, .inr (4, [.ref a1, .ref a2, .int 1])), (a1, .inl (cI, 36, .inl (upd f0 0 19)))]) [0, 1] rfl
  have hD9 := hD.sub (ws' := [(a0, .inr (4, [.ref a1, .ref a2, .int 1])), (a1, .inl (cI, 36, .inl (upd f0 0 19)))]) [0, 1] (by decide) rfl
  exact W.vret hx hb hr (fun t ht hW => ⟨⟨(), rfl, trivial, by rw [ht]; exact hP9, va_K.moved hW.alike hK, hD9⟩, hS.F ht⟩) hS.2.2 dX4_put_36
def ws_k_X4_write_78 : List Cond := .code yX4_write cX4_write 4 (some .int) :: ([.fieldLink RX4 22 "StackKeys$Picture" "size" "I", .fieldLink RX4 26 "StackKeys$Town" "counts" "[I", .methodLink RX4 37 yX4_put, .instanceMethod yX4_put, .selects RX4 yX4_put yX4_put, .initialized RX4, .code yX4_put cX4_put 2 none, .fieldLink RX4 11 "StackKeys$Picture" "bytes" "[I"] ++ wsX40 ++ wsX90)
set_option maxRecDepth 20000 in
theorem g_k_X4_write_78_0 : GoodIn ws_k_X4_write_78 (wsV RX4 37 RX4 yX4_put ws_k_X4_put_77) := goodIn_r _ [3, 4, 5, 6, 7, 1, 8, 9, 10, 11] (by decide +kernel) (by decide +kernel)
set_option maxHeartbeats 4000000 in
set_option maxRecDepth 100000 in
theorem k_X4_write_78 (l : Launch) (dC : Nat → ClassId) (dI : Nat → Nat → Nat) (cB cI cJ cZ cQ : ClassId) (sz : Nat) (a0 a1 a2 a3 a4 a5 a6 a7 a8 a9 a10 a11 a12 a13 a14 a15 a16 a17 a18 : Nat) (f0 : Nat → Int32) : Met l yX4_write ws_k_X4_write_78 ({ frames := 1, cells := 0, slots := 0, locals := 21 }) (va_Pc [.ref a0, .ref a1] (fun U => U.heap.size = sz ∧ va_P (dC, dI) vwCl [(a0, .inr (4, [.ref a2, .ref a3, .int 0])), (a1, .inr (9, [.ref a4, .ref a5, .ref a6, .ref a7, .ref a8, .ref a9, .ref a10, .ref a11, .ref a12, .ref a13, .ref a14, .ref a15, .ref a16, .ref a17, .ref a18, .int 0])), (a4, .inl (cI, 8, .inl (fun _ => 0))), (a2, .inl (cI, 36, .inl f0))] U.heap ∧ va_K (dC, dI) vwCl (tyA cB cI cJ cZ cQ) U ∧ va_D (fun _ => True) [(a0, .inr (4, [.ref a2, .ref a3, .int 0])), (a1, .inr (9, [.ref a4, .ref a5, .ref a6, .ref a7, .ref a8, .ref a9, .ref a10, .ref a11, .ref a12, .ref a13, .ref a14, .ref a15, .ref a16, .ref a17, .ref a18, .int 0])), (a4, .inl (cI, 8, .inl (fun _ => 0))), (a2, .inl (cI, 36, .inl f0))])) (va_Qi (fun (r : Int32) (_ : Unit) => r = 1) (fun (u : Unit) t => va_P (dC, dI) vwCl [(a0, .inr (4, [.ref a2, .ref a3, .int 1])), (a1, .inr (9, [.ref a4, .ref a5, .ref a6, .ref a7, .ref a8, .ref a9, .ref a10, .ref a11, .ref a12, .ref a13, .ref a14, .ref a15, .ref a16, .ref a17, .ref a18, .int 0])), (a4, .inl (cI, 8, .inl (fun _ => 0))), (a2, .inl (cI, 36, .inl (upd f0 0 19)))] t.heap ∧ va_K (dC, dI) vwCl (tyA cB cI cJ cZ cQ) t ∧ va_D (va_A [(a0, .inr (4, [.ref a2, .ref a3, .int 0])), (a1, .inr (9, [.ref a4, .ref a5, .ref a6, .ref a7, .ref a8, .ref a9, .ref a10, .ref a11, .ref a12, .ref a13, .ref a14, .ref a15, .ref a16, .ref a17, .ref a18, .int 0])), (a4, .inl (cI, 8, .inl (fun _ => 0))), (a2, .inl (cI, 36, .inl f0))] sz) [(a0, .inr (4, [.ref a2, .ref a3, .int 1])), (a1, .inr (9, [.ref a4, .ref a5, .ref a6, .ref a7, .ref a8, .ref a9, .ref a10, .ref a11, .ref a12, .ref a13, .ref a14, .ref a15, .ref a16, .ref a17, .ref a18, .int 0])), (a4, .inl (cI, 8, .inl (fun _ => 0))), (a2, .inl (cI, 36, .inl (upd f0 0 19)))]) (va_A [(a0, .inr (4, [.ref a2, .ref a3, .int 0])), (a1, .inr (9, [.ref a4, .ref a5, .ref a6, .ref a7, .ref a8, .ref a9, .ref a10, .ref a11, .ref a12, .ref a13, .ref a14, .ref a15, .ref a16, .ref a17, .ref a18, .int 0])), (a4, .inl (cI, 8, .inl (fun _ => 0))), (a2, .inl (cI, 36, .inl f0))] sz)) 0 0 (va_A [(a0, .inr (4, [.ref a2, .ref a3, .int 0])), (a1, .inr (9, [.ref a4, .ref a5, .ref a6, .ref a7, .ref a8, .ref a9, .ref a10, .ref a11, .ref a12, .ref a13, .ref a14, .ref a15, .ref a16, .ref a17, .ref a18, .int 0])), (a4, .inl (cI, 8, .inl (fun _ => 0))), (a2, .inl (cI, 36, .inl f0))] sz) := by
  refine Met.ofW (cc := cX4_write) (maxL := 4) (ret := (some .int)) (by decide +kernel) rfl ?_
  intro p e s m args below meth c s₁ B hml hv
  obtain ⟨rfl, hsz, hP, hK, hD0⟩ := hv
  have hx := B.exec
  have hb := B.bytes
  have hr := B.returns
  have hts := atoms_spec (ws := ws_k_X4_write_78) B.pre
  have hown : s.vm.findClass RX4 = some m.cls := findClass_of_methodNamed B.named
  have hiX4 : ∀ w ∈ u_ws RX4 TX4 3, w ∈ ws_k_X4_write_78 := fun w h => List.mem_cons_of_mem _ (List.mem_append_left _ (List.mem_append_right _ h))
  have hiX9 : ∀ w ∈ u_ws RX9 TX9 16, w ∈ ws_k_X4_write_78 := fun w h => List.mem_cons_of_mem _ (List.mem_append_right _ h)
  subst hsz
  have hD := hD0.self (sz := s.heap.size)
  generalize hAe : va_A [(a0, .inr (4, [.ref a2, .ref a3, .int 0])), (a1, .inr (9, [.ref a4, .ref a5, .ref a6, .ref a7, .ref a8, .ref a9, .ref a10, .ref a11, .ref a12, .ref a13, .ref a14, .ref a15, .ref a16, .ref a17, .ref a18, .int 0])), (a4, .inl (cI, 8, .inl (fun _ => 0))), (a2, .inl (cI, 36, .inl f0))] s.heap.size = A at hD ⊢
  have hA : ∀ b : Nat, s.heap.size ≤ b → A b := fun b h => by rw [← hAe]; exact Or.inr h
  clear hD0 hAe
  have hS : va_S A s.heap s.heap [] := va_S.rf
  have hl := lv_entry ([.ref a0, .ref a1]) (n := 4) (Nat.le_of_ble_eq_true rfl)
  rw [lg_entry_eq]
  generalize (lg_sl ([.ref a0, .ref a1]) ++ List.replicate (4 - (lg_sl ([.ref a0, .ref a1])).length) Slot.unset).toArray = ls at hl ⊢
  have hl : lv_has ls 4 [(0, .ref a0), (1, .ref a1)] := hl
  obtain ⟨H, hHe⟩ : ∃ H : Heap, H = s.heap := ⟨_, rfl⟩
  rw [← hHe] at hP
  have hS : va_S A s.heap H [] := by rw [hHe]; exact hS
  rw [← hHe]
  refine lv_aload_n hx hb dX4_write_0 rfl (lv_at hl 0 rfl) ?_
  refine lv_iconst (v := 0) hx hb dX4_write_1 (by decide +kernel) ?_
  refine va_put (D := (dC, dI)) (ci := 4) (v := .int 0) (ty := .int) (C := RX4) (T := TX4) (N := 3) hx hb hts hiX4 tyX4 tyX4_ok nmX4 hown hK hP hD hS 0 rfl rfl 2 (by decide) (hts _ (List.mem_of_getElem? (i := 1) rfl)) (fun _ h9 => h9) rfl (by decide +kernel) rfl rfl (Nat.le_of_ble_eq_true rfl) dX4_write_2 (fun H locs hP hD hS => ?_)
  have hP : va_P (dC, dI) vwCl [(a0, .inr (4, [.ref a2, .ref a3, .int 0])), (a1, .inr (9, [.ref a4, .ref a5, .ref a6, .ref a7, .ref a8, .ref a9, .ref a10, .ref a11, .ref a12, .ref a13, .ref a14, .ref a15, .ref a16, .ref a17, .ref a18, .int 0])), (a4, .inl (cI, 8, .inl (fun _ => 0))), (a2, .inl (cI, 36, .inl f0))] H := hP
  have hD : va_D A [(a0, .inr (4, [.ref a2, .ref a3, .int 0])), (a1, .inr (9, [.ref a4, .ref a5, .ref a6, .ref a7, .ref a8, .ref a9, .ref a10, .ref a11, .ref a12, .ref a13, .ref a14, .ref a15, .ref a16, .ref a17, .ref a18, .int 0])), (a4, .inl (cI, 8, .inl (fun _ => 0))), (a2, .inl (cI, 36, .inl f0))] := hD
  refine lv_iconst (v := 0) hx hb dX4_write_5 (by decide +kernel) ?_
  refine lv_istore_n (lv' := [(2, .int 0), (0, .ref a0), (1, .ref a1)]) hx hb dX4_write_6 rfl hl (by decide) rfl (fun ls hl => ?_)
  refine lv_iload_n hx hb dX4_write_7 rfl (lv_at hl 0 rfl) ?_
  refine lv_aload_n hx hb dX4_write_8 rfl (lv_at hl 2 rfl) ?_
  refine va_get (D := (dC, dI)) (ci := 9) (v := .ref a4) (C := RX9) (T := TX9) (N := 16) hx hb hts hiX9 hown hK hP 1 rfl rfl 0 (by decide) (hts _ (List.mem_of_getElem? (i := 2) rfl)) (fun _ h9 => h9) rfl dX4_write_9 ?_
  refine lv_iconst (v := 3) hx hb dX4_write_12 (by decide +kernel) ?_
  refine va_iald hx hb hK hP 2 1 rfl rfl (vpc _ _ (by decide +kernel)) dX4_write_13 ?_
  refine tp_i (y := 0) rfl ?_
  refine lv_icmp_ge (tgt := 36) hx hb dX4_write_14 (by decide) (fun _ => ?_) (fun c => absurd c (by decide +kernel))
  refine lv_iconst (v := 0) hx hb dX4_write_36 (by decide +kernel) ?_
  refine lv_istore_n (lv' := [(2, .int 0), (0, .ref a0), (1, .ref a1)]) hx hb dX4_write_37 rfl hl (by decide) rfl (fun ls hl => ?_)
  refine lv_iload_n hx hb dX4_write_38 rfl (lv_at hl 0 rfl) ?_
  refine lv_aload_n hx hb dX4_write_39 rfl (lv_at hl 2 rfl) ?_
  refine va_get (D := (dC, dI)) (ci := 9) (v := .ref a4) (C := RX9) (T := TX9) (N := 16) hx hb hts hiX9 hown hK hP 1 rfl rfl 0 (by decide) (hts _ (List.mem_of_getElem? (i := 2) rfl)) (fun _ h9 => h9) rfl dX4_write_40 ?_
  refine lv_iconst (v := 2) hx hb dX4_write_43 (by decide +kernel) ?_
  refine va_iald hx hb hK hP 2 1 rfl rfl (vpc _ _ (by decide +kernel)) dX4_write_44 ?_
  refine tp_i (y := 0) rfl ?_
  refine lv_icmp_ge (tgt := 114) hx hb dX4_write_45 (by decide) (fun _ => ?_) (fun c => absurd c (by decide +kernel))
  refine lv_bipush (v := 19) hx hb dX4_write_114 (by decide +kernel) ?_
  refine lv_istore_n (lv' := [(2, .int 19), (0, .ref a0), (1, .ref a1)]) hx hb dX4_write_116 rfl hl (by decide) rfl (fun ls hl => ?_)
  refine lv_iconst (v := 0) hx hb dX4_write_117 (by decide +kernel) ?_
  refine lv_istore_n (lv' := [(3, .int 0), (2, .int 19), (0, .ref a0), (1, .ref a1)]) hx hb dX4_write_118 rfl hl (by decide) rfl (fun ls hl => ?_)
  refine lv_iload_n hx hb dX4_write_119 rfl (lv_at hl 0 rfl) ?_
  refine lv_aload_n hx hb dX4_write_120 rfl (lv_at hl 2 rfl) ?_
  refine va_get (D := (dC, dI)) (ci := 4) (v := .int 0) (C := RX4) (T := TX4) (N := 3) hx hb hts hiX4 hown hK hP 0 rfl rfl 2 (by decide) (hts _ (List.mem_of_getElem? (i := 1) rfl)) (fun _ h9 => h9) rfl dX4_write_121 ?_
  refine lv_icmp_ge (tgt := 150) hx hb dX4_write_124 (by decide) (fun _ => ?_) (fun c => absurd c (by decide +kernel))
  refine lv_aload_n hx hb dX4_write_150 rfl (lv_at hl 2 rfl) ?_
  refine lv_iload_n hx hb dX4_write_151 rfl (lv_at hl 1 rfl) ?_
  have hPc := hP.sub (ws' := [(a0, .inr (4, [.ref a2, .ref a3, .int 0])), (a2, .inl (cI, 36, .inl f0))]) [0, 3] rfl
  have hDc := hD.sub (ws' := [(a0, .inr (4, [.ref a2, .ref a3, .int 0])), (a2, .inl (cI, 36, .inl f0))]) [0, 3] (by decide) rfl
  have hFc := va_free (wc := [(a0, .inr (4, [.ref a2, .ref a3, .int 0])), (a2, .inl (cI, 36, .inl f0))]) hD hS hA [0, 3] rfl
  refine va_callv (va_runV (As := [.int 19]) (rest := []) ⟨hx, hb, hml, hown, hts⟩ (k_X4_put_77 l dC dI cB cI cJ cZ cQ H.size a0 a2 a3 f0) (cwV 1 hts g_k_X4_write_78_0 rfl rfl rfl (by decide +kernel) ⟨Nat.le_of_ble_eq_true rfl, Nat.le_of_ble_eq_true rfl⟩) ⟨fun a U g mk Z => by obtain ⟨q0, q1, qP, qK, qD⟩ := Z; exact ⟨q0, q1, qP, va_K.moved (u := U) (U := U.calling g mk a) (Vm.Alike.refl U.vm) qK, qD⟩, va_recv hK hPc (ci := 4) (q0 := 0) rfl rfl, fun U hU hW => ⟨rfl, by rw [hU], by rw [hU]; exact hPc, va_K.moved hW.alike hK, hDc.weaken (fun _ _ _ _ => trivial)⟩⟩ rfl rfl hl.1 rfl (lv_room (Nat.le_of_ble_eq_true rfl)) dX4_write_152 ⟨Nat.le_of_ble_eq_true rfl, Nat.le_of_ble_eq_true rfl⟩) hS (fun b _ h => hFc b h) hFc (fun u1 t H1 locs ht hvm hw hB hz1 hk1 hS => ?_)
  obtain ⟨hP1, hK1, hD1⟩ := hB
  rw [ht] at hP1
  obtain ⟨hP, hD⟩ := va_join (wr := [(a1, .inr (9, [.ref a4, .ref a5, .ref a6, .ref a7, .ref a8, .ref a9, .ref a10, .ref a11, .ref a12, .ref a13, .ref a14, .ref a15, .ref a16, .ref a17, .ref a18, .int 0])), (a4, .inl (cI, 8, .inl (fun _ => 0)))]) (w1 := [(a0, .inr (4, [.ref a2, .ref a3, .int 1])), (a2, .inl (cI, 36, .inl (upd f0 0 19)))]) hP hD [0, 3] [1, 2] rfl rfl (by decide) (by decide) hk1 hFc hP1 hD1
  clear hP1 hK1 hD1 hk1 hz1 hvm hPc hDc hFc
  generalize H1 = H at hP hS ⊢
  have hP : va_P (dC, dI) vwCl [(a1, .inr (9, [.ref a4, .ref a5, .ref a6, .ref a7, .ref a8, .ref a9, .ref a10, .ref a11, .ref a12, .ref a13, .ref a14, .ref a15, .ref a16, .ref a17, .ref a18, .int 0])), (a4, .inl (cI, 8, .inl (fun _ => 0))), (a0, .inr (4, [.ref a2, .ref a3, .int 1])), (a2, .inl (cI, 36, .inl (upd f0 0 19)))] H := hP
  have hD : va_D A [(a1, .inr (9, [.ref a4, .ref a5, .ref a6, .ref a7, .ref a8, .ref a9, .ref a10, .ref a11, .ref a12, .ref a13, .ref a14, .ref a15, .ref a16, .ref a17, .ref a18, .int 0])), (a4, .inl (cI, 8, .inl (fun _ => 0))), (a0, .inr (4, [.ref a2, .ref a3, .int 1])), (a2, .inl (cI, 36, .inl (upd f0 0 19)))] := hD
  refine lv_aload_n hx hb dX4_write_155 rfl (lv_at hl 2 rfl) ?_
  refine va_get (D := (dC, dI)) (ci := 4) (v := .int 1) (C := RX4) (T := TX4) (N := 3) hx hb hts hiX4 hown hK hP 2 rfl rfl 2 (by decide) (hts _ (List.mem_of_getElem? (i := 1) rfl)) (fun _ h9 => h9) rfl dX4_write_156 ?_
  have hP9 := hP.sub (ws' := [(a0, .inr (4, [.ref a2, .ref a3, .int 1])), (a1, .inr (9, [.ref a4, .ref a5, .ref a6, .ref a7, .ref a8, .ref a9, .ref a10, .ref a11, .ref a12, .ref a13, .ref a14, .ref a15, .ref a16, .ref a17, .ref a18, .int 0])), (a4, .inl (cI, 8, .inl (fun _ => 0))), (a2, .inl (cI, 36, .inl (upd f0 0 19)))]) [2, 0, 1, 3] rfl
  have hD9 := hD.sub (ws' := [(a0, .inr (4, [.ref a2, .ref a3, .int 1])), (a1, .inr (9, [.ref a4, .ref a5, .ref a6, .ref a7, .ref a8, .ref a9, .ref a10, .ref a11, .ref a12, .ref a13, .ref a14, .ref a15, .ref a16, .ref a17, .ref a18, .int 0])), (a4, .inl (cI, 8, .inl (fun _ => 0))), (a2, .inl (cI, 36, .inl (upd f0 0 19)))]) [2, 0, 1, 3] (by decide) rfl
  exact W.iret (v := 1) hx hb hr (fun t ht hW => ⟨⟨1, (), rfl, rfl, by rw [ht]; exact hP9, va_K.moved hW.alike hK, hD9⟩, hS.F ht⟩) hS.2.2 dX4_write_159
def ws_p_X11_image : List Cond := .code yX11_image cX11_image 1 (some .int) :: ([.fieldLink RX11 56 "StackKeys" "picture" "LStackKeys$Picture;", .fieldLink RX11 74 "StackKeys" "present" "LStackKeys$Town;", .methodLink RX11 266 yX4_write, .instanceMethod yX4_write, .selects RX4 yX4_write yX4_write, .initialized RX4, .code yX4_write cX4_write 4 (some .int), .fieldLink RX4 22 "StackKeys$Picture" "size" "I", .fieldLink RX4 26 "StackKeys$Town" "counts" "[I", .methodLink RX4 37 yX4_put, .instanceMethod yX4_put, .selects RX4 yX4_put yX4_put, .code yX4_put cX4_put 2 none, .fieldLink RX4 11 "StackKeys$Picture" "bytes" "[I"] ++ wsX110 ++ wsX40 ++ wsX90)
set_option maxRecDepth 20000 in
theorem g_p_X11_image_0 : GoodIn ws_p_X11_image (wsV RX11 266 RX4 yX4_write ws_k_X4_write_78) := goodIn_r _ [3, 4, 5, 6, 7, 8, 9, 10, 11, 12, 6, 13, 14, 26, 27, 28, 29, 30, 31, 32, 33, 34, 35, 36, 37, 38, 39, 40, 41, 42, 43, 44] (by decide +kernel) (by decide +kernel)
set_option maxHeartbeats 4000000 in
set_option maxRecDepth 100000 in
theorem p_X11_image (l : Launch) (dC : Nat → ClassId) (dI : Nat → Nat → Nat) (cB cI cJ cZ cQ : ClassId) (sz : Nat) (a0 a1 a2 a3 a4 a5 a6 a7 a8 a9 a10 a11 a12 a13 a14 a15 a16 a17 a18 a19 a20 a21 a22 a23 a24 a25 a26 a27 a28 : Nat) : Met l yX11_image ws_p_X11_image ({ frames := 2, cells := 0, slots := 0, locals := 44 }) (va_Pc [.ref a0] (fun U => U.heap.size = sz ∧ va_P (dC, dI) vwCl [(a0, .inr (11, [.ref a1, .ref a2, .ref a3, .ref a4, .ref a5, .ref a6, .ref a7, .ref a8, .ref a9, .ref a10, .ref a11])), (a7, .inr (4, [.ref a12, .ref a13, .int 0])), (a10, .inr (9, [.ref a14, .ref a15, .ref a16, .ref a17, .ref a18, .ref a19, .ref a20, .ref a21, .ref a22, .ref a23, .ref a24, .ref a25, .ref a26, .ref a27, .ref a28, .int 0])), (a14, .inl (cI, 8, .inl (fun _ => 0))), (a12, .inl (cI, 36, .inl (fun _ => 0)))] U.heap ∧ va_K (dC, dI) vwCl (tyA cB cI cJ cZ cQ) U ∧ va_D (fun _ => True) [(a0, .inr (11, [.ref a1, .ref a2, .ref a3, .ref a4, .ref a5, .ref a6, .ref a7, .ref a8, .ref a9, .ref a10, .ref a11])), (a7, .inr (4, [.ref a12, .ref a13, .int 0])), (a10, .inr (9, [.ref a14, .ref a15, .ref a16, .ref a17, .ref a18, .ref a19, .ref a20, .ref a21, .ref a22, .ref a23, .ref a24, .ref a25, .ref a26, .ref a27, .ref a28, .int 0])), (a14, .inl (cI, 8, .inl (fun _ => 0))), (a12, .inl (cI, 36, .inl (fun _ => 0)))])) (va_Qi (fun (r : Int32) (_ : Unit) => r = 1) (fun (_ : Unit) _ => True) (va_A [(a0, .inr (11, [.ref a1, .ref a2, .ref a3, .ref a4, .ref a5, .ref a6, .ref a7, .ref a8, .ref a9, .ref a10, .ref a11])), (a7, .inr (4, [.ref a12, .ref a13, .int 0])), (a10, .inr (9, [.ref a14, .ref a15, .ref a16, .ref a17, .ref a18, .ref a19, .ref a20, .ref a21, .ref a22, .ref a23, .ref a24, .ref a25, .ref a26, .ref a27, .ref a28, .int 0])), (a14, .inl (cI, 8, .inl (fun _ => 0))), (a12, .inl (cI, 36, .inl (fun _ => 0)))] sz)) 0 0 (va_A [(a0, .inr (11, [.ref a1, .ref a2, .ref a3, .ref a4, .ref a5, .ref a6, .ref a7, .ref a8, .ref a9, .ref a10, .ref a11])), (a7, .inr (4, [.ref a12, .ref a13, .int 0])), (a10, .inr (9, [.ref a14, .ref a15, .ref a16, .ref a17, .ref a18, .ref a19, .ref a20, .ref a21, .ref a22, .ref a23, .ref a24, .ref a25, .ref a26, .ref a27, .ref a28, .int 0])), (a14, .inl (cI, 8, .inl (fun _ => 0))), (a12, .inl (cI, 36, .inl (fun _ => 0)))] sz) := by
  refine Met.ofW (cc := cX11_image) (maxL := 1) (ret := (some .int)) (by decide +kernel) rfl ?_
  intro p e s m args below meth c s₁ B hml hv
  obtain ⟨rfl, hsz, hP, hK, hD0⟩ := hv
  have hx := B.exec
  have hb := B.bytes
  have hr := B.returns
  have hts := atoms_spec (ws := ws_p_X11_image) B.pre
  have hown : s.vm.findClass RX11 = some m.cls := findClass_of_methodNamed B.named
  have hiX11 : ∀ w ∈ u_ws RX11 TX11 11, w ∈ ws_p_X11_image := fun w h => List.mem_cons_of_mem _ (List.mem_append_left _ (List.mem_append_left _ (List.mem_append_right _ h)))
  have hiX4 : ∀ w ∈ u_ws RX4 TX4 3, w ∈ ws_p_X11_image := fun w h => List.mem_cons_of_mem _ (List.mem_append_left _ (List.mem_append_right _ h))
  have hiX9 : ∀ w ∈ u_ws RX9 TX9 16, w ∈ ws_p_X11_image := fun w h => List.mem_cons_of_mem _ (List.mem_append_right _ h)
  subst hsz
  have hD := hD0.self (sz := s.heap.size)
  generalize hAe : va_A [(a0, .inr (11, [.ref a1, .ref a2, .ref a3, .ref a4, .ref a5, .ref a6, .ref a7, .ref a8, .ref a9, .ref a10, .ref a11])), (a7, .inr (4, [.ref a12, .ref a13, .int 0])), (a10, .inr (9, [.ref a14, .ref a15, .ref a16, .ref a17, .ref a18, .ref a19, .ref a20, .ref a21, .ref a22, .ref a23, .ref a24, .ref a25, .ref a26, .ref a27, .ref a28, .int 0])), (a14, .inl (cI, 8, .inl (fun _ => 0))), (a12, .inl (cI, 36, .inl (fun _ => 0)))] s.heap.size = A at hD ⊢
  have hA : ∀ b : Nat, s.heap.size ≤ b → A b := fun b h => by rw [← hAe]; exact Or.inr h
  clear hD0 hAe
  have hS : va_S A s.heap s.heap [] := va_S.rf
  have hl := lv_entry ([.ref a0]) (n := 1) (Nat.le_of_ble_eq_true rfl)
  rw [lg_entry_eq]
  generalize (lg_sl ([.ref a0]) ++ List.replicate (1 - (lg_sl ([.ref a0])).length) Slot.unset).toArray = ls at hl ⊢
  have hl : lv_has ls 1 [(0, .ref a0)] := hl
  obtain ⟨H, hHe⟩ : ∃ H : Heap, H = s.heap := ⟨_, rfl⟩
  rw [← hHe] at hP
  have hS : va_S A s.heap H [] := by rw [hHe]; exact hS
  rw [← hHe]
  refine lv_aload_n hx hb dX11_image_0 rfl (lv_at hl 0 rfl) ?_
  refine va_get (D := (dC, dI)) (ci := 11) (v := .ref a7) (C := RX11) (T := TX11) (N := 11) hx hb hts hiX11 hown hK hP 0 rfl rfl 6 (by decide) (hts _ (List.mem_of_getElem? (i := 1) rfl)) (fun _ h9 => h9) rfl dX11_image_1 ?_
  refine lv_aload_n hx hb dX11_image_4 rfl (lv_at hl 0 rfl) ?_
  refine va_get (D := (dC, dI)) (ci := 11) (v := .ref a10) (C := RX11) (T := TX11) (N := 11) hx hb hts hiX11 hown hK hP 0 rfl rfl 9 (by decide) (hts _ (List.mem_of_getElem? (i := 2) rfl)) (fun _ h9 => h9) rfl dX11_image_5 ?_
  have hPc := hP.sub (ws' := [(a7, .inr (4, [.ref a12, .ref a13, .int 0])), (a10, .inr (9, [.ref a14, .ref a15, .ref a16, .ref a17, .ref a18, .ref a19, .ref a20, .ref a21, .ref a22, .ref a23, .ref a24, .ref a25, .ref a26, .ref a27, .ref a28, .int 0])), (a14, .inl (cI, 8, .inl (fun _ => 0))), (a12, .inl (cI, 36, .inl (fun _ => 0)))]) [1, 2, 3, 4] rfl
  have hDc := hD.sub (ws' := [(a7, .inr (4, [.ref a12, .ref a13, .int 0])), (a10, .inr (9, [.ref a14, .ref a15, .ref a16, .ref a17, .ref a18, .ref a19, .ref a20, .ref a21, .ref a22, .ref a23, .ref a24, .ref a25, .ref a26, .ref a27, .ref a28, .int 0])), (a14, .inl (cI, 8, .inl (fun _ => 0))), (a12, .inl (cI, 36, .inl (fun _ => 0)))]) [1, 2, 3, 4] (by decide) rfl
  have hFc := va_free (wc := [(a7, .inr (4, [.ref a12, .ref a13, .int 0])), (a10, .inr (9, [.ref a14, .ref a15, .ref a16, .ref a17, .ref a18, .ref a19, .ref a20, .ref a21, .ref a22, .ref a23, .ref a24, .ref a25, .ref a26, .ref a27, .ref a28, .int 0])), (a14, .inl (cI, 8, .inl (fun _ => 0))), (a12, .inl (cI, 36, .inl (fun _ => 0)))]) hD hS hA [1, 2, 3, 4] rfl
  refine va_calli (va_runV (As := [.ref a10]) (rest := []) ⟨hx, hb, hml, hown, hts⟩ (k_X4_write_78 l dC dI cB cI cJ cZ cQ H.size a7 a10 a12 a13 a14 a15 a16 a17 a18 a19 a20 a21 a22 a23 a24 a25 a26 a27 a28 (fun _ => 0)) (cwV 1 hts g_p_X11_image_0 rfl rfl rfl (by decide +kernel) ⟨Nat.le_of_ble_eq_true rfl, Nat.le_of_ble_eq_true rfl⟩) ⟨fun a U g mk Z => by obtain ⟨q0, q1, qP, qK, qD⟩ := Z; exact ⟨q0, q1, qP, va_K.moved (u := U) (U := U.calling g mk a) (Vm.Alike.refl U.vm) qK, qD⟩, va_recv hK hPc (ci := 4) (q0 := 0) rfl rfl, fun U hU hW => ⟨rfl, by rw [hU], by rw [hU]; exact hPc, va_K.moved hW.alike hK, hDc.weaken (fun _ _ _ _ => trivial)⟩⟩ rfl rfl hl.1 rfl (lv_room (Nat.le_of_ble_eq_true rfl)) dX11_image_8 ⟨Nat.le_of_ble_eq_true rfl, Nat.le_of_ble_eq_true rfl⟩) hS (fun b _ h => hFc b h) hFc (fun r2 u1 t H1 locs ht hvm hw hB hz1 hk1 hS => ?_)
  obtain ⟨hP1, hK1, hD1⟩ := hB
  rw [ht] at hP1
  obtain ⟨hP, hD⟩ := va_join (wr := [(a0, .inr (11, [.ref a1, .ref a2, .ref a3, .ref a4, .ref a5, .ref a6, .ref a7, .ref a8, .ref a9, .ref a10, .ref a11]))]) (w1 := [(a7, .inr (4, [.ref a12, .ref a13, .int 1])), (a10, .inr (9, [.ref a14, .ref a15, .ref a16, .ref a17, .ref a18, .ref a19, .ref a20, .ref a21, .ref a22, .ref a23, .ref a24, .ref a25, .ref a26, .ref a27, .ref a28, .int 0])), (a14, .inl (cI, 8, .inl (fun _ => 0))), (a12, .inl (cI, 36, .inl (upd (fun _ => 0) 0 19)))]) hP hD [1, 2, 3, 4] [0] rfl rfl (by decide) (by decide) hk1 hFc hP1 hD1
  clear hP1 hK1 hD1 hk1 hz1 hvm hPc hDc hFc
  generalize H1 = H at hP hS ⊢
  have hP : va_P (dC, dI) vwCl [(a0, .inr (11, [.ref a1, .ref a2, .ref a3, .ref a4, .ref a5, .ref a6, .ref a7, .ref a8, .ref a9, .ref a10, .ref a11])), (a7, .inr (4, [.ref a12, .ref a13, .int 1])), (a10, .inr (9, [.ref a14, .ref a15, .ref a16, .ref a17, .ref a18, .ref a19, .ref a20, .ref a21, .ref a22, .ref a23, .ref a24, .ref a25, .ref a26, .ref a27, .ref a28, .int 0])), (a14, .inl (cI, 8, .inl (fun _ => 0))), (a12, .inl (cI, 36, .inl (upd (fun _ => 0) 0 19)))] H := hP
  have hD : va_D A [(a0, .inr (11, [.ref a1, .ref a2, .ref a3, .ref a4, .ref a5, .ref a6, .ref a7, .ref a8, .ref a9, .ref a10, .ref a11])), (a7, .inr (4, [.ref a12, .ref a13, .int 1])), (a10, .inr (9, [.ref a14, .ref a15, .ref a16, .ref a17, .ref a18, .ref a19, .ref a20, .ref a21, .ref a22, .ref a23, .ref a24, .ref a25, .ref a26, .ref a27, .ref a28, .int 0])), (a14, .inl (cI, 8, .inl (fun _ => 0))), (a12, .inl (cI, 36, .inl (upd (fun _ => 0) 0 19)))] := hD
  subst hw
  exact W.iret (v := 1) hx hb hr (fun t ht hW => ⟨⟨1, (), rfl, rfl, trivial⟩, hS.F ht⟩) hS.2.2 dX11_image_11
