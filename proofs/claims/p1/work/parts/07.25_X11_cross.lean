def ws_k_X2_firstCrossing_58 : List Cond := .code yX2_firstCrossing cX2_firstCrossing 5 (some .int) :: ([.fieldLink RX2 15 "StackKeys$Town" "counts" "[I"] ++ wsX90)
set_option maxHeartbeats 4000000 in
set_option maxRecDepth 100000 in
theorem k_X2_firstCrossing_58 (l : Launch) (dC : Nat → ClassId) (dI : Nat → Nat → Nat) (cB cI cJ cZ cQ : ClassId) (sz : Nat) (a0 a1 a2 a3 a4 a5 a6 a7 a8 a9 a10 a11 a12 a13 a14 a15 a16 a17 : Nat) : Met l yX2_firstCrossing ws_k_X2_firstCrossing_58 ({ frames := 0, cells := 0, slots := 0, locals := 0 }) (va_Pc [.ref a0, .ref a1, .int 0] (fun U => U.heap.size = sz ∧ va_P (dC, dI) vwCl [(a1, .inr (9, [.ref a2, .ref a3, .ref a4, .ref a5, .ref a6, .ref a7, .ref a8, .ref a9, .ref a10, .ref a11, .ref a12, .ref a13, .ref a14, .ref a15, .ref a16, .int 0])), (a2, .inl (cI, 8, .inl (fun _ => 0))), (a0, .inr (2, [.ref a17]))] U.heap ∧ va_K (dC, dI) vwCl (tyA cB cI cJ cZ cQ) U ∧ va_D (fun _ => True) [(a1, .inr (9, [.ref a2, .ref a3, .ref a4, .ref a5, .ref a6, .ref a7, .ref a8, .ref a9, .ref a10, .ref a11, .ref a12, .ref a13, .ref a14, .ref a15, .ref a16, .int 0])), (a2, .inl (cI, 8, .inl (fun _ => 0))), (a0, .inr (2, [.ref a17]))])) (va_Qi (fun (r : Int32) (_ : Unit) => r = (-1)) (fun (u : Unit) t => va_P (dC, dI) vwCl [(a1, .inr (9, [.ref a2, .ref a3, .ref a4, .ref a5, .ref a6, .ref a7, .ref a8, .ref a9, .ref a10, .ref a11, .ref a12, .ref a13, .ref a14, .ref a15, .ref a16, .int 0])), (a2, .inl (cI, 8, .inl (fun _ => 0))), (a0, .inr (2, [.ref a17]))] t.heap ∧ va_K (dC, dI) vwCl (tyA cB cI cJ cZ cQ) t ∧ va_D (va_A [(a1, .inr (9, [.ref a2, .ref a3, .ref a4, .ref a5, .ref a6, .ref a7, .ref a8, .ref a9, .ref a10, .ref a11, .ref a12, .ref a13, .ref a14, .ref a15, .ref a16, .int 0])), (a2, .inl (cI, 8, .inl (fun _ => 0))), (a0, .inr (2, [.ref a17]))] sz) [(a1, .inr (9, [.ref a2, .ref a3, .ref a4, .ref a5, .ref a6, .ref a7, .ref a8, .ref a9, .ref a10, .ref a11, .ref a12, .ref a13, .ref a14, .ref a15, .ref a16, .int 0])), (a2, .inl (cI, 8, .inl (fun _ => 0))), (a0, .inr (2, [.ref a17]))]) (va_A [(a1, .inr (9, [.ref a2, .ref a3, .ref a4, .ref a5, .ref a6, .ref a7, .ref a8, .ref a9, .ref a10, .ref a11, .ref a12, .ref a13, .ref a14, .ref a15, .ref a16, .int 0])), (a2, .inl (cI, 8, .inl (fun _ => 0))), (a0, .inr (2, [.ref a17]))] sz)) 0 0 (va_A [(a1, .inr (9, [.ref a2, .ref a3, .ref a4, .ref a5, .ref a6, .ref a7, .ref a8, .ref a9, .ref a10, .ref a11, .ref a12, .ref a13, .ref a14, .ref a15, .ref a16, .int 0])), (a2, .inl (cI, 8, .inl (fun _ => 0))), (a0, .inr (2, [.ref a17]))] sz) := by
  refine Met.ofW (cc := cX2_firstCrossing) (maxL := 5) (ret := (some .int)) (by decide +kernel) rfl ?_
  intro p e s m args below meth c s₁ B hml hv
  obtain ⟨rfl, hsz, hP, hK, hD0⟩ := hv
  have hx := B.exec
  have hb := B.bytes
  have hr := B.returns
  have hts := atoms_spec (ws := ws_k_X2_firstCrossing_58) B.pre
  have hown : s.vm.findClass RX2 = some m.cls := findClass_of_methodNamed B.named
  have hiX9 : ∀ w ∈ u_ws RX9 TX9 16, w ∈ ws_k_X2_firstCrossing_58 := fun w h => List.mem_cons_of_mem _ (List.mem_append_right _ h)
  subst hsz
  have hD := hD0.self (sz := s.heap.size)
  generalize hAe : va_A [(a1, .inr (9, [.ref a2, .ref a3, .ref a4, .ref a5, .ref a6, .ref a7, .ref a8, .ref a9, .ref a10, .ref a11, .ref a12, .ref a13, .ref a14, .ref a15, .ref a16, .int 0])), (a2, .inl (cI, 8, .inl (fun _ => 0))), (a0, .inr (2, [.ref a17]))] s.heap.size = A at hD ⊢
  have hA : ∀ b : Nat, s.heap.size ≤ b → A b := fun b h => by rw [← hAe]; exact Or.inr h
  clear hD0 hAe
  have hS : va_S A s.heap s.heap [] := va_S.rf
  have hl := lv_entry ([.ref a0, .ref a1, .int 0]) (n := 5) (Nat.le_of_ble_eq_true rfl)
  rw [lg_entry_eq]
  generalize (lg_sl ([.ref a0, .ref a1, .int 0]) ++ List.replicate (5 - (lg_sl ([.ref a0, .ref a1, .int 0])).length) Slot.unset).toArray = ls at hl ⊢
  have hl : lv_has ls 5 [(0, .ref a0), (1, .ref a1), (2, .int 0)] := hl
  obtain ⟨H, hHe⟩ : ∃ H : Heap, H = s.heap := ⟨_, rfl⟩
  rw [← hHe] at hP
  have hS : va_S A s.heap H [] := by rw [hHe]; exact hS
  rw [← hHe]
  refine lv_iconst (v := 0) hx hb dX2_firstCrossing_0 (by decide +kernel) ?_
  refine lv_istore_n (lv' := [(3, .int 0), (0, .ref a0), (1, .ref a1), (2, .int 0)]) hx hb dX2_firstCrossing_1 rfl hl (by decide) rfl (fun ls hl => ?_)
  refine lv_iload_n hx hb dX2_firstCrossing_2 rfl (lv_at hl 0 rfl) ?_
  refine lv_aload_n hx hb dX2_firstCrossing_3 rfl (lv_at hl 2 rfl) ?_
  refine va_get (D := (dC, dI)) (ci := 9) (v := .ref a2) (C := RX9) (T := TX9) (N := 16) hx hb hts hiX9 hown hK hP 0 rfl rfl 0 (by decide) (hts _ (List.mem_of_getElem? (i := 1) rfl)) (fun _ h9 => h9) rfl dX2_firstCrossing_4 ?_
  refine lv_bipush (v := 6) hx hb dX2_firstCrossing_7 (by decide +kernel) ?_
  refine va_iald hx hb hK hP 1 1 rfl rfl (vpc _ _ (by decide +kernel)) dX2_firstCrossing_9 ?_
  refine tp_i (y := 0) rfl ?_
  refine lv_icmp_ge (tgt := 67) hx hb dX2_firstCrossing_10 (by decide) (fun _ => ?_) (fun c => absurd c (by decide +kernel))
  refine lv_iconst (v := (-1)) hx hb dX2_firstCrossing_67 (by decide +kernel) ?_
  have hP9 := hP.sub (ws' := [(a1, .inr (9, [.ref a2, .ref a3, .ref a4, .ref a5, .ref a6, .ref a7, .ref a8, .ref a9, .ref a10, .ref a11, .ref a12, .ref a13, .ref a14, .ref a15, .ref a16, .int 0])), (a2, .inl (cI, 8, .inl (fun _ => 0))), (a0, .inr (2, [.ref a17]))]) [0, 1, 2] rfl
  have hD9 := hD.sub (ws' := [(a1, .inr (9, [.ref a2, .ref a3, .ref a4, .ref a5, .ref a6, .ref a7, .ref a8, .ref a9, .ref a10, .ref a11, .ref a12, .ref a13, .ref a14, .ref a15, .ref a16, .int 0])), (a2, .inl (cI, 8, .inl (fun _ => 0))), (a0, .inr (2, [.ref a17]))]) [0, 1, 2] (by decide) rfl
  exact W.iret (v := (-1)) hx hb hr (fun t ht hW => ⟨⟨(-1), (), rfl, rfl, by rw [ht]; exact hP9, va_K.moved hW.alike hK, hD9⟩, hS.F ht⟩) hS.2.2 dX2_firstCrossing_68
def ws_k_X2_firstCrossing_59 : List Cond := .code yX2_firstCrossing cX2_firstCrossing 5 (some .int) :: ([.fieldLink RX2 15 "StackKeys$Town" "counts" "[I"] ++ wsX90)
set_option maxHeartbeats 4000000 in
set_option maxRecDepth 100000 in
theorem k_X2_firstCrossing_59 (l : Launch) (dC : Nat → ClassId) (dI : Nat → Nat → Nat) (cB cI cJ cZ cQ : ClassId) (sz : Nat) (a0 a1 a2 a3 a4 a5 a6 a7 a8 a9 a10 a11 a12 a13 a14 a15 a16 a17 : Nat) : Met l yX2_firstCrossing ws_k_X2_firstCrossing_59 ({ frames := 0, cells := 0, slots := 0, locals := 0 }) (va_Pc [.ref a0, .ref a1, .int 1] (fun U => U.heap.size = sz ∧ va_P (dC, dI) vwCl [(a1, .inr (9, [.ref a2, .ref a3, .ref a4, .ref a5, .ref a6, .ref a7, .ref a8, .ref a9, .ref a10, .ref a11, .ref a12, .ref a13, .ref a14, .ref a15, .ref a16, .int 0])), (a2, .inl (cI, 8, .inl (fun _ => 0))), (a0, .inr (2, [.ref a17]))] U.heap ∧ va_K (dC, dI) vwCl (tyA cB cI cJ cZ cQ) U ∧ va_D (fun _ => True) [(a1, .inr (9, [.ref a2, .ref a3, .ref a4, .ref a5, .ref a6, .ref a7, .ref a8, .ref a9, .ref a10, .ref a11, .ref a12, .ref a13, .ref a14, .ref a15, .ref a16, .int 0])), (a2, .inl (cI, 8, .inl (fun _ => 0))), (a0, .inr (2, [.ref a17]))])) (va_Qi (fun (r : Int32) (_ : Unit) => r = (-1)) (fun (u : Unit) t => va_P (dC, dI) vwCl [(a1, .inr (9, [.ref a2, .ref a3, .ref a4, .ref a5, .ref a6, .ref a7, .ref a8, .ref a9, .ref a10, .ref a11, .ref a12, .ref a13, .ref a14, .ref a15, .ref a16, .int 0])), (a2, .inl (cI, 8, .inl (fun _ => 0))), (a0, .inr (2, [.ref a17]))] t.heap ∧ va_K (dC, dI) vwCl (tyA cB cI cJ cZ cQ) t ∧ va_D (va_A [(a1, .inr (9, [.ref a2, .ref a3, .ref a4, .ref a5, .ref a6, .ref a7, .ref a8, .ref a9, .ref a10, .ref a11, .ref a12, .ref a13, .ref a14, .ref a15, .ref a16, .int 0])), (a2, .inl (cI, 8, .inl (fun _ => 0))), (a0, .inr (2, [.ref a17]))] sz) [(a1, .inr (9, [.ref a2, .ref a3, .ref a4, .ref a5, .ref a6, .ref a7, .ref a8, .ref a9, .ref a10, .ref a11, .ref a12, .ref a13, .ref a14, .ref a15, .ref a16, .int 0])), (a2, .inl (cI, 8, .inl (fun _ => 0))), (a0, .inr (2, [.ref a17]))]) (va_A [(a1, .inr (9, [.ref a2, .ref a3, .ref a4, .ref a5, .ref a6, .ref a7, .ref a8, .ref a9, .ref a10, .ref a11, .ref a12, .ref a13, .ref a14, .ref a15, .ref a16, .int 0])), (a2, .inl (cI, 8, .inl (fun _ => 0))), (a0, .inr (2, [.ref a17]))] sz)) 0 0 (va_A [(a1, .inr (9, [.ref a2, .ref a3, .ref a4, .ref a5, .ref a6, .ref a7, .ref a8, .ref a9, .ref a10, .ref a11, .ref a12, .ref a13, .ref a14, .ref a15, .ref a16, .int 0])), (a2, .inl (cI, 8, .inl (fun _ => 0))), (a0, .inr (2, [.ref a17]))] sz) := by
  refine Met.ofW (cc := cX2_firstCrossing) (maxL := 5) (ret := (some .int)) (by decide +kernel) rfl ?_
  intro p e s m args below meth c s₁ B hml hv
  obtain ⟨rfl, hsz, hP, hK, hD0⟩ := hv
  have hx := B.exec
  have hb := B.bytes
  have hr := B.returns
  have hts := atoms_spec (ws := ws_k_X2_firstCrossing_59) B.pre
  have hown : s.vm.findClass RX2 = some m.cls := findClass_of_methodNamed B.named
  have hiX9 : ∀ w ∈ u_ws RX9 TX9 16, w ∈ ws_k_X2_firstCrossing_59 := fun w h => List.mem_cons_of_mem _ (List.mem_append_right _ h)
  subst hsz
  have hD := hD0.self (sz := s.heap.size)
  generalize hAe : va_A [(a1, .inr (9, [.ref a2, .ref a3, .ref a4, .ref a5, .ref a6, .ref a7, .ref a8, .ref a9, .ref a10, .ref a11, .ref a12, .ref a13, .ref a14, .ref a15, .ref a16, .int 0])), (a2, .inl (cI, 8, .inl (fun _ => 0))), (a0, .inr (2, [.ref a17]))] s.heap.size = A at hD ⊢
  have hA : ∀ b : Nat, s.heap.size ≤ b → A b := fun b h => by rw [← hAe]; exact Or.inr h
  clear hD0 hAe
  have hS : va_S A s.heap s.heap [] := va_S.rf
  have hl := lv_entry ([.ref a0, .ref a1, .int 1]) (n := 5) (Nat.le_of_ble_eq_true rfl)
  rw [lg_entry_eq]
  generalize (lg_sl ([.ref a0, .ref a1, .int 1]) ++ List.replicate (5 - (lg_sl ([.ref a0, .ref a1, .int 1])).length) Slot.unset).toArray = ls at hl ⊢
  have hl : lv_has ls 5 [(0, .ref a0), (1, .ref a1), (2, .int 1)] := hl
  obtain ⟨H, hHe⟩ : ∃ H : Heap, H = s.heap := ⟨_, rfl⟩
  rw [← hHe] at hP
  have hS : va_S A s.heap H [] := by rw [hHe]; exact hS
  rw [← hHe]
  refine lv_iconst (v := 0) hx hb dX2_firstCrossing_0 (by decide +kernel) ?_
  refine lv_istore_n (lv' := [(3, .int 0), (0, .ref a0), (1, .ref a1), (2, .int 1)]) hx hb dX2_firstCrossing_1 rfl hl (by decide) rfl (fun ls hl => ?_)
  refine lv_iload_n hx hb dX2_firstCrossing_2 rfl (lv_at hl 0 rfl) ?_
  refine lv_aload_n hx hb dX2_firstCrossing_3 rfl (lv_at hl 2 rfl) ?_
  refine va_get (D := (dC, dI)) (ci := 9) (v := .ref a2) (C := RX9) (T := TX9) (N := 16) hx hb hts hiX9 hown hK hP 0 rfl rfl 0 (by decide) (hts _ (List.mem_of_getElem? (i := 1) rfl)) (fun _ h9 => h9) rfl dX2_firstCrossing_4 ?_
  refine lv_bipush (v := 6) hx hb dX2_firstCrossing_7 (by decide +kernel) ?_
  refine va_iald hx hb hK hP 1 1 rfl rfl (vpc _ _ (by decide +kernel)) dX2_firstCrossing_9 ?_
  refine tp_i (y := 0) rfl ?_
  refine lv_icmp_ge (tgt := 67) hx hb dX2_firstCrossing_10 (by decide) (fun _ => ?_) (fun c => absurd c (by decide +kernel))
  refine lv_iconst (v := (-1)) hx hb dX2_firstCrossing_67 (by decide +kernel) ?_
  have hP9 := hP.sub (ws' := [(a1, .inr (9, [.ref a2, .ref a3, .ref a4, .ref a5, .ref a6, .ref a7, .ref a8, .ref a9, .ref a10, .ref a11, .ref a12, .ref a13, .ref a14, .ref a15, .ref a16, .int 0])), (a2, .inl (cI, 8, .inl (fun _ => 0))), (a0, .inr (2, [.ref a17]))]) [0, 1, 2] rfl
  have hD9 := hD.sub (ws' := [(a1, .inr (9, [.ref a2, .ref a3, .ref a4, .ref a5, .ref a6, .ref a7, .ref a8, .ref a9, .ref a10, .ref a11, .ref a12, .ref a13, .ref a14, .ref a15, .ref a16, .int 0])), (a2, .inl (cI, 8, .inl (fun _ => 0))), (a0, .inr (2, [.ref a17]))]) [0, 1, 2] (by decide) rfl
  exact W.iret (v := (-1)) hx hb hr (fun t ht hW => ⟨⟨(-1), (), rfl, rfl, by rw [ht]; exact hP9, va_K.moved hW.alike hK, hD9⟩, hS.F ht⟩) hS.2.2 dX2_firstCrossing_68
def ws_p_X11_cross : List Cond := .code yX11_cross cX11_cross 2 (some .int) :: ([.fieldLink RX11 35 "StackKeys" "hours" "LStackKeys$Hours;", .fieldLink RX11 74 "StackKeys" "present" "LStackKeys$Town;", .methodLink RX11 232 yX2_firstCrossing, .instanceMethod yX2_firstCrossing, .selects RX2 yX2_firstCrossing yX2_firstCrossing, .initialized RX2, .code yX2_firstCrossing cX2_firstCrossing 5 (some .int), .fieldLink RX2 15 "StackKeys$Town" "counts" "[I"] ++ wsX110 ++ wsX90)
set_option maxRecDepth 20000 in
theorem g_p_X11_cross_0 : GoodIn ws_p_X11_cross (wsV RX11 232 RX2 yX2_firstCrossing ws_k_X2_firstCrossing_58) := goodIn_r _ [3, 4, 5, 6, 7, 8, 20, 21, 22, 23, 24, 25, 26, 27, 28, 29, 30, 31, 32, 33, 34, 35] (by decide +kernel) (by decide +kernel)
set_option maxRecDepth 20000 in
theorem g_p_X11_cross_1 : GoodIn ws_p_X11_cross (wsV RX11 232 RX2 yX2_firstCrossing ws_k_X2_firstCrossing_59) := goodIn_r _ [3, 4, 5, 6, 7, 8, 20, 21, 22, 23, 24, 25, 26, 27, 28, 29, 30, 31, 32, 33, 34, 35] (by decide +kernel) (by decide +kernel)
set_option maxHeartbeats 4000000 in
set_option maxRecDepth 100000 in
theorem p_X11_cross (l : Launch) (dC : Nat → ClassId) (dI : Nat → Nat → Nat) (cB cI cJ cZ cQ : ClassId) (sz : Nat) (a0 a1 a2 a3 a4 a5 a6 a7 a8 a9 a10 a11 a12 a13 a14 a15 a16 a17 a18 a19 a20 a21 a22 a23 a24 a25 a26 a27 : Nat) (x0 : Int32) : Met l yX11_cross ws_p_X11_cross ({ frames := 1, cells := 0, slots := 0, locals := 24 }) (va_Pc [.ref a0, .int x0] (fun U => U.heap.size = sz ∧ va_P (dC, dI) vwCl [(a0, .inr (11, [.ref a1, .ref a2, .ref a3, .ref a4, .ref a5, .ref a6, .ref a7, .ref a8, .ref a9, .ref a10, .ref a11])), (a10, .inr (9, [.ref a12, .ref a13, .ref a14, .ref a15, .ref a16, .ref a17, .ref a18, .ref a19, .ref a20, .ref a21, .ref a22, .ref a23, .ref a24, .ref a25, .ref a26, .int 0])), (a12, .inl (cI, 8, .inl (fun _ => 0))), (a4, .inr (2, [.ref a27]))] U.heap ∧ va_K (dC, dI) vwCl (tyA cB cI cJ cZ cQ) U ∧ va_D (fun _ => True) [(a0, .inr (11, [.ref a1, .ref a2, .ref a3, .ref a4, .ref a5, .ref a6, .ref a7, .ref a8, .ref a9, .ref a10, .ref a11])), (a10, .inr (9, [.ref a12, .ref a13, .ref a14, .ref a15, .ref a16, .ref a17, .ref a18, .ref a19, .ref a20, .ref a21, .ref a22, .ref a23, .ref a24, .ref a25, .ref a26, .int 0])), (a12, .inl (cI, 8, .inl (fun _ => 0))), (a4, .inr (2, [.ref a27]))])) (va_Qi (fun (r : Int32) (_ : Unit) => r = (-1)) (fun (_ : Unit) _ => True) (va_A [(a0, .inr (11, [.ref a1, .ref a2, .ref a3, .ref a4, .ref a5, .ref a6, .ref a7, .ref a8, .ref a9, .ref a10, .ref a11])), (a10, .inr (9, [.ref a12, .ref a13, .ref a14, .ref a15, .ref a16, .ref a17, .ref a18, .ref a19, .ref a20, .ref a21, .ref a22, .ref a23, .ref a24, .ref a25, .ref a26, .int 0])), (a12, .inl (cI, 8, .inl (fun _ => 0))), (a4, .inr (2, [.ref a27]))] sz)) 0 0 (va_A [(a0, .inr (11, [.ref a1, .ref a2, .ref a3, .ref a4, .ref a5, .ref a6, .ref a7, .ref a8, .ref a9, .ref a10, .ref a11])), (a10, .inr (9, [.ref a12, .ref a13, .ref a14, .ref a15, .ref a16, .ref a17, .ref a18, .ref a19, .ref a20, .ref a21, .ref a22, .ref a23, .ref a24, .ref a25, .ref a26, .int 0])), (a12, .inl (cI, 8, .inl (fun _ => 0))), (a4, .inr (2, [.ref a27]))] sz) := by
  refine Met.ofW (cc := cX11_cross) (maxL := 2) (ret := (some .int)) (by decide +kernel) rfl ?_
  intro p e s m args below meth c s₁ B hml hv
  obtain ⟨rfl, hsz, hP, hK, hD0⟩ := hv
  have hx := B.exec
  have hb := B.bytes
  have hr := B.returns
  have hts := atoms_spec (ws := ws_p_X11_cross) B.pre
  have hown : s.vm.findClass RX11 = some m.cls := findClass_of_methodNamed B.named
  have hiX11 : ∀ w ∈ u_ws RX11 TX11 11, w ∈ ws_p_X11_cross := fun w h => List.mem_cons_of_mem _ (List.mem_append_left _ (List.mem_append_right _ h))
  have hiX9 : ∀ w ∈ u_ws RX9 TX9 16, w ∈ ws_p_X11_cross := fun w h => List.mem_cons_of_mem _ (List.mem_append_right _ h)
  subst hsz
  have hD := hD0.self (sz := s.heap.size)
  generalize hAe : va_A [(a0, .inr (11, [.ref a1, .ref a2, .ref a3, .ref a4, .ref a5, .ref a6, .ref a7, .ref a8, .ref a9, .ref a10, .ref a11])), (a10, .inr (9, [.ref a12, .ref a13, .ref a14, .ref a15, .ref a16, .ref a17, .ref a18, .ref a19, .ref a20, .ref a21, .ref a22, .ref a23, .ref a24, .ref a25, .ref a26, .int 0])), (a12, .inl (cI, 8, .inl (fun _ => 0))), (a4, .inr (2, [.ref a27]))] s.heap.size = A at hD ⊢
  have hA : ∀ b : Nat, s.heap.size ≤ b → A b := fun b h => by rw [← hAe]; exact Or.inr h
  clear hD0 hAe
  have hS : va_S A s.heap s.heap [] := va_S.rf
  have hl := lv_entry ([.ref a0, .int x0]) (n := 2) (Nat.le_of_ble_eq_true rfl)
  rw [lg_entry_eq]
  generalize (lg_sl ([.ref a0, .int x0]) ++ List.replicate (2 - (lg_sl ([.ref a0, .int x0])).length) Slot.unset).toArray = ls at hl ⊢
  have hl : lv_has ls 2 [(0, .ref a0), (1, .int x0)] := hl
  obtain ⟨H, hHe⟩ : ∃ H : Heap, H = s.heap := ⟨_, rfl⟩
  rw [← hHe] at hP
  have hS : va_S A s.heap H [] := by rw [hHe]; exact hS
  rw [← hHe]
  refine lv_iload_n hx hb dX11_cross_0 rfl (lv_at hl 1 rfl) ?_
  refine lv_if_eq (tgt := 9) hx hb dX11_cross_1 (by decide) (fun c1 => ?_) (fun c1 => ?_)
  · have c1i := (fa_eq _ _).mp c1
    have c1k : (0 : Int32).toInt = 0 := (by decide +kernel)
    refine lv_aload_n hx hb dX11_cross_9 rfl (lv_at hl 0 rfl) ?_
    refine va_get (D := (dC, dI)) (ci := 11) (v := .ref a4) (C := RX11) (T := TX11) (N := 11) hx hb hts hiX11 hown hK hP 0 rfl rfl 3 (by decide) (hts _ (List.mem_of_getElem? (i := 1) rfl)) (fun _ h9 => h9) rfl dX11_cross_10 ?_
    refine lv_aload_n hx hb dX11_cross_13 rfl (lv_at hl 0 rfl) ?_
    refine va_get (D := (dC, dI)) (ci := 11) (v := .ref a10) (C := RX11) (T := TX11) (N := 11) hx hb hts hiX11 hown hK hP 0 rfl rfl 9 (by decide) (hts _ (List.mem_of_getElem? (i := 2) rfl)) (fun _ h9 => h9) rfl dX11_cross_14 ?_
    refine lv_iload_n hx hb dX11_cross_17 rfl (lv_at hl 1 rfl) ?_
    refine lv_iconst (v := 1) hx hb dX11_cross_18 (by decide +kernel) ?_
    refine lv_icmp_ne (tgt := 26) hx hb dX11_cross_19 (by decide) (fun _ => ?_) (fun c2 => False.elim (by have c2i := (fa_eq _ _).mp c2; have c2k : (1 : Int32).toInt = 1 := (by decide +kernel); omega))
    refine lv_iconst (v := 0) hx hb dX11_cross_26 (by decide +kernel) ?_
    have hPc := hP.sub (ws' := [(a10, .inr (9, [.ref a12, .ref a13, .ref a14, .ref a15, .ref a16, .ref a17, .ref a18, .ref a19, .ref a20, .ref a21, .ref a22, .ref a23, .ref a24, .ref a25, .ref a26, .int 0])), (a12, .inl (cI, 8, .inl (fun _ => 0))), (a4, .inr (2, [.ref a27]))]) [1, 2, 3] rfl
    have hDc := hD.sub (ws' := [(a10, .inr (9, [.ref a12, .ref a13, .ref a14, .ref a15, .ref a16, .ref a17, .ref a18, .ref a19, .ref a20, .ref a21, .ref a22, .ref a23, .ref a24, .ref a25, .ref a26, .int 0])), (a12, .inl (cI, 8, .inl (fun _ => 0))), (a4, .inr (2, [.ref a27]))]) [1, 2, 3] (by decide) rfl
    have hFc := va_free (wc := [(a10, .inr (9, [.ref a12, .ref a13, .ref a14, .ref a15, .ref a16, .ref a17, .ref a18, .ref a19, .ref a20, .ref a21, .ref a22, .ref a23, .ref a24, .ref a25, .ref a26, .int 0])), (a12, .inl (cI, 8, .inl (fun _ => 0))), (a4, .inr (2, [.ref a27]))]) hD hS hA [1, 2, 3] rfl
    refine va_calli (va_runV (As := [.ref a10, .int 0]) (rest := []) ⟨hx, hb, hml, hown, hts⟩ (k_X2_firstCrossing_58 l dC dI cB cI cJ cZ cQ H.size a4 a10 a12 a13 a14 a15 a16 a17 a18 a19 a20 a21 a22 a23 a24 a25 a26 a27) (cwV 2 hts g_p_X11_cross_0 rfl rfl rfl (by decide +kernel) ⟨Nat.le_of_ble_eq_true rfl, Nat.le_of_ble_eq_true rfl⟩) ⟨fun a U g mk Z => by obtain ⟨q0, q1, qP, qK, qD⟩ := Z; exact ⟨q0, q1, qP, va_K.moved (u := U) (U := U.calling g mk a) (Vm.Alike.refl U.vm) qK, qD⟩, va_recv hK hPc (ci := 2) (q0 := 2) rfl rfl, fun U hU hW => ⟨rfl, by rw [hU], by rw [hU]; exact hPc, va_K.moved hW.alike hK, hDc.weaken (fun _ _ _ _ => trivial)⟩⟩ rfl rfl hl.1 rfl (lv_room (Nat.le_of_ble_eq_true rfl)) dX11_cross_27 ⟨Nat.le_of_ble_eq_true rfl, Nat.le_of_ble_eq_true rfl⟩) hS (fun b _ h => hFc b h) hFc (fun r4 u3 t H1 locs ht hvm hw hB hz1 hk1 hS => ?_)
    obtain ⟨hP1, hK1, hD1⟩ := hB
    rw [ht] at hP1
    obtain ⟨hP, hD⟩ := va_join (wr := [(a0, .inr (11, [.ref a1, .ref a2, .ref a3, .ref a4, .ref a5, .ref a6, .ref a7, .ref a8, .ref a9, .ref a10, .ref a11]))]) (w1 := [(a10, .inr (9, [.ref a12, .ref a13, .ref a14, .ref a15, .ref a16, .ref a17, .ref a18, .ref a19, .ref a20, .ref a21, .ref a22, .ref a23, .ref a24, .ref a25, .ref a26, .int 0])), (a12, .inl (cI, 8, .inl (fun _ => 0))), (a4, .inr (2, [.ref a27]))]) hP hD [1, 2, 3] [0] rfl rfl (by decide) (by decide) hk1 hFc hP1 hD1
    clear hP1 hK1 hD1 hk1 hz1 hvm hPc hDc hFc
    generalize H1 = H at hP hS ⊢
    have hP : va_P (dC, dI) vwCl [(a0, .inr (11, [.ref a1, .ref a2, .ref a3, .ref a4, .ref a5, .ref a6, .ref a7, .ref a8, .ref a9, .ref a10, .ref a11])), (a10, .inr (9, [.ref a12, .ref a13, .ref a14, .ref a15, .ref a16, .ref a17, .ref a18, .ref a19, .ref a20, .ref a21, .ref a22, .ref a23, .ref a24, .ref a25, .ref a26, .int 0])), (a12, .inl (cI, 8, .inl (fun _ => 0))), (a4, .inr (2, [.ref a27]))] H := hP
    have hD : va_D A [(a0, .inr (11, [.ref a1, .ref a2, .ref a3, .ref a4, .ref a5, .ref a6, .ref a7, .ref a8, .ref a9, .ref a10, .ref a11])), (a10, .inr (9, [.ref a12, .ref a13, .ref a14, .ref a15, .ref a16, .ref a17, .ref a18, .ref a19, .ref a20, .ref a21, .ref a22, .ref a23, .ref a24, .ref a25, .ref a26, .int 0])), (a12, .inl (cI, 8, .inl (fun _ => 0))), (a4, .inr (2, [.ref a27]))] := hD
    subst hw
    refine lv_goto (tgt := 34) hx hb dX11_cross_30 (by decide) ?_
    exact W.iret (v := (-1)) hx hb hr (fun t ht hW => ⟨⟨(-1), (), rfl, rfl, trivial⟩, hS.F ht⟩) hS.2.2 dX11_cross_34
  · have c1i := mt (fa_eq _ _).mpr c1
    have c1k : (0 : Int32).toInt = 0 := (by decide +kernel)
    refine lv_iload_n hx hb dX11_cross_4 rfl (lv_at hl 1 rfl) ?_
    refine lv_iconst (v := 1) hx hb dX11_cross_5 (by decide +kernel) ?_
    refine lv_icmp_ne (tgt := 33) hx hb dX11_cross_6 (by decide) (fun c5 => ?_) (fun c5 => ?_)
    · have c5i := mt (fa_eq _ _).mpr c5
      have c5k : (1 : Int32).toInt = 1 := (by decide +kernel)
      refine lv_iconst (v := (-1)) hx hb dX11_cross_33 (by decide +kernel) ?_
      exact W.iret (v := (-1)) hx hb hr (fun t ht hW => ⟨⟨(-1), (), rfl, rfl, trivial⟩, hS.F ht⟩) hS.2.2 dX11_cross_34
    · have c5i := (fa_eq _ _).mp c5
      have c5k : (1 : Int32).toInt = 1 := (by decide +kernel)
      refine lv_aload_n hx hb dX11_cross_9 rfl (lv_at hl 0 rfl) ?_
      refine va_get (D := (dC, dI)) (ci := 11) (v := .ref a4) (C := RX11) (T := TX11) (N := 11) hx hb hts hiX11 hown hK hP 0 rfl rfl 3 (by decide) (hts _ (List.mem_of_getElem? (i := 1) rfl)) (fun _ h9 => h9) rfl dX11_cross_10 ?_
      refine lv_aload_n hx hb dX11_cross_13 rfl (lv_at hl 0 rfl) ?_
      refine va_get (D := (dC, dI)) (ci := 11) (v := .ref a10) (C := RX11) (T := TX11) (N := 11) hx hb hts hiX11 hown hK hP 0 rfl rfl 9 (by decide) (hts _ (List.mem_of_getElem? (i := 2) rfl)) (fun _ h9 => h9) rfl dX11_cross_14 ?_
      refine lv_iload_n hx hb dX11_cross_17 rfl (lv_at hl 1 rfl) ?_
      refine lv_iconst (v := 1) hx hb dX11_cross_18 (by decide +kernel) ?_
      refine lv_icmp_ne (tgt := 26) hx hb dX11_cross_19 (by decide) (fun c6 => False.elim (by have c6i := mt (fa_eq _ _).mpr c6; have c6k : (1 : Int32).toInt = 1 := (by decide +kernel); omega)) (fun _ => ?_)
      refine lv_iconst (v := 1) hx hb dX11_cross_22 (by decide +kernel) ?_
      refine lv_goto (tgt := 27) hx hb dX11_cross_23 (by decide) ?_
      have hPc := hP.sub (ws' := [(a10, .inr (9, [.ref a12, .ref a13, .ref a14, .ref a15, .ref a16, .ref a17, .ref a18, .ref a19, .ref a20, .ref a21, .ref a22, .ref a23, .ref a24, .ref a25, .ref a26, .int 0])), (a12, .inl (cI, 8, .inl (fun _ => 0))), (a4, .inr (2, [.ref a27]))]) [1, 2, 3] rfl
      have hDc := hD.sub (ws' := [(a10, .inr (9, [.ref a12, .ref a13, .ref a14, .ref a15, .ref a16, .ref a17, .ref a18, .ref a19, .ref a20, .ref a21, .ref a22, .ref a23, .ref a24, .ref a25, .ref a26, .int 0])), (a12, .inl (cI, 8, .inl (fun _ => 0))), (a4, .inr (2, [.ref a27]))]) [1, 2, 3] (by decide) rfl
      have hFc := va_free (wc := [(a10, .inr (9, [.ref a12, .ref a13, .ref a14, .ref a15, .ref a16, .ref a17, .ref a18, .ref a19, .ref a20, .ref a21, .ref a22, .ref a23, .ref a24, .ref a25, .ref a26, .int 0])), (a12, .inl (cI, 8, .inl (fun _ => 0))), (a4, .inr (2, [.ref a27]))]) hD hS hA [1, 2, 3] rfl
      refine va_calli (va_runV (As := [.ref a10, .int 1]) (rest := []) ⟨hx, hb, hml, hown, hts⟩ (k_X2_firstCrossing_59 l dC dI cB cI cJ cZ cQ H.size a4 a10 a12 a13 a14 a15 a16 a17 a18 a19 a20 a21 a22 a23 a24 a25 a26 a27) (cwV 2 hts g_p_X11_cross_1 rfl rfl rfl (by decide +kernel) ⟨Nat.le_of_ble_eq_true rfl, Nat.le_of_ble_eq_true rfl⟩) ⟨fun a U g mk Z => by obtain ⟨q0, q1, qP, qK, qD⟩ := Z; exact ⟨q0, q1, qP, va_K.moved (u := U) (U := U.calling g mk a) (Vm.Alike.refl U.vm) qK, qD⟩, va_recv hK hPc (ci := 2) (q0 := 2) rfl rfl, fun U hU hW => ⟨rfl, by rw [hU], by rw [hU]; exact hPc, va_K.moved hW.alike hK, hDc.weaken (fun _ _ _ _ => trivial)⟩⟩ rfl rfl hl.1 rfl (lv_room (Nat.le_of_ble_eq_true rfl)) dX11_cross_27 ⟨Nat.le_of_ble_eq_true rfl, Nat.le_of_ble_eq_true rfl⟩) hS (fun b _ h => hFc b h) hFc (fun r8 u7 t H1 locs ht hvm hw hB hz1 hk1 hS => ?_)
      obtain ⟨hP1, hK1, hD1⟩ := hB
      rw [ht] at hP1
      obtain ⟨hP, hD⟩ := va_join (wr := [(a0, .inr (11, [.ref a1, .ref a2, .ref a3, .ref a4, .ref a5, .ref a6, .ref a7, .ref a8, .ref a9, .ref a10, .ref a11]))]) (w1 := [(a10, .inr (9, [.ref a12, .ref a13, .ref a14, .ref a15, .ref a16, .ref a17, .ref a18, .ref a19, .ref a20, .ref a21, .ref a22, .ref a23, .ref a24, .ref a25, .ref a26, .int 0])), (a12, .inl (cI, 8, .inl (fun _ => 0))), (a4, .inr (2, [.ref a27]))]) hP hD [1, 2, 3] [0] rfl rfl (by decide) (by decide) hk1 hFc hP1 hD1
      clear hP1 hK1 hD1 hk1 hz1 hvm hPc hDc hFc
      generalize H1 = H at hP hS ⊢
      have hP : va_P (dC, dI) vwCl [(a0, .inr (11, [.ref a1, .ref a2, .ref a3, .ref a4, .ref a5, .ref a6, .ref a7, .ref a8, .ref a9, .ref a10, .ref a11])), (a10, .inr (9, [.ref a12, .ref a13, .ref a14, .ref a15, .ref a16, .ref a17, .ref a18, .ref a19, .ref a20, .ref a21, .ref a22, .ref a23, .ref a24, .ref a25, .ref a26, .int 0])), (a12, .inl (cI, 8, .inl (fun _ => 0))), (a4, .inr (2, [.ref a27]))] H := hP
      have hD : va_D A [(a0, .inr (11, [.ref a1, .ref a2, .ref a3, .ref a4, .ref a5, .ref a6, .ref a7, .ref a8, .ref a9, .ref a10, .ref a11])), (a10, .inr (9, [.ref a12, .ref a13, .ref a14, .ref a15, .ref a16, .ref a17, .ref a18, .ref a19, .ref a20, .ref a21, .ref a22, .ref a23, .ref a24, .ref a25, .ref a26, .int 0])), (a12, .inl (cI, 8, .inl (fun _ => 0))), (a4, .inr (2, [.ref a27]))] := hD
      subst hw
      refine lv_goto (tgt := 34) hx hb dX11_cross_30 (by decide) ?_
      exact W.iret (v := (-1)) hx hb hr (fun t ht hW => ⟨⟨(-1), (), rfl, rfl, trivial⟩, hS.F ht⟩) hS.2.2 dX11_cross_34
