def ws_k_X1_isRow_68 : List Cond := .code yX1_isRow cX1_isRow 9 (some .boolean) :: ([.fieldLink RX1 46 "StackKeys$Town" "counts" "[I"] ++ wsX90)
set_option maxHeartbeats 4000000 in
set_option maxRecDepth 100000 in
theorem k_X1_isRow_68 (l : Launch) (dC : Nat → ClassId) (dI : Nat → Nat → Nat) (cB cI cJ cZ cQ : ClassId) (sz : Nat) (a0 a1 a2 a3 a4 a5 a6 a7 a8 a9 a10 a11 a12 a13 a14 a15 a16 a17 a18 a19 a20 : Nat) : Met l yX1_isRow ws_k_X1_isRow_68 ({ frames := 0, cells := 0, slots := 0, locals := 0 }) (va_Pc [.ref a0, .ref a1, .int 0, .int 0] (fun U => U.heap.size = sz ∧ va_P (dC, dI) vwCl [(a1, .inr (9, [.ref a2, .ref a3, .ref a4, .ref a5, .ref a6, .ref a7, .ref a8, .ref a9, .ref a10, .ref a11, .ref a12, .ref a13, .ref a14, .ref a15, .ref a16, .int 0])), (a2, .inl (cI, 8, .inl (fun _ => 0))), (a0, .inr (1, [.ref a17, .ref a18, .ref a19, .ref a20, .int 0, .int 0, .int 0, .int 0]))] U.heap ∧ va_K (dC, dI) vwCl (tyA cB cI cJ cZ cQ) U ∧ va_D (fun _ => True) [(a1, .inr (9, [.ref a2, .ref a3, .ref a4, .ref a5, .ref a6, .ref a7, .ref a8, .ref a9, .ref a10, .ref a11, .ref a12, .ref a13, .ref a14, .ref a15, .ref a16, .int 0])), (a2, .inl (cI, 8, .inl (fun _ => 0))), (a0, .inr (1, [.ref a17, .ref a18, .ref a19, .ref a20, .int 0, .int 0, .int 0, .int 0]))])) (va_Qi (fun (r : Int32) (_ : Unit) => r = 1) (fun (u : Unit) t => va_P (dC, dI) vwCl [(a1, .inr (9, [.ref a2, .ref a3, .ref a4, .ref a5, .ref a6, .ref a7, .ref a8, .ref a9, .ref a10, .ref a11, .ref a12, .ref a13, .ref a14, .ref a15, .ref a16, .int 0])), (a2, .inl (cI, 8, .inl (fun _ => 0))), (a0, .inr (1, [.ref a17, .ref a18, .ref a19, .ref a20, .int 0, .int 0, .int 0, .int 0]))] t.heap ∧ va_K (dC, dI) vwCl (tyA cB cI cJ cZ cQ) t ∧ va_D (va_A [(a1, .inr (9, [.ref a2, .ref a3, .ref a4, .ref a5, .ref a6, .ref a7, .ref a8, .ref a9, .ref a10, .ref a11, .ref a12, .ref a13, .ref a14, .ref a15, .ref a16, .int 0])), (a2, .inl (cI, 8, .inl (fun _ => 0))), (a0, .inr (1, [.ref a17, .ref a18, .ref a19, .ref a20, .int 0, .int 0, .int 0, .int 0]))] sz) [(a1, .inr (9, [.ref a2, .ref a3, .ref a4, .ref a5, .ref a6, .ref a7, .ref a8, .ref a9, .ref a10, .ref a11, .ref a12, .ref a13, .ref a14, .ref a15, .ref a16, .int 0])), (a2, .inl (cI, 8, .inl (fun _ => 0))), (a0, .inr (1, [.ref a17, .ref a18, .ref a19, .ref a20, .int 0, .int 0, .int 0, .int 0]))]) (va_A [(a1, .inr (9, [.ref a2, .ref a3, .ref a4, .ref a5, .ref a6, .ref a7, .ref a8, .ref a9, .ref a10, .ref a11, .ref a12, .ref a13, .ref a14, .ref a15, .ref a16, .int 0])), (a2, .inl (cI, 8, .inl (fun _ => 0))), (a0, .inr (1, [.ref a17, .ref a18, .ref a19, .ref a20, .int 0, .int 0, .int 0, .int 0]))] sz)) 0 0 (va_A [(a1, .inr (9, [.ref a2, .ref a3, .ref a4, .ref a5, .ref a6, .ref a7, .ref a8, .ref a9, .ref a10, .ref a11, .ref a12, .ref a13, .ref a14, .ref a15, .ref a16, .int 0])), (a2, .inl (cI, 8, .inl (fun _ => 0))), (a0, .inr (1, [.ref a17, .ref a18, .ref a19, .ref a20, .int 0, .int 0, .int 0, .int 0]))] sz) := by
  refine Met.ofW (cc := cX1_isRow) (maxL := 9) (ret := (some .boolean)) (by decide +kernel) rfl ?_
  intro p e s m args below meth c s₁ B hml hv
  obtain ⟨rfl, hsz, hP, hK, hD0⟩ := hv
  have hx := B.exec
  have hb := B.bytes
  have hr := B.returns
  have hts := atoms_spec (ws := ws_k_X1_isRow_68) B.pre
  have hown : s.vm.findClass RX1 = some m.cls := findClass_of_methodNamed B.named
  have hiX9 : ∀ w ∈ u_ws RX9 TX9 16, w ∈ ws_k_X1_isRow_68 := fun w h => List.mem_cons_of_mem _ (List.mem_append_right _ h)
  subst hsz
  have hD := hD0.self (sz := s.heap.size)
  generalize hAe : va_A [(a1, .inr (9, [.ref a2, .ref a3, .ref a4, .ref a5, .ref a6, .ref a7, .ref a8, .ref a9, .ref a10, .ref a11, .ref a12, .ref a13, .ref a14, .ref a15, .ref a16, .int 0])), (a2, .inl (cI, 8, .inl (fun _ => 0))), (a0, .inr (1, [.ref a17, .ref a18, .ref a19, .ref a20, .int 0, .int 0, .int 0, .int 0]))] s.heap.size = A at hD ⊢
  have hA : ∀ b : Nat, s.heap.size ≤ b → A b := fun b h => by rw [← hAe]; exact Or.inr h
  clear hD0 hAe
  have hS : va_S A s.heap s.heap [] := va_S.rf
  have hl := lv_entry ([.ref a0, .ref a1, .int 0, .int 0]) (n := 9) (Nat.le_of_ble_eq_true rfl)
  rw [lg_entry_eq]
  generalize (lg_sl ([.ref a0, .ref a1, .int 0, .int 0]) ++ List.replicate (9 - (lg_sl ([.ref a0, .ref a1, .int 0, .int 0])).length) Slot.unset).toArray = ls at hl ⊢
  have hl : lv_has ls 9 [(0, .ref a0), (1, .ref a1), (2, .int 0), (3, .int 0)] := hl
  obtain ⟨H, hHe⟩ : ∃ H : Heap, H = s.heap := ⟨_, rfl⟩
  rw [← hHe] at hP
  have hS : va_S A s.heap H [] := by rw [hHe]; exact hS
  rw [← hHe]
  refine lv_aload_n hx hb dX1_isRow_0 rfl (lv_at hl 1 rfl) ?_
  refine va_get (D := (dC, dI)) (ci := 9) (v := .ref a2) (C := RX9) (T := TX9) (N := 16) hx hb hts hiX9 hown hK hP 0 rfl rfl 0 (by decide) (hts _ (List.mem_of_getElem? (i := 1) rfl)) (fun _ h9 => h9) rfl dX1_isRow_1 ?_
  refine lv_iconst (v := 1) hx hb dX1_isRow_4 (by decide +kernel) ?_
  refine va_iald hx hb hK hP 1 1 rfl rfl (vpc _ _ (by decide +kernel)) dX1_isRow_5 ?_
  refine tp_i (y := 0) rfl ?_
  refine lv_istore (lv' := [(4, .int 0), (0, .ref a0), (1, .ref a1), (2, .int 0), (3, .int 0)]) hx hb dX1_isRow_6 hl (by decide) rfl (fun ls hl => ?_)
  refine lv_iload_n hx hb dX1_isRow_8 rfl (lv_at hl 3 rfl) ?_
  refine lv_istore (lv' := [(5, .int 0), (4, .int 0), (0, .ref a0), (1, .ref a1), (2, .int 0), (3, .int 0)]) hx hb dX1_isRow_9 hl (by decide) rfl (fun ls hl => ?_)
  refine lv_iconst (v := 0) hx hb dX1_isRow_11 (by decide +kernel) ?_
  refine lv_istore (lv' := [(6, .int 0), (5, .int 0), (4, .int 0), (0, .ref a0), (1, .ref a1), (2, .int 0), (3, .int 0)]) hx hb dX1_isRow_12 hl (by decide) rfl (fun ls hl => ?_)
  refine lv_iload_n hx hb dX1_isRow_14 rfl (lv_at hl 6 rfl) ?_
  refine lv_iconst (v := 1) hx hb dX1_isRow_15 (by decide +kernel) ?_
  refine lv_isub hx hb dX1_isRow_16 ?_
  refine tp_i (y := (-1)) (by decide +kernel) ?_
  refine lv_istore (lv' := [(7, .int (-1)), (6, .int 0), (5, .int 0), (4, .int 0), (0, .ref a0), (1, .ref a1), (2, .int 0), (3, .int 0)]) hx hb dX1_isRow_17 hl (by decide) rfl (fun ls hl => ?_)
  refine lv_iload hx hb dX1_isRow_19 (lv_at hl 0 rfl) ?_
  refine lv_if_lt (tgt := 97) hx hb dX1_isRow_21 (by decide) (fun _ => ?_) (fun c => absurd c (by decide +kernel))
  refine lv_iconst (v := 1) hx hb dX1_isRow_97 (by decide +kernel) ?_
  have hP9 := hP.sub (ws' := [(a1, .inr (9, [.ref a2, .ref a3, .ref a4, .ref a5, .ref a6, .ref a7, .ref a8, .ref a9, .ref a10, .ref a11, .ref a12, .ref a13, .ref a14, .ref a15, .ref a16, .int 0])), (a2, .inl (cI, 8, .inl (fun _ => 0))), (a0, .inr (1, [.ref a17, .ref a18, .ref a19, .ref a20, .int 0, .int 0, .int 0, .int 0]))]) [0, 1, 2] rfl
  have hD9 := hD.sub (ws' := [(a1, .inr (9, [.ref a2, .ref a3, .ref a4, .ref a5, .ref a6, .ref a7, .ref a8, .ref a9, .ref a10, .ref a11, .ref a12, .ref a13, .ref a14, .ref a15, .ref a16, .int 0])), (a2, .inl (cI, 8, .inl (fun _ => 0))), (a0, .inr (1, [.ref a17, .ref a18, .ref a19, .ref a20, .int 0, .int 0, .int 0, .int 0]))]) [0, 1, 2] (by decide) rfl
  exact W.zret (v := 1) hx hb hr (by decide +kernel) (fun t ht hW => ⟨⟨1, (), rfl, rfl, by rw [ht]; exact hP9, va_K.moved hW.alike hK, hD9⟩, hS.F ht⟩) hS.2.2 dX1_isRow_98
def ws_k_X1_leftOf_69 : List Cond := .code yX1_leftOf cX1_leftOf 4 (some .int) :: ([.fieldLink RX1 25 "StackKeys$Found" "trials" "I"] ++ wsX10)
set_option maxHeartbeats 4000000 in
set_option maxRecDepth 100000 in
theorem k_X1_leftOf_69 (l : Launch) (dC : Nat → ClassId) (dI : Nat → Nat → Nat) (cB cI cJ cZ cQ : ClassId) (sz : Nat) (a0 a1 a2 a3 a4 : Nat) : Met l yX1_leftOf ws_k_X1_leftOf_69 ({ frames := 0, cells := 0, slots := 0, locals := 0 }) (va_Pc [.ref a0, .int 0] (fun U => U.heap.size = sz ∧ va_P (dC, dI) vwCl [(a0, .inr (1, [.ref a1, .ref a2, .ref a3, .ref a4, .int 0, .int 0, .int 0, .int 0]))] U.heap ∧ va_K (dC, dI) vwCl (tyA cB cI cJ cZ cQ) U ∧ va_D (fun _ => True) [(a0, .inr (1, [.ref a1, .ref a2, .ref a3, .ref a4, .int 0, .int 0, .int 0, .int 0]))])) (va_Qi (fun (r : Int32) (_ : Unit) => r = 0) (fun (u : Unit) t => va_P (dC, dI) vwCl [(a0, .inr (1, [.ref a1, .ref a2, .ref a3, .ref a4, .int 0, .int 0, .int 0, .int 0]))] t.heap ∧ va_K (dC, dI) vwCl (tyA cB cI cJ cZ cQ) t ∧ va_D (va_A [(a0, .inr (1, [.ref a1, .ref a2, .ref a3, .ref a4, .int 0, .int 0, .int 0, .int 0]))] sz) [(a0, .inr (1, [.ref a1, .ref a2, .ref a3, .ref a4, .int 0, .int 0, .int 0, .int 0]))]) (va_A [(a0, .inr (1, [.ref a1, .ref a2, .ref a3, .ref a4, .int 0, .int 0, .int 0, .int 0]))] sz)) 0 0 (va_A [(a0, .inr (1, [.ref a1, .ref a2, .ref a3, .ref a4, .int 0, .int 0, .int 0, .int 0]))] sz) := by
  refine Met.ofW (cc := cX1_leftOf) (maxL := 4) (ret := (some .int)) (by decide +kernel) rfl ?_
  intro p e s m args below meth c s₁ B hml hv
  obtain ⟨rfl, hsz, hP, hK, hD0⟩ := hv
  have hx := B.exec
  have hb := B.bytes
  have hr := B.returns
  have hts := atoms_spec (ws := ws_k_X1_leftOf_69) B.pre
  have hown : s.vm.findClass RX1 = some m.cls := findClass_of_methodNamed B.named
  have hiX1 : ∀ w ∈ u_ws RX1 TX1 8, w ∈ ws_k_X1_leftOf_69 := fun w h => List.mem_cons_of_mem _ (List.mem_append_right _ h)
  subst hsz
  have hD := hD0.self (sz := s.heap.size)
  generalize hAe : va_A [(a0, .inr (1, [.ref a1, .ref a2, .ref a3, .ref a4, .int 0, .int 0, .int 0, .int 0]))] s.heap.size = A at hD ⊢
  have hA : ∀ b : Nat, s.heap.size ≤ b → A b := fun b h => by rw [← hAe]; exact Or.inr h
  clear hD0 hAe
  have hS : va_S A s.heap s.heap [] := va_S.rf
  have hl := lv_entry ([.ref a0, .int 0]) (n := 4) (Nat.le_of_ble_eq_true rfl)
  rw [lg_entry_eq]
  generalize (lg_sl ([.ref a0, .int 0]) ++ List.replicate (4 - (lg_sl ([.ref a0, .int 0])).length) Slot.unset).toArray = ls at hl ⊢
  have hl : lv_has ls 4 [(0, .ref a0), (1, .int 0)] := hl
  obtain ⟨H, hHe⟩ : ∃ H : Heap, H = s.heap := ⟨_, rfl⟩
  rw [← hHe] at hP
  have hS : va_S A s.heap H [] := by rw [hHe]; exact hS
  rw [← hHe]
  refine lv_iload_n hx hb dX1_leftOf_0 rfl (lv_at hl 1 rfl) ?_
  refine lv_istore_n (lv' := [(2, .int 0), (0, .ref a0), (1, .int 0)]) hx hb dX1_leftOf_1 rfl hl (by decide) rfl (fun ls hl => ?_)
  refine lv_iconst (v := 0) hx hb dX1_leftOf_2 (by decide +kernel) ?_
  refine lv_istore_n (lv' := [(3, .int 0), (2, .int 0), (0, .ref a0), (1, .int 0)]) hx hb dX1_leftOf_3 rfl hl (by decide) rfl (fun ls hl => ?_)
  refine lv_iload_n hx hb dX1_leftOf_4 rfl (lv_at hl 0 rfl) ?_
  refine lv_aload_n hx hb dX1_leftOf_5 rfl (lv_at hl 2 rfl) ?_
  refine va_get (D := (dC, dI)) (ci := 1) (v := .int 0) (C := RX1) (T := TX1) (N := 8) hx hb hts hiX1 hown hK hP 0 rfl rfl 4 (by decide) (hts _ (List.mem_of_getElem? (i := 1) rfl)) (fun _ h9 => h9) rfl dX1_leftOf_6 ?_
  refine lv_icmp_ge (tgt := 66) hx hb dX1_leftOf_9 (by decide) (fun _ => ?_) (fun c => absurd c (by decide +kernel))
  refine lv_iload_n hx hb dX1_leftOf_66 rfl (lv_at hl 1 rfl) ?_
  have hP9 := hP.sub (ws' := [(a0, .inr (1, [.ref a1, .ref a2, .ref a3, .ref a4, .int 0, .int 0, .int 0, .int 0]))]) [0] rfl
  have hD9 := hD.sub (ws' := [(a0, .inr (1, [.ref a1, .ref a2, .ref a3, .ref a4, .int 0, .int 0, .int 0, .int 0]))]) [0] (by decide) rfl
  exact W.iret (v := 0) hx hb hr (fun t ht hW => ⟨⟨0, (), rfl, rfl, by rw [ht]; exact hP9, va_K.moved hW.alike hK, hD9⟩, hS.F ht⟩) hS.2.2 dX1_leftOf_67
def ws_k_X1_topOf_70 : List Cond := .code yX1_topOf cX1_topOf 2 (some .int) :: ([])
set_option maxHeartbeats 4000000 in
set_option maxRecDepth 100000 in
theorem k_X1_topOf_70 (l : Launch) (dC : Nat → ClassId) (dI : Nat → Nat → Nat) (cB cI cJ cZ cQ : ClassId) (sz : Nat) (a0 a1 a2 a3 a4 : Nat) : Met l yX1_topOf ws_k_X1_topOf_70 ({ frames := 0, cells := 0, slots := 0, locals := 0 }) (va_Pc [.ref a0, .int 0] (fun U => U.heap.size = sz ∧ va_P (dC, dI) vwCl [(a0, .inr (1, [.ref a1, .ref a2, .ref a3, .ref a4, .int 0, .int 1, .int 0, .int 0]))] U.heap ∧ va_K (dC, dI) vwCl (tyA cB cI cJ cZ cQ) U ∧ va_D (fun _ => True) [(a0, .inr (1, [.ref a1, .ref a2, .ref a3, .ref a4, .int 0, .int 1, .int 0, .int 0]))])) (va_Qi (fun (r : Int32) (_ : Unit) => r = (-1)) (fun (u : Unit) t => va_P (dC, dI) vwCl [(a0, .inr (1, [.ref a1, .ref a2, .ref a3, .ref a4, .int 0, .int 1, .int 0, .int 0]))] t.heap ∧ va_K (dC, dI) vwCl (tyA cB cI cJ cZ cQ) t ∧ va_D (va_A [(a0, .inr (1, [.ref a1, .ref a2, .ref a3, .ref a4, .int 0, .int 1, .int 0, .int 0]))] sz) [(a0, .inr (1, [.ref a1, .ref a2, .ref a3, .ref a4, .int 0, .int 1, .int 0, .int 0]))]) (va_A [(a0, .inr (1, [.ref a1, .ref a2, .ref a3, .ref a4, .int 0, .int 1, .int 0, .int 0]))] sz)) 0 0 (va_A [(a0, .inr (1, [.ref a1, .ref a2, .ref a3, .ref a4, .int 0, .int 1, .int 0, .int 0]))] sz) := by
  refine Met.ofW (cc := cX1_topOf) (maxL := 2) (ret := (some .int)) (by decide +kernel) rfl ?_
  intro p e s m args below meth c s₁ B hml hv
  obtain ⟨rfl, hsz, hP, hK, hD0⟩ := hv
  have hx := B.exec
  have hb := B.bytes
  have hr := B.returns
  have hts := atoms_spec (ws := ws_k_X1_topOf_70) B.pre
  have hown : s.vm.findClass RX1 = some m.cls := findClass_of_methodNamed B.named
  subst hsz
  have hD := hD0.self (sz := s.heap.size)
  generalize hAe : va_A [(a0, .inr (1, [.ref a1, .ref a2, .ref a3, .ref a4, .int 0, .int 1, .int 0, .int 0]))] s.heap.size = A at hD ⊢
  have hA : ∀ b : Nat, s.heap.size ≤ b → A b := fun b h => by rw [← hAe]; exact Or.inr h
  clear hD0 hAe
  have hS : va_S A s.heap s.heap [] := va_S.rf
  have hl := lv_entry ([.ref a0, .int 0]) (n := 2) (Nat.le_of_ble_eq_true rfl)
  rw [lg_entry_eq]
  generalize (lg_sl ([.ref a0, .int 0]) ++ List.replicate (2 - (lg_sl ([.ref a0, .int 0])).length) Slot.unset).toArray = ls at hl ⊢
  have hl : lv_has ls 2 [(0, .ref a0), (1, .int 0)] := hl
  obtain ⟨H, hHe⟩ : ∃ H : Heap, H = s.heap := ⟨_, rfl⟩
  rw [← hHe] at hP
  have hS : va_S A s.heap H [] := by rw [hHe]; exact hS
  rw [← hHe]
  refine lv_iload_n hx hb dX1_topOf_0 rfl (lv_at hl 1 rfl) ?_
  refine lv_if_le (tgt := 20) hx hb dX1_topOf_1 (by decide) (fun _ => ?_) (fun c => absurd c (by decide +kernel))
  refine lv_iconst (v := (-1)) hx hb dX1_topOf_20 (by decide +kernel) ?_
  have hP9 := hP.sub (ws' := [(a0, .inr (1, [.ref a1, .ref a2, .ref a3, .ref a4, .int 0, .int 1, .int 0, .int 0]))]) [0] rfl
  have hD9 := hD.sub (ws' := [(a0, .inr (1, [.ref a1, .ref a2, .ref a3, .ref a4, .int 0, .int 1, .int 0, .int 0]))]) [0] (by decide) rfl
  exact W.iret (v := (-1)) hx hb hr (fun t ht hW => ⟨⟨(-1), (), rfl, rfl, by rw [ht]; exact hP9, va_K.moved hW.alike hK, hD9⟩, hS.F ht⟩) hS.2.2 dX1_topOf_21
def ws_k_X1_weigh_71 : List Cond := .code yX1_weigh cX1_weigh 5 none :: ([.methodLink RX1 54 yX1_leftOf, .instanceMethod yX1_leftOf, .selects RX1 yX1_leftOf yX1_leftOf, .initialized RX1, .code yX1_leftOf cX1_leftOf 4 (some .int), .fieldLink RX1 25 "StackKeys$Found" "trials" "I", .fieldLink RX1 29 "StackKeys$Found" "fitting" "I", .fieldLink RX1 32 "StackKeys$Found" "firstSize" "I", .fieldLink RX1 19 "StackKeys$Found" "first" "[I", .fieldLink RX1 22 "StackKeys$Found" "row" "[I", .methodLink RX1 58 yX1_topOf, .instanceMethod yX1_topOf, .selects RX1 yX1_topOf yX1_topOf, .code yX1_topOf cX1_topOf 2 (some .int), .fieldLink RX1 35 "StackKeys$Found" "opening" "I"] ++ wsX10)
set_option maxRecDepth 20000 in
theorem g_k_X1_weigh_71_0 : GoodIn ws_k_X1_weigh_71 (wsV RX1 54 RX1 yX1_leftOf ws_k_X1_leftOf_69) := goodIn_r _ [1, 2, 3, 4, 5, 6, 16, 17, 18, 19, 20, 21, 22, 23] (by decide +kernel) (by decide +kernel)
set_option maxRecDepth 20000 in
theorem g_k_X1_weigh_71_1 : GoodIn ws_k_X1_weigh_71 (wsV RX1 58 RX1 yX1_topOf ws_k_X1_topOf_70) := goodIn_r _ [11, 12, 13, 4, 14] (by decide +kernel) (by decide +kernel)
set_option maxHeartbeats 4000000 in
set_option maxRecDepth 100000 in
theorem k_X1_weigh_71 (l : Launch) (dC : Nat → ClassId) (dI : Nat → Nat → Nat) (cB cI cJ cZ cQ : ClassId) (sz : Nat) (a0 a1 a2 a3 a4 : Nat) (f0 : Nat → Int32) : Met l yX1_weigh ws_k_X1_weigh_71 ({ frames := 1, cells := 0, slots := 0, locals := 23 }) (va_Pc [.ref a0, .int 0, .int (-1)] (fun U => U.heap.size = sz ∧ va_P (dC, dI) vwCl [(a0, .inr (1, [.ref a1, .ref a2, .ref a3, .ref a4, .int 0, .int 0, .int 0, .int 0])), (a4, .inl (cI, 3, .inl (fun _ => 0))), (a3, .inl (cI, 3, .inl f0))] U.heap ∧ va_K (dC, dI) vwCl (tyA cB cI cJ cZ cQ) U ∧ va_D (fun _ => True) [(a0, .inr (1, [.ref a1, .ref a2, .ref a3, .ref a4, .int 0, .int 0, .int 0, .int 0])), (a4, .inl (cI, 3, .inl (fun _ => 0))), (a3, .inl (cI, 3, .inl f0))])) (va_Qv (fun _ : Unit => True) (fun (u : Unit) t => va_P (dC, dI) vwCl [(a0, .inr (1, [.ref a1, .ref a2, .ref a3, .ref a4, .int 0, .int 1, .int 0, .int 1])), (a4, .inl (cI, 3, .inl (fun _ => 0))), (a3, .inl (cI, 3, .inl (upd (upd (upd f0 0 0) 1 0) 2 0)))] t.heap ∧ va_K (dC, dI) vwCl (tyA cB cI cJ cZ cQ) t ∧ va_D (va_A [(a0, .inr (1, [.ref a1, .ref a2, .ref a3, .ref a4, .int 0, .int 0, .int 0, .int 0])), (a4, .inl (cI, 3, .inl (fun _ => 0))), (a3, .inl (cI, 3, .inl f0))] sz) [(a0, .inr (1, [.ref a1, .ref a2, .ref a3, .ref a4, .int 0, .int 1, .int 0, .int 1])), (a4, .inl (cI, 3, .inl (fun _ => 0))), (a3, .inl (cI, 3, .inl (upd (upd (upd f0 0 0) 1 0) 2 0)))]) (va_A [(a0, .inr (1, [.ref a1, .ref a2, .ref a3, .ref a4, .int 0, .int 0, .int 0, .int 0])), (a4, .inl (cI, 3, .inl (fun _ => 0))), (a3, .inl (cI, 3, .inl f0))] sz)) 0 0 (va_A [(a0, .inr (1, [.ref a1, .ref a2, .ref a3, .ref a4, .int 0, .int 0, .int 0, .int 0])), (a4, .inl (cI, 3, .inl (fun _ => 0))), (a3, .inl (cI, 3, .inl f0))] sz) := by
  refine Met.ofW (cc := cX1_weigh) (maxL := 5) (ret := none) (by decide +kernel) rfl ?_
  intro p e s m args below meth c s₁ B hml hv
  obtain ⟨rfl, hsz, hP, hK, hD0⟩ := hv
  have hx := B.exec
  have hb := B.bytes
  have hr := B.returns
  have hts := atoms_spec (ws := ws_k_X1_weigh_71) B.pre
  have hown : s.vm.findClass RX1 = some m.cls := findClass_of_methodNamed B.named
  have hiX1 : ∀ w ∈ u_ws RX1 TX1 8, w ∈ ws_k_X1_weigh_71 := fun w h => List.mem_cons_of_mem _ (List.mem_append_right _ h)
  subst hsz
  have hD := hD0.self (sz := s.heap.size)
  generalize hAe : va_A [(a0, .inr (1, [.ref a1, .ref a2, .ref a3, .ref a4, .int 0, .int 0, .int 0, .int 0])), (a4, .inl (cI, 3, .inl (fun _ => 0))), (a3, .inl (cI, 3, .inl f0))] s.heap.size = A at hD ⊢
  have hA : ∀ b : Nat, s.heap.size ≤ b → A b := fun b h => by rw [← hAe]; exact Or.inr h
  clear hD0 hAe
  have hS : va_S A s.heap s.heap [] := va_S.rf
  have hl := lv_entry ([.ref a0, .int 0, .int (-1)]) (n := 5) (Nat.le_of_ble_eq_true rfl)
  rw [lg_entry_eq]
  generalize (lg_sl ([.ref a0, .int 0, .int (-1)]) ++ List.replicate (5 - (lg_sl ([.ref a0, .int 0, .int (-1)])).length) Slot.unset).toArray = ls at hl ⊢
  have hl : lv_has ls 5 [(0, .ref a0), (1, .int 0), (2, .int (-1))] := hl
  obtain ⟨H, hHe⟩ : ∃ H : Heap, H = s.heap := ⟨_, rfl⟩
  rw [← hHe] at hP
  have hS : va_S A s.heap H [] := by rw [hHe]; exact hS
  rw [← hHe]
  refine lv_aload_n hx hb dX1_weigh_0 rfl (lv_at hl 0 rfl) ?_
  refine lv_iload_n hx hb dX1_weigh_1 rfl (lv_at hl 1 rfl) ?_
  have hPc := hP.sub (ws' := [(a0, .inr (1, [.ref a1, .ref a2, .ref a3, .ref a4, .int 0, .int 0, .int 0, .int 0]))]) [0] rfl
  have hDc := hD.sub (ws' := [(a0, .inr (1, [.ref a1, .ref a2, .ref a3, .ref a4, .int 0, .int 0, .int 0, .int 0]))]) [0] (by decide) rfl
  have hFc := va_free (wc := [(a0, .inr (1, [.ref a1, .ref a2, .ref a3, .ref a4, .int 0, .int 0, .int 0, .int 0]))]) hD hS hA [0] rfl
  refine va_calli (va_runV (As := [.int 0]) (rest := []) ⟨hx, hb, hml, hown, hts⟩ (k_X1_leftOf_69 l dC dI cB cI cJ cZ cQ H.size a0 a1 a2 a3 a4) (cwV 1 hts g_k_X1_weigh_71_0 rfl rfl rfl (by decide +kernel) ⟨Nat.le_of_ble_eq_true rfl, Nat.le_of_ble_eq_true rfl⟩) ⟨fun a U g mk Z => by obtain ⟨q0, q1, qP, qK, qD⟩ := Z; exact ⟨q0, q1, qP, va_K.moved (u := U) (U := U.calling g mk a) (Vm.Alike.refl U.vm) qK, qD⟩, va_recv hK hPc (ci := 1) (q0 := 0) rfl rfl, fun U hU hW => ⟨rfl, by rw [hU], by rw [hU]; exact hPc, va_K.moved hW.alike hK, hDc.weaken (fun _ _ _ _ => trivial)⟩⟩ rfl rfl hl.1 rfl (lv_room (Nat.le_of_ble_eq_true rfl)) dX1_weigh_2 ⟨Nat.le_of_ble_eq_true rfl, Nat.le_of_ble_eq_true rfl⟩) hS (fun b _ h => hFc b h) hFc (fun r2 u1 t H1 locs ht hvm hw hB hz1 hk1 hS => ?_)
  obtain ⟨hP1, hK1, hD1⟩ := hB
  rw [ht] at hP1
  obtain ⟨hP, hD⟩ := va_join (wr := [(a4, .inl (cI, 3, .inl (fun _ => 0))), (a3, .inl (cI, 3, .inl f0))]) (w1 := [(a0, .inr (1, [.ref a1, .ref a2, .ref a3, .ref a4, .int 0, .int 0, .int 0, .int 0]))]) hP hD [0] [1, 2] rfl rfl (by decide) (by decide) hk1 hFc hP1 hD1
  clear hP1 hK1 hD1 hk1 hz1 hvm hPc hDc hFc
  generalize H1 = H at hP hS ⊢
  have hP : va_P (dC, dI) vwCl [(a4, .inl (cI, 3, .inl (fun _ => 0))), (a3, .inl (cI, 3, .inl f0)), (a0, .inr (1, [.ref a1, .ref a2, .ref a3, .ref a4, .int 0, .int 0, .int 0, .int 0]))] H := hP
  have hD : va_D A [(a4, .inl (cI, 3, .inl (fun _ => 0))), (a3, .inl (cI, 3, .inl f0)), (a0, .inr (1, [.ref a1, .ref a2, .ref a3, .ref a4, .int 0, .int 0, .int 0, .int 0]))] := hD
  subst hw
  refine lv_istore_n (lv' := [(3, .int 0), (0, .ref a0), (1, .int 0), (2, .int (-1))]) hx hb dX1_weigh_5 rfl hl (by decide) rfl (fun ls hl => ?_)
  refine lv_iload_n hx hb dX1_weigh_6 rfl (lv_at hl 0 rfl) ?_
  refine lv_iconst (v := (-1)) hx hb dX1_weigh_7 (by decide +kernel) ?_
  refine lv_icmp_ne (tgt := 12) hx hb dX1_weigh_8 (by decide) (fun _ => ?_) (fun c => absurd c (by decide +kernel))
  refine lv_aload_n hx hb dX1_weigh_12 rfl (lv_at hl 1 rfl) ?_
  refine va_get (D := (dC, dI)) (ci := 1) (v := .int 0) (C := RX1) (T := TX1) (N := 8) hx hb hts hiX1 hown hK hP 2 rfl rfl 5 (by decide) (hts _ (List.mem_of_getElem? (i := 7) rfl)) (fun _ h9 => h9) rfl dX1_weigh_13 ?_
  refine lv_if_ne (tgt := 53) hx hb dX1_weigh_16 (by decide) (fun c => absurd c (by decide +kernel)) (fun _ => ?_)
  refine lv_aload_n hx hb dX1_weigh_19 rfl (lv_at hl 1 rfl) ?_
  refine lv_iload_n hx hb dX1_weigh_20 rfl (lv_at hl 2 rfl) ?_
  refine va_put (D := (dC, dI)) (ci := 1) (v := .int 0) (ty := .int) (C := RX1) (T := TX1) (N := 8) hx hb hts hiX1 tyX1 tyX1_ok nmX1 hown hK hP hD hS 2 rfl rfl 6 (by decide) (hts _ (List.mem_of_getElem? (i := 8) rfl)) (fun _ h9 => h9) rfl (by decide +kernel) rfl rfl (Nat.le_of_ble_eq_true rfl) dX1_weigh_21 (fun H locs hP hD hS => ?_)
  have hP : va_P (dC, dI) vwCl [(a4, .inl (cI, 3, .inl (fun _ => 0))), (a3, .inl (cI, 3, .inl f0)), (a0, .inr (1, [.ref a1, .ref a2, .ref a3, .ref a4, .int 0, .int 0, .int 0, .int 0]))] H := hP
  have hD : va_D A [(a4, .inl (cI, 3, .inl (fun _ => 0))), (a3, .inl (cI, 3, .inl f0)), (a0, .inr (1, [.ref a1, .ref a2, .ref a3, .ref a4, .int 0, .int 0, .int 0, .int 0]))] := hD
  refine lv_iconst (v := 0) hx hb dX1_weigh_24 (by decide +kernel) ?_
  refine lv_istore (lv' := [(4, .int 0), (3, .int 0), (0, .ref a0), (1, .int 0), (2, .int (-1))]) hx hb dX1_weigh_25 hl (by decide) rfl (fun ls hl => ?_)
  refine lv_iload hx hb dX1_weigh_27 (lv_at hl 0 rfl) ?_
  refine lv_iconst (v := 3) hx hb dX1_weigh_29 (by decide +kernel) ?_
  refine lv_icmp_ge (tgt := 53) hx hb dX1_weigh_30 (by decide) (fun c => absurd c (by decide +kernel)) (fun _ => ?_)
  refine lv_aload_n hx hb dX1_weigh_33 rfl (lv_at hl 2 rfl) ?_
  refine va_get (D := (dC, dI)) (ci := 1) (v := .ref a3) (C := RX1) (T := TX1) (N := 8) hx hb hts hiX1 hown hK hP 2 rfl rfl 2 (by decide) (hts _ (List.mem_of_getElem? (i := 9) rfl)) (fun _ h9 => h9) rfl dX1_weigh_34 ?_
  refine lv_iload hx hb dX1_weigh_37 (lv_at hl 0 rfl) ?_
  refine lv_aload_n hx hb dX1_weigh_39 rfl (lv_at hl 2 rfl) ?_
  refine va_get (D := (dC, dI)) (ci := 1) (v := .ref a4) (C := RX1) (T := TX1) (N := 8) hx hb hts hiX1 hown hK hP 2 rfl rfl 3 (by decide) (hts _ (List.mem_of_getElem? (i := 10) rfl)) (fun _ h9 => h9) rfl dX1_weigh_40 ?_
  refine lv_iload hx hb dX1_weigh_43 (lv_at hl 0 rfl) ?_
  refine va_iald hx hb hK hP 0 1 rfl rfl (vpc _ _ (by decide +kernel)) dX1_weigh_45 ?_
  refine tp_i (y := 0) rfl ?_
  refine va_iast hx hb hK hP hD hS 1 1 rfl rfl (vpc _ _ (by decide +kernel)) dX1_weigh_46 (fun H locs hP hD hS => ?_)
  have hP : va_P (dC, dI) vwCl [(a4, .inl (cI, 3, .inl (fun _ => 0))), (a3, .inl (cI, 3, .inl (upd f0 0 0))), (a0, .inr (1, [.ref a1, .ref a2, .ref a3, .ref a4, .int 0, .int 0, .int 0, .int 0]))] H := hP
  have hD : va_D A [(a4, .inl (cI, 3, .inl (fun _ => 0))), (a3, .inl (cI, 3, .inl (upd f0 0 0))), (a0, .inr (1, [.ref a1, .ref a2, .ref a3, .ref a4, .int 0, .int 0, .int 0, .int 0]))] := hD
  refine lv_iinc (v := 1) (lv' := [(4, .int 1), (3, .int 0), (0, .ref a0), (1, .int 0), (2, .int (-1))]) hx hb dX1_weigh_47 hl (k := 0) rfl (by decide +kernel) (by decide) rfl (fun ls hl => ?_)
  refine lv_goto (tgt := 27) hx hb dX1_weigh_50 (by decide) ?_
  refine lv_iload hx hb dX1_weigh_27 (lv_at hl 0 rfl) ?_
  refine lv_iconst (v := 3) hx hb dX1_weigh_29 (by decide +kernel) ?_
  refine lv_icmp_ge (tgt := 53) hx hb dX1_weigh_30 (by decide) (fun c => absurd c (by decide +kernel)) (fun _ => ?_)
  refine lv_aload_n hx hb dX1_weigh_33 rfl (lv_at hl 2 rfl) ?_
  refine va_get (D := (dC, dI)) (ci := 1) (v := .ref a3) (C := RX1) (T := TX1) (N := 8) hx hb hts hiX1 hown hK hP 2 rfl rfl 2 (by decide) (hts _ (List.mem_of_getElem? (i := 9) rfl)) (fun _ h9 => h9) rfl dX1_weigh_34 ?_
  refine lv_iload hx hb dX1_weigh_37 (lv_at hl 0 rfl) ?_
  refine lv_aload_n hx hb dX1_weigh_39 rfl (lv_at hl 2 rfl) ?_
  refine va_get (D := (dC, dI)) (ci := 1) (v := .ref a4) (C := RX1) (T := TX1) (N := 8) hx hb hts hiX1 hown hK hP 2 rfl rfl 3 (by decide) (hts _ (List.mem_of_getElem? (i := 10) rfl)) (fun _ h9 => h9) rfl dX1_weigh_40 ?_
  refine lv_iload hx hb dX1_weigh_43 (lv_at hl 0 rfl) ?_
  refine va_iald hx hb hK hP 0 1 rfl rfl (vpc _ _ (by decide +kernel)) dX1_weigh_45 ?_
  refine tp_i (y := 0) rfl ?_
  refine va_iast hx hb hK hP hD hS 1 1 rfl rfl (vpc _ _ (by decide +kernel)) dX1_weigh_46 (fun H locs hP hD hS => ?_)
  have hP : va_P (dC, dI) vwCl [(a4, .inl (cI, 3, .inl (fun _ => 0))), (a3, .inl (cI, 3, .inl (upd (upd f0 0 0) 1 0))), (a0, .inr (1, [.ref a1, .ref a2, .ref a3, .ref a4, .int 0, .int 0, .int 0, .int 0]))] H := hP
  have hD : va_D A [(a4, .inl (cI, 3, .inl (fun _ => 0))), (a3, .inl (cI, 3, .inl (upd (upd f0 0 0) 1 0))), (a0, .inr (1, [.ref a1, .ref a2, .ref a3, .ref a4, .int 0, .int 0, .int 0, .int 0]))] := hD
  refine lv_iinc (v := 2) (lv' := [(4, .int 2), (3, .int 0), (0, .ref a0), (1, .int 0), (2, .int (-1))]) hx hb dX1_weigh_47 hl (k := 0) rfl (by decide +kernel) (by decide) rfl (fun ls hl => ?_)
  refine lv_goto (tgt := 27) hx hb dX1_weigh_50 (by decide) ?_
  refine lv_iload hx hb dX1_weigh_27 (lv_at hl 0 rfl) ?_
  refine lv_iconst (v := 3) hx hb dX1_weigh_29 (by decide +kernel) ?_
  refine lv_icmp_ge (tgt := 53) hx hb dX1_weigh_30 (by decide) (fun c => absurd c (by decide +kernel)) (fun _ => ?_)
  refine lv_aload_n hx hb dX1_weigh_33 rfl (lv_at hl 2 rfl) ?_
  refine va_get (D := (dC, dI)) (ci := 1) (v := .ref a3) (C := RX1) (T := TX1) (N := 8) hx hb hts hiX1 hown hK hP 2 rfl rfl 2 (by decide) (hts _ (List.mem_of_getElem? (i := 9) rfl)) (fun _ h9 => h9) rfl dX1_weigh_34 ?_
  refine lv_iload hx hb dX1_weigh_37 (lv_at hl 0 rfl) ?_
  refine lv_aload_n hx hb dX1_weigh_39 rfl (lv_at hl 2 rfl) ?_
  refine va_get (D := (dC, dI)) (ci := 1) (v := .ref a4) (C := RX1) (T := TX1) (N := 8) hx hb hts hiX1 hown hK hP 2 rfl rfl 3 (by decide) (hts _ (List.mem_of_getElem? (i := 10) rfl)) (fun _ h9 => h9) rfl dX1_weigh_40 ?_
  refine lv_iload hx hb dX1_weigh_43 (lv_at hl 0 rfl) ?_
  refine va_iald hx hb hK hP 0 1 rfl rfl (vpc _ _ (by decide +kernel)) dX1_weigh_45 ?_
  refine tp_i (y := 0) rfl ?_
  refine va_iast hx hb hK hP hD hS 1 1 rfl rfl (vpc _ _ (by decide +kernel)) dX1_weigh_46 (fun H locs hP hD hS => ?_)
  have hP : va_P (dC, dI) vwCl [(a4, .inl (cI, 3, .inl (fun _ => 0))), (a3, .inl (cI, 3, .inl (upd (upd (upd f0 0 0) 1 0) 2 0))), (a0, .inr (1, [.ref a1, .ref a2, .ref a3, .ref a4, .int 0, .int 0, .int 0, .int 0]))] H := hP
  have hD : va_D A [(a4, .inl (cI, 3, .inl (fun _ => 0))), (a3, .inl (cI, 3, .inl (upd (upd (upd f0 0 0) 1 0) 2 0))), (a0, .inr (1, [.ref a1, .ref a2, .ref a3, .ref a4, .int 0, .int 0, .int 0, .int 0]))] := hD
  refine lv_iinc (v := 3) (lv' := [(4, .int 3), (3, .int 0), (0, .ref a0), (1, .int 0), (2, .int (-1))]) hx hb dX1_weigh_47 hl (k := 0) rfl (by decide +kernel) (by decide) rfl (fun ls hl => ?_)
  refine lv_goto (tgt := 27) hx hb dX1_weigh_50 (by decide) ?_
  refine lv_iload hx hb dX1_weigh_27 (lv_at hl 0 rfl) ?_
  refine lv_iconst (v := 3) hx hb dX1_weigh_29 (by decide +kernel) ?_
  refine lv_icmp_ge (tgt := 53) hx hb dX1_weigh_30 (by decide) (fun _ => ?_) (fun c => absurd c (by decide +kernel))
  refine lv_aload_n hx hb dX1_weigh_53 rfl (lv_at hl 2 rfl) ?_
  refine lv_dup hx hb dX1_weigh_54 rfl ?_
  refine va_get (D := (dC, dI)) (ci := 1) (v := .int 0) (C := RX1) (T := TX1) (N := 8) hx hb hts hiX1 hown hK hP 2 rfl rfl 5 (by decide) (hts _ (List.mem_of_getElem? (i := 7) rfl)) (fun _ h9 => h9) rfl dX1_weigh_55 ?_
  refine lv_iconst (v := 1) hx hb dX1_weigh_58 (by decide +kernel) ?_
  refine lv_iadd hx hb dX1_weigh_59 ?_
  refine tp_i (y := 1) (by decide +kernel) ?_
  refine va_put (D := (dC, dI)) (ci := 1) (v := .int 1) (ty := .int) (C := RX1) (T := TX1) (N := 8) hx hb hts hiX1 tyX1 tyX1_ok nmX1 hown hK hP hD hS 2 rfl rfl 5 (by decide) (hts _ (List.mem_of_getElem? (i := 7) rfl)) (fun _ h9 => h9) rfl (by decide +kernel) rfl rfl (Nat.le_of_ble_eq_true rfl) dX1_weigh_60 (fun H locs hP hD hS => ?_)
  have hP : va_P (dC, dI) vwCl [(a4, .inl (cI, 3, .inl (fun _ => 0))), (a3, .inl (cI, 3, .inl (upd (upd (upd f0 0 0) 1 0) 2 0))), (a0, .inr (1, [.ref a1, .ref a2, .ref a3, .ref a4, .int 0, .int 1, .int 0, .int 0]))] H := hP
  have hD : va_D A [(a4, .inl (cI, 3, .inl (fun _ => 0))), (a3, .inl (cI, 3, .inl (upd (upd (upd f0 0 0) 1 0) 2 0))), (a0, .inr (1, [.ref a1, .ref a2, .ref a3, .ref a4, .int 0, .int 1, .int 0, .int 0]))] := hD
  refine lv_aload_n hx hb dX1_weigh_63 rfl (lv_at hl 2 rfl) ?_
  refine lv_iload_n hx hb dX1_weigh_64 rfl (lv_at hl 1 rfl) ?_
  have hPc := hP.sub (ws' := [(a0, .inr (1, [.ref a1, .ref a2, .ref a3, .ref a4, .int 0, .int 1, .int 0, .int 0]))]) [2] rfl
  have hDc := hD.sub (ws' := [(a0, .inr (1, [.ref a1, .ref a2, .ref a3, .ref a4, .int 0, .int 1, .int 0, .int 0]))]) [2] (by decide) rfl
  have hFc := va_free (wc := [(a0, .inr (1, [.ref a1, .ref a2, .ref a3, .ref a4, .int 0, .int 1, .int 0, .int 0]))]) hD hS hA [2] rfl
  refine va_calli (va_runV (As := [.int 0]) (rest := []) ⟨hx, hb, hml, hown, hts⟩ (k_X1_topOf_70 l dC dI cB cI cJ cZ cQ H.size a0 a1 a2 a3 a4) (cwV 1 hts g_k_X1_weigh_71_1 rfl rfl rfl (by decide +kernel) ⟨Nat.le_of_ble_eq_true rfl, Nat.le_of_ble_eq_true rfl⟩) ⟨fun a U g mk Z => by obtain ⟨q0, q1, qP, qK, qD⟩ := Z; exact ⟨q0, q1, qP, va_K.moved (u := U) (U := U.calling g mk a) (Vm.Alike.refl U.vm) qK, qD⟩, va_recv hK hPc (ci := 1) (q0 := 0) rfl rfl, fun U hU hW => ⟨rfl, by rw [hU], by rw [hU]; exact hPc, va_K.moved hW.alike hK, hDc.weaken (fun _ _ _ _ => trivial)⟩⟩ rfl rfl hl.1 rfl (lv_room (Nat.le_of_ble_eq_true rfl)) dX1_weigh_65 ⟨Nat.le_of_ble_eq_true rfl, Nat.le_of_ble_eq_true rfl⟩) hS (fun b _ h => hFc b h) hFc (fun r4 u3 t H1 locs ht hvm hw hB hz1 hk1 hS => ?_)
  obtain ⟨hP1, hK1, hD1⟩ := hB
  rw [ht] at hP1
  obtain ⟨hP, hD⟩ := va_join (wr := [(a4, .inl (cI, 3, .inl (fun _ => 0))), (a3, .inl (cI, 3, .inl (upd (upd (upd f0 0 0) 1 0) 2 0)))]) (w1 := [(a0, .inr (1, [.ref a1, .ref a2, .ref a3, .ref a4, .int 0, .int 1, .int 0, .int 0]))]) hP hD [2] [0, 1] rfl rfl (by decide) (by decide) hk1 hFc hP1 hD1
  clear hP1 hK1 hD1 hk1 hz1 hvm hPc hDc hFc
  generalize H1 = H at hP hS ⊢
  have hP : va_P (dC, dI) vwCl [(a4, .inl (cI, 3, .inl (fun _ => 0))), (a3, .inl (cI, 3, .inl (upd (upd (upd f0 0 0) 1 0) 2 0))), (a0, .inr (1, [.ref a1, .ref a2, .ref a3, .ref a4, .int 0, .int 1, .int 0, .int 0]))] H := hP
  have hD : va_D A [(a4, .inl (cI, 3, .inl (fun _ => 0))), (a3, .inl (cI, 3, .inl (upd (upd (upd f0 0 0) 1 0) 2 0))), (a0, .inr (1, [.ref a1, .ref a2, .ref a3, .ref a4, .int 0, .int 1, .int 0, .int 0]))] := hD
  subst hw
  refine lv_iload_n hx hb dX1_weigh_68 rfl (lv_at hl 4 rfl) ?_
  refine lv_icmp_ne (tgt := 82) hx hb dX1_weigh_69 (by decide) (fun c => absurd c (by decide +kernel)) (fun _ => ?_)
  refine lv_aload_n hx hb dX1_weigh_72 rfl (lv_at hl 2 rfl) ?_
  refine lv_dup hx hb dX1_weigh_73 rfl ?_
  refine va_get (D := (dC, dI)) (ci := 1) (v := .int 0) (C := RX1) (T := TX1) (N := 8) hx hb hts hiX1 hown hK hP 2 rfl rfl 7 (by decide) (hts _ (List.mem_of_getElem? (i := 15) rfl)) (fun _ h9 => h9) rfl dX1_weigh_74 ?_
  refine lv_iconst (v := 1) hx hb dX1_weigh_77 (by decide +kernel) ?_
  refine lv_iadd hx hb dX1_weigh_78 ?_
  refine tp_i (y := 1) (by decide +kernel) ?_
  refine va_put (D := (dC, dI)) (ci := 1) (v := .int 1) (ty := .int) (C := RX1) (T := TX1) (N := 8) hx hb hts hiX1 tyX1 tyX1_ok nmX1 hown hK hP hD hS 2 rfl rfl 7 (by decide) (hts _ (List.mem_of_getElem? (i := 15) rfl)) (fun _ h9 => h9) rfl (by decide +kernel) rfl rfl (Nat.le_of_ble_eq_true rfl) dX1_weigh_79 (fun H locs hP hD hS => ?_)
  have hP : va_P (dC, dI) vwCl [(a4, .inl (cI, 3, .inl (fun _ => 0))), (a3, .inl (cI, 3, .inl (upd (upd (upd f0 0 0) 1 0) 2 0))), (a0, .inr (1, [.ref a1, .ref a2, .ref a3, .ref a4, .int 0, .int 1, .int 0, .int 1]))] H := hP
  have hD : va_D A [(a4, .inl (cI, 3, .inl (fun _ => 0))), (a3, .inl (cI, 3, .inl (upd (upd (upd f0 0 0) 1 0) 2 0))), (a0, .inr (1, [.ref a1, .ref a2, .ref a3, .ref a4, .int 0, .int 1, .int 0, .int 1]))] := hD
  have hP9 := hP.sub (ws' := [(a0, .inr (1, [.ref a1, .ref a2, .ref a3, .ref a4, .int 0, .int 1, .int 0, .int 1])), (a4, .inl (cI, 3, .inl (fun _ => 0))), (a3, .inl (cI, 3, .inl (upd (upd (upd f0 0 0) 1 0) 2 0)))]) [2, 0, 1] rfl
  have hD9 := hD.sub (ws' := [(a0, .inr (1, [.ref a1, .ref a2, .ref a3, .ref a4, .int 0, .int 1, .int 0, .int 1])), (a4, .inl (cI, 3, .inl (fun _ => 0))), (a3, .inl (cI, 3, .inl (upd (upd (upd f0 0 0) 1 0) 2 0)))]) [2, 0, 1] (by decide) rfl
  exact W.vret hx hb hr (fun t ht hW => ⟨⟨(), rfl, trivial, by rw [ht]; exact hP9, va_K.moved hW.alike hK, hD9⟩, hS.F ht⟩) hS.2.2 dX1_weigh_82
def ws_k_X1_survey_72 : List Cond := .code yX1_survey cX1_survey 6 none :: ([.fieldLink RX1 29 "StackKeys$Found" "fitting" "I", .fieldLink RX1 32 "StackKeys$Found" "firstSize" "I", .fieldLink RX1 35 "StackKeys$Found" "opening" "I", .methodLink RX1 38 yX1_isRow, .instanceMethod yX1_isRow, .selects RX1 yX1_isRow yX1_isRow, .initialized RX1, .code yX1_isRow cX1_isRow 9 (some .boolean), .fieldLink RX1 46 "StackKeys$Town" "counts" "[I", .methodLink RX1 42 yX1_weigh, .instanceMethod yX1_weigh, .selects RX1 yX1_weigh yX1_weigh, .code yX1_weigh cX1_weigh 5 none, .methodLink RX1 54 yX1_leftOf, .instanceMethod yX1_leftOf, .selects RX1 yX1_leftOf yX1_leftOf, .code yX1_leftOf cX1_leftOf 4 (some .int), .fieldLink RX1 25 "StackKeys$Found" "trials" "I", .fieldLink RX1 19 "StackKeys$Found" "first" "[I", .fieldLink RX1 22 "StackKeys$Found" "row" "[I", .methodLink RX1 58 yX1_topOf, .instanceMethod yX1_topOf, .selects RX1 yX1_topOf yX1_topOf, .code yX1_topOf cX1_topOf 2 (some .int)] ++ wsX10 ++ wsX90)
set_option maxRecDepth 20000 in
theorem g_k_X1_survey_72_0 : GoodIn ws_k_X1_survey_72 (wsV RX1 38 RX1 yX1_isRow ws_k_X1_isRow_68) := goodIn_r _ [4, 5, 6, 7, 8, 9, 33, 34, 35, 36, 37, 38, 39, 40, 41, 42, 43, 44, 45, 46, 47, 48] (by decide +kernel) (by decide +kernel)
set_option maxRecDepth 20000 in
theorem g_k_X1_survey_72_1 : GoodIn ws_k_X1_survey_72 (wsV RX1 42 RX1 yX1_weigh ws_k_X1_weigh_71) := goodIn_r _ [10, 11, 12, 7, 13, 14, 15, 16, 7, 17, 18, 1, 2, 19, 20, 21, 22, 23, 24, 3, 25, 26, 27, 28, 29, 30, 31, 32] (by decide +kernel) (by decide +kernel)
set_option maxHeartbeats 4000000 in
set_option maxRecDepth 100000 in
theorem k_X1_survey_72 (l : Launch) (dC : Nat → ClassId) (dI : Nat → Nat → Nat) (cB cI cJ cZ cQ : ClassId) (sz : Nat) (a0 a1 a2 a3 a4 a5 a6 a7 a8 a9 a10 a11 a12 a13 a14 a15 a16 a17 a18 a19 a20 : Nat) (f0 : Nat → Int32) : Met l yX1_survey ws_k_X1_survey_72 ({ frames := 2, cells := 0, slots := 0, locals := 47 }) (va_Pc [.ref a0, .ref a1, .int (-1)] (fun U => U.heap.size = sz ∧ va_P (dC, dI) vwCl [(a0, .inr (1, [.ref a2, .ref a3, .ref a4, .ref a5, .int 0, .int 0, .int 0, .int 0])), (a1, .inr (9, [.ref a6, .ref a7, .ref a8, .ref a9, .ref a10, .ref a11, .ref a12, .ref a13, .ref a14, .ref a15, .ref a16, .ref a17, .ref a18, .ref a19, .ref a20, .int 0])), (a6, .inl (cI, 8, .inl (fun _ => 0))), (a5, .inl (cI, 3, .inl (fun _ => 0))), (a4, .inl (cI, 3, .inl f0))] U.heap ∧ va_K (dC, dI) vwCl (tyA cB cI cJ cZ cQ) U ∧ va_D (fun _ => True) [(a0, .inr (1, [.ref a2, .ref a3, .ref a4, .ref a5, .int 0, .int 0, .int 0, .int 0])), (a1, .inr (9, [.ref a6, .ref a7, .ref a8, .ref a9, .ref a10, .ref a11, .ref a12, .ref a13, .ref a14, .ref a15, .ref a16, .ref a17, .ref a18, .ref a19, .ref a20, .int 0])), (a6, .inl (cI, 8, .inl (fun _ => 0))), (a5, .inl (cI, 3, .inl (fun _ => 0))), (a4, .inl (cI, 3, .inl f0))])) (va_Qv (fun _ : Unit => True) (fun (u : Unit) t => va_P (dC, dI) vwCl [(a0, .inr (1, [.ref a2, .ref a3, .ref a4, .ref a5, .int 0, .int 1, .int 0, .int 1])), (a1, .inr (9, [.ref a6, .ref a7, .ref a8, .ref a9, .ref a10, .ref a11, .ref a12, .ref a13, .ref a14, .ref a15, .ref a16, .ref a17, .ref a18, .ref a19, .ref a20, .int 0])), (a6, .inl (cI, 8, .inl (fun _ => 0))), (a5, .inl (cI, 3, .inl (fun _ => 0))), (a4, .inl (cI, 3, .inl (upd (upd (upd f0 0 0) 1 0) 2 0)))] t.heap ∧ va_K (dC, dI) vwCl (tyA cB cI cJ cZ cQ) t ∧ va_D (va_A [(a0, .inr (1, [.ref a2, .ref a3, .ref a4, .ref a5, .int 0, .int 0, .int 0, .int 0])), (a1, .inr (9, [.ref a6, .ref a7, .ref a8, .ref a9, .ref a10, .ref a11, .ref a12, .ref a13, .ref a14, .ref a15, .ref a16, .ref a17, .ref a18, .ref a19, .ref a20, .int 0])), (a6, .inl (cI, 8, .inl (fun _ => 0))), (a5, .inl (cI, 3, .inl (fun _ => 0))), (a4, .inl (cI, 3, .inl f0))] sz) [(a0, .inr (1, [.ref a2, .ref a3, .ref a4, .ref a5, .int 0, .int 1, .int 0, .int 1])), (a1, .inr (9, [.ref a6, .ref a7, .ref a8, .ref a9, .ref a10, .ref a11, .ref a12, .ref a13, .ref a14, .ref a15, .ref a16, .ref a17, .ref a18, .ref a19, .ref a20, .int 0])), (a6, .inl (cI, 8, .inl (fun _ => 0))), (a5, .inl (cI, 3, .inl (fun _ => 0))), (a4, .inl (cI, 3, .inl (upd (upd (upd f0 0 0) 1 0) 2 0)))]) (va_A [(a0, .inr (1, [.ref a2, .ref a3, .ref a4, .ref a5, .int 0, .int 0, .int 0, .int 0])), (a1, .inr (9, [.ref a6, .ref a7, .ref a8, .ref a9, .ref a10, .ref a11, .ref a12, .ref a13, .ref a14, .ref a15, .ref a16, .ref a17, .ref a18, .ref a19, .ref a20, .int 0])), (a6, .inl (cI, 8, .inl (fun _ => 0))), (a5, .inl (cI, 3, .inl (fun _ => 0))), (a4, .inl (cI, 3, .inl f0))] sz)) 0 0 (va_A [(a0, .inr (1, [.ref a2, .ref a3, .ref a4, .ref a5, .int 0, .int 0, .int 0, .int 0])), (a1, .inr (9, [.ref a6, .ref a7, .ref a8, .ref a9, .ref a10, .ref a11, .ref a12, .ref a13, .ref a14, .ref a15, .ref a16, .ref a17, .ref a18, .ref a19, .ref a20, .int 0])), (a6, .inl (cI, 8, .inl (fun _ => 0))), (a5, .inl (cI, 3, .inl (fun _ => 0))), (a4, .inl (cI, 3, .inl f0))] sz) := by
  refine Met.ofW (cc := cX1_survey) (maxL := 6) (ret := none) (by decide +kernel) rfl ?_
  intro p e s m args below meth c s₁ B hml hv
  obtain ⟨rfl, hsz, hP, hK, hD0⟩ := hv
  have hx := B.exec
  have hb := B.bytes
  have hr := B.returns
  have hts := atoms_spec (ws := ws_k_X1_survey_72) B.pre
  have hown : s.vm.findClass RX1 = some m.cls := findClass_of_methodNamed B.named
  have hiX1 : ∀ w ∈ u_ws RX1 TX1 8, w ∈ ws_k_X1_survey_72 := fun w h => List.mem_cons_of_mem _ (List.mem_append_left _ (List.mem_append_right _ h))
  have hiX9 : ∀ w ∈ u_ws RX9 TX9 16, w ∈ ws_k_X1_survey_72 := fun w h => List.mem_cons_of_mem _ (List.mem_append_right _ h)
  subst hsz
  have hD := hD0.self (sz := s.heap.size)
  generalize hAe : va_A [(a0, .inr (1, [.ref a2, .ref a3, .ref a4, .ref a5, .int 0, .int 0, .int 0, .int 0])), (a1, .inr (9, [.ref a6, .ref a7, .ref a8, .ref a9, .ref a10, .ref a11, .ref a12, .ref a13, .ref a14, .ref a15, .ref a16, .ref a17, .ref a18, .ref a19, .ref a20, .int 0])), (a6, .inl (cI, 8, .inl (fun _ => 0))), (a5, .inl (cI, 3, .inl (fun _ => 0))), (a4, .inl (cI, 3, .inl f0))] s.heap.size = A at hD ⊢
  have hA : ∀ b : Nat, s.heap.size ≤ b → A b := fun b h => by rw [← hAe]; exact Or.inr h
  clear hD0 hAe
  have hS : va_S A s.heap s.heap [] := va_S.rf
  have hl := lv_entry ([.ref a0, .ref a1, .int (-1)]) (n := 6) (Nat.le_of_ble_eq_true rfl)
  rw [lg_entry_eq]
  generalize (lg_sl ([.ref a0, .ref a1, .int (-1)]) ++ List.replicate (6 - (lg_sl ([.ref a0, .ref a1, .int (-1)])).length) Slot.unset).toArray = ls at hl ⊢
  have hl : lv_has ls 6 [(0, .ref a0), (1, .ref a1), (2, .int (-1))] := hl
  obtain ⟨H, hHe⟩ : ∃ H : Heap, H = s.heap := ⟨_, rfl⟩
  rw [← hHe] at hP
  have hS : va_S A s.heap H [] := by rw [hHe]; exact hS
  rw [← hHe]
  refine lv_aload_n hx hb dX1_survey_0 rfl (lv_at hl 0 rfl) ?_
  refine lv_iconst (v := 0) hx hb dX1_survey_1 (by decide +kernel) ?_
  refine va_put (D := (dC, dI)) (ci := 1) (v := .int 0) (ty := .int) (C := RX1) (T := TX1) (N := 8) hx hb hts hiX1 tyX1 tyX1_ok nmX1 hown hK hP hD hS 0 rfl rfl 5 (by decide) (hts _ (List.mem_of_getElem? (i := 1) rfl)) (fun _ h9 => h9) rfl (by decide +kernel) rfl rfl (Nat.le_of_ble_eq_true rfl) dX1_survey_2 (fun H locs hP hD hS => ?_)
  have hP : va_P (dC, dI) vwCl [(a0, .inr (1, [.ref a2, .ref a3, .ref a4, .ref a5, .int 0, .int 0, .int 0, .int 0])), (a1, .inr (9, [.ref a6, .ref a7, .ref a8, .ref a9, .ref a10, .ref a11, .ref a12, .ref a13, .ref a14, .ref a15, .ref a16, .ref a17, .ref a18, .ref a19, .ref a20, .int 0])), (a6, .inl (cI, 8, .inl (fun _ => 0))), (a5, .inl (cI, 3, .inl (fun _ => 0))), (a4, .inl (cI, 3, .inl f0))] H := hP
  have hD : va_D A [(a0, .inr (1, [.ref a2, .ref a3, .ref a4, .ref a5, .int 0, .int 0, .int 0, .int 0])), (a1, .inr (9, [.ref a6, .ref a7, .ref a8, .ref a9, .ref a10, .ref a11, .ref a12, .ref a13, .ref a14, .ref a15, .ref a16, .ref a17, .ref a18, .ref a19, .ref a20, .int 0])), (a6, .inl (cI, 8, .inl (fun _ => 0))), (a5, .inl (cI, 3, .inl (fun _ => 0))), (a4, .inl (cI, 3, .inl f0))] := hD
  refine lv_aload_n hx hb dX1_survey_5 rfl (lv_at hl 0 rfl) ?_
  refine lv_iconst (v := 0) hx hb dX1_survey_6 (by decide +kernel) ?_
  refine va_put (D := (dC, dI)) (ci := 1) (v := .int 0) (ty := .int) (C := RX1) (T := TX1) (N := 8) hx hb hts hiX1 tyX1 tyX1_ok nmX1 hown hK hP hD hS 0 rfl rfl 6 (by decide) (hts _ (List.mem_of_getElem? (i := 2) rfl)) (fun _ h9 => h9) rfl (by decide +kernel) rfl rfl (Nat.le_of_ble_eq_true rfl) dX1_survey_7 (fun H locs hP hD hS => ?_)
  have hP : va_P (dC, dI) vwCl [(a0, .inr (1, [.ref a2, .ref a3, .ref a4, .ref a5, .int 0, .int 0, .int 0, .int 0])), (a1, .inr (9, [.ref a6, .ref a7, .ref a8, .ref a9, .ref a10, .ref a11, .ref a12, .ref a13, .ref a14, .ref a15, .ref a16, .ref a17, .ref a18, .ref a19, .ref a20, .int 0])), (a6, .inl (cI, 8, .inl (fun _ => 0))), (a5, .inl (cI, 3, .inl (fun _ => 0))), (a4, .inl (cI, 3, .inl f0))] H := hP
  have hD : va_D A [(a0, .inr (1, [.ref a2, .ref a3, .ref a4, .ref a5, .int 0, .int 0, .int 0, .int 0])), (a1, .inr (9, [.ref a6, .ref a7, .ref a8, .ref a9, .ref a10, .ref a11, .ref a12, .ref a13, .ref a14, .ref a15, .ref a16, .ref a17, .ref a18, .ref a19, .ref a20, .int 0])), (a6, .inl (cI, 8, .inl (fun _ => 0))), (a5, .inl (cI, 3, .inl (fun _ => 0))), (a4, .inl (cI, 3, .inl f0))] := hD
  refine lv_aload_n hx hb dX1_survey_10 rfl (lv_at hl 0 rfl) ?_
  refine lv_iconst (v := 0) hx hb dX1_survey_11 (by decide +kernel) ?_
  refine va_put (D := (dC, dI)) (ci := 1) (v := .int 0) (ty := .int) (C := RX1) (T := TX1) (N := 8) hx hb hts hiX1 tyX1 tyX1_ok nmX1 hown hK hP hD hS 0 rfl rfl 7 (by decide) (hts _ (List.mem_of_getElem? (i := 3) rfl)) (fun _ h9 => h9) rfl (by decide +kernel) rfl rfl (Nat.le_of_ble_eq_true rfl) dX1_survey_12 (fun H locs hP hD hS => ?_)
  have hP : va_P (dC, dI) vwCl [(a0, .inr (1, [.ref a2, .ref a3, .ref a4, .ref a5, .int 0, .int 0, .int 0, .int 0])), (a1, .inr (9, [.ref a6, .ref a7, .ref a8, .ref a9, .ref a10, .ref a11, .ref a12, .ref a13, .ref a14, .ref a15, .ref a16, .ref a17, .ref a18, .ref a19, .ref a20, .int 0])), (a6, .inl (cI, 8, .inl (fun _ => 0))), (a5, .inl (cI, 3, .inl (fun _ => 0))), (a4, .inl (cI, 3, .inl f0))] H := hP
  have hD : va_D A [(a0, .inr (1, [.ref a2, .ref a3, .ref a4, .ref a5, .int 0, .int 0, .int 0, .int 0])), (a1, .inr (9, [.ref a6, .ref a7, .ref a8, .ref a9, .ref a10, .ref a11, .ref a12, .ref a13, .ref a14, .ref a15, .ref a16, .ref a17, .ref a18, .ref a19, .ref a20, .int 0])), (a6, .inl (cI, 8, .inl (fun _ => 0))), (a5, .inl (cI, 3, .inl (fun _ => 0))), (a4, .inl (cI, 3, .inl f0))] := hD
  refine lv_iconst (v := 1) hx hb dX1_survey_15 (by decide +kernel) ?_
  refine lv_istore_n (lv' := [(3, .int 1), (0, .ref a0), (1, .ref a1), (2, .int (-1))]) hx hb dX1_survey_16 rfl hl (by decide) rfl (fun ls hl => ?_)
  refine lv_iconst (v := 0) hx hb dX1_survey_17 (by decide +kernel) ?_
  refine lv_istore (lv' := [(4, .int 0), (3, .int 1), (0, .ref a0), (1, .ref a1), (2, .int (-1))]) hx hb dX1_survey_18 hl (by decide) rfl (fun ls hl => ?_)
  refine lv_iload hx hb dX1_survey_20 (lv_at hl 0 rfl) ?_
  refine lv_iconst (v := 3) hx hb dX1_survey_22 (by decide +kernel) ?_
  refine lv_icmp_gt (tgt := 75) hx hb dX1_survey_23 (by decide) (fun c => absurd c (by decide +kernel)) (fun _ => ?_)
  refine lv_iconst (v := 0) hx hb dX1_survey_26 (by decide +kernel) ?_
  refine lv_istore (lv' := [(5, .int 0), (4, .int 0), (3, .int 1), (0, .ref a0), (1, .ref a1), (2, .int (-1))]) hx hb dX1_survey_27 hl (by decide) rfl (fun ls hl => ?_)
  refine lv_iload hx hb dX1_survey_29 (lv_at hl 0 rfl) ?_
  refine lv_iload_n hx hb dX1_survey_31 rfl (lv_at hl 2 rfl) ?_
  refine lv_icmp_ge (tgt := 60) hx hb dX1_survey_32 (by decide) (fun c => absurd c (by decide +kernel)) (fun _ => ?_)
  refine lv_aload_n hx hb dX1_survey_35 rfl (lv_at hl 3 rfl) ?_
  refine lv_aload_n hx hb dX1_survey_36 rfl (lv_at hl 4 rfl) ?_
  refine lv_iload hx hb dX1_survey_37 (lv_at hl 0 rfl) ?_
  refine lv_iload hx hb dX1_survey_39 (lv_at hl 1 rfl) ?_
  have hPc := hP.sub (ws' := [(a1, .inr (9, [.ref a6, .ref a7, .ref a8, .ref a9, .ref a10, .ref a11, .ref a12, .ref a13, .ref a14, .ref a15, .ref a16, .ref a17, .ref a18, .ref a19, .ref a20, .int 0])), (a6, .inl (cI, 8, .inl (fun _ => 0))), (a0, .inr (1, [.ref a2, .ref a3, .ref a4, .ref a5, .int 0, .int 0, .int 0, .int 0]))]) [1, 2, 0] rfl
  have hDc := hD.sub (ws' := [(a1, .inr (9, [.ref a6, .ref a7, .ref a8, .ref a9, .ref a10, .ref a11, .ref a12, .ref a13, .ref a14, .ref a15, .ref a16, .ref a17, .ref a18, .ref a19, .ref a20, .int 0])), (a6, .inl (cI, 8, .inl (fun _ => 0))), (a0, .inr (1, [.ref a2, .ref a3, .ref a4, .ref a5, .int 0, .int 0, .int 0, .int 0]))]) [1, 2, 0] (by decide) rfl
  have hFc := va_free (wc := [(a1, .inr (9, [.ref a6, .ref a7, .ref a8, .ref a9, .ref a10, .ref a11, .ref a12, .ref a13, .ref a14, .ref a15, .ref a16, .ref a17, .ref a18, .ref a19, .ref a20, .int 0])), (a6, .inl (cI, 8, .inl (fun _ => 0))), (a0, .inr (1, [.ref a2, .ref a3, .ref a4, .ref a5, .int 0, .int 0, .int 0, .int 0]))]) hD hS hA [1, 2, 0] rfl
  refine va_calli (va_runV (As := [.ref a1, .int 0, .int 0]) (rest := []) ⟨hx, hb, hml, hown, hts⟩ (k_X1_isRow_68 l dC dI cB cI cJ cZ cQ H.size a0 a1 a6 a7 a8 a9 a10 a11 a12 a13 a14 a15 a16 a17 a18 a19 a20 a2 a3 a4 a5) (cwV 3 hts g_k_X1_survey_72_0 rfl rfl rfl (by decide +kernel) ⟨Nat.le_of_ble_eq_true rfl, Nat.le_of_ble_eq_true rfl⟩) ⟨fun a U g mk Z => by obtain ⟨q0, q1, qP, qK, qD⟩ := Z; exact ⟨q0, q1, qP, va_K.moved (u := U) (U := U.calling g mk a) (Vm.Alike.refl U.vm) qK, qD⟩, va_recv hK hPc (ci := 1) (q0 := 2) rfl rfl, fun U hU hW => ⟨rfl, by rw [hU], by rw [hU]; exact hPc, va_K.moved hW.alike hK, hDc.weaken (fun _ _ _ _ => trivial)⟩⟩ rfl rfl hl.1 rfl (lv_room (Nat.le_of_ble_eq_true rfl)) dX1_survey_41 ⟨Nat.le_of_ble_eq_true rfl, Nat.le_of_ble_eq_true rfl⟩) hS (fun b _ h => hFc b h) hFc (fun r2 u1 t H1 locs ht hvm hw hB hz1 hk1 hS => ?_)
  obtain ⟨hP1, hK1, hD1⟩ := hB
  rw [ht] at hP1
  obtain ⟨hP, hD⟩ := va_join (wr := [(a5, .inl (cI, 3, .inl (fun _ => 0))), (a4, .inl (cI, 3, .inl f0))]) (w1 := [(a1, .inr (9, [.ref a6, .ref a7, .ref a8, .ref a9, .ref a10, .ref a11, .ref a12, .ref a13, .ref a14, .ref a15, .ref a16, .ref a17, .ref a18, .ref a19, .ref a20, .int 0])), (a6, .inl (cI, 8, .inl (fun _ => 0))), (a0, .inr (1, [.ref a2, .ref a3, .ref a4, .ref a5, .int 0, .int 0, .int 0, .int 0]))]) hP hD [1, 2, 0] [3, 4] rfl rfl (by decide) (by decide) hk1 hFc hP1 hD1
  clear hP1 hK1 hD1 hk1 hz1 hvm hPc hDc hFc
  generalize H1 = H at hP hS ⊢
  have hP : va_P (dC, dI) vwCl [(a5, .inl (cI, 3, .inl (fun _ => 0))), (a4, .inl (cI, 3, .inl f0)), (a1, .inr (9, [.ref a6, .ref a7, .ref a8, .ref a9, .ref a10, .ref a11, .ref a12, .ref a13, .ref a14, .ref a15, .ref a16, .ref a17, .ref a18, .ref a19, .ref a20, .int 0])), (a6, .inl (cI, 8, .inl (fun _ => 0))), (a0, .inr (1, [.ref a2, .ref a3, .ref a4, .ref a5, .int 0, .int 0, .int 0, .int 0]))] H := hP
  have hD : va_D A [(a5, .inl (cI, 3, .inl (fun _ => 0))), (a4, .inl (cI, 3, .inl f0)), (a1, .inr (9, [.ref a6, .ref a7, .ref a8, .ref a9, .ref a10, .ref a11, .ref a12, .ref a13, .ref a14, .ref a15, .ref a16, .ref a17, .ref a18, .ref a19, .ref a20, .int 0])), (a6, .inl (cI, 8, .inl (fun _ => 0))), (a0, .inr (1, [.ref a2, .ref a3, .ref a4, .ref a5, .int 0, .int 0, .int 0, .int 0]))] := hD
  subst hw
  refine lv_if_eq (tgt := 54) hx hb dX1_survey_44 (by decide) (fun c => absurd c (by decide +kernel)) (fun _ => ?_)
  refine lv_aload_n hx hb dX1_survey_47 rfl (lv_at hl 3 rfl) ?_
  refine lv_iload hx hb dX1_survey_48 (lv_at hl 1 rfl) ?_
  refine lv_iload_n hx hb dX1_survey_50 rfl (lv_at hl 5 rfl) ?_
  have hPc := hP.sub (ws' := [(a0, .inr (1, [.ref a2, .ref a3, .ref a4, .ref a5, .int 0, .int 0, .int 0, .int 0])), (a5, .inl (cI, 3, .inl (fun _ => 0))), (a4, .inl (cI, 3, .inl f0))]) [4, 0, 1] rfl
  have hDc := hD.sub (ws' := [(a0, .inr (1, [.ref a2, .ref a3, .ref a4, .ref a5, .int 0, .int 0, .int 0, .int 0])), (a5, .inl (cI, 3, .inl (fun _ => 0))), (a4, .inl (cI, 3, .inl f0))]) [4, 0, 1] (by decide) rfl
  have hFc := va_free (wc := [(a0, .inr (1, [.ref a2, .ref a3, .ref a4, .ref a5, .int 0, .int 0, .int 0, .int 0])), (a5, .inl (cI, 3, .inl (fun _ => 0))), (a4, .inl (cI, 3, .inl f0))]) hD hS hA [4, 0, 1] rfl
  refine va_callv (va_runV (As := [.int 0, .int (-1)]) (rest := []) ⟨hx, hb, hml, hown, hts⟩ (k_X1_weigh_71 l dC dI cB cI cJ cZ cQ H.size a0 a2 a3 a4 a5 f0) (cwV 2 hts g_k_X1_survey_72_1 rfl rfl rfl (by decide +kernel) ⟨Nat.le_of_ble_eq_true rfl, Nat.le_of_ble_eq_true rfl⟩) ⟨fun a U g mk Z => by obtain ⟨q0, q1, qP, qK, qD⟩ := Z; exact ⟨q0, q1, qP, va_K.moved (u := U) (U := U.calling g mk a) (Vm.Alike.refl U.vm) qK, qD⟩, va_recv hK hPc (ci := 1) (q0 := 0) rfl rfl, fun U hU hW => ⟨rfl, by rw [hU], by rw [hU]; exact hPc, va_K.moved hW.alike hK, hDc.weaken (fun _ _ _ _ => trivial)⟩⟩ rfl rfl hl.1 rfl (lv_room (Nat.le_of_ble_eq_true rfl)) dX1_survey_51 ⟨Nat.le_of_ble_eq_true rfl, Nat.le_of_ble_eq_true rfl⟩) hS (fun b _ h => hFc b h) hFc (fun u3 t H1 locs ht hvm hw hB hz1 hk1 hS => ?_)
  obtain ⟨hP1, hK1, hD1⟩ := hB
  rw [ht] at hP1
  obtain ⟨hP, hD⟩ := va_join (wr := [(a1, .inr (9, [.ref a6, .ref a7, .ref a8, .ref a9, .ref a10, .ref a11, .ref a12, .ref a13, .ref a14, .ref a15, .ref a16, .ref a17, .ref a18, .ref a19, .ref a20, .int 0])), (a6, .inl (cI, 8, .inl (fun _ => 0)))]) (w1 := [(a0, .inr (1, [.ref a2, .ref a3, .ref a4, .ref a5, .int 0, .int 1, .int 0, .int 1])), (a5, .inl (cI, 3, .inl (fun _ => 0))), (a4, .inl (cI, 3, .inl (upd (upd (upd f0 0 0) 1 0) 2 0)))]) hP hD [4, 0, 1] [2, 3] rfl rfl (by decide) (by decide) hk1 hFc hP1 hD1
  clear hP1 hK1 hD1 hk1 hz1 hvm hPc hDc hFc
  generalize H1 = H at hP hS ⊢
  have hP : va_P (dC, dI) vwCl [(a1, .inr (9, [.ref a6, .ref a7, .ref a8, .ref a9, .ref a10, .ref a11, .ref a12, .ref a13, .ref a14, .ref a15, .ref a16, .ref a17, .ref a18, .ref a19, .ref a20, .int 0])), (a6, .inl (cI, 8, .inl (fun _ => 0))), (a0, .inr (1, [.ref a2, .ref a3, .ref a4, .ref a5, .int 0, .int 1, .int 0, .int 1])), (a5, .inl (cI, 3, .inl (fun _ => 0))), (a4, .inl (cI, 3, .inl (upd (upd (upd f0 0 0) 1 0) 2 0)))] H := hP
  have hD : va_D A [(a1, .inr (9, [.ref a6, .ref a7, .ref a8, .ref a9, .ref a10, .ref a11, .ref a12, .ref a13, .ref a14, .ref a15, .ref a16, .ref a17, .ref a18, .ref a19, .ref a20, .int 0])), (a6, .inl (cI, 8, .inl (fun _ => 0))), (a0, .inr (1, [.ref a2, .ref a3, .ref a4, .ref a5, .int 0, .int 1, .int 0, .int 1])), (a5, .inl (cI, 3, .inl (fun _ => 0))), (a4, .inl (cI, 3, .inl (upd (upd (upd f0 0 0) 1 0) 2 0)))] := hD
  refine lv_iinc (v := 1) (lv' := [(5, .int 1), (4, .int 0), (3, .int 1), (0, .ref a0), (1, .ref a1), (2, .int (-1))]) hx hb dX1_survey_54 hl (k := 0) rfl (by decide +kernel) (by decide) rfl (fun ls hl => ?_)
  refine lv_goto (tgt := 29) hx hb dX1_survey_57 (by decide) ?_
  refine lv_iload hx hb dX1_survey_29 (lv_at hl 0 rfl) ?_
  refine lv_iload_n hx hb dX1_survey_31 rfl (lv_at hl 2 rfl) ?_
  refine lv_icmp_ge (tgt := 60) hx hb dX1_survey_32 (by decide) (fun _ => ?_) (fun c => absurd c (by decide +kernel))
  refine lv_iload_n hx hb dX1_survey_60 rfl (lv_at hl 2 rfl) ?_
  refine lv_aload_n hx hb dX1_survey_61 rfl (lv_at hl 4 rfl) ?_
  refine va_get (D := (dC, dI)) (ci := 9) (v := .ref a6) (C := RX9) (T := TX9) (N := 16) hx hb hts hiX9 hown hK hP 0 rfl rfl 0 (by decide) (hts _ (List.mem_of_getElem? (i := 9) rfl)) (fun _ h9 => h9) rfl dX1_survey_62 ?_
  refine lv_iconst (v := 1) hx hb dX1_survey_65 (by decide +kernel) ?_
  refine va_iald hx hb hK hP 1 1 rfl rfl (vpc _ _ (by decide +kernel)) dX1_survey_66 ?_
  refine tp_i (y := 0) rfl ?_
  refine lv_imul hx hb dX1_survey_67 ?_
  refine tp_i (y := 0) (by decide +kernel) ?_
  refine lv_istore_n (lv' := [(3, .int 0), (5, .int 1), (4, .int 0), (0, .ref a0), (1, .ref a1), (2, .int (-1))]) hx hb dX1_survey_68 rfl hl (by decide) rfl (fun ls hl => ?_)
  refine lv_iinc (v := 1) (lv' := [(4, .int 1), (3, .int 0), (5, .int 1), (0, .ref a0), (1, .ref a1), (2, .int (-1))]) hx hb dX1_survey_69 hl (k := 2) rfl (by decide +kernel) (by decide) rfl (fun ls hl => ?_)
  refine lv_goto (tgt := 20) hx hb dX1_survey_72 (by decide) ?_
  refine lv_iload hx hb dX1_survey_20 (lv_at hl 0 rfl) ?_
  refine lv_iconst (v := 3) hx hb dX1_survey_22 (by decide +kernel) ?_
  refine lv_icmp_gt (tgt := 75) hx hb dX1_survey_23 (by decide) (fun c => absurd c (by decide +kernel)) (fun _ => ?_)
  refine lv_iconst (v := 0) hx hb dX1_survey_26 (by decide +kernel) ?_
  refine lv_istore (lv' := [(5, .int 0), (4, .int 1), (3, .int 0), (0, .ref a0), (1, .ref a1), (2, .int (-1))]) hx hb dX1_survey_27 hl (by decide) rfl (fun ls hl => ?_)
  refine lv_iload hx hb dX1_survey_29 (lv_at hl 0 rfl) ?_
  refine lv_iload_n hx hb dX1_survey_31 rfl (lv_at hl 2 rfl) ?_
  refine lv_icmp_ge (tgt := 60) hx hb dX1_survey_32 (by decide) (fun _ => ?_) (fun c => absurd c (by decide +kernel))
  refine lv_iload_n hx hb dX1_survey_60 rfl (lv_at hl 2 rfl) ?_
  refine lv_aload_n hx hb dX1_survey_61 rfl (lv_at hl 4 rfl) ?_
  refine va_get (D := (dC, dI)) (ci := 9) (v := .ref a6) (C := RX9) (T := TX9) (N := 16) hx hb hts hiX9 hown hK hP 0 rfl rfl 0 (by decide) (hts _ (List.mem_of_getElem? (i := 9) rfl)) (fun _ h9 => h9) rfl dX1_survey_62 ?_
  refine lv_iconst (v := 1) hx hb dX1_survey_65 (by decide +kernel) ?_
  refine va_iald hx hb hK hP 1 1 rfl rfl (vpc _ _ (by decide +kernel)) dX1_survey_66 ?_
  refine tp_i (y := 0) rfl ?_
  refine lv_imul hx hb dX1_survey_67 ?_
  refine tp_i (y := 0) (by decide +kernel) ?_
  refine lv_istore_n (lv' := [(3, .int 0), (5, .int 0), (4, .int 1), (0, .ref a0), (1, .ref a1), (2, .int (-1))]) hx hb dX1_survey_68 rfl hl (by decide) rfl (fun ls hl => ?_)
  refine lv_iinc (v := 2) (lv' := [(4, .int 2), (3, .int 0), (5, .int 0), (0, .ref a0), (1, .ref a1), (2, .int (-1))]) hx hb dX1_survey_69 hl (k := 2) rfl (by decide +kernel) (by decide) rfl (fun ls hl => ?_)
  refine lv_goto (tgt := 20) hx hb dX1_survey_72 (by decide) ?_
  refine lv_iload hx hb dX1_survey_20 (lv_at hl 0 rfl) ?_
  refine lv_iconst (v := 3) hx hb dX1_survey_22 (by decide +kernel) ?_
  refine lv_icmp_gt (tgt := 75) hx hb dX1_survey_23 (by decide) (fun c => absurd c (by decide +kernel)) (fun _ => ?_)
  refine lv_iconst (v := 0) hx hb dX1_survey_26 (by decide +kernel) ?_
  refine lv_istore (lv' := [(5, .int 0), (4, .int 2), (3, .int 0), (0, .ref a0), (1, .ref a1), (2, .int (-1))]) hx hb dX1_survey_27 hl (by decide) rfl (fun ls hl => ?_)
  refine lv_iload hx hb dX1_survey_29 (lv_at hl 0 rfl) ?_
  refine lv_iload_n hx hb dX1_survey_31 rfl (lv_at hl 2 rfl) ?_
  refine lv_icmp_ge (tgt := 60) hx hb dX1_survey_32 (by decide) (fun _ => ?_) (fun c => absurd c (by decide +kernel))
  refine lv_iload_n hx hb dX1_survey_60 rfl (lv_at hl 2 rfl) ?_
  refine lv_aload_n hx hb dX1_survey_61 rfl (lv_at hl 4 rfl) ?_
  refine va_get (D := (dC, dI)) (ci := 9) (v := .ref a6) (C := RX9) (T := TX9) (N := 16) hx hb hts hiX9 hown hK hP 0 rfl rfl 0 (by decide) (hts _ (List.mem_of_getElem? (i := 9) rfl)) (fun _ h9 => h9) rfl dX1_survey_62 ?_
  refine lv_iconst (v := 1) hx hb dX1_survey_65 (by decide +kernel) ?_
  refine va_iald hx hb hK hP 1 1 rfl rfl (vpc _ _ (by decide +kernel)) dX1_survey_66 ?_
  refine tp_i (y := 0) rfl ?_
  refine lv_imul hx hb dX1_survey_67 ?_
  refine tp_i (y := 0) (by decide +kernel) ?_
  refine lv_istore_n (lv' := [(3, .int 0), (5, .int 0), (4, .int 2), (0, .ref a0), (1, .ref a1), (2, .int (-1))]) hx hb dX1_survey_68 rfl hl (by decide) rfl (fun ls hl => ?_)
  refine lv_iinc (v := 3) (lv' := [(4, .int 3), (3, .int 0), (5, .int 0), (0, .ref a0), (1, .ref a1), (2, .int (-1))]) hx hb dX1_survey_69 hl (k := 2) rfl (by decide +kernel) (by decide) rfl (fun ls hl => ?_)
  refine lv_goto (tgt := 20) hx hb dX1_survey_72 (by decide) ?_
  refine lv_iload hx hb dX1_survey_20 (lv_at hl 0 rfl) ?_
  refine lv_iconst (v := 3) hx hb dX1_survey_22 (by decide +kernel) ?_
  refine lv_icmp_gt (tgt := 75) hx hb dX1_survey_23 (by decide) (fun c => absurd c (by decide +kernel)) (fun _ => ?_)
  refine lv_iconst (v := 0) hx hb dX1_survey_26 (by decide +kernel) ?_
  refine lv_istore (lv' := [(5, .int 0), (4, .int 3), (3, .int 0), (0, .ref a0), (1, .ref a1), (2, .int (-1))]) hx hb dX1_survey_27 hl (by decide) rfl (fun ls hl => ?_)
  refine lv_iload hx hb dX1_survey_29 (lv_at hl 0 rfl) ?_
  refine lv_iload_n hx hb dX1_survey_31 rfl (lv_at hl 2 rfl) ?_
  refine lv_icmp_ge (tgt := 60) hx hb dX1_survey_32 (by decide) (fun _ => ?_) (fun c => absurd c (by decide +kernel))
  refine lv_iload_n hx hb dX1_survey_60 rfl (lv_at hl 2 rfl) ?_
  refine lv_aload_n hx hb dX1_survey_61 rfl (lv_at hl 4 rfl) ?_
  refine va_get (D := (dC, dI)) (ci := 9) (v := .ref a6) (C := RX9) (T := TX9) (N := 16) hx hb hts hiX9 hown hK hP 0 rfl rfl 0 (by decide) (hts _ (List.mem_of_getElem? (i := 9) rfl)) (fun _ h9 => h9) rfl dX1_survey_62 ?_
  refine lv_iconst (v := 1) hx hb dX1_survey_65 (by decide +kernel) ?_
  refine va_iald hx hb hK hP 1 1 rfl rfl (vpc _ _ (by decide +kernel)) dX1_survey_66 ?_
  refine tp_i (y := 0) rfl ?_
  refine lv_imul hx hb dX1_survey_67 ?_
  refine tp_i (y := 0) (by decide +kernel) ?_
  refine lv_istore_n (lv' := [(3, .int 0), (5, .int 0), (4, .int 3), (0, .ref a0), (1, .ref a1), (2, .int (-1))]) hx hb dX1_survey_68 rfl hl (by decide) rfl (fun ls hl => ?_)
  refine lv_iinc (v := 4) (lv' := [(4, .int 4), (3, .int 0), (5, .int 0), (0, .ref a0), (1, .ref a1), (2, .int (-1))]) hx hb dX1_survey_69 hl (k := 2) rfl (by decide +kernel) (by decide) rfl (fun ls hl => ?_)
  refine lv_goto (tgt := 20) hx hb dX1_survey_72 (by decide) ?_
  refine lv_iload hx hb dX1_survey_20 (lv_at hl 0 rfl) ?_
  refine lv_iconst (v := 3) hx hb dX1_survey_22 (by decide +kernel) ?_
  refine lv_icmp_gt (tgt := 75) hx hb dX1_survey_23 (by decide) (fun _ => ?_) (fun c => absurd c (by decide +kernel))
  have hP9 := hP.sub (ws' := [(a0, .inr (1, [.ref a2, .ref a3, .ref a4, .ref a5, .int 0, .int 1, .int 0, .int 1])), (a1, .inr (9, [.ref a6, .ref a7, .ref a8, .ref a9, .ref a10, .ref a11, .ref a12, .ref a13, .ref a14, .ref a15, .ref a16, .ref a17, .ref a18, .ref a19, .ref a20, .int 0])), (a6, .inl (cI, 8, .inl (fun _ => 0))), (a5, .inl (cI, 3, .inl (fun _ => 0))), (a4, .inl (cI, 3, .inl (upd (upd (upd f0 0 0) 1 0) 2 0)))]) [2, 0, 1, 3, 4] rfl
  have hD9 := hD.sub (ws' := [(a0, .inr (1, [.ref a2, .ref a3, .ref a4, .ref a5, .int 0, .int 1, .int 0, .int 1])), (a1, .inr (9, [.ref a6, .ref a7, .ref a8, .ref a9, .ref a10, .ref a11, .ref a12, .ref a13, .ref a14, .ref a15, .ref a16, .ref a17, .ref a18, .ref a19, .ref a20, .int 0])), (a6, .inl (cI, 8, .inl (fun _ => 0))), (a5, .inl (cI, 3, .inl (fun _ => 0))), (a4, .inl (cI, 3, .inl (upd (upd (upd f0 0 0) 1 0) 2 0)))]) [2, 0, 1, 3, 4] (by decide) rfl
  exact W.vret hx hb hr (fun t ht hW => ⟨⟨(), rfl, trivial, by rw [ht]; exact hP9, va_K.moved hW.alike hK, hD9⟩, hS.F ht⟩) hS.2.2 dX1_survey_75
def ws_p_X11_fits : List Cond := .code yX11_fits cX11_fits 2 (some .int) :: ([.fieldLink RX11 42 "StackKeys" "found" "LStackKeys$Found;", .fieldLink RX11 74 "StackKeys" "present" "LStackKeys$Town;", .methodLink RX11 249 yX1_survey, .instanceMethod yX1_survey, .selects RX1 yX1_survey yX1_survey, .initialized RX1, .code yX1_survey cX1_survey 6 none, .fieldLink RX1 29 "StackKeys$Found" "fitting" "I", .fieldLink RX1 32 "StackKeys$Found" "firstSize" "I", .fieldLink RX1 35 "StackKeys$Found" "opening" "I", .methodLink RX1 38 yX1_isRow, .instanceMethod yX1_isRow, .selects RX1 yX1_isRow yX1_isRow, .code yX1_isRow cX1_isRow 9 (some .boolean), .fieldLink RX1 46 "StackKeys$Town" "counts" "[I", .methodLink RX1 42 yX1_weigh, .instanceMethod yX1_weigh, .selects RX1 yX1_weigh yX1_weigh, .code yX1_weigh cX1_weigh 5 none, .methodLink RX1 54 yX1_leftOf, .instanceMethod yX1_leftOf, .selects RX1 yX1_leftOf yX1_leftOf, .code yX1_leftOf cX1_leftOf 4 (some .int), .fieldLink RX1 25 "StackKeys$Found" "trials" "I", .fieldLink RX1 19 "StackKeys$Found" "first" "[I", .fieldLink RX1 22 "StackKeys$Found" "row" "[I", .methodLink RX1 58 yX1_topOf, .instanceMethod yX1_topOf, .selects RX1 yX1_topOf yX1_topOf, .code yX1_topOf cX1_topOf 2 (some .int), .fieldLink RX11 256 "StackKeys$Found" "firstSize" "I", .fieldLink RX11 253 "StackKeys$Found" "fitting" "I"] ++ wsX110 ++ wsX10 ++ wsX90)
set_option maxRecDepth 20000 in
theorem g_p_X11_fits_0 : GoodIn ws_p_X11_fits (wsV RX11 249 RX1 yX1_survey ws_k_X1_survey_72) := goodIn_r _ [3, 4, 5, 6, 7, 8, 9, 10, 11, 12, 13, 6, 14, 15, 16, 17, 18, 19, 20, 21, 22, 23, 24, 25, 26, 27, 28, 29, 30, 44, 45, 46, 47, 48, 49, 50, 51, 52, 53, 54, 55, 56, 57, 58, 59, 60, 61, 62, 63, 64, 65, 66, 67] (by decide +kernel) (by decide +kernel)
set_option maxHeartbeats 4000000 in
set_option maxRecDepth 100000 in
theorem p_X11_fits (l : Launch) (dC : Nat → ClassId) (dI : Nat → Nat → Nat) (cB cI cJ cZ cQ : ClassId) (sz : Nat) (a0 a1 a2 a3 a4 a5 a6 a7 a8 a9 a10 a11 a12 a13 a14 a15 a16 a17 a18 a19 a20 a21 a22 a23 a24 a25 a26 a27 a28 a29 a30 : Nat) (x0 : Int32) : Met l yX11_fits ws_p_X11_fits ({ frames := 3, cells := 0, slots := 0, locals := 72 }) (va_Pc [.ref a0, .int x0] (fun U => U.heap.size = sz ∧ va_P (dC, dI) vwCl [(a0, .inr (11, [.ref a1, .ref a2, .ref a3, .ref a4, .ref a5, .ref a6, .ref a7, .ref a8, .ref a9, .ref a10, .ref a11])), (a5, .inr (1, [.ref a12, .ref a13, .ref a14, .ref a15, .int 0, .int 0, .int 0, .int 0])), (a10, .inr (9, [.ref a16, .ref a17, .ref a18, .ref a19, .ref a20, .ref a21, .ref a22, .ref a23, .ref a24, .ref a25, .ref a26, .ref a27, .ref a28, .ref a29, .ref a30, .int 0])), (a16, .inl (cI, 8, .inl (fun _ => 0))), (a15, .inl (cI, 3, .inl (fun _ => 0))), (a14, .inl (cI, 3, .inl (fun _ => 0)))] U.heap ∧ va_K (dC, dI) vwCl (tyA cB cI cJ cZ cQ) U ∧ va_D (fun _ => True) [(a0, .inr (11, [.ref a1, .ref a2, .ref a3, .ref a4, .ref a5, .ref a6, .ref a7, .ref a8, .ref a9, .ref a10, .ref a11])), (a5, .inr (1, [.ref a12, .ref a13, .ref a14, .ref a15, .int 0, .int 0, .int 0, .int 0])), (a10, .inr (9, [.ref a16, .ref a17, .ref a18, .ref a19, .ref a20, .ref a21, .ref a22, .ref a23, .ref a24, .ref a25, .ref a26, .ref a27, .ref a28, .ref a29, .ref a30, .int 0])), (a16, .inl (cI, 8, .inl (fun _ => 0))), (a15, .inl (cI, 3, .inl (fun _ => 0))), (a14, .inl (cI, 3, .inl (fun _ => 0)))])) (va_Qi (fun (r : Int32) (_ : Unit) => (r = (-1) ∧ ((x0.toInt ≠ (-1) ∧ x0.toInt < 0) ∨ (x0.toInt ≠ (-1) ∧ x0.toInt ≥ 0))) ∨ (r = 1 ∧ ((x0.toInt = (-1))))) (fun (_ : Unit) _ => True) (va_A [(a0, .inr (11, [.ref a1, .ref a2, .ref a3, .ref a4, .ref a5, .ref a6, .ref a7, .ref a8, .ref a9, .ref a10, .ref a11])), (a5, .inr (1, [.ref a12, .ref a13, .ref a14, .ref a15, .int 0, .int 0, .int 0, .int 0])), (a10, .inr (9, [.ref a16, .ref a17, .ref a18, .ref a19, .ref a20, .ref a21, .ref a22, .ref a23, .ref a24, .ref a25, .ref a26, .ref a27, .ref a28, .ref a29, .ref a30, .int 0])), (a16, .inl (cI, 8, .inl (fun _ => 0))), (a15, .inl (cI, 3, .inl (fun _ => 0))), (a14, .inl (cI, 3, .inl (fun _ => 0)))] sz)) 0 0 (va_A [(a0, .inr (11, [.ref a1, .ref a2, .ref a3, .ref a4, .ref a5, .ref a6, .ref a7, .ref a8, .ref a9, .ref a10, .ref a11])), (a5, .inr (1, [.ref a12, .ref a13, .ref a14, .ref a15, .int 0, .int 0, .int 0, .int 0])), (a10, .inr (9, [.ref a16, .ref a17, .ref a18, .ref a19, .ref a20, .ref a21, .ref a22, .ref a23, .ref a24, .ref a25, .ref a26, .ref a27, .ref a28, .ref a29, .ref a30, .int 0])), (a16, .inl (cI, 8, .inl (fun _ => 0))), (a15, .inl (cI, 3, .inl (fun _ => 0))), (a14, .inl (cI, 3, .inl (fun _ => 0)))] sz) := by
  refine Met.ofW (cc := cX11_fits) (maxL := 2) (ret := (some .int)) (by decide +kernel) rfl ?_
  intro p e s m args below meth c s₁ B hml hv
  obtain ⟨rfl, hsz, hP, hK, hD0⟩ := hv
  have hx := B.exec
  have hb := B.bytes
  have hr := B.returns
  have hts := atoms_spec (ws := ws_p_X11_fits) B.pre
  have hown : s.vm.findClass RX11 = some m.cls := findClass_of_methodNamed B.named
  have hiX11 : ∀ w ∈ u_ws RX11 TX11 11, w ∈ ws_p_X11_fits := fun w h => List.mem_cons_of_mem _ (List.mem_append_left _ (List.mem_append_left _ (List.mem_append_right _ h)))
  have hiX1 : ∀ w ∈ u_ws RX1 TX1 8, w ∈ ws_p_X11_fits := fun w h => List.mem_cons_of_mem _ (List.mem_append_left _ (List.mem_append_right _ h))
  have hiX9 : ∀ w ∈ u_ws RX9 TX9 16, w ∈ ws_p_X11_fits := fun w h => List.mem_cons_of_mem _ (List.mem_append_right _ h)
  subst hsz
  have hD := hD0.self (sz := s.heap.size)
  generalize hAe : va_A [(a0, .inr (11, [.ref a1, .ref a2, .ref a3, .ref a4, .ref a5, .ref a6, .ref a7, .ref a8, .ref a9, .ref a10, .ref a11])), (a5, .inr (1, [.ref a12, .ref a13, .ref a14, .ref a15, .int 0, .int 0, .int 0, .int 0])), (a10, .inr (9, [.ref a16, .ref a17, .ref a18, .ref a19, .ref a20, .ref a21, .ref a22, .ref a23, .ref a24, .ref a25, .ref a26, .ref a27, .ref a28, .ref a29, .ref a30, .int 0])), (a16, .inl (cI, 8, .inl (fun _ => 0))), (a15, .inl (cI, 3, .inl (fun _ => 0))), (a14, .inl (cI, 3, .inl (fun _ => 0)))] s.heap.size = A at hD ⊢
  have hA : ∀ b : Nat, s.heap.size ≤ b → A b := fun b h => by rw [← hAe]; exact Or.inr h
  clear hD0 hAe
  have hS : va_S A s.heap s.heap [] := va_S.rf
  have hl := lv_entry ([.ref a0, .int x0]) (n := 2) (Nat.le_of_ble_eq_true rfl)
  rw [lg_entry_eq]
  generalize (lg_sl ([.ref a0, .int x0]) ++ List.replicate (2 - (lg_sl ([.ref a0, .int x0])).length) Slot.unset).toArray = ls at hl ⊢
  have hl : lv_has ls 2 [(0, .ref a0), (1, .int x0)] := hl
  obtain ⟨H, hHe⟩ : ∃ H : Heap, H = s.heap := ⟨_, rfl⟩
  rw [← hHe] at hP
  have hS : va_S A s.heap H [] := by rw [hHe]; exact hS
  rw [← hHe]
  refine lv_aload_n hx hb dX11_fits_0 rfl (lv_at hl 0 rfl) ?_
  refine va_get (D := (dC, dI)) (ci := 11) (v := .ref a5) (C := RX11) (T := TX11) (N := 11) hx hb hts hiX11 hown hK hP 0 rfl rfl 4 (by decide) (hts _ (List.mem_of_getElem? (i := 1) rfl)) (fun _ h9 => h9) rfl dX11_fits_1 ?_
  refine lv_aload_n hx hb dX11_fits_4 rfl (lv_at hl 0 rfl) ?_
  refine va_get (D := (dC, dI)) (ci := 11) (v := .ref a10) (C := RX11) (T := TX11) (N := 11) hx hb hts hiX11 hown hK hP 0 rfl rfl 9 (by decide) (hts _ (List.mem_of_getElem? (i := 2) rfl)) (fun _ h9 => h9) rfl dX11_fits_5 ?_
  refine lv_iconst (v := (-1)) hx hb dX11_fits_8 (by decide +kernel) ?_
  have hPc := hP.sub (ws' := [(a5, .inr (1, [.ref a12, .ref a13, .ref a14, .ref a15, .int 0, .int 0, .int 0, .int 0])), (a10, .inr (9, [.ref a16, .ref a17, .ref a18, .ref a19, .ref a20, .ref a21, .ref a22, .ref a23, .ref a24, .ref a25, .ref a26, .ref a27, .ref a28, .ref a29, .ref a30, .int 0])), (a16, .inl (cI, 8, .inl (fun _ => 0))), (a15, .inl (cI, 3, .inl (fun _ => 0))), (a14, .inl (cI, 3, .inl (fun _ => 0)))]) [1, 2, 3, 4, 5] rfl
  have hDc := hD.sub (ws' := [(a5, .inr (1, [.ref a12, .ref a13, .ref a14, .ref a15, .int 0, .int 0, .int 0, .int 0])), (a10, .inr (9, [.ref a16, .ref a17, .ref a18, .ref a19, .ref a20, .ref a21, .ref a22, .ref a23, .ref a24, .ref a25, .ref a26, .ref a27, .ref a28, .ref a29, .ref a30, .int 0])), (a16, .inl (cI, 8, .inl (fun _ => 0))), (a15, .inl (cI, 3, .inl (fun _ => 0))), (a14, .inl (cI, 3, .inl (fun _ => 0)))]) [1, 2, 3, 4, 5] (by decide) rfl
  have hFc := va_free (wc := [(a5, .inr (1, [.ref a12, .ref a13, .ref a14, .ref a15, .int 0, .int 0, .int 0, .int 0])), (a10, .inr (9, [.ref a16, .ref a17, .ref a18, .ref a19, .ref a20, .ref a21, .ref a22, .ref a23, .ref a24, .ref a25, .ref a26, .ref a27, .ref a28, .ref a29, .ref a30, .int 0])), (a16, .inl (cI, 8, .inl (fun _ => 0))), (a15, .inl (cI, 3, .inl (fun _ => 0))), (a14, .inl (cI, 3, .inl (fun _ => 0)))]) hD hS hA [1, 2, 3, 4, 5] rfl
  refine va_callv (va_runV (As := [.ref a10, .int (-1)]) (rest := []) ⟨hx, hb, hml, hown, hts⟩ (k_X1_survey_72 l dC dI cB cI cJ cZ cQ H.size a5 a10 a12 a13 a14 a15 a16 a17 a18 a19 a20 a21 a22 a23 a24 a25 a26 a27 a28 a29 a30 (fun _ => 0)) (cwV 2 hts g_p_X11_fits_0 rfl rfl rfl (by decide +kernel) ⟨Nat.le_of_ble_eq_true rfl, Nat.le_of_ble_eq_true rfl⟩) ⟨fun a U g mk Z => by obtain ⟨q0, q1, qP, qK, qD⟩ := Z; exact ⟨q0, q1, qP, va_K.moved (u := U) (U := U.calling g mk a) (Vm.Alike.refl U.vm) qK, qD⟩, va_recv hK hPc (ci := 1) (q0 := 0) rfl rfl, fun U hU hW => ⟨rfl, by rw [hU], by rw [hU]; exact hPc, va_K.moved hW.alike hK, hDc.weaken (fun _ _ _ _ => trivial)⟩⟩ rfl rfl hl.1 rfl (lv_room (Nat.le_of_ble_eq_true rfl)) dX11_fits_9 ⟨Nat.le_of_ble_eq_true rfl, Nat.le_of_ble_eq_true rfl⟩) hS (fun b _ h => hFc b h) hFc (fun u1 t H1 locs ht hvm hw hB hz1 hk1 hS => ?_)
  obtain ⟨hP1, hK1, hD1⟩ := hB
  rw [ht] at hP1
  obtain ⟨hP, hD⟩ := va_join (wr := [(a0, .inr (11, [.ref a1, .ref a2, .ref a3, .ref a4, .ref a5, .ref a6, .ref a7, .ref a8, .ref a9, .ref a10, .ref a11]))]) (w1 := [(a5, .inr (1, [.ref a12, .ref a13, .ref a14, .ref a15, .int 0, .int 1, .int 0, .int 1])), (a10, .inr (9, [.ref a16, .ref a17, .ref a18, .ref a19, .ref a20, .ref a21, .ref a22, .ref a23, .ref a24, .ref a25, .ref a26, .ref a27, .ref a28, .ref a29, .ref a30, .int 0])), (a16, .inl (cI, 8, .inl (fun _ => 0))), (a15, .inl (cI, 3, .inl (fun _ => 0))), (a14, .inl (cI, 3, .inl (upd (upd (upd (fun _ => 0) 0 0) 1 0) 2 0)))]) hP hD [1, 2, 3, 4, 5] [0] rfl rfl (by decide) (by decide) hk1 hFc hP1 hD1
  clear hP1 hK1 hD1 hk1 hz1 hvm hPc hDc hFc
  generalize H1 = H at hP hS ⊢
  have hP : va_P (dC, dI) vwCl [(a0, .inr (11, [.ref a1, .ref a2, .ref a3, .ref a4, .ref a5, .ref a6, .ref a7, .ref a8, .ref a9, .ref a10, .ref a11])), (a5, .inr (1, [.ref a12, .ref a13, .ref a14, .ref a15, .int 0, .int 1, .int 0, .int 1])), (a10, .inr (9, [.ref a16, .ref a17, .ref a18, .ref a19, .ref a20, .ref a21, .ref a22, .ref a23, .ref a24, .ref a25, .ref a26, .ref a27, .ref a28, .ref a29, .ref a30, .int 0])), (a16, .inl (cI, 8, .inl (fun _ => 0))), (a15, .inl (cI, 3, .inl (fun _ => 0))), (a14, .inl (cI, 3, .inl (upd (upd (upd (fun _ => 0) 0 0) 1 0) 2 0)))] H := hP
  have hD : va_D A [(a0, .inr (11, [.ref a1, .ref a2, .ref a3, .ref a4, .ref a5, .ref a6, .ref a7, .ref a8, .ref a9, .ref a10, .ref a11])), (a5, .inr (1, [.ref a12, .ref a13, .ref a14, .ref a15, .int 0, .int 1, .int 0, .int 1])), (a10, .inr (9, [.ref a16, .ref a17, .ref a18, .ref a19, .ref a20, .ref a21, .ref a22, .ref a23, .ref a24, .ref a25, .ref a26, .ref a27, .ref a28, .ref a29, .ref a30, .int 0])), (a16, .inl (cI, 8, .inl (fun _ => 0))), (a15, .inl (cI, 3, .inl (fun _ => 0))), (a14, .inl (cI, 3, .inl (upd (upd (upd (fun _ => 0) 0 0) 1 0) 2 0)))] := hD
  refine lv_iload_n hx hb dX11_fits_12 rfl (lv_at hl 1 rfl) ?_
  refine lv_iconst (v := (-1)) hx hb dX11_fits_13 (by decide +kernel) ?_
  refine lv_icmp_ne (tgt := 25) hx hb dX11_fits_14 (by decide) (fun c3 => ?_) (fun c3 => ?_)
  · have c3i := mt (fa_eq _ _).mpr c3
    have c3k : (-1 : Int32).toInt = -1 := (by decide +kernel)
    refine lv_iload_n hx hb dX11_fits_25 rfl (lv_at hl 1 rfl) ?_
    refine lv_if_lt (tgt := 57) hx hb dX11_fits_26 (by decide) (fun c4 => ?_) (fun c4 => ?_)
    · have c4i := (fa_lt _ _).mp c4
      have c4k : (0 : Int32).toInt = 0 := (by decide +kernel)
      refine lv_iconst (v := (-1)) hx hb dX11_fits_57 (by decide +kernel) ?_
      exact W.iret (v := (-1)) hx hb hr (fun t ht hW => ⟨⟨(-1), (), rfl, Or.inl ⟨rfl, by omega⟩, trivial⟩, hS.F ht⟩) hS.2.2 dX11_fits_58
    · have c4i := mt (fa_lt _ _).mpr c4
      have c4k : (0 : Int32).toInt = 0 := (by decide +kernel)
      refine lv_iload_n hx hb dX11_fits_29 rfl (lv_at hl 1 rfl) ?_
      refine lv_aload_n hx hb dX11_fits_30 rfl (lv_at hl 0 rfl) ?_
      refine va_get (D := (dC, dI)) (ci := 11) (v := .ref a5) (C := RX11) (T := TX11) (N := 11) hx hb hts hiX11 hown hK hP 0 rfl rfl 4 (by decide) (hts _ (List.mem_of_getElem? (i := 1) rfl)) (fun _ h9 => h9) rfl dX11_fits_31 ?_
      refine va_get (D := (dC, dI)) (ci := 1) (v := .int 0) (C := RX1) (T := TX1) (N := 8) hx hb hts hiX1 hown hK hP 1 rfl rfl 6 (by decide) (hts _ (List.mem_of_getElem? (i := 31) rfl)) (fun _ h9 => h9) rfl dX11_fits_34 ?_
      refine lv_icmp_ge (tgt := 57) hx hb dX11_fits_37 (by decide) (fun _ => ?_) (fun c5 => False.elim (by have c5i := mt (fa_le _ _).mpr c5; have c5k : (0 : Int32).toInt = 0 := (by decide +kernel); omega))
      refine lv_iconst (v := (-1)) hx hb dX11_fits_57 (by decide +kernel) ?_
      exact W.iret (v := (-1)) hx hb hr (fun t ht hW => ⟨⟨(-1), (), rfl, Or.inl ⟨rfl, by omega⟩, trivial⟩, hS.F ht⟩) hS.2.2 dX11_fits_58
  · have c3i := (fa_eq _ _).mp c3
    have c3k : (-1 : Int32).toInt = -1 := (by decide +kernel)
    refine lv_aload_n hx hb dX11_fits_17 rfl (lv_at hl 0 rfl) ?_
    refine va_get (D := (dC, dI)) (ci := 11) (v := .ref a5) (C := RX11) (T := TX11) (N := 11) hx hb hts hiX11 hown hK hP 0 rfl rfl 4 (by decide) (hts _ (List.mem_of_getElem? (i := 1) rfl)) (fun _ h9 => h9) rfl dX11_fits_18 ?_
    refine va_get (D := (dC, dI)) (ci := 1) (v := .int 1) (C := RX1) (T := TX1) (N := 8) hx hb hts hiX1 hown hK hP 1 rfl rfl 5 (by decide) (hts _ (List.mem_of_getElem? (i := 32) rfl)) (fun _ h9 => h9) rfl dX11_fits_21 ?_
    exact W.iret (v := 1) hx hb hr (fun t ht hW => ⟨⟨1, (), rfl, Or.inr (⟨rfl, by omega⟩), trivial⟩, hS.F ht⟩) hS.2.2 dX11_fits_24
