def ws_k_X12_key4_118 : List Cond := .code yX12_key4 cX12_key4 2 (some .int) :: ([.fieldLink RX12 48 "StackKeysModel" "bank" "I"] ++ wsX120)
set_option maxHeartbeats 4000000 in
set_option maxRecDepth 100000 in
theorem k_X12_key4_118 (l : Launch) (dC : Nat → ClassId) (dI : Nat → Nat → Nat) (cB cI cJ cZ cQ : ClassId) (sz : Nat) (q : Nat → Nat) : Met l yX12_key4 ws_k_X12_key4_118 ({ frames := 0, cells := 0, slots := 0, locals := 0 }) (va_Pc [.ref (q 0), .int 0] (fun U => U.heap.size = sz ∧ va_P (dC, dI) vwCl [((q 0), .inr (12, (mo q)))] U.heap ∧ va_K (dC, dI) vwCl (tyA cB cI cJ cZ cQ) U ∧ va_D (fun _ => True) [((q 0), .inr (12, (mo q)))])) (va_Qi (fun (r : Int32) (_ : Unit) => r = 0) (fun (u : Unit) t => va_P (dC, dI) vwCl [((q 0), .inr (12, (mo q)))] t.heap ∧ va_K (dC, dI) vwCl (tyA cB cI cJ cZ cQ) t ∧ va_D (va_A [((q 0), .inr (12, (mo q)))] sz) [((q 0), .inr (12, (mo q)))]) (va_A [((q 0), .inr (12, (mo q)))] sz)) 0 0 (va_A [((q 0), .inr (12, (mo q)))] sz) := by
  refine Met.ofW (cc := cX12_key4) (maxL := 2) (ret := (some .int)) (by decide +kernel) rfl ?_
  intro p e s m args below meth c s₁ B hml hv
  obtain ⟨rfl, hsz, hP, hK, hD0⟩ := hv
  have hx := B.exec
  have hb := B.bytes
  have hr := B.returns
  have hts := atoms_spec (ws := ws_k_X12_key4_118) B.pre
  have hown : s.vm.findClass RX12 = some m.cls := findClass_of_methodNamed B.named
  have hiX12 : ∀ w ∈ u_ws RX12 TX12 85, w ∈ ws_k_X12_key4_118 := fun w h => List.mem_cons_of_mem _ (List.mem_append_right _ h)
  subst hsz
  have hD := hD0.self (sz := s.heap.size)
  generalize hAe : va_A [((q 0), .inr (12, (mo q)))] s.heap.size = A at hD ⊢
  have hA : ∀ b : Nat, s.heap.size ≤ b → A b := fun b h => by rw [← hAe]; exact Or.inr h
  clear hD0 hAe
  have hS : va_S A s.heap s.heap [] := va_S.rf
  have hl := lv_entry ([.ref (q 0), .int 0]) (n := 2) (Nat.le_of_ble_eq_true rfl)
  rw [lg_entry_eq]
  generalize (lg_sl ([.ref (q 0), .int 0]) ++ List.replicate (2 - (lg_sl ([.ref (q 0), .int 0])).length) Slot.unset).toArray = ls at hl ⊢
  have hl : lv_has ls 2 [(0, .ref (q 0)), (1, .int 0)] := hl
  obtain ⟨H, hHe⟩ : ∃ H : Heap, H = s.heap := ⟨_, rfl⟩
  rw [← hHe] at hP
  have hS : va_S A s.heap H [] := by rw [hHe]; exact hS
  rw [← hHe]
  refine lv_iconst (v := 4) hx hb dX12_key4_0 (by decide +kernel) ?_
  refine lv_aload_n hx hb dX12_key4_1 rfl (lv_at hl 0 rfl) ?_
  refine va_get (D := (dC, dI)) (ci := 12) (v := .int 0) (C := RX12) (T := TX12) (N := 85) hx hb hts hiX12 hown hK hP 0 rfl rfl 12 (by decide) (hts _ (List.mem_of_getElem? (i := 1) rfl)) (fun _ h9 => h9) rfl dX12_key4_2 ?_
  refine lv_imul hx hb dX12_key4_5 ?_
  refine tp_i (y := 0) (by decide +kernel) ?_
  refine lv_iload_n hx hb dX12_key4_6 rfl (lv_at hl 1 rfl) ?_
  refine lv_iadd hx hb dX12_key4_7 ?_
  refine tp_i (y := 0) (by decide +kernel) ?_
  have hP9 := hP.sub (ws' := [((q 0), .inr (12, (mo q)))]) [0] rfl
  have hD9 := hD.sub (ws' := [((q 0), .inr (12, (mo q)))]) [0] (by decide) rfl
  exact W.iret (v := 0) hx hb hr (fun t ht hW => ⟨⟨0, (), rfl, rfl, by rw [ht]; exact hP9, va_K.moved hW.alike hK, hD9⟩, hS.F ht⟩) hS.2.2 dX12_key4_8
def ws_k_X12_key4_119 : List Cond := .code yX12_key4 cX12_key4 2 (some .int) :: ([.fieldLink RX12 48 "StackKeysModel" "bank" "I"] ++ wsX120)
set_option maxHeartbeats 4000000 in
set_option maxRecDepth 100000 in
theorem k_X12_key4_119 (l : Launch) (dC : Nat → ClassId) (dI : Nat → Nat → Nat) (cB cI cJ cZ cQ : ClassId) (sz : Nat) (q : Nat → Nat) : Met l yX12_key4 ws_k_X12_key4_119 ({ frames := 0, cells := 0, slots := 0, locals := 0 }) (va_Pc [.ref (q 0), .int 1] (fun U => U.heap.size = sz ∧ va_P (dC, dI) vwCl [((q 0), .inr (12, (mo q)))] U.heap ∧ va_K (dC, dI) vwCl (tyA cB cI cJ cZ cQ) U ∧ va_D (fun _ => True) [((q 0), .inr (12, (mo q)))])) (va_Qi (fun (r : Int32) (_ : Unit) => r = 1) (fun (u : Unit) t => va_P (dC, dI) vwCl [((q 0), .inr (12, (mo q)))] t.heap ∧ va_K (dC, dI) vwCl (tyA cB cI cJ cZ cQ) t ∧ va_D (va_A [((q 0), .inr (12, (mo q)))] sz) [((q 0), .inr (12, (mo q)))]) (va_A [((q 0), .inr (12, (mo q)))] sz)) 0 0 (va_A [((q 0), .inr (12, (mo q)))] sz) := by
  refine Met.ofW (cc := cX12_key4) (maxL := 2) (ret := (some .int)) (by decide +kernel) rfl ?_
  intro p e s m args below meth c s₁ B hml hv
  obtain ⟨rfl, hsz, hP, hK, hD0⟩ := hv
  have hx := B.exec
  have hb := B.bytes
  have hr := B.returns
  have hts := atoms_spec (ws := ws_k_X12_key4_119) B.pre
  have hown : s.vm.findClass RX12 = some m.cls := findClass_of_methodNamed B.named
  have hiX12 : ∀ w ∈ u_ws RX12 TX12 85, w ∈ ws_k_X12_key4_119 := fun w h => List.mem_cons_of_mem _ (List.mem_append_right _ h)
  subst hsz
  have hD := hD0.self (sz := s.heap.size)
  generalize hAe : va_A [((q 0), .inr (12, (mo q)))] s.heap.size = A at hD ⊢
  have hA : ∀ b : Nat, s.heap.size ≤ b → A b := fun b h => by rw [← hAe]; exact Or.inr h
  clear hD0 hAe
  have hS : va_S A s.heap s.heap [] := va_S.rf
  have hl := lv_entry ([.ref (q 0), .int 1]) (n := 2) (Nat.le_of_ble_eq_true rfl)
  rw [lg_entry_eq]
  generalize (lg_sl ([.ref (q 0), .int 1]) ++ List.replicate (2 - (lg_sl ([.ref (q 0), .int 1])).length) Slot.unset).toArray = ls at hl ⊢
  have hl : lv_has ls 2 [(0, .ref (q 0)), (1, .int 1)] := hl
  obtain ⟨H, hHe⟩ : ∃ H : Heap, H = s.heap := ⟨_, rfl⟩
  rw [← hHe] at hP
  have hS : va_S A s.heap H [] := by rw [hHe]; exact hS
  rw [← hHe]
  refine lv_iconst (v := 4) hx hb dX12_key4_0 (by decide +kernel) ?_
  refine lv_aload_n hx hb dX12_key4_1 rfl (lv_at hl 0 rfl) ?_
  refine va_get (D := (dC, dI)) (ci := 12) (v := .int 0) (C := RX12) (T := TX12) (N := 85) hx hb hts hiX12 hown hK hP 0 rfl rfl 12 (by decide) (hts _ (List.mem_of_getElem? (i := 1) rfl)) (fun _ h9 => h9) rfl dX12_key4_2 ?_
  refine lv_imul hx hb dX12_key4_5 ?_
  refine tp_i (y := 0) (by decide +kernel) ?_
  refine lv_iload_n hx hb dX12_key4_6 rfl (lv_at hl 1 rfl) ?_
  refine lv_iadd hx hb dX12_key4_7 ?_
  refine tp_i (y := 1) (by decide +kernel) ?_
  have hP9 := hP.sub (ws' := [((q 0), .inr (12, (mo q)))]) [0] rfl
  have hD9 := hD.sub (ws' := [((q 0), .inr (12, (mo q)))]) [0] (by decide) rfl
  exact W.iret (v := 1) hx hb hr (fun t ht hW => ⟨⟨1, (), rfl, rfl, by rw [ht]; exact hP9, va_K.moved hW.alike hK, hD9⟩, hS.F ht⟩) hS.2.2 dX12_key4_8
def ws_k_X12_key4_120 : List Cond := .code yX12_key4 cX12_key4 2 (some .int) :: ([.fieldLink RX12 48 "StackKeysModel" "bank" "I"] ++ wsX120)
set_option maxHeartbeats 4000000 in
set_option maxRecDepth 100000 in
theorem k_X12_key4_120 (l : Launch) (dC : Nat → ClassId) (dI : Nat → Nat → Nat) (cB cI cJ cZ cQ : ClassId) (sz : Nat) (q : Nat → Nat) : Met l yX12_key4 ws_k_X12_key4_120 ({ frames := 0, cells := 0, slots := 0, locals := 0 }) (va_Pc [.ref (q 0), .int 2] (fun U => U.heap.size = sz ∧ va_P (dC, dI) vwCl [((q 0), .inr (12, (mo q)))] U.heap ∧ va_K (dC, dI) vwCl (tyA cB cI cJ cZ cQ) U ∧ va_D (fun _ => True) [((q 0), .inr (12, (mo q)))])) (va_Qi (fun (r : Int32) (_ : Unit) => r = 2) (fun (u : Unit) t => va_P (dC, dI) vwCl [((q 0), .inr (12, (mo q)))] t.heap ∧ va_K (dC, dI) vwCl (tyA cB cI cJ cZ cQ) t ∧ va_D (va_A [((q 0), .inr (12, (mo q)))] sz) [((q 0), .inr (12, (mo q)))]) (va_A [((q 0), .inr (12, (mo q)))] sz)) 0 0 (va_A [((q 0), .inr (12, (mo q)))] sz) := by
  refine Met.ofW (cc := cX12_key4) (maxL := 2) (ret := (some .int)) (by decide +kernel) rfl ?_
  intro p e s m args below meth c s₁ B hml hv
  obtain ⟨rfl, hsz, hP, hK, hD0⟩ := hv
  have hx := B.exec
  have hb := B.bytes
  have hr := B.returns
  have hts := atoms_spec (ws := ws_k_X12_key4_120) B.pre
  have hown : s.vm.findClass RX12 = some m.cls := findClass_of_methodNamed B.named
  have hiX12 : ∀ w ∈ u_ws RX12 TX12 85, w ∈ ws_k_X12_key4_120 := fun w h => List.mem_cons_of_mem _ (List.mem_append_right _ h)
  subst hsz
  have hD := hD0.self (sz := s.heap.size)
  generalize hAe : va_A [((q 0), .inr (12, (mo q)))] s.heap.size = A at hD ⊢
  have hA : ∀ b : Nat, s.heap.size ≤ b → A b := fun b h => by rw [← hAe]; exact Or.inr h
  clear hD0 hAe
  have hS : va_S A s.heap s.heap [] := va_S.rf
  have hl := lv_entry ([.ref (q 0), .int 2]) (n := 2) (Nat.le_of_ble_eq_true rfl)
  rw [lg_entry_eq]
  generalize (lg_sl ([.ref (q 0), .int 2]) ++ List.replicate (2 - (lg_sl ([.ref (q 0), .int 2])).length) Slot.unset).toArray = ls at hl ⊢
  have hl : lv_has ls 2 [(0, .ref (q 0)), (1, .int 2)] := hl
  obtain ⟨H, hHe⟩ : ∃ H : Heap, H = s.heap := ⟨_, rfl⟩
  rw [← hHe] at hP
  have hS : va_S A s.heap H [] := by rw [hHe]; exact hS
  rw [← hHe]
  refine lv_iconst (v := 4) hx hb dX12_key4_0 (by decide +kernel) ?_
  refine lv_aload_n hx hb dX12_key4_1 rfl (lv_at hl 0 rfl) ?_
  refine va_get (D := (dC, dI)) (ci := 12) (v := .int 0) (C := RX12) (T := TX12) (N := 85) hx hb hts hiX12 hown hK hP 0 rfl rfl 12 (by decide) (hts _ (List.mem_of_getElem? (i := 1) rfl)) (fun _ h9 => h9) rfl dX12_key4_2 ?_
  refine lv_imul hx hb dX12_key4_5 ?_
  refine tp_i (y := 0) (by decide +kernel) ?_
  refine lv_iload_n hx hb dX12_key4_6 rfl (lv_at hl 1 rfl) ?_
  refine lv_iadd hx hb dX12_key4_7 ?_
  refine tp_i (y := 2) (by decide +kernel) ?_
  have hP9 := hP.sub (ws' := [((q 0), .inr (12, (mo q)))]) [0] rfl
  have hD9 := hD.sub (ws' := [((q 0), .inr (12, (mo q)))]) [0] (by decide) rfl
  exact W.iret (v := 2) hx hb hr (fun t ht hW => ⟨⟨2, (), rfl, rfl, by rw [ht]; exact hP9, va_K.moved hW.alike hK, hD9⟩, hS.F ht⟩) hS.2.2 dX12_key4_8
def ws_k_X12_key4_121 : List Cond := .code yX12_key4 cX12_key4 2 (some .int) :: ([.fieldLink RX12 48 "StackKeysModel" "bank" "I"] ++ wsX120)
set_option maxHeartbeats 4000000 in
set_option maxRecDepth 100000 in
theorem k_X12_key4_121 (l : Launch) (dC : Nat → ClassId) (dI : Nat → Nat → Nat) (cB cI cJ cZ cQ : ClassId) (sz : Nat) (q : Nat → Nat) : Met l yX12_key4 ws_k_X12_key4_121 ({ frames := 0, cells := 0, slots := 0, locals := 0 }) (va_Pc [.ref (q 0), .int 3] (fun U => U.heap.size = sz ∧ va_P (dC, dI) vwCl [((q 0), .inr (12, (mo q)))] U.heap ∧ va_K (dC, dI) vwCl (tyA cB cI cJ cZ cQ) U ∧ va_D (fun _ => True) [((q 0), .inr (12, (mo q)))])) (va_Qi (fun (r : Int32) (_ : Unit) => r = 3) (fun (u : Unit) t => va_P (dC, dI) vwCl [((q 0), .inr (12, (mo q)))] t.heap ∧ va_K (dC, dI) vwCl (tyA cB cI cJ cZ cQ) t ∧ va_D (va_A [((q 0), .inr (12, (mo q)))] sz) [((q 0), .inr (12, (mo q)))]) (va_A [((q 0), .inr (12, (mo q)))] sz)) 0 0 (va_A [((q 0), .inr (12, (mo q)))] sz) := by
  refine Met.ofW (cc := cX12_key4) (maxL := 2) (ret := (some .int)) (by decide +kernel) rfl ?_
  intro p e s m args below meth c s₁ B hml hv
  obtain ⟨rfl, hsz, hP, hK, hD0⟩ := hv
  have hx := B.exec
  have hb := B.bytes
  have hr := B.returns
  have hts := atoms_spec (ws := ws_k_X12_key4_121) B.pre
  have hown : s.vm.findClass RX12 = some m.cls := findClass_of_methodNamed B.named
  have hiX12 : ∀ w ∈ u_ws RX12 TX12 85, w ∈ ws_k_X12_key4_121 := fun w h => List.mem_cons_of_mem _ (List.mem_append_right _ h)
  subst hsz
  have hD := hD0.self (sz := s.heap.size)
  generalize hAe : va_A [((q 0), .inr (12, (mo q)))] s.heap.size = A at hD ⊢
  have hA : ∀ b : Nat, s.heap.size ≤ b → A b := fun b h => by rw [← hAe]; exact Or.inr h
  clear hD0 hAe
  have hS : va_S A s.heap s.heap [] := va_S.rf
  have hl := lv_entry ([.ref (q 0), .int 3]) (n := 2) (Nat.le_of_ble_eq_true rfl)
  rw [lg_entry_eq]
  generalize (lg_sl ([.ref (q 0), .int 3]) ++ List.replicate (2 - (lg_sl ([.ref (q 0), .int 3])).length) Slot.unset).toArray = ls at hl ⊢
  have hl : lv_has ls 2 [(0, .ref (q 0)), (1, .int 3)] := hl
  obtain ⟨H, hHe⟩ : ∃ H : Heap, H = s.heap := ⟨_, rfl⟩
  rw [← hHe] at hP
  have hS : va_S A s.heap H [] := by rw [hHe]; exact hS
  rw [← hHe]
  refine lv_iconst (v := 4) hx hb dX12_key4_0 (by decide +kernel) ?_
  refine lv_aload_n hx hb dX12_key4_1 rfl (lv_at hl 0 rfl) ?_
  refine va_get (D := (dC, dI)) (ci := 12) (v := .int 0) (C := RX12) (T := TX12) (N := 85) hx hb hts hiX12 hown hK hP 0 rfl rfl 12 (by decide) (hts _ (List.mem_of_getElem? (i := 1) rfl)) (fun _ h9 => h9) rfl dX12_key4_2 ?_
  refine lv_imul hx hb dX12_key4_5 ?_
  refine tp_i (y := 0) (by decide +kernel) ?_
  refine lv_iload_n hx hb dX12_key4_6 rfl (lv_at hl 1 rfl) ?_
  refine lv_iadd hx hb dX12_key4_7 ?_
  refine tp_i (y := 3) (by decide +kernel) ?_
  have hP9 := hP.sub (ws' := [((q 0), .inr (12, (mo q)))]) [0] rfl
  have hD9 := hD.sub (ws' := [((q 0), .inr (12, (mo q)))]) [0] (by decide) rfl
  exact W.iret (v := 3) hx hb hr (fun t ht hW => ⟨⟨3, (), rfl, rfl, by rw [ht]; exact hP9, va_K.moved hW.alike hK, hD9⟩, hS.F ht⟩) hS.2.2 dX12_key4_8
def ws_k_X12_notes_122 : List Cond := .code yX12_notes cX12_notes 2 none :: ([.fieldLink RX12 198 "StackKeysModel" "wasAt" "[I", .fieldLink RX12 101 "StackKeysModel" "personAt" "[I", .fieldLink RX12 48 "StackKeysModel" "bank" "I", .fieldLink RX12 201 "StackKeysModel" "wasMany" "[I", .fieldLink RX12 89 "StackKeysModel" "rowMany" "[I", .methodLink RX12 484 yX12_key4, .instanceMethod yX12_key4, .selects RX12 yX12_key4 yX12_key4, .initialized RX12, .code yX12_key4 cX12_key4 2 (some .int), .fieldLink RX12 204 "StackKeysModel" "wasRow" "[I", .fieldLink RX12 92 "StackKeysModel" "rowOf" "[I"] ++ wsX120)
set_option maxRecDepth 20000 in
theorem g_k_X12_notes_122_0 : GoodIn ws_k_X12_notes_122 (wsV RX12 484 RX12 yX12_key4 ws_k_X12_key4_118) := goodIn_r _ [6, 7, 8, 9, 10, 3, 13, 14, 15, 16, 17, 18, 19, 20, 21, 22, 23, 24, 25, 26, 27, 28, 29, 30, 31, 32, 33, 34, 35, 36, 37, 38, 39, 40, 41, 42, 43, 44, 45, 46, 47, 48, 49, 50, 51, 52, 53, 54, 55, 56, 57, 58, 59, 60, 61, 62, 63, 64, 65, 66, 67, 68, 69, 70, 71, 72, 73, 74, 75, 76, 77, 78, 79, 80, 81, 82, 83, 84, 85, 86, 87, 88, 89, 90, 91, 92, 93, 94, 95, 96, 97] (by decide +kernel) (by decide +kernel)
set_option maxRecDepth 20000 in
theorem g_k_X12_notes_122_1 : GoodIn ws_k_X12_notes_122 (wsV RX12 484 RX12 yX12_key4 ws_k_X12_key4_119) := goodIn_r _ [6, 7, 8, 9, 10, 3, 13, 14, 15, 16, 17, 18, 19, 20, 21, 22, 23, 24, 25, 26, 27, 28, 29, 30, 31, 32, 33, 34, 35, 36, 37, 38, 39, 40, 41, 42, 43, 44, 45, 46, 47, 48, 49, 50, 51, 52, 53, 54, 55, 56, 57, 58, 59, 60, 61, 62, 63, 64, 65, 66, 67, 68, 69, 70, 71, 72, 73, 74, 75, 76, 77, 78, 79, 80, 81, 82, 83, 84, 85, 86, 87, 88, 89, 90, 91, 92, 93, 94, 95, 96, 97] (by decide +kernel) (by decide +kernel)
set_option maxRecDepth 20000 in
theorem g_k_X12_notes_122_2 : GoodIn ws_k_X12_notes_122 (wsV RX12 484 RX12 yX12_key4 ws_k_X12_key4_120) := goodIn_r _ [6, 7, 8, 9, 10, 3, 13, 14, 15, 16, 17, 18, 19, 20, 21, 22, 23, 24, 25, 26, 27, 28, 29, 30, 31, 32, 33, 34, 35, 36, 37, 38, 39, 40, 41, 42, 43, 44, 45, 46, 47, 48, 49, 50, 51, 52, 53, 54, 55, 56, 57, 58, 59, 60, 61, 62, 63, 64, 65, 66, 67, 68, 69, 70, 71, 72, 73, 74, 75, 76, 77, 78, 79, 80, 81, 82, 83, 84, 85, 86, 87, 88, 89, 90, 91, 92, 93, 94, 95, 96, 97] (by decide +kernel) (by decide +kernel)
set_option maxRecDepth 20000 in
theorem g_k_X12_notes_122_3 : GoodIn ws_k_X12_notes_122 (wsV RX12 484 RX12 yX12_key4 ws_k_X12_key4_121) := goodIn_r _ [6, 7, 8, 9, 10, 3, 13, 14, 15, 16, 17, 18, 19, 20, 21, 22, 23, 24, 25, 26, 27, 28, 29, 30, 31, 32, 33, 34, 35, 36, 37, 38, 39, 40, 41, 42, 43, 44, 45, 46, 47, 48, 49, 50, 51, 52, 53, 54, 55, 56, 57, 58, 59, 60, 61, 62, 63, 64, 65, 66, 67, 68, 69, 70, 71, 72, 73, 74, 75, 76, 77, 78, 79, 80, 81, 82, 83, 84, 85, 86, 87, 88, 89, 90, 91, 92, 93, 94, 95, 96, 97] (by decide +kernel) (by decide +kernel)
set_option maxHeartbeats 4000000 in
set_option maxRecDepth 100000 in
theorem k_X12_notes_122 (l : Launch) (dC : Nat → ClassId) (dI : Nat → Nat → Nat) (cB cI cJ cZ cQ : ClassId) (sz : Nat) (q : Nat → Nat) (f0 f1 f2 : Nat → Int32) : Met l yX12_notes ws_k_X12_notes_122 ({ frames := 1, cells := 0, slots := 0, locals := 21 }) (va_Pc [.ref (q 0)] (fun U => U.heap.size = sz ∧ va_P (dC, dI) vwCl [((q 0), .inr (12, (mo q))), ((q 18), .inl (cI, 6, .inl (fun _ => 0))), ((q 44), .inl (cI, 3, .inl f0)), ((q 14), .inl (cI, 8, .inl (fun _ => 0))), ((q 45), .inl (cI, 4, .inl f1)), ((q 15), .inl (cI, 80, .inl (fun _ => 0))), ((q 46), .inl (cI, 40, .inl f2))] U.heap ∧ va_K (dC, dI) vwCl (tyA cB cI cJ cZ cQ) U ∧ va_D (fun _ => True) [((q 0), .inr (12, (mo q))), ((q 18), .inl (cI, 6, .inl (fun _ => 0))), ((q 44), .inl (cI, 3, .inl f0)), ((q 14), .inl (cI, 8, .inl (fun _ => 0))), ((q 45), .inl (cI, 4, .inl f1)), ((q 15), .inl (cI, 80, .inl (fun _ => 0))), ((q 46), .inl (cI, 40, .inl f2))])) (va_Qv (fun _ : Unit => True) (fun (u : Unit) t => va_P (dC, dI) vwCl [((q 0), .inr (12, (mo q))), ((q 18), .inl (cI, 6, .inl (fun _ => 0))), ((q 44), .inl (cI, 3, .inl (upd (upd (upd f0 0 0) 1 0) 2 0))), ((q 14), .inl (cI, 8, .inl (fun _ => 0))), ((q 45), .inl (cI, 4, .inl (upd (upd (upd (upd f1 0 0) 1 0) 2 0) 3 0))), ((q 15), .inl (cI, 80, .inl (fun _ => 0))), ((q 46), .inl (cI, 40, .inl (upd (upd (upd (upd (upd (upd (upd (upd (upd (upd (upd (upd (upd (upd (upd (upd (upd (upd (upd (upd (upd (upd (upd (upd (upd (upd (upd (upd (upd (upd (upd (upd (upd (upd (upd (upd (upd (upd (upd (upd f2 0 0) 1 0) 2 0) 3 0) 4 0) 5 0) 6 0) 7 0) 8 0) 9 0) 10 0) 11 0) 12 0) 13 0) 14 0) 15 0) 16 0) 17 0) 18 0) 19 0) 20 0) 21 0) 22 0) 23 0) 24 0) 25 0) 26 0) 27 0) 28 0) 29 0) 30 0) 31 0) 32 0) 33 0) 34 0) 35 0) 36 0) 37 0) 38 0) 39 0)))] t.heap ∧ va_K (dC, dI) vwCl (tyA cB cI cJ cZ cQ) t ∧ va_D (va_A [((q 0), .inr (12, (mo q))), ((q 18), .inl (cI, 6, .inl (fun _ => 0))), ((q 44), .inl (cI, 3, .inl f0)), ((q 14), .inl (cI, 8, .inl (fun _ => 0))), ((q 45), .inl (cI, 4, .inl f1)), ((q 15), .inl (cI, 80, .inl (fun _ => 0))), ((q 46), .inl (cI, 40, .inl f2))] sz) [((q 0), .inr (12, (mo q))), ((q 18), .inl (cI, 6, .inl (fun _ => 0))), ((q 44), .inl (cI, 3, .inl (upd (upd (upd f0 0 0) 1 0) 2 0))), ((q 14), .inl (cI, 8, .inl (fun _ => 0))), ((q 45), .inl (cI, 4, .inl (upd (upd (upd (upd f1 0 0) 1 0) 2 0) 3 0))), ((q 15), .inl (cI, 80, .inl (fun _ => 0))), ((q 46), .inl (cI, 40, .inl (upd (upd (upd (upd (upd (upd (upd (upd (upd (upd (upd (upd (upd (upd (upd (upd (upd (upd (upd (upd (upd (upd (upd (upd (upd (upd (upd (upd (upd (upd (upd (upd (upd (upd (upd (upd (upd (upd (upd (upd f2 0 0) 1 0) 2 0) 3 0) 4 0) 5 0) 6 0) 7 0) 8 0) 9 0) 10 0) 11 0) 12 0) 13 0) 14 0) 15 0) 16 0) 17 0) 18 0) 19 0) 20 0) 21 0) 22 0) 23 0) 24 0) 25 0) 26 0) 27 0) 28 0) 29 0) 30 0) 31 0) 32 0) 33 0) 34 0) 35 0) 36 0) 37 0) 38 0) 39 0)))]) (va_A [((q 0), .inr (12, (mo q))), ((q 18), .inl (cI, 6, .inl (fun _ => 0))), ((q 44), .inl (cI, 3, .inl f0)), ((q 14), .inl (cI, 8, .inl (fun _ => 0))), ((q 45), .inl (cI, 4, .inl f1)), ((q 15), .inl (cI, 80, .inl (fun _ => 0))), ((q 46), .inl (cI, 40, .inl f2))] sz)) 0 0 (va_A [((q 0), .inr (12, (mo q))), ((q 18), .inl (cI, 6, .inl (fun _ => 0))), ((q 44), .inl (cI, 3, .inl f0)), ((q 14), .inl (cI, 8, .inl (fun _ => 0))), ((q 45), .inl (cI, 4, .inl f1)), ((q 15), .inl (cI, 80, .inl (fun _ => 0))), ((q 46), .inl (cI, 40, .inl f2))] sz) := by
  refine Met.ofW (cc := cX12_notes) (maxL := 2) (ret := none) (by decide +kernel) rfl ?_
  intro p e s m args below meth c s₁ B hml hv
  obtain ⟨rfl, hsz, hP, hK, hD0⟩ := hv
  have hx := B.exec
  have hb := B.bytes
  have hr := B.returns
  have hts := atoms_spec (ws := ws_k_X12_notes_122) B.pre
  have hown : s.vm.findClass RX12 = some m.cls := findClass_of_methodNamed B.named
  have hiX12 : ∀ w ∈ u_ws RX12 TX12 85, w ∈ ws_k_X12_notes_122 := fun w h => List.mem_cons_of_mem _ (List.mem_append_right _ h)
  subst hsz
  have hD := hD0.self (sz := s.heap.size)
  generalize hAe : va_A [((q 0), .inr (12, (mo q))), ((q 18), .inl (cI, 6, .inl (fun _ => 0))), ((q 44), .inl (cI, 3, .inl f0)), ((q 14), .inl (cI, 8, .inl (fun _ => 0))), ((q 45), .inl (cI, 4, .inl f1)), ((q 15), .inl (cI, 80, .inl (fun _ => 0))), ((q 46), .inl (cI, 40, .inl f2))] s.heap.size = A at hD ⊢
  have hA : ∀ b : Nat, s.heap.size ≤ b → A b := fun b h => by rw [← hAe]; exact Or.inr h
  clear hD0 hAe
  have hS : va_S A s.heap s.heap [] := va_S.rf
  have hl := lv_entry ([.ref (q 0)]) (n := 2) (Nat.le_of_ble_eq_true rfl)
  rw [lg_entry_eq]
  generalize (lg_sl ([.ref (q 0)]) ++ List.replicate (2 - (lg_sl ([.ref (q 0)])).length) Slot.unset).toArray = ls at hl ⊢
  have hl : lv_has ls 2 [(0, .ref (q 0))] := hl
  obtain ⟨H, hHe⟩ : ∃ H : Heap, H = s.heap := ⟨_, rfl⟩
  rw [← hHe] at hP
  have hS : va_S A s.heap H [] := by rw [hHe]; exact hS
  rw [← hHe]
  refine lv_iconst (v := 0) hx hb dX12_notes_0 (by decide +kernel) ?_
  refine lv_istore_n (lv' := [(1, .int 0), (0, .ref (q 0))]) hx hb dX12_notes_1 rfl hl (by decide) rfl (fun ls hl => ?_)
  refine lv_iload_n hx hb dX12_notes_2 rfl (lv_at hl 0 rfl) ?_
  refine lv_iconst (v := 3) hx hb dX12_notes_3 (by decide +kernel) ?_
  refine lv_icmp_ge (tgt := 32) hx hb dX12_notes_4 (by decide) (fun c => absurd c (by decide +kernel)) (fun _ => ?_)
  refine lv_aload_n hx hb dX12_notes_7 rfl (lv_at hl 1 rfl) ?_
  refine va_get (D := (dC, dI)) (ci := 12) (v := .ref (q 44)) (C := RX12) (T := TX12) (N := 85) hx hb hts hiX12 hown hK hP 0 rfl rfl 61 (by decide) (hts _ (List.mem_of_getElem? (i := 1) rfl)) (fun _ h9 => h9) rfl dX12_notes_8 ?_
  refine lv_iload_n hx hb dX12_notes_11 rfl (lv_at hl 0 rfl) ?_
  refine lv_aload_n hx hb dX12_notes_12 rfl (lv_at hl 1 rfl) ?_
  refine va_get (D := (dC, dI)) (ci := 12) (v := .ref (q 18)) (C := RX12) (T := TX12) (N := 85) hx hb hts hiX12 hown hK hP 0 rfl rfl 29 (by decide) (hts _ (List.mem_of_getElem? (i := 2) rfl)) (fun _ h9 => h9) rfl dX12_notes_13 ?_
  refine lv_iconst (v := 3) hx hb dX12_notes_16 (by decide +kernel) ?_
  refine lv_aload_n hx hb dX12_notes_17 rfl (lv_at hl 1 rfl) ?_
  refine va_get (D := (dC, dI)) (ci := 12) (v := .int 0) (C := RX12) (T := TX12) (N := 85) hx hb hts hiX12 hown hK hP 0 rfl rfl 12 (by decide) (hts _ (List.mem_of_getElem? (i := 3) rfl)) (fun _ h9 => h9) rfl dX12_notes_18 ?_
  refine lv_imul hx hb dX12_notes_21 ?_
  refine tp_i (y := 0) (by decide +kernel) ?_
  refine lv_iload_n hx hb dX12_notes_22 rfl (lv_at hl 0 rfl) ?_
  refine lv_iadd hx hb dX12_notes_23 ?_
  refine tp_i (y := 0) (by decide +kernel) ?_
  refine va_iald hx hb hK hP 1 1 rfl rfl (vpc _ _ (by decide +kernel)) dX12_notes_24 ?_
  refine tp_i (y := 0) rfl ?_
  refine va_iast hx hb hK hP hD hS 2 1 rfl rfl (vpc _ _ (by decide +kernel)) dX12_notes_25 (fun H locs hP hD hS => ?_)
  have hP : va_P (dC, dI) vwCl [((q 0), .inr (12, (mo q))), ((q 18), .inl (cI, 6, .inl (fun _ => 0))), ((q 44), .inl (cI, 3, .inl (upd f0 0 0))), ((q 14), .inl (cI, 8, .inl (fun _ => 0))), ((q 45), .inl (cI, 4, .inl f1)), ((q 15), .inl (cI, 80, .inl (fun _ => 0))), ((q 46), .inl (cI, 40, .inl f2))] H := hP
  have hD : va_D A [((q 0), .inr (12, (mo q))), ((q 18), .inl (cI, 6, .inl (fun _ => 0))), ((q 44), .inl (cI, 3, .inl (upd f0 0 0))), ((q 14), .inl (cI, 8, .inl (fun _ => 0))), ((q 45), .inl (cI, 4, .inl f1)), ((q 15), .inl (cI, 80, .inl (fun _ => 0))), ((q 46), .inl (cI, 40, .inl f2))] := hD
  refine lv_iinc (v := 1) (lv' := [(1, .int 1), (0, .ref (q 0))]) hx hb dX12_notes_26 hl (k := 0) rfl (by decide +kernel) (by decide) rfl (fun ls hl => ?_)
  refine lv_goto (tgt := 2) hx hb dX12_notes_29 (by decide) ?_
  refine lv_iload_n hx hb dX12_notes_2 rfl (lv_at hl 0 rfl) ?_
  refine lv_iconst (v := 3) hx hb dX12_notes_3 (by decide +kernel) ?_
  refine lv_icmp_ge (tgt := 32) hx hb dX12_notes_4 (by decide) (fun c => absurd c (by decide +kernel)) (fun _ => ?_)
  refine lv_aload_n hx hb dX12_notes_7 rfl (lv_at hl 1 rfl) ?_
  refine va_get (D := (dC, dI)) (ci := 12) (v := .ref (q 44)) (C := RX12) (T := TX12) (N := 85) hx hb hts hiX12 hown hK hP 0 rfl rfl 61 (by decide) (hts _ (List.mem_of_getElem? (i := 1) rfl)) (fun _ h9 => h9) rfl dX12_notes_8 ?_
  refine lv_iload_n hx hb dX12_notes_11 rfl (lv_at hl 0 rfl) ?_
  refine lv_aload_n hx hb dX12_notes_12 rfl (lv_at hl 1 rfl) ?_
  refine va_get (D := (dC, dI)) (ci := 12) (v := .ref (q 18)) (C := RX12) (T := TX12) (N := 85) hx hb hts hiX12 hown hK hP 0 rfl rfl 29 (by decide) (hts _ (List.mem_of_getElem? (i := 2) rfl)) (fun _ h9 => h9) rfl dX12_notes_13 ?_
  refine lv_iconst (v := 3) hx hb dX12_notes_16 (by decide +kernel) ?_
  refine lv_aload_n hx hb dX12_notes_17 rfl (lv_at hl 1 rfl) ?_
  refine va_get (D := (dC, dI)) (ci := 12) (v := .int 0) (C := RX12) (T := TX12) (N := 85) hx hb hts hiX12 hown hK hP 0 rfl rfl 12 (by decide) (hts _ (List.mem_of_getElem? (i := 3) rfl)) (fun _ h9 => h9) rfl dX12_notes_18 ?_
  refine lv_imul hx hb dX12_notes_21 ?_
  refine tp_i (y := 0) (by decide +kernel) ?_
  refine lv_iload_n hx hb dX12_notes_22 rfl (lv_at hl 0 rfl) ?_
  refine lv_iadd hx hb dX12_notes_23 ?_
  refine tp_i (y := 1) (by decide +kernel) ?_
  refine va_iald hx hb hK hP 1 1 rfl rfl (vpc _ _ (by decide +kernel)) dX12_notes_24 ?_
  refine tp_i (y := 0) rfl ?_
  refine va_iast hx hb hK hP hD hS 2 1 rfl rfl (vpc _ _ (by decide +kernel)) dX12_notes_25 (fun H locs hP hD hS => ?_)
  have hP : va_P (dC, dI) vwCl [((q 0), .inr (12, (mo q))), ((q 18), .inl (cI, 6, .inl (fun _ => 0))), ((q 44), .inl (cI, 3, .inl (upd (upd f0 0 0) 1 0))), ((q 14), .inl (cI, 8, .inl (fun _ => 0))), ((q 45), .inl (cI, 4, .inl f1)), ((q 15), .inl (cI, 80, .inl (fun _ => 0))), ((q 46), .inl (cI, 40, .inl f2))] H := hP
  have hD : va_D A [((q 0), .inr (12, (mo q))), ((q 18), .inl (cI, 6, .inl (fun _ => 0))), ((q 44), .inl (cI, 3, .inl (upd (upd f0 0 0) 1 0))), ((q 14), .inl (cI, 8, .inl (fun _ => 0))), ((q 45), .inl (cI, 4, .inl f1)), ((q 15), .inl (cI, 80, .inl (fun _ => 0))), ((q 46), .inl (cI, 40, .inl f2))] := hD
  refine lv_iinc (v := 2) (lv' := [(1, .int 2), (0, .ref (q 0))]) hx hb dX12_notes_26 hl (k := 0) rfl (by decide +kernel) (by decide) rfl (fun ls hl => ?_)
  refine lv_goto (tgt := 2) hx hb dX12_notes_29 (by decide) ?_
  refine lv_iload_n hx hb dX12_notes_2 rfl (lv_at hl 0 rfl) ?_
  refine lv_iconst (v := 3) hx hb dX12_notes_3 (by decide +kernel) ?_
  refine lv_icmp_ge (tgt := 32) hx hb dX12_notes_4 (by decide) (fun c => absurd c (by decide +kernel)) (fun _ => ?_)
  refine lv_aload_n hx hb dX12_notes_7 rfl (lv_at hl 1 rfl) ?_
  refine va_get (D := (dC, dI)) (ci := 12) (v := .ref (q 44)) (C := RX12) (T := TX12) (N := 85) hx hb hts hiX12 hown hK hP 0 rfl rfl 61 (by decide) (hts _ (List.mem_of_getElem? (i := 1) rfl)) (fun _ h9 => h9) rfl dX12_notes_8 ?_
  refine lv_iload_n hx hb dX12_notes_11 rfl (lv_at hl 0 rfl) ?_
  refine lv_aload_n hx hb dX12_notes_12 rfl (lv_at hl 1 rfl) ?_
  refine va_get (D := (dC, dI)) (ci := 12) (v := .ref (q 18)) (C := RX12) (T := TX12) (N := 85) hx hb hts hiX12 hown hK hP 0 rfl rfl 29 (by decide) (hts _ (List.mem_of_getElem? (i := 2) rfl)) (fun _ h9 => h9) rfl dX12_notes_13 ?_
  refine lv_iconst (v := 3) hx hb dX12_notes_16 (by decide +kernel) ?_
  refine lv_aload_n hx hb dX12_notes_17 rfl (lv_at hl 1 rfl) ?_
  refine va_get (D := (dC, dI)) (ci := 12) (v := .int 0) (C := RX12) (T := TX12) (N := 85) hx hb hts hiX12 hown hK hP 0 rfl rfl 12 (by decide) (hts _ (List.mem_of_getElem? (i := 3) rfl)) (fun _ h9 => h9) rfl dX12_notes_18 ?_
  refine lv_imul hx hb dX12_notes_21 ?_
  refine tp_i (y := 0) (by decide +kernel) ?_
  refine lv_iload_n hx hb dX12_notes_22 rfl (lv_at hl 0 rfl) ?_
  refine lv_iadd hx hb dX12_notes_23 ?_
  refine tp_i (y := 2) (by decide +kernel) ?_
  refine va_iald hx hb hK hP 1 1 rfl rfl (vpc _ _ (by decide +kernel)) dX12_notes_24 ?_
  refine tp_i (y := 0) rfl ?_
  refine va_iast hx hb hK hP hD hS 2 1 rfl rfl (vpc _ _ (by decide +kernel)) dX12_notes_25 (fun H locs hP hD hS => ?_)
  have hP : va_P (dC, dI) vwCl [((q 0), .inr (12, (mo q))), ((q 18), .inl (cI, 6, .inl (fun _ => 0))), ((q 44), .inl (cI, 3, .inl (upd (upd (upd f0 0 0) 1 0) 2 0))), ((q 14), .inl (cI, 8, .inl (fun _ => 0))), ((q 45), .inl (cI, 4, .inl f1)), ((q 15), .inl (cI, 80, .inl (fun _ => 0))), ((q 46), .inl (cI, 40, .inl f2))] H := hP
  have hD : va_D A [((q 0), .inr (12, (mo q))), ((q 18), .inl (cI, 6, .inl (fun _ => 0))), ((q 44), .inl (cI, 3, .inl (upd (upd (upd f0 0 0) 1 0) 2 0))), ((q 14), .inl (cI, 8, .inl (fun _ => 0))), ((q 45), .inl (cI, 4, .inl f1)), ((q 15), .inl (cI, 80, .inl (fun _ => 0))), ((q 46), .inl (cI, 40, .inl f2))] := hD
  refine lv_iinc (v := 3) (lv' := [(1, .int 3), (0, .ref (q 0))]) hx hb dX12_notes_26 hl (k := 0) rfl (by decide +kernel) (by decide) rfl (fun ls hl => ?_)
  refine lv_goto (tgt := 2) hx hb dX12_notes_29 (by decide) ?_
  refine lv_iload_n hx hb dX12_notes_2 rfl (lv_at hl 0 rfl) ?_
  refine lv_iconst (v := 3) hx hb dX12_notes_3 (by decide +kernel) ?_
  refine lv_icmp_ge (tgt := 32) hx hb dX12_notes_4 (by decide) (fun _ => ?_) (fun c => absurd c (by decide +kernel))
  refine lv_iconst (v := 0) hx hb dX12_notes_32 (by decide +kernel) ?_
  refine lv_istore_n (lv' := [(1, .int 0), (0, .ref (q 0))]) hx hb dX12_notes_33 rfl hl (by decide) rfl (fun ls hl => ?_)
  refine lv_iload_n hx hb dX12_notes_34 rfl (lv_at hl 0 rfl) ?_
  refine lv_iconst (v := 4) hx hb dX12_notes_35 (by decide +kernel) ?_
  refine lv_icmp_ge (tgt := 61) hx hb dX12_notes_36 (by decide) (fun c => absurd c (by decide +kernel)) (fun _ => ?_)
  refine lv_aload_n hx hb dX12_notes_39 rfl (lv_at hl 1 rfl) ?_
  refine va_get (D := (dC, dI)) (ci := 12) (v := .ref (q 45)) (C := RX12) (T := TX12) (N := 85) hx hb hts hiX12 hown hK hP 0 rfl rfl 62 (by decide) (hts _ (List.mem_of_getElem? (i := 4) rfl)) (fun _ h9 => h9) rfl dX12_notes_40 ?_
  refine lv_iload_n hx hb dX12_notes_43 rfl (lv_at hl 0 rfl) ?_
  refine lv_aload_n hx hb dX12_notes_44 rfl (lv_at hl 1 rfl) ?_
  refine va_get (D := (dC, dI)) (ci := 12) (v := .ref (q 14)) (C := RX12) (T := TX12) (N := 85) hx hb hts hiX12 hown hK hP 0 rfl rfl 25 (by decide) (hts _ (List.mem_of_getElem? (i := 5) rfl)) (fun _ h9 => h9) rfl dX12_notes_45 ?_
  refine lv_aload_n hx hb dX12_notes_48 rfl (lv_at hl 1 rfl) ?_
  refine lv_iload_n hx hb dX12_notes_49 rfl (lv_at hl 0 rfl) ?_
  have hPc := hP.sub (ws' := [((q 0), .inr (12, (mo q)))]) [0] rfl
  have hDc := hD.sub (ws' := [((q 0), .inr (12, (mo q)))]) [0] (by decide) rfl
  have hFc := va_free (wc := [((q 0), .inr (12, (mo q)))]) hD hS hA [0] rfl
  refine va_calli (va_runV (As := [.int 0]) (rest := [.ref (q 14), .int 0, .ref (q 45)]) ⟨hx, hb, hml, hown, hts⟩ (k_X12_key4_118 l dC dI cB cI cJ cZ cQ H.size q) (cwV 1 hts g_k_X12_notes_122_0 rfl rfl rfl (by decide +kernel) ⟨Nat.le_of_ble_eq_true rfl, Nat.le_of_ble_eq_true rfl⟩) ⟨fun a U g mk Z => by obtain ⟨q0, q1, qP, qK, qD⟩ := Z; exact ⟨q0, q1, qP, va_K.moved (u := U) (U := U.calling g mk a) (Vm.Alike.refl U.vm) qK, qD⟩, va_recv hK hPc (ci := 12) (q0 := 0) rfl rfl, fun U hU hW => ⟨rfl, by rw [hU], by rw [hU]; exact hPc, va_K.moved hW.alike hK, hDc.weaken (fun _ _ _ _ => trivial)⟩⟩ rfl rfl hl.1 rfl (lv_room (Nat.le_of_ble_eq_true rfl)) dX12_notes_50 ⟨Nat.le_of_ble_eq_true rfl, Nat.le_of_ble_eq_true rfl⟩) hS (fun b _ h => hFc b h) hFc (fun r2 u1 t H1 locs ht hvm hw hB hz1 hk1 hS => ?_)
  obtain ⟨hP1, hK1, hD1⟩ := hB
  rw [ht] at hP1
  obtain ⟨hP, hD⟩ := va_join (wr := [((q 18), .inl (cI, 6, .inl (fun _ => 0))), ((q 44), .inl (cI, 3, .inl (upd (upd (upd f0 0 0) 1 0) 2 0))), ((q 14), .inl (cI, 8, .inl (fun _ => 0))), ((q 45), .inl (cI, 4, .inl f1)), ((q 15), .inl (cI, 80, .inl (fun _ => 0))), ((q 46), .inl (cI, 40, .inl f2))]) (w1 := [((q 0), .inr (12, (mo q)))]) hP hD [0] [1, 2, 3, 4, 5, 6] rfl rfl (by decide) (by decide) hk1 hFc hP1 hD1
  clear hP1 hK1 hD1 hk1 hz1 hvm hPc hDc hFc
  generalize H1 = H at hP hS ⊢
  have hP : va_P (dC, dI) vwCl [((q 18), .inl (cI, 6, .inl (fun _ => 0))), ((q 44), .inl (cI, 3, .inl (upd (upd (upd f0 0 0) 1 0) 2 0))), ((q 14), .inl (cI, 8, .inl (fun _ => 0))), ((q 45), .inl (cI, 4, .inl f1)), ((q 15), .inl (cI, 80, .inl (fun _ => 0))), ((q 46), .inl (cI, 40, .inl f2)), ((q 0), .inr (12, (mo q)))] H := hP
  have hD : va_D A [((q 18), .inl (cI, 6, .inl (fun _ => 0))), ((q 44), .inl (cI, 3, .inl (upd (upd (upd f0 0 0) 1 0) 2 0))), ((q 14), .inl (cI, 8, .inl (fun _ => 0))), ((q 45), .inl (cI, 4, .inl f1)), ((q 15), .inl (cI, 80, .inl (fun _ => 0))), ((q 46), .inl (cI, 40, .inl f2)), ((q 0), .inr (12, (mo q)))] := hD
  subst hw
  refine va_iald hx hb hK hP 2 1 rfl rfl (vpc _ _ (by decide +kernel)) dX12_notes_53 ?_
  refine tp_i (y := 0) rfl ?_
  refine va_iast hx hb hK hP hD hS 3 1 rfl rfl (vpc _ _ (by decide +kernel)) dX12_notes_54 (fun H locs hP hD hS => ?_)
  have hP : va_P (dC, dI) vwCl [((q 18), .inl (cI, 6, .inl (fun _ => 0))), ((q 44), .inl (cI, 3, .inl (upd (upd (upd f0 0 0) 1 0) 2 0))), ((q 14), .inl (cI, 8, .inl (fun _ => 0))), ((q 45), .inl (cI, 4, .inl (upd f1 0 0))), ((q 15), .inl (cI, 80, .inl (fun _ => 0))), ((q 46), .inl (cI, 40, .inl f2)), ((q 0), .inr (12, (mo q)))] H := hP
  have hD : va_D A [((q 18), .inl (cI, 6, .inl (fun _ => 0))), ((q 44), .inl (cI, 3, .inl (upd (upd (upd f0 0 0) 1 0) 2 0))), ((q 14), .inl (cI, 8, .inl (fun _ => 0))), ((q 45), .inl (cI, 4, .inl (upd f1 0 0))), ((q 15), .inl (cI, 80, .inl (fun _ => 0))), ((q 46), .inl (cI, 40, .inl f2)), ((q 0), .inr (12, (mo q)))] := hD
  refine lv_iinc (v := 1) (lv' := [(1, .int 1), (0, .ref (q 0))]) hx hb dX12_notes_55 hl (k := 0) rfl (by decide +kernel) (by decide) rfl (fun ls hl => ?_)
  refine lv_goto (tgt := 34) hx hb dX12_notes_58 (by decide) ?_
  refine lv_iload_n hx hb dX12_notes_34 rfl (lv_at hl 0 rfl) ?_
  refine lv_iconst (v := 4) hx hb dX12_notes_35 (by decide +kernel) ?_
  refine lv_icmp_ge (tgt := 61) hx hb dX12_notes_36 (by decide) (fun c => absurd c (by decide +kernel)) (fun _ => ?_)
  refine lv_aload_n hx hb dX12_notes_39 rfl (lv_at hl 1 rfl) ?_
  refine va_get (D := (dC, dI)) (ci := 12) (v := .ref (q 45)) (C := RX12) (T := TX12) (N := 85) hx hb hts hiX12 hown hK hP 6 rfl rfl 62 (by decide) (hts _ (List.mem_of_getElem? (i := 4) rfl)) (fun _ h9 => h9) rfl dX12_notes_40 ?_
  refine lv_iload_n hx hb dX12_notes_43 rfl (lv_at hl 0 rfl) ?_
  refine lv_aload_n hx hb dX12_notes_44 rfl (lv_at hl 1 rfl) ?_
  refine va_get (D := (dC, dI)) (ci := 12) (v := .ref (q 14)) (C := RX12) (T := TX12) (N := 85) hx hb hts hiX12 hown hK hP 6 rfl rfl 25 (by decide) (hts _ (List.mem_of_getElem? (i := 5) rfl)) (fun _ h9 => h9) rfl dX12_notes_45 ?_
  refine lv_aload_n hx hb dX12_notes_48 rfl (lv_at hl 1 rfl) ?_
  refine lv_iload_n hx hb dX12_notes_49 rfl (lv_at hl 0 rfl) ?_
  have hPc := hP.sub (ws' := [((q 0), .inr (12, (mo q)))]) [6] rfl
  have hDc := hD.sub (ws' := [((q 0), .inr (12, (mo q)))]) [6] (by decide) rfl
  have hFc := va_free (wc := [((q 0), .inr (12, (mo q)))]) hD hS hA [6] rfl
  refine va_calli (va_runV (As := [.int 1]) (rest := [.ref (q 14), .int 1, .ref (q 45)]) ⟨hx, hb, hml, hown, hts⟩ (k_X12_key4_119 l dC dI cB cI cJ cZ cQ H.size q) (cwV 1 hts g_k_X12_notes_122_1 rfl rfl rfl (by decide +kernel) ⟨Nat.le_of_ble_eq_true rfl, Nat.le_of_ble_eq_true rfl⟩) ⟨fun a U g mk Z => by obtain ⟨q0, q1, qP, qK, qD⟩ := Z; exact ⟨q0, q1, qP, va_K.moved (u := U) (U := U.calling g mk a) (Vm.Alike.refl U.vm) qK, qD⟩, va_recv hK hPc (ci := 12) (q0 := 0) rfl rfl, fun U hU hW => ⟨rfl, by rw [hU], by rw [hU]; exact hPc, va_K.moved hW.alike hK, hDc.weaken (fun _ _ _ _ => trivial)⟩⟩ rfl rfl hl.1 rfl (lv_room (Nat.le_of_ble_eq_true rfl)) dX12_notes_50 ⟨Nat.le_of_ble_eq_true rfl, Nat.le_of_ble_eq_true rfl⟩) hS (fun b _ h => hFc b h) hFc (fun r4 u3 t H1 locs ht hvm hw hB hz1 hk1 hS => ?_)
  obtain ⟨hP1, hK1, hD1⟩ := hB
  rw [ht] at hP1
  obtain ⟨hP, hD⟩ := va_join (wr := [((q 18), .inl (cI, 6, .inl (fun _ => 0))), ((q 44), .inl (cI, 3, .inl (upd (upd (upd f0 0 0) 1 0) 2 0))), ((q 14), .inl (cI, 8, .inl (fun _ => 0))), ((q 45), .inl (cI, 4, .inl (upd f1 0 0))), ((q 15), .inl (cI, 80, .inl (fun _ => 0))), ((q 46), .inl (cI, 40, .inl f2))]) (w1 := [((q 0), .inr (12, (mo q)))]) hP hD [6] [0, 1, 2, 3, 4, 5] rfl rfl (by decide) (by decide) hk1 hFc hP1 hD1
  clear hP1 hK1 hD1 hk1 hz1 hvm hPc hDc hFc
  generalize H1 = H at hP hS ⊢
  have hP : va_P (dC, dI) vwCl [((q 18), .inl (cI, 6, .inl (fun _ => 0))), ((q 44), .inl (cI, 3, .inl (upd (upd (upd f0 0 0) 1 0) 2 0))), ((q 14), .inl (cI, 8, .inl (fun _ => 0))), ((q 45), .inl (cI, 4, .inl (upd f1 0 0))), ((q 15), .inl (cI, 80, .inl (fun _ => 0))), ((q 46), .inl (cI, 40, .inl f2)), ((q 0), .inr (12, (mo q)))] H := hP
  have hD : va_D A [((q 18), .inl (cI, 6, .inl (fun _ => 0))), ((q 44), .inl (cI, 3, .inl (upd (upd (upd f0 0 0) 1 0) 2 0))), ((q 14), .inl (cI, 8, .inl (fun _ => 0))), ((q 45), .inl (cI, 4, .inl (upd f1 0 0))), ((q 15), .inl (cI, 80, .inl (fun _ => 0))), ((q 46), .inl (cI, 40, .inl f2)), ((q 0), .inr (12, (mo q)))] := hD
  subst hw
  refine va_iald hx hb hK hP 2 1 rfl rfl (vpc _ _ (by decide +kernel)) dX12_notes_53 ?_
  refine tp_i (y := 0) rfl ?_
  refine va_iast hx hb hK hP hD hS 3 1 rfl rfl (vpc _ _ (by decide +kernel)) dX12_notes_54 (fun H locs hP hD hS => ?_)
  have hP : va_P (dC, dI) vwCl [((q 18), .inl (cI, 6, .inl (fun _ => 0))), ((q 44), .inl (cI, 3, .inl (upd (upd (upd f0 0 0) 1 0) 2 0))), ((q 14), .inl (cI, 8, .inl (fun _ => 0))), ((q 45), .inl (cI, 4, .inl (upd (upd f1 0 0) 1 0))), ((q 15), .inl (cI, 80, .inl (fun _ => 0))), ((q 46), .inl (cI, 40, .inl f2)), ((q 0), .inr (12, (mo q)))] H := hP
  have hD : va_D A [((q 18), .inl (cI, 6, .inl (fun _ => 0))), ((q 44), .inl (cI, 3, .inl (upd (upd (upd f0 0 0) 1 0) 2 0))), ((q 14), .inl (cI, 8, .inl (fun _ => 0))), ((q 45), .inl (cI, 4, .inl (upd (upd f1 0 0) 1 0))), ((q 15), .inl (cI, 80, .inl (fun _ => 0))), ((q 46), .inl (cI, 40, .inl f2)), ((q 0), .inr (12, (mo q)))] := hD
  refine lv_iinc (v := 2) (lv' := [(1, .int 2), (0, .ref (q 0))]) hx hb dX12_notes_55 hl (k := 0) rfl (by decide +kernel) (by decide) rfl (fun ls hl => ?_)
  refine lv_goto (tgt := 34) hx hb dX12_notes_58 (by decide) ?_
  refine lv_iload_n hx hb dX12_notes_34 rfl (lv_at hl 0 rfl) ?_
  refine lv_iconst (v := 4) hx hb dX12_notes_35 (by decide +kernel) ?_
  refine lv_icmp_ge (tgt := 61) hx hb dX12_notes_36 (by decide) (fun c => absurd c (by decide +kernel)) (fun _ => ?_)
  refine lv_aload_n hx hb dX12_notes_39 rfl (lv_at hl 1 rfl) ?_
  refine va_get (D := (dC, dI)) (ci := 12) (v := .ref (q 45)) (C := RX12) (T := TX12) (N := 85) hx hb hts hiX12 hown hK hP 6 rfl rfl 62 (by decide) (hts _ (List.mem_of_getElem? (i := 4) rfl)) (fun _ h9 => h9) rfl dX12_notes_40 ?_
  refine lv_iload_n hx hb dX12_notes_43 rfl (lv_at hl 0 rfl) ?_
  refine lv_aload_n hx hb dX12_notes_44 rfl (lv_at hl 1 rfl) ?_
  refine va_get (D := (dC, dI)) (ci := 12) (v := .ref (q 14)) (C := RX12) (T := TX12) (N := 85) hx hb hts hiX12 hown hK hP 6 rfl rfl 25 (by decide) (hts _ (List.mem_of_getElem? (i := 5) rfl)) (fun _ h9 => h9) rfl dX12_notes_45 ?_
  refine lv_aload_n hx hb dX12_notes_48 rfl (lv_at hl 1 rfl) ?_
  refine lv_iload_n hx hb dX12_notes_49 rfl (lv_at hl 0 rfl) ?_
  have hPc := hP.sub (ws' := [((q 0), .inr (12, (mo q)))]) [6] rfl
  have hDc := hD.sub (ws' := [((q 0), .inr (12, (mo q)))]) [6] (by decide) rfl
  have hFc := va_free (wc := [((q 0), .inr (12, (mo q)))]) hD hS hA [6] rfl
  refine va_calli (va_runV (As := [.int 2]) (rest := [.ref (q 14), .int 2, .ref (q 45)]) ⟨hx, hb, hml, hown, hts⟩ (k_X12_key4_120 l dC dI cB cI cJ cZ cQ H.size q) (cwV 1 hts g_k_X12_notes_122_2 rfl rfl rfl (by decide +kernel) ⟨Nat.le_of_ble_eq_true rfl, Nat.le_of_ble_eq_true rfl⟩) ⟨fun a U g mk Z => by obtain ⟨q0, q1, qP, qK, qD⟩ := Z; exact ⟨q0, q1, qP, va_K.moved (u := U) (U := U.calling g mk a) (Vm.Alike.refl U.vm) qK, qD⟩, va_recv hK hPc (ci := 12) (q0 := 0) rfl rfl, fun U hU hW => ⟨rfl, by rw [hU], by rw [hU]; exact hPc, va_K.moved hW.alike hK, hDc.weaken (fun _ _ _ _ => trivial)⟩⟩ rfl rfl hl.1 rfl (lv_room (Nat.le_of_ble_eq_true rfl)) dX12_notes_50 ⟨Nat.le_of_ble_eq_true rfl, Nat.le_of_ble_eq_true rfl⟩) hS (fun b _ h => hFc b h) hFc (fun r6 u5 t H1 locs ht hvm hw hB hz1 hk1 hS => ?_)
  obtain ⟨hP1, hK1, hD1⟩ := hB
  rw [ht] at hP1
  obtain ⟨hP, hD⟩ := va_join (wr := [((q 18), .inl (cI, 6, .inl (fun _ => 0))), ((q 44), .inl (cI, 3, .inl (upd (upd (upd f0 0 0) 1 0) 2 0))), ((q 14), .inl (cI, 8, .inl (fun _ => 0))), ((q 45), .inl (cI, 4, .inl (upd (upd f1 0 0) 1 0))), ((q 15), .inl (cI, 80, .inl (fun _ => 0))), ((q 46), .inl (cI, 40, .inl f2))]) (w1 := [((q 0), .inr (12, (mo q)))]) hP hD [6] [0, 1, 2, 3, 4, 5] rfl rfl (by decide) (by decide) hk1 hFc hP1 hD1
  clear hP1 hK1 hD1 hk1 hz1 hvm hPc hDc hFc
  generalize H1 = H at hP hS ⊢
  have hP : va_P (dC, dI) vwCl [((q 18), .inl (cI, 6, .inl (fun _ => 0))), ((q 44), .inl (cI, 3, .inl (upd (upd (upd f0 0 0) 1 0) 2 0))), ((q 14), .inl (cI, 8, .inl (fun _ => 0))), ((q 45), .inl (cI, 4, .inl (upd (upd f1 0 0) 1 0))), ((q 15), .inl (cI, 80, .inl (fun _ => 0))), ((q 46), .inl (cI, 40, .inl f2)), ((q 0), .inr (12, (mo q)))] H := hP
  have hD : va_D A [((q 18), .inl (cI, 6, .inl (fun _ => 0))), ((q 44), .inl (cI, 3, .inl (upd (upd (upd f0 0 0) 1 0) 2 0))), ((q 14), .inl (cI, 8, .inl (fun _ => 0))), ((q 45), .inl (cI, 4, .inl (upd (upd f1 0 0) 1 0))), ((q 15), .inl (cI, 80, .inl (fun _ => 0))), ((q 46), .inl (cI, 40, .inl f2)), ((q 0), .inr (12, (mo q)))] := hD
  subst hw
  refine va_iald hx hb hK hP 2 1 rfl rfl (vpc _ _ (by decide +kernel)) dX12_notes_53 ?_
  refine tp_i (y := 0) rfl ?_
  refine va_iast hx hb hK hP hD hS 3 1 rfl rfl (vpc _ _ (by decide +kernel)) dX12_notes_54 (fun H locs hP hD hS => ?_)
  have hP : va_P (dC, dI) vwCl [((q 18), .inl (cI, 6, .inl (fun _ => 0))), ((q 44), .inl (cI, 3, .inl (upd (upd (upd f0 0 0) 1 0) 2 0))), ((q 14), .inl (cI, 8, .inl (fun _ => 0))), ((q 45), .inl (cI, 4, .inl (upd (upd (upd f1 0 0) 1 0) 2 0))), ((q 15), .inl (cI, 80, .inl (fun _ => 0))), ((q 46), .inl (cI, 40, .inl f2)), ((q 0), .inr (12, (mo q)))] H := hP
  have hD : va_D A [((q 18), .inl (cI, 6, .inl (fun _ => 0))), ((q 44), .inl (cI, 3, .inl (upd (upd (upd f0 0 0) 1 0) 2 0))), ((q 14), .inl (cI, 8, .inl (fun _ => 0))), ((q 45), .inl (cI, 4, .inl (upd (upd (upd f1 0 0) 1 0) 2 0))), ((q 15), .inl (cI, 80, .inl (fun _ => 0))), ((q 46), .inl (cI, 40, .inl f2)), ((q 0), .inr (12, (mo q)))] := hD
  refine lv_iinc (v := 3) (lv' := [(1, .int 3), (0, .ref (q 0))]) hx hb dX12_notes_55 hl (k := 0) rfl (by decide +kernel) (by decide) rfl (fun ls hl => ?_)
  refine lv_goto (tgt := 34) hx hb dX12_notes_58 (by decide) ?_
  refine lv_iload_n hx hb dX12_notes_34 rfl (lv_at hl 0 rfl) ?_
  refine lv_iconst (v := 4) hx hb dX12_notes_35 (by decide +kernel) ?_
  refine lv_icmp_ge (tgt := 61) hx hb dX12_notes_36 (by decide) (fun c => absurd c (by decide +kernel)) (fun _ => ?_)
  refine lv_aload_n hx hb dX12_notes_39 rfl (lv_at hl 1 rfl) ?_
  refine va_get (D := (dC, dI)) (ci := 12) (v := .ref (q 45)) (C := RX12) (T := TX12) (N := 85) hx hb hts hiX12 hown hK hP 6 rfl rfl 62 (by decide) (hts _ (List.mem_of_getElem? (i := 4) rfl)) (fun _ h9 => h9) rfl dX12_notes_40 ?_
  refine lv_iload_n hx hb dX12_notes_43 rfl (lv_at hl 0 rfl) ?_
  refine lv_aload_n hx hb dX12_notes_44 rfl (lv_at hl 1 rfl) ?_
  refine va_get (D := (dC, dI)) (ci := 12) (v := .ref (q 14)) (C := RX12) (T := TX12) (N := 85) hx hb hts hiX12 hown hK hP 6 rfl rfl 25 (by decide) (hts _ (List.mem_of_getElem? (i := 5) rfl)) (fun _ h9 => h9) rfl dX12_notes_45 ?_
  refine lv_aload_n hx hb dX12_notes_48 rfl (lv_at hl 1 rfl) ?_
  refine lv_iload_n hx hb dX12_notes_49 rfl (lv_at hl 0 rfl) ?_
  have hPc := hP.sub (ws' := [((q 0), .inr (12, (mo q)))]) [6] rfl
  have hDc := hD.sub (ws' := [((q 0), .inr (12, (mo q)))]) [6] (by decide) rfl
  have hFc := va_free (wc := [((q 0), .inr (12, (mo q)))]) hD hS hA [6] rfl
  refine va_calli (va_runV (As := [.int 3]) (rest := [.ref (q 14), .int 3, .ref (q 45)]) ⟨hx, hb, hml, hown, hts⟩ (k_X12_key4_121 l dC dI cB cI cJ cZ cQ H.size q) (cwV 1 hts g_k_X12_notes_122_3 rfl rfl rfl (by decide +kernel) ⟨Nat.le_of_ble_eq_true rfl, Nat.le_of_ble_eq_true rfl⟩) ⟨fun a U g mk Z => by obtain ⟨q0, q1, qP, qK, qD⟩ := Z; exact ⟨q0, q1, qP, va_K.moved (u := U) (U := U.calling g mk a) (Vm.Alike.refl U.vm) qK, qD⟩, va_recv hK hPc (ci := 12) (q0 := 0) rfl rfl, fun U hU hW => ⟨rfl, by rw [hU], by rw [hU]; exact hPc, va_K.moved hW.alike hK, hDc.weaken (fun _ _ _ _ => trivial)⟩⟩ rfl rfl hl.1 rfl (lv_room (Nat.le_of_ble_eq_true rfl)) dX12_notes_50 ⟨Nat.le_of_ble_eq_true rfl, Nat.le_of_ble_eq_true rfl⟩) hS (fun b _ h => hFc b h) hFc (fun r8 u7 t H1 locs ht hvm hw hB hz1 hk1 hS => ?_)
  obtain ⟨hP1, hK1, hD1⟩ := hB
  rw [ht] at hP1
  obtain ⟨hP, hD⟩ := va_join (wr := [((q 18), .inl (cI, 6, .inl (fun _ => 0))), ((q 44), .inl (cI, 3, .inl (upd (upd (upd f0 0 0) 1 0) 2 0))), ((q 14), .inl (cI, 8, .inl (fun _ => 0))), ((q 45), .inl (cI, 4, .inl (upd (upd (upd f1 0 0) 1 0) 2 0))), ((q 15), .inl (cI, 80, .inl (fun _ => 0))), ((q 46), .inl (cI, 40, .inl f2))]) (w1 := [((q 0), .inr (12, (mo q)))]) hP hD [6] [0, 1, 2, 3, 4, 5] rfl rfl (by decide) (by decide) hk1 hFc hP1 hD1
  clear hP1 hK1 hD1 hk1 hz1 hvm hPc hDc hFc
  generalize H1 = H at hP hS ⊢
  have hP : va_P (dC, dI) vwCl [((q 18), .inl (cI, 6, .inl (fun _ => 0))), ((q 44), .inl (cI, 3, .inl (upd (upd (upd f0 0 0) 1 0) 2 0))), ((q 14), .inl (cI, 8, .inl (fun _ => 0))), ((q 45), .inl (cI, 4, .inl (upd (upd (upd f1 0 0) 1 0) 2 0))), ((q 15), .inl (cI, 80, .inl (fun _ => 0))), ((q 46), .inl (cI, 40, .inl f2)), ((q 0), .inr (12, (mo q)))] H := hP
  have hD : va_D A [((q 18), .inl (cI, 6, .inl (fun _ => 0))), ((q 44), .inl (cI, 3, .inl (upd (upd (upd f0 0 0) 1 0) 2 0))), ((q 14), .inl (cI, 8, .inl (fun _ => 0))), ((q 45), .inl (cI, 4, .inl (upd (upd (upd f1 0 0) 1 0) 2 0))), ((q 15), .inl (cI, 80, .inl (fun _ => 0))), ((q 46), .inl (cI, 40, .inl f2)), ((q 0), .inr (12, (mo q)))] := hD
  subst hw
  refine va_iald hx hb hK hP 2 1 rfl rfl (vpc _ _ (by decide +kernel)) dX12_notes_53 ?_
  refine tp_i (y := 0) rfl ?_
  refine va_iast hx hb hK hP hD hS 3 1 rfl rfl (vpc _ _ (by decide +kernel)) dX12_notes_54 (fun H locs hP hD hS => ?_)
  have hP : va_P (dC, dI) vwCl [((q 18), .inl (cI, 6, .inl (fun _ => 0))), ((q 44), .inl (cI, 3, .inl (upd (upd (upd f0 0 0) 1 0) 2 0))), ((q 14), .inl (cI, 8, .inl (fun _ => 0))), ((q 45), .inl (cI, 4, .inl (upd (upd (upd (upd f1 0 0) 1 0) 2 0) 3 0))), ((q 15), .inl (cI, 80, .inl (fun _ => 0))), ((q 46), .inl (cI, 40, .inl f2)), ((q 0), .inr (12, (mo q)))] H := hP
  have hD : va_D A [((q 18), .inl (cI, 6, .inl (fun _ => 0))), ((q 44), .inl (cI, 3, .inl (upd (upd (upd f0 0 0) 1 0) 2 0))), ((q 14), .inl (cI, 8, .inl (fun _ => 0))), ((q 45), .inl (cI, 4, .inl (upd (upd (upd (upd f1 0 0) 1 0) 2 0) 3 0))), ((q 15), .inl (cI, 80, .inl (fun _ => 0))), ((q 46), .inl (cI, 40, .inl f2)), ((q 0), .inr (12, (mo q)))] := hD
  refine lv_iinc (v := 4) (lv' := [(1, .int 4), (0, .ref (q 0))]) hx hb dX12_notes_55 hl (k := 0) rfl (by decide +kernel) (by decide) rfl (fun ls hl => ?_)
  refine lv_goto (tgt := 34) hx hb dX12_notes_58 (by decide) ?_
  refine lv_iload_n hx hb dX12_notes_34 rfl (lv_at hl 0 rfl) ?_
  refine lv_iconst (v := 4) hx hb dX12_notes_35 (by decide +kernel) ?_
  refine lv_icmp_ge (tgt := 61) hx hb dX12_notes_36 (by decide) (fun _ => ?_) (fun c => absurd c (by decide +kernel))
  refine lv_iconst (v := 0) hx hb dX12_notes_61 (by decide +kernel) ?_
  refine lv_istore_n (lv' := [(1, .int 0), (0, .ref (q 0))]) hx hb dX12_notes_62 rfl hl (by decide) rfl (fun ls hl => ?_)
  refine lv_iload_n hx hb dX12_notes_63 rfl (lv_at hl 0 rfl) ?_
  refine lv_bipush (v := 40) hx hb dX12_notes_64 (by decide +kernel) ?_
  refine lv_icmp_ge (tgt := 95) hx hb dX12_notes_66 (by decide) (fun c => absurd c (by decide +kernel)) (fun _ => ?_)
  refine lv_aload_n hx hb dX12_notes_69 rfl (lv_at hl 1 rfl) ?_
  refine va_get (D := (dC, dI)) (ci := 12) (v := .ref (q 46)) (C := RX12) (T := TX12) (N := 85) hx hb hts hiX12 hown hK hP 6 rfl rfl 63 (by decide) (hts _ (List.mem_of_getElem? (i := 11) rfl)) (fun _ h9 => h9) rfl dX12_notes_70 ?_
  refine lv_iload_n hx hb dX12_notes_73 rfl (lv_at hl 0 rfl) ?_
  refine lv_aload_n hx hb dX12_notes_74 rfl (lv_at hl 1 rfl) ?_
  refine va_get (D := (dC, dI)) (ci := 12) (v := .ref (q 15)) (C := RX12) (T := TX12) (N := 85) hx hb hts hiX12 hown hK hP 6 rfl rfl 26 (by decide) (hts _ (List.mem_of_getElem? (i := 12) rfl)) (fun _ h9 => h9) rfl dX12_notes_75 ?_
  refine lv_bipush (v := 40) hx hb dX12_notes_78 (by decide +kernel) ?_
  refine lv_aload_n hx hb dX12_notes_80 rfl (lv_at hl 1 rfl) ?_
  refine va_get (D := (dC, dI)) (ci := 12) (v := .int 0) (C := RX12) (T := TX12) (N := 85) hx hb hts hiX12 hown hK hP 6 rfl rfl 12 (by decide) (hts _ (List.mem_of_getElem? (i := 3) rfl)) (fun _ h9 => h9) rfl dX12_notes_81 ?_
  refine lv_imul hx hb dX12_notes_84 ?_
  refine tp_i (y := 0) (by decide +kernel) ?_
  refine lv_iload_n hx hb dX12_notes_85 rfl (lv_at hl 0 rfl) ?_
  refine lv_iadd hx hb dX12_notes_86 ?_
  refine tp_i (y := 0) (by decide +kernel) ?_
  refine va_iald hx hb hK hP 4 1 rfl rfl (vpc _ _ (by decide +kernel)) dX12_notes_87 ?_
  refine tp_i (y := 0) rfl ?_
  refine va_iast hx hb hK hP hD hS 5 1 rfl rfl (vpc _ _ (by decide +kernel)) dX12_notes_88 (fun H locs hP hD hS => ?_)
  have hP : va_P (dC, dI) vwCl [((q 18), .inl (cI, 6, .inl (fun _ => 0))), ((q 44), .inl (cI, 3, .inl (upd (upd (upd f0 0 0) 1 0) 2 0))), ((q 14), .inl (cI, 8, .inl (fun _ => 0))), ((q 45), .inl (cI, 4, .inl (upd (upd (upd (upd f1 0 0) 1 0) 2 0) 3 0))), ((q 15), .inl (cI, 80, .inl (fun _ => 0))), ((q 46), .inl (cI, 40, .inl (upd f2 0 0))), ((q 0), .inr (12, (mo q)))] H := hP
  have hD : va_D A [((q 18), .inl (cI, 6, .inl (fun _ => 0))), ((q 44), .inl (cI, 3, .inl (upd (upd (upd f0 0 0) 1 0) 2 0))), ((q 14), .inl (cI, 8, .inl (fun _ => 0))), ((q 45), .inl (cI, 4, .inl (upd (upd (upd (upd f1 0 0) 1 0) 2 0) 3 0))), ((q 15), .inl (cI, 80, .inl (fun _ => 0))), ((q 46), .inl (cI, 40, .inl (upd f2 0 0))), ((q 0), .inr (12, (mo q)))] := hD
  refine lv_iinc (v := 1) (lv' := [(1, .int 1), (0, .ref (q 0))]) hx hb dX12_notes_89 hl (k := 0) rfl (by decide +kernel) (by decide) rfl (fun ls hl => ?_)
  refine lv_goto (tgt := 63) hx hb dX12_notes_92 (by decide) ?_
  refine lv_iload_n hx hb dX12_notes_63 rfl (lv_at hl 0 rfl) ?_
  refine lv_bipush (v := 40) hx hb dX12_notes_64 (by decide +kernel) ?_
  refine lv_icmp_ge (tgt := 95) hx hb dX12_notes_66 (by decide) (fun c => absurd c (by decide +kernel)) (fun _ => ?_)
  refine lv_aload_n hx hb dX12_notes_69 rfl (lv_at hl 1 rfl) ?_
  refine va_get (D := (dC, dI)) (ci := 12) (v := .ref (q 46)) (C := RX12) (T := TX12) (N := 85) hx hb hts hiX12 hown hK hP 6 rfl rfl 63 (by decide) (hts _ (List.mem_of_getElem? (i := 11) rfl)) (fun _ h9 => h9) rfl dX12_notes_70 ?_
  refine lv_iload_n hx hb dX12_notes_73 rfl (lv_at hl 0 rfl) ?_
  refine lv_aload_n hx hb dX12_notes_74 rfl (lv_at hl 1 rfl) ?_
  refine va_get (D := (dC, dI)) (ci := 12) (v := .ref (q 15)) (C := RX12) (T := TX12) (N := 85) hx hb hts hiX12 hown hK hP 6 rfl rfl 26 (by decide) (hts _ (List.mem_of_getElem? (i := 12) rfl)) (fun _ h9 => h9) rfl dX12_notes_75 ?_
  refine lv_bipush (v := 40) hx hb dX12_notes_78 (by decide +kernel) ?_
  refine lv_aload_n hx hb dX12_notes_80 rfl (lv_at hl 1 rfl) ?_
  refine va_get (D := (dC, dI)) (ci := 12) (v := .int 0) (C := RX12) (T := TX12) (N := 85) hx hb hts hiX12 hown hK hP 6 rfl rfl 12 (by decide) (hts _ (List.mem_of_getElem? (i := 3) rfl)) (fun _ h9 => h9) rfl dX12_notes_81 ?_
  refine lv_imul hx hb dX12_notes_84 ?_
  refine tp_i (y := 0) (by decide +kernel) ?_
  refine lv_iload_n hx hb dX12_notes_85 rfl (lv_at hl 0 rfl) ?_
  refine lv_iadd hx hb dX12_notes_86 ?_
  refine tp_i (y := 1) (by decide +kernel) ?_
  refine va_iald hx hb hK hP 4 1 rfl rfl (vpc _ _ (by decide +kernel)) dX12_notes_87 ?_
  refine tp_i (y := 0) rfl ?_
  refine va_iast hx hb hK hP hD hS 5 1 rfl rfl (vpc _ _ (by decide +kernel)) dX12_notes_88 (fun H locs hP hD hS => ?_)
  have hP : va_P (dC, dI) vwCl [((q 18), .inl (cI, 6, .inl (fun _ => 0))), ((q 44), .inl (cI, 3, .inl (upd (upd (upd f0 0 0) 1 0) 2 0))), ((q 14), .inl (cI, 8, .inl (fun _ => 0))), ((q 45), .inl (cI, 4, .inl (upd (upd (upd (upd f1 0 0) 1 0) 2 0) 3 0))), ((q 15), .inl (cI, 80, .inl (fun _ => 0))), ((q 46), .inl (cI, 40, .inl (upd (upd f2 0 0) 1 0))), ((q 0), .inr (12, (mo q)))] H := hP
  have hD : va_D A [((q 18), .inl (cI, 6, .inl (fun _ => 0))), ((q 44), .inl (cI, 3, .inl (upd (upd (upd f0 0 0) 1 0) 2 0))), ((q 14), .inl (cI, 8, .inl (fun _ => 0))), ((q 45), .inl (cI, 4, .inl (upd (upd (upd (upd f1 0 0) 1 0) 2 0) 3 0))), ((q 15), .inl (cI, 80, .inl (fun _ => 0))), ((q 46), .inl (cI, 40, .inl (upd (upd f2 0 0) 1 0))), ((q 0), .inr (12, (mo q)))] := hD
  refine lv_iinc (v := 2) (lv' := [(1, .int 2), (0, .ref (q 0))]) hx hb dX12_notes_89 hl (k := 0) rfl (by decide +kernel) (by decide) rfl (fun ls hl => ?_)
  refine lv_goto (tgt := 63) hx hb dX12_notes_92 (by decide) ?_
  refine lv_iload_n hx hb dX12_notes_63 rfl (lv_at hl 0 rfl) ?_
  refine lv_bipush (v := 40) hx hb dX12_notes_64 (by decide +kernel) ?_
  refine lv_icmp_ge (tgt := 95) hx hb dX12_notes_66 (by decide) (fun c => absurd c (by decide +kernel)) (fun _ => ?_)
  refine lv_aload_n hx hb dX12_notes_69 rfl (lv_at hl 1 rfl) ?_
  refine va_get (D := (dC, dI)) (ci := 12) (v := .ref (q 46)) (C := RX12) (T := TX12) (N := 85) hx hb hts hiX12 hown hK hP 6 rfl rfl 63 (by decide) (hts _ (List.mem_of_getElem? (i := 11) rfl)) (fun _ h9 => h9) rfl dX12_notes_70 ?_
  refine lv_iload_n hx hb dX12_notes_73 rfl (lv_at hl 0 rfl) ?_
  refine lv_aload_n hx hb dX12_notes_74 rfl (lv_at hl 1 rfl) ?_
  refine va_get (D := (dC, dI)) (ci := 12) (v := .ref (q 15)) (C := RX12) (T := TX12) (N := 85) hx hb hts hiX12 hown hK hP 6 rfl rfl 26 (by decide) (hts _ (List.mem_of_getElem? (i := 12) rfl)) (fun _ h9 => h9) rfl dX12_notes_75 ?_
  refine lv_bipush (v := 40) hx hb dX12_notes_78 (by decide +kernel) ?_
  refine lv_aload_n hx hb dX12_notes_80 rfl (lv_at hl 1 rfl) ?_
  refine va_get (D := (dC, dI)) (ci := 12) (v := .int 0) (C := RX12) (T := TX12) (N := 85) hx hb hts hiX12 hown hK hP 6 rfl rfl 12 (by decide) (hts _ (List.mem_of_getElem? (i := 3) rfl)) (fun _ h9 => h9) rfl dX12_notes_81 ?_
  refine lv_imul hx hb dX12_notes_84 ?_
  refine tp_i (y := 0) (by decide +kernel) ?_
  refine lv_iload_n hx hb dX12_notes_85 rfl (lv_at hl 0 rfl) ?_
  refine lv_iadd hx hb dX12_notes_86 ?_
  refine tp_i (y := 2) (by decide +kernel) ?_
  refine va_iald hx hb hK hP 4 1 rfl rfl (vpc _ _ (by decide +kernel)) dX12_notes_87 ?_
  refine tp_i (y := 0) rfl ?_
  refine va_iast hx hb hK hP hD hS 5 1 rfl rfl (vpc _ _ (by decide +kernel)) dX12_notes_88 (fun H locs hP hD hS => ?_)
  have hP : va_P (dC, dI) vwCl [((q 18), .inl (cI, 6, .inl (fun _ => 0))), ((q 44), .inl (cI, 3, .inl (upd (upd (upd f0 0 0) 1 0) 2 0))), ((q 14), .inl (cI, 8, .inl (fun _ => 0))), ((q 45), .inl (cI, 4, .inl (upd (upd (upd (upd f1 0 0) 1 0) 2 0) 3 0))), ((q 15), .inl (cI, 80, .inl (fun _ => 0))), ((q 46), .inl (cI, 40, .inl (upd (upd (upd f2 0 0) 1 0) 2 0))), ((q 0), .inr (12, (mo q)))] H := hP
  have hD : va_D A [((q 18), .inl (cI, 6, .inl (fun _ => 0))), ((q 44), .inl (cI, 3, .inl (upd (upd (upd f0 0 0) 1 0) 2 0))), ((q 14), .inl (cI, 8, .inl (fun _ => 0))), ((q 45), .inl (cI, 4, .inl (upd (upd (upd (upd f1 0 0) 1 0) 2 0) 3 0))), ((q 15), .inl (cI, 80, .inl (fun _ => 0))), ((q 46), .inl (cI, 40, .inl (upd (upd (upd f2 0 0) 1 0) 2 0))), ((q 0), .inr (12, (mo q)))] := hD
  refine lv_iinc (v := 3) (lv' := [(1, .int 3), (0, .ref (q 0))]) hx hb dX12_notes_89 hl (k := 0) rfl (by decide +kernel) (by decide) rfl (fun ls hl => ?_)
  refine lv_goto (tgt := 63) hx hb dX12_notes_92 (by decide) ?_
  refine lv_iload_n hx hb dX12_notes_63 rfl (lv_at hl 0 rfl) ?_
  refine lv_bipush (v := 40) hx hb dX12_notes_64 (by decide +kernel) ?_
  refine lv_icmp_ge (tgt := 95) hx hb dX12_notes_66 (by decide) (fun c => absurd c (by decide +kernel)) (fun _ => ?_)
  refine lv_aload_n hx hb dX12_notes_69 rfl (lv_at hl 1 rfl) ?_
  refine va_get (D := (dC, dI)) (ci := 12) (v := .ref (q 46)) (C := RX12) (T := TX12) (N := 85) hx hb hts hiX12 hown hK hP 6 rfl rfl 63 (by decide) (hts _ (List.mem_of_getElem? (i := 11) rfl)) (fun _ h9 => h9) rfl dX12_notes_70 ?_
  refine lv_iload_n hx hb dX12_notes_73 rfl (lv_at hl 0 rfl) ?_
  refine lv_aload_n hx hb dX12_notes_74 rfl (lv_at hl 1 rfl) ?_
  refine va_get (D := (dC, dI)) (ci := 12) (v := .ref (q 15)) (C := RX12) (T := TX12) (N := 85) hx hb hts hiX12 hown hK hP 6 rfl rfl 26 (by decide) (hts _ (List.mem_of_getElem? (i := 12) rfl)) (fun _ h9 => h9) rfl dX12_notes_75 ?_
  refine lv_bipush (v := 40) hx hb dX12_notes_78 (by decide +kernel) ?_
  refine lv_aload_n hx hb dX12_notes_80 rfl (lv_at hl 1 rfl) ?_
  refine va_get (D := (dC, dI)) (ci := 12) (v := .int 0) (C := RX12) (T := TX12) (N := 85) hx hb hts hiX12 hown hK hP 6 rfl rfl 12 (by decide) (hts _ (List.mem_of_getElem? (i := 3) rfl)) (fun _ h9 => h9) rfl dX12_notes_81 ?_
  refine lv_imul hx hb dX12_notes_84 ?_
  refine tp_i (y := 0) (by decide +kernel) ?_
  refine lv_iload_n hx hb dX12_notes_85 rfl (lv_at hl 0 rfl) ?_
  refine lv_iadd hx hb dX12_notes_86 ?_
  refine tp_i (y := 3) (by decide +kernel) ?_
  refine va_iald hx hb hK hP 4 1 rfl rfl (vpc _ _ (by decide +kernel)) dX12_notes_87 ?_
  refine tp_i (y := 0) rfl ?_
  refine va_iast hx hb hK hP hD hS 5 1 rfl rfl (vpc _ _ (by decide +kernel)) dX12_notes_88 (fun H locs hP hD hS => ?_)
  have hP : va_P (dC, dI) vwCl [((q 18), .inl (cI, 6, .inl (fun _ => 0))), ((q 44), .inl (cI, 3, .inl (upd (upd (upd f0 0 0) 1 0) 2 0))), ((q 14), .inl (cI, 8, .inl (fun _ => 0))), ((q 45), .inl (cI, 4, .inl (upd (upd (upd (upd f1 0 0) 1 0) 2 0) 3 0))), ((q 15), .inl (cI, 80, .inl (fun _ => 0))), ((q 46), .inl (cI, 40, .inl (upd (upd (upd (upd f2 0 0) 1 0) 2 0) 3 0))), ((q 0), .inr (12, (mo q)))] H := hP
  have hD : va_D A [((q 18), .inl (cI, 6, .inl (fun _ => 0))), ((q 44), .inl (cI, 3, .inl (upd (upd (upd f0 0 0) 1 0) 2 0))), ((q 14), .inl (cI, 8, .inl (fun _ => 0))), ((q 45), .inl (cI, 4, .inl (upd (upd (upd (upd f1 0 0) 1 0) 2 0) 3 0))), ((q 15), .inl (cI, 80, .inl (fun _ => 0))), ((q 46), .inl (cI, 40, .inl (upd (upd (upd (upd f2 0 0) 1 0) 2 0) 3 0))), ((q 0), .inr (12, (mo q)))] := hD
  refine lv_iinc (v := 4) (lv' := [(1, .int 4), (0, .ref (q 0))]) hx hb dX12_notes_89 hl (k := 0) rfl (by decide +kernel) (by decide) rfl (fun ls hl => ?_)
  refine lv_goto (tgt := 63) hx hb dX12_notes_92 (by decide) ?_
  refine lv_iload_n hx hb dX12_notes_63 rfl (lv_at hl 0 rfl) ?_
  refine lv_bipush (v := 40) hx hb dX12_notes_64 (by decide +kernel) ?_
  refine lv_icmp_ge (tgt := 95) hx hb dX12_notes_66 (by decide) (fun c => absurd c (by decide +kernel)) (fun _ => ?_)
  refine lv_aload_n hx hb dX12_notes_69 rfl (lv_at hl 1 rfl) ?_
  refine va_get (D := (dC, dI)) (ci := 12) (v := .ref (q 46)) (C := RX12) (T := TX12) (N := 85) hx hb hts hiX12 hown hK hP 6 rfl rfl 63 (by decide) (hts _ (List.mem_of_getElem? (i := 11) rfl)) (fun _ h9 => h9) rfl dX12_notes_70 ?_
  refine lv_iload_n hx hb dX12_notes_73 rfl (lv_at hl 0 rfl) ?_
  refine lv_aload_n hx hb dX12_notes_74 rfl (lv_at hl 1 rfl) ?_
  refine va_get (D := (dC, dI)) (ci := 12) (v := .ref (q 15)) (C := RX12) (T := TX12) (N := 85) hx hb hts hiX12 hown hK hP 6 rfl rfl 26 (by decide) (hts _ (List.mem_of_getElem? (i := 12) rfl)) (fun _ h9 => h9) rfl dX12_notes_75 ?_
  refine lv_bipush (v := 40) hx hb dX12_notes_78 (by decide +kernel) ?_
  refine lv_aload_n hx hb dX12_notes_80 rfl (lv_at hl 1 rfl) ?_
  refine va_get (D := (dC, dI)) (ci := 12) (v := .int 0) (C := RX12) (T := TX12) (N := 85) hx hb hts hiX12 hown hK hP 6 rfl rfl 12 (by decide) (hts _ (List.mem_of_getElem? (i := 3) rfl)) (fun _ h9 => h9) rfl dX12_notes_81 ?_
  refine lv_imul hx hb dX12_notes_84 ?_
  refine tp_i (y := 0) (by decide +kernel) ?_
  refine lv_iload_n hx hb dX12_notes_85 rfl (lv_at hl 0 rfl) ?_
  refine lv_iadd hx hb dX12_notes_86 ?_
  refine tp_i (y := 4) (by decide +kernel) ?_
  refine va_iald hx hb hK hP 4 1 rfl rfl (vpc _ _ (by decide +kernel)) dX12_notes_87 ?_
  refine tp_i (y := 0) rfl ?_
  refine va_iast hx hb hK hP hD hS 5 1 rfl rfl (vpc _ _ (by decide +kernel)) dX12_notes_88 (fun H locs hP hD hS => ?_)
  have hP : va_P (dC, dI) vwCl [((q 18), .inl (cI, 6, .inl (fun _ => 0))), ((q 44), .inl (cI, 3, .inl (upd (upd (upd f0 0 0) 1 0) 2 0))), ((q 14), .inl (cI, 8, .inl (fun _ => 0))), ((q 45), .inl (cI, 4, .inl (upd (upd (upd (upd f1 0 0) 1 0) 2 0) 3 0))), ((q 15), .inl (cI, 80, .inl (fun _ => 0))), ((q 46), .inl (cI, 40, .inl (upd (upd (upd (upd (upd f2 0 0) 1 0) 2 0) 3 0) 4 0))), ((q 0), .inr (12, (mo q)))] H := hP
  have hD : va_D A [((q 18), .inl (cI, 6, .inl (fun _ => 0))), ((q 44), .inl (cI, 3, .inl (upd (upd (upd f0 0 0) 1 0) 2 0))), ((q 14), .inl (cI, 8, .inl (fun _ => 0))), ((q 45), .inl (cI, 4, .inl (upd (upd (upd (upd f1 0 0) 1 0) 2 0) 3 0))), ((q 15), .inl (cI, 80, .inl (fun _ => 0))), ((q 46), .inl (cI, 40, .inl (upd (upd (upd (upd (upd f2 0 0) 1 0) 2 0) 3 0) 4 0))), ((q 0), .inr (12, (mo q)))] := hD
  refine lv_iinc (v := 5) (lv' := [(1, .int 5), (0, .ref (q 0))]) hx hb dX12_notes_89 hl (k := 0) rfl (by decide +kernel) (by decide) rfl (fun ls hl => ?_)
  refine lv_goto (tgt := 63) hx hb dX12_notes_92 (by decide) ?_
  refine lv_iload_n hx hb dX12_notes_63 rfl (lv_at hl 0 rfl) ?_
  refine lv_bipush (v := 40) hx hb dX12_notes_64 (by decide +kernel) ?_
  refine lv_icmp_ge (tgt := 95) hx hb dX12_notes_66 (by decide) (fun c => absurd c (by decide +kernel)) (fun _ => ?_)
  refine lv_aload_n hx hb dX12_notes_69 rfl (lv_at hl 1 rfl) ?_
  refine va_get (D := (dC, dI)) (ci := 12) (v := .ref (q 46)) (C := RX12) (T := TX12) (N := 85) hx hb hts hiX12 hown hK hP 6 rfl rfl 63 (by decide) (hts _ (List.mem_of_getElem? (i := 11) rfl)) (fun _ h9 => h9) rfl dX12_notes_70 ?_
  refine lv_iload_n hx hb dX12_notes_73 rfl (lv_at hl 0 rfl) ?_
  refine lv_aload_n hx hb dX12_notes_74 rfl (lv_at hl 1 rfl) ?_
  refine va_get (D := (dC, dI)) (ci := 12) (v := .ref (q 15)) (C := RX12) (T := TX12) (N := 85) hx hb hts hiX12 hown hK hP 6 rfl rfl 26 (by decide) (hts _ (List.mem_of_getElem? (i := 12) rfl)) (fun _ h9 => h9) rfl dX12_notes_75 ?_
  refine lv_bipush (v := 40) hx hb dX12_notes_78 (by decide +kernel) ?_
  refine lv_aload_n hx hb dX12_notes_80 rfl (lv_at hl 1 rfl) ?_
  refine va_get (D := (dC, dI)) (ci := 12) (v := .int 0) (C := RX12) (T := TX12) (N := 85) hx hb hts hiX12 hown hK hP 6 rfl rfl 12 (by decide) (hts _ (List.mem_of_getElem? (i := 3) rfl)) (fun _ h9 => h9) rfl dX12_notes_81 ?_
  refine lv_imul hx hb dX12_notes_84 ?_
  refine tp_i (y := 0) (by decide +kernel) ?_
  refine lv_iload_n hx hb dX12_notes_85 rfl (lv_at hl 0 rfl) ?_
  refine lv_iadd hx hb dX12_notes_86 ?_
  refine tp_i (y := 5) (by decide +kernel) ?_
  refine va_iald hx hb hK hP 4 1 rfl rfl (vpc _ _ (by decide +kernel)) dX12_notes_87 ?_
  refine tp_i (y := 0) rfl ?_
  refine va_iast hx hb hK hP hD hS 5 1 rfl rfl (vpc _ _ (by decide +kernel)) dX12_notes_88 (fun H locs hP hD hS => ?_)
  have hP : va_P (dC, dI) vwCl [((q 18), .inl (cI, 6, .inl (fun _ => 0))), ((q 44), .inl (cI, 3, .inl (upd (upd (upd f0 0 0) 1 0) 2 0))), ((q 14), .inl (cI, 8, .inl (fun _ => 0))), ((q 45), .inl (cI, 4, .inl (upd (upd (upd (upd f1 0 0) 1 0) 2 0) 3 0))), ((q 15), .inl (cI, 80, .inl (fun _ => 0))), ((q 46), .inl (cI, 40, .inl (upd (upd (upd (upd (upd (upd f2 0 0) 1 0) 2 0) 3 0) 4 0) 5 0))), ((q 0), .inr (12, (mo q)))] H := hP
  have hD : va_D A [((q 18), .inl (cI, 6, .inl (fun _ => 0))), ((q 44), .inl (cI, 3, .inl (upd (upd (upd f0 0 0) 1 0) 2 0))), ((q 14), .inl (cI, 8, .inl (fun _ => 0))), ((q 45), .inl (cI, 4, .inl (upd (upd (upd (upd f1 0 0) 1 0) 2 0) 3 0))), ((q 15), .inl (cI, 80, .inl (fun _ => 0))), ((q 46), .inl (cI, 40, .inl (upd (upd (upd (upd (upd (upd f2 0 0) 1 0) 2 0) 3 0) 4 0) 5 0))), ((q 0), .inr (12, (mo q)))] := hD
  refine lv_iinc (v := 6) (lv' := [(1, .int 6), (0, .ref (q 0))]) hx hb dX12_notes_89 hl (k := 0) rfl (by decide +kernel) (by decide) rfl (fun ls hl => ?_)
  refine lv_goto (tgt := 63) hx hb dX12_notes_92 (by decide) ?_
  refine lv_iload_n hx hb dX12_notes_63 rfl (lv_at hl 0 rfl) ?_
  refine lv_bipush (v := 40) hx hb dX12_notes_64 (by decide +kernel) ?_
  refine lv_icmp_ge (tgt := 95) hx hb dX12_notes_66 (by decide) (fun c => absurd c (by decide +kernel)) (fun _ => ?_)
  refine lv_aload_n hx hb dX12_notes_69 rfl (lv_at hl 1 rfl) ?_
  refine va_get (D := (dC, dI)) (ci := 12) (v := .ref (q 46)) (C := RX12) (T := TX12) (N := 85) hx hb hts hiX12 hown hK hP 6 rfl rfl 63 (by decide) (hts _ (List.mem_of_getElem? (i := 11) rfl)) (fun _ h9 => h9) rfl dX12_notes_70 ?_
  refine lv_iload_n hx hb dX12_notes_73 rfl (lv_at hl 0 rfl) ?_
  refine lv_aload_n hx hb dX12_notes_74 rfl (lv_at hl 1 rfl) ?_
  refine va_get (D := (dC, dI)) (ci := 12) (v := .ref (q 15)) (C := RX12) (T := TX12) (N := 85) hx hb hts hiX12 hown hK hP 6 rfl rfl 26 (by decide) (hts _ (List.mem_of_getElem? (i := 12) rfl)) (fun _ h9 => h9) rfl dX12_notes_75 ?_
  refine lv_bipush (v := 40) hx hb dX12_notes_78 (by decide +kernel) ?_
  refine lv_aload_n hx hb dX12_notes_80 rfl (lv_at hl 1 rfl) ?_
  refine va_get (D := (dC, dI)) (ci := 12) (v := .int 0) (C := RX12) (T := TX12) (N := 85) hx hb hts hiX12 hown hK hP 6 rfl rfl 12 (by decide) (hts _ (List.mem_of_getElem? (i := 3) rfl)) (fun _ h9 => h9) rfl dX12_notes_81 ?_
  refine lv_imul hx hb dX12_notes_84 ?_
  refine tp_i (y := 0) (by decide +kernel) ?_
  refine lv_iload_n hx hb dX12_notes_85 rfl (lv_at hl 0 rfl) ?_
  refine lv_iadd hx hb dX12_notes_86 ?_
  refine tp_i (y := 6) (by decide +kernel) ?_
  refine va_iald hx hb hK hP 4 1 rfl rfl (vpc _ _ (by decide +kernel)) dX12_notes_87 ?_
  refine tp_i (y := 0) rfl ?_
  refine va_iast hx hb hK hP hD hS 5 1 rfl rfl (vpc _ _ (by decide +kernel)) dX12_notes_88 (fun H locs hP hD hS => ?_)
  have hP : va_P (dC, dI) vwCl [((q 18), .inl (cI, 6, .inl (fun _ => 0))), ((q 44), .inl (cI, 3, .inl (upd (upd (upd f0 0 0) 1 0) 2 0))), ((q 14), .inl (cI, 8, .inl (fun _ => 0))), ((q 45), .inl (cI, 4, .inl (upd (upd (upd (upd f1 0 0) 1 0) 2 0) 3 0))), ((q 15), .inl (cI, 80, .inl (fun _ => 0))), ((q 46), .inl (cI, 40, .inl (upd (upd (upd (upd (upd (upd (upd f2 0 0) 1 0) 2 0) 3 0) 4 0) 5 0) 6 0))), ((q 0), .inr (12, (mo q)))] H := hP
  have hD : va_D A [((q 18), .inl (cI, 6, .inl (fun _ => 0))), ((q 44), .inl (cI, 3, .inl (upd (upd (upd f0 0 0) 1 0) 2 0))), ((q 14), .inl (cI, 8, .inl (fun _ => 0))), ((q 45), .inl (cI, 4, .inl (upd (upd (upd (upd f1 0 0) 1 0) 2 0) 3 0))), ((q 15), .inl (cI, 80, .inl (fun _ => 0))), ((q 46), .inl (cI, 40, .inl (upd (upd (upd (upd (upd (upd (upd f2 0 0) 1 0) 2 0) 3 0) 4 0) 5 0) 6 0))), ((q 0), .inr (12, (mo q)))] := hD
  refine lv_iinc (v := 7) (lv' := [(1, .int 7), (0, .ref (q 0))]) hx hb dX12_notes_89 hl (k := 0) rfl (by decide +kernel) (by decide) rfl (fun ls hl => ?_)
  refine lv_goto (tgt := 63) hx hb dX12_notes_92 (by decide) ?_
  refine lv_iload_n hx hb dX12_notes_63 rfl (lv_at hl 0 rfl) ?_
  refine lv_bipush (v := 40) hx hb dX12_notes_64 (by decide +kernel) ?_
  refine lv_icmp_ge (tgt := 95) hx hb dX12_notes_66 (by decide) (fun c => absurd c (by decide +kernel)) (fun _ => ?_)
  refine lv_aload_n hx hb dX12_notes_69 rfl (lv_at hl 1 rfl) ?_
  refine va_get (D := (dC, dI)) (ci := 12) (v := .ref (q 46)) (C := RX12) (T := TX12) (N := 85) hx hb hts hiX12 hown hK hP 6 rfl rfl 63 (by decide) (hts _ (List.mem_of_getElem? (i := 11) rfl)) (fun _ h9 => h9) rfl dX12_notes_70 ?_
  refine lv_iload_n hx hb dX12_notes_73 rfl (lv_at hl 0 rfl) ?_
  refine lv_aload_n hx hb dX12_notes_74 rfl (lv_at hl 1 rfl) ?_
  refine va_get (D := (dC, dI)) (ci := 12) (v := .ref (q 15)) (C := RX12) (T := TX12) (N := 85) hx hb hts hiX12 hown hK hP 6 rfl rfl 26 (by decide) (hts _ (List.mem_of_getElem? (i := 12) rfl)) (fun _ h9 => h9) rfl dX12_notes_75 ?_
  refine lv_bipush (v := 40) hx hb dX12_notes_78 (by decide +kernel) ?_
  refine lv_aload_n hx hb dX12_notes_80 rfl (lv_at hl 1 rfl) ?_
  refine va_get (D := (dC, dI)) (ci := 12) (v := .int 0) (C := RX12) (T := TX12) (N := 85) hx hb hts hiX12 hown hK hP 6 rfl rfl 12 (by decide) (hts _ (List.mem_of_getElem? (i := 3) rfl)) (fun _ h9 => h9) rfl dX12_notes_81 ?_
  refine lv_imul hx hb dX12_notes_84 ?_
  refine tp_i (y := 0) (by decide +kernel) ?_
  refine lv_iload_n hx hb dX12_notes_85 rfl (lv_at hl 0 rfl) ?_
  refine lv_iadd hx hb dX12_notes_86 ?_
  refine tp_i (y := 7) (by decide +kernel) ?_
  refine va_iald hx hb hK hP 4 1 rfl rfl (vpc _ _ (by decide +kernel)) dX12_notes_87 ?_
  refine tp_i (y := 0) rfl ?_
  refine va_iast hx hb hK hP hD hS 5 1 rfl rfl (vpc _ _ (by decide +kernel)) dX12_notes_88 (fun H locs hP hD hS => ?_)
  have hP : va_P (dC, dI) vwCl [((q 18), .inl (cI, 6, .inl (fun _ => 0))), ((q 44), .inl (cI, 3, .inl (upd (upd (upd f0 0 0) 1 0) 2 0))), ((q 14), .inl (cI, 8, .inl (fun _ => 0))), ((q 45), .inl (cI, 4, .inl (upd (upd (upd (upd f1 0 0) 1 0) 2 0) 3 0))), ((q 15), .inl (cI, 80, .inl (fun _ => 0))), ((q 46), .inl (cI, 40, .inl (upd (upd (upd (upd (upd (upd (upd (upd f2 0 0) 1 0) 2 0) 3 0) 4 0) 5 0) 6 0) 7 0))), ((q 0), .inr (12, (mo q)))] H := hP
  have hD : va_D A [((q 18), .inl (cI, 6, .inl (fun _ => 0))), ((q 44), .inl (cI, 3, .inl (upd (upd (upd f0 0 0) 1 0) 2 0))), ((q 14), .inl (cI, 8, .inl (fun _ => 0))), ((q 45), .inl (cI, 4, .inl (upd (upd (upd (upd f1 0 0) 1 0) 2 0) 3 0))), ((q 15), .inl (cI, 80, .inl (fun _ => 0))), ((q 46), .inl (cI, 40, .inl (upd (upd (upd (upd (upd (upd (upd (upd f2 0 0) 1 0) 2 0) 3 0) 4 0) 5 0) 6 0) 7 0))), ((q 0), .inr (12, (mo q)))] := hD
  refine lv_iinc (v := 8) (lv' := [(1, .int 8), (0, .ref (q 0))]) hx hb dX12_notes_89 hl (k := 0) rfl (by decide +kernel) (by decide) rfl (fun ls hl => ?_)
  refine lv_goto (tgt := 63) hx hb dX12_notes_92 (by decide) ?_
  refine lv_iload_n hx hb dX12_notes_63 rfl (lv_at hl 0 rfl) ?_
  refine lv_bipush (v := 40) hx hb dX12_notes_64 (by decide +kernel) ?_
  refine lv_icmp_ge (tgt := 95) hx hb dX12_notes_66 (by decide) (fun c => absurd c (by decide +kernel)) (fun _ => ?_)
  refine lv_aload_n hx hb dX12_notes_69 rfl (lv_at hl 1 rfl) ?_
  refine va_get (D := (dC, dI)) (ci := 12) (v := .ref (q 46)) (C := RX12) (T := TX12) (N := 85) hx hb hts hiX12 hown hK hP 6 rfl rfl 63 (by decide) (hts _ (List.mem_of_getElem? (i := 11) rfl)) (fun _ h9 => h9) rfl dX12_notes_70 ?_
  refine lv_iload_n hx hb dX12_notes_73 rfl (lv_at hl 0 rfl) ?_
  refine lv_aload_n hx hb dX12_notes_74 rfl (lv_at hl 1 rfl) ?_
  refine va_get (D := (dC, dI)) (ci := 12) (v := .ref (q 15)) (C := RX12) (T := TX12) (N := 85) hx hb hts hiX12 hown hK hP 6 rfl rfl 26 (by decide) (hts _ (List.mem_of_getElem? (i := 12) rfl)) (fun _ h9 => h9) rfl dX12_notes_75 ?_
  refine lv_bipush (v := 40) hx hb dX12_notes_78 (by decide +kernel) ?_
  refine lv_aload_n hx hb dX12_notes_80 rfl (lv_at hl 1 rfl) ?_
  refine va_get (D := (dC, dI)) (ci := 12) (v := .int 0) (C := RX12) (T := TX12) (N := 85) hx hb hts hiX12 hown hK hP 6 rfl rfl 12 (by decide) (hts _ (List.mem_of_getElem? (i := 3) rfl)) (fun _ h9 => h9) rfl dX12_notes_81 ?_
  refine lv_imul hx hb dX12_notes_84 ?_
  refine tp_i (y := 0) (by decide +kernel) ?_
  refine lv_iload_n hx hb dX12_notes_85 rfl (lv_at hl 0 rfl) ?_
  refine lv_iadd hx hb dX12_notes_86 ?_
  refine tp_i (y := 8) (by decide +kernel) ?_
  refine va_iald hx hb hK hP 4 1 rfl rfl (vpc _ _ (by decide +kernel)) dX12_notes_87 ?_
  refine tp_i (y := 0) rfl ?_
  refine va_iast hx hb hK hP hD hS 5 1 rfl rfl (vpc _ _ (by decide +kernel)) dX12_notes_88 (fun H locs hP hD hS => ?_)
  have hP : va_P (dC, dI) vwCl [((q 18), .inl (cI, 6, .inl (fun _ => 0))), ((q 44), .inl (cI, 3, .inl (upd (upd (upd f0 0 0) 1 0) 2 0))), ((q 14), .inl (cI, 8, .inl (fun _ => 0))), ((q 45), .inl (cI, 4, .inl (upd (upd (upd (upd f1 0 0) 1 0) 2 0) 3 0))), ((q 15), .inl (cI, 80, .inl (fun _ => 0))), ((q 46), .inl (cI, 40, .inl (upd (upd (upd (upd (upd (upd (upd (upd (upd f2 0 0) 1 0) 2 0) 3 0) 4 0) 5 0) 6 0) 7 0) 8 0))), ((q 0), .inr (12, (mo q)))] H := hP
  have hD : va_D A [((q 18), .inl (cI, 6, .inl (fun _ => 0))), ((q 44), .inl (cI, 3, .inl (upd (upd (upd f0 0 0) 1 0) 2 0))), ((q 14), .inl (cI, 8, .inl (fun _ => 0))), ((q 45), .inl (cI, 4, .inl (upd (upd (upd (upd f1 0 0) 1 0) 2 0) 3 0))), ((q 15), .inl (cI, 80, .inl (fun _ => 0))), ((q 46), .inl (cI, 40, .inl (upd (upd (upd (upd (upd (upd (upd (upd (upd f2 0 0) 1 0) 2 0) 3 0) 4 0) 5 0) 6 0) 7 0) 8 0))), ((q 0), .inr (12, (mo q)))] := hD
  refine lv_iinc (v := 9) (lv' := [(1, .int 9), (0, .ref (q 0))]) hx hb dX12_notes_89 hl (k := 0) rfl (by decide +kernel) (by decide) rfl (fun ls hl => ?_)
  refine lv_goto (tgt := 63) hx hb dX12_notes_92 (by decide) ?_
  refine lv_iload_n hx hb dX12_notes_63 rfl (lv_at hl 0 rfl) ?_
  refine lv_bipush (v := 40) hx hb dX12_notes_64 (by decide +kernel) ?_
  refine lv_icmp_ge (tgt := 95) hx hb dX12_notes_66 (by decide) (fun c => absurd c (by decide +kernel)) (fun _ => ?_)
  refine lv_aload_n hx hb dX12_notes_69 rfl (lv_at hl 1 rfl) ?_
  refine va_get (D := (dC, dI)) (ci := 12) (v := .ref (q 46)) (C := RX12) (T := TX12) (N := 85) hx hb hts hiX12 hown hK hP 6 rfl rfl 63 (by decide) (hts _ (List.mem_of_getElem? (i := 11) rfl)) (fun _ h9 => h9) rfl dX12_notes_70 ?_
  refine lv_iload_n hx hb dX12_notes_73 rfl (lv_at hl 0 rfl) ?_
  refine lv_aload_n hx hb dX12_notes_74 rfl (lv_at hl 1 rfl) ?_
  refine va_get (D := (dC, dI)) (ci := 12) (v := .ref (q 15)) (C := RX12) (T := TX12) (N := 85) hx hb hts hiX12 hown hK hP 6 rfl rfl 26 (by decide) (hts _ (List.mem_of_getElem? (i := 12) rfl)) (fun _ h9 => h9) rfl dX12_notes_75 ?_
  refine lv_bipush (v := 40) hx hb dX12_notes_78 (by decide +kernel) ?_
  refine lv_aload_n hx hb dX12_notes_80 rfl (lv_at hl 1 rfl) ?_
  refine va_get (D := (dC, dI)) (ci := 12) (v := .int 0) (C := RX12) (T := TX12) (N := 85) hx hb hts hiX12 hown hK hP 6 rfl rfl 12 (by decide) (hts _ (List.mem_of_getElem? (i := 3) rfl)) (fun _ h9 => h9) rfl dX12_notes_81 ?_
  refine lv_imul hx hb dX12_notes_84 ?_
  refine tp_i (y := 0) (by decide +kernel) ?_
  refine lv_iload_n hx hb dX12_notes_85 rfl (lv_at hl 0 rfl) ?_
  refine lv_iadd hx hb dX12_notes_86 ?_
  refine tp_i (y := 9) (by decide +kernel) ?_
  refine va_iald hx hb hK hP 4 1 rfl rfl (vpc _ _ (by decide +kernel)) dX12_notes_87 ?_
  refine tp_i (y := 0) rfl ?_
  refine va_iast hx hb hK hP hD hS 5 1 rfl rfl (vpc _ _ (by decide +kernel)) dX12_notes_88 (fun H locs hP hD hS => ?_)
  have hP : va_P (dC, dI) vwCl [((q 18), .inl (cI, 6, .inl (fun _ => 0))), ((q 44), .inl (cI, 3, .inl (upd (upd (upd f0 0 0) 1 0) 2 0))), ((q 14), .inl (cI, 8, .inl (fun _ => 0))), ((q 45), .inl (cI, 4, .inl (upd (upd (upd (upd f1 0 0) 1 0) 2 0) 3 0))), ((q 15), .inl (cI, 80, .inl (fun _ => 0))), ((q 46), .inl (cI, 40, .inl (upd (upd (upd (upd (upd (upd (upd (upd (upd (upd f2 0 0) 1 0) 2 0) 3 0) 4 0) 5 0) 6 0) 7 0) 8 0) 9 0))), ((q 0), .inr (12, (mo q)))] H := hP
  have hD : va_D A [((q 18), .inl (cI, 6, .inl (fun _ => 0))), ((q 44), .inl (cI, 3, .inl (upd (upd (upd f0 0 0) 1 0) 2 0))), ((q 14), .inl (cI, 8, .inl (fun _ => 0))), ((q 45), .inl (cI, 4, .inl (upd (upd (upd (upd f1 0 0) 1 0) 2 0) 3 0))), ((q 15), .inl (cI, 80, .inl (fun _ => 0))), ((q 46), .inl (cI, 40, .inl (upd (upd (upd (upd (upd (upd (upd (upd (upd (upd f2 0 0) 1 0) 2 0) 3 0) 4 0) 5 0) 6 0) 7 0) 8 0) 9 0))), ((q 0), .inr (12, (mo q)))] := hD
  refine lv_iinc (v := 10) (lv' := [(1, .int 10), (0, .ref (q 0))]) hx hb dX12_notes_89 hl (k := 0) rfl (by decide +kernel) (by decide) rfl (fun ls hl => ?_)
  refine lv_goto (tgt := 63) hx hb dX12_notes_92 (by decide) ?_
  refine lv_iload_n hx hb dX12_notes_63 rfl (lv_at hl 0 rfl) ?_
  refine lv_bipush (v := 40) hx hb dX12_notes_64 (by decide +kernel) ?_
  refine lv_icmp_ge (tgt := 95) hx hb dX12_notes_66 (by decide) (fun c => absurd c (by decide +kernel)) (fun _ => ?_)
  refine lv_aload_n hx hb dX12_notes_69 rfl (lv_at hl 1 rfl) ?_
  refine va_get (D := (dC, dI)) (ci := 12) (v := .ref (q 46)) (C := RX12) (T := TX12) (N := 85) hx hb hts hiX12 hown hK hP 6 rfl rfl 63 (by decide) (hts _ (List.mem_of_getElem? (i := 11) rfl)) (fun _ h9 => h9) rfl dX12_notes_70 ?_
  refine lv_iload_n hx hb dX12_notes_73 rfl (lv_at hl 0 rfl) ?_
  refine lv_aload_n hx hb dX12_notes_74 rfl (lv_at hl 1 rfl) ?_
  refine va_get (D := (dC, dI)) (ci := 12) (v := .ref (q 15)) (C := RX12) (T := TX12) (N := 85) hx hb hts hiX12 hown hK hP 6 rfl rfl 26 (by decide) (hts _ (List.mem_of_getElem? (i := 12) rfl)) (fun _ h9 => h9) rfl dX12_notes_75 ?_
  refine lv_bipush (v := 40) hx hb dX12_notes_78 (by decide +kernel) ?_
  refine lv_aload_n hx hb dX12_notes_80 rfl (lv_at hl 1 rfl) ?_
  refine va_get (D := (dC, dI)) (ci := 12) (v := .int 0) (C := RX12) (T := TX12) (N := 85) hx hb hts hiX12 hown hK hP 6 rfl rfl 12 (by decide) (hts _ (List.mem_of_getElem? (i := 3) rfl)) (fun _ h9 => h9) rfl dX12_notes_81 ?_
  refine lv_imul hx hb dX12_notes_84 ?_
  refine tp_i (y := 0) (by decide +kernel) ?_
  refine lv_iload_n hx hb dX12_notes_85 rfl (lv_at hl 0 rfl) ?_
  refine lv_iadd hx hb dX12_notes_86 ?_
  refine tp_i (y := 10) (by decide +kernel) ?_
  refine va_iald hx hb hK hP 4 1 rfl rfl (vpc _ _ (by decide +kernel)) dX12_notes_87 ?_
  refine tp_i (y := 0) rfl ?_
  refine va_iast hx hb hK hP hD hS 5 1 rfl rfl (vpc _ _ (by decide +kernel)) dX12_notes_88 (fun H locs hP hD hS => ?_)
  have hP : va_P (dC, dI) vwCl [((q 18), .inl (cI, 6, .inl (fun _ => 0))), ((q 44), .inl (cI, 3, .inl (upd (upd (upd f0 0 0) 1 0) 2 0))), ((q 14), .inl (cI, 8, .inl (fun _ => 0))), ((q 45), .inl (cI, 4, .inl (upd (upd (upd (upd f1 0 0) 1 0) 2 0) 3 0))), ((q 15), .inl (cI, 80, .inl (fun _ => 0))), ((q 46), .inl (cI, 40, .inl (upd (upd (upd (upd (upd (upd (upd (upd (upd (upd (upd f2 0 0) 1 0) 2 0) 3 0) 4 0) 5 0) 6 0) 7 0) 8 0) 9 0) 10 0))), ((q 0), .inr (12, (mo q)))] H := hP
  have hD : va_D A [((q 18), .inl (cI, 6, .inl (fun _ => 0))), ((q 44), .inl (cI, 3, .inl (upd (upd (upd f0 0 0) 1 0) 2 0))), ((q 14), .inl (cI, 8, .inl (fun _ => 0))), ((q 45), .inl (cI, 4, .inl (upd (upd (upd (upd f1 0 0) 1 0) 2 0) 3 0))), ((q 15), .inl (cI, 80, .inl (fun _ => 0))), ((q 46), .inl (cI, 40, .inl (upd (upd (upd (upd (upd (upd (upd (upd (upd (upd (upd f2 0 0) 1 0) 2 0) 3 0) 4 0) 5 0) 6 0) 7 0) 8 0) 9 0) 10 0))), ((q 0), .inr (12, (mo q)))] := hD
  refine lv_iinc (v := 11) (lv' := [(1, .int 11), (0, .ref (q 0))]) hx hb dX12_notes_89 hl (k := 0) rfl (by decide +kernel) (by decide) rfl (fun ls hl => ?_)
  refine lv_goto (tgt := 63) hx hb dX12_notes_92 (by decide) ?_
  refine lv_iload_n hx hb dX12_notes_63 rfl (lv_at hl 0 rfl) ?_
  refine lv_bipush (v := 40) hx hb dX12_notes_64 (by decide +kernel) ?_
  refine lv_icmp_ge (tgt := 95) hx hb dX12_notes_66 (by decide) (fun c => absurd c (by decide +kernel)) (fun _ => ?_)
  refine lv_aload_n hx hb dX12_notes_69 rfl (lv_at hl 1 rfl) ?_
  refine va_get (D := (dC, dI)) (ci := 12) (v := .ref (q 46)) (C := RX12) (T := TX12) (N := 85) hx hb hts hiX12 hown hK hP 6 rfl rfl 63 (by decide) (hts _ (List.mem_of_getElem? (i := 11) rfl)) (fun _ h9 => h9) rfl dX12_notes_70 ?_
  refine lv_iload_n hx hb dX12_notes_73 rfl (lv_at hl 0 rfl) ?_
  refine lv_aload_n hx hb dX12_notes_74 rfl (lv_at hl 1 rfl) ?_
  refine va_get (D := (dC, dI)) (ci := 12) (v := .ref (q 15)) (C := RX12) (T := TX12) (N := 85) hx hb hts hiX12 hown hK hP 6 rfl rfl 26 (by decide) (hts _ (List.mem_of_getElem? (i := 12) rfl)) (fun _ h9 => h9) rfl dX12_notes_75 ?_
  refine lv_bipush (v := 40) hx hb dX12_notes_78 (by decide +kernel) ?_
  refine lv_aload_n hx hb dX12_notes_80 rfl (lv_at hl 1 rfl) ?_
  refine va_get (D := (dC, dI)) (ci := 12) (v := .int 0) (C := RX12) (T := TX12) (N := 85) hx hb hts hiX12 hown hK hP 6 rfl rfl 12 (by decide) (hts _ (List.mem_of_getElem? (i := 3) rfl)) (fun _ h9 => h9) rfl dX12_notes_81 ?_
  refine lv_imul hx hb dX12_notes_84 ?_
  refine tp_i (y := 0) (by decide +kernel) ?_
  refine lv_iload_n hx hb dX12_notes_85 rfl (lv_at hl 0 rfl) ?_
  refine lv_iadd hx hb dX12_notes_86 ?_
  refine tp_i (y := 11) (by decide +kernel) ?_
  refine va_iald hx hb hK hP 4 1 rfl rfl (vpc _ _ (by decide +kernel)) dX12_notes_87 ?_
  refine tp_i (y := 0) rfl ?_
  refine va_iast hx hb hK hP hD hS 5 1 rfl rfl (vpc _ _ (by decide +kernel)) dX12_notes_88 (fun H locs hP hD hS => ?_)
  have hP : va_P (dC, dI) vwCl [((q 18), .inl (cI, 6, .inl (fun _ => 0))), ((q 44), .inl (cI, 3, .inl (upd (upd (upd f0 0 0) 1 0) 2 0))), ((q 14), .inl (cI, 8, .inl (fun _ => 0))), ((q 45), .inl (cI, 4, .inl (upd (upd (upd (upd f1 0 0) 1 0) 2 0) 3 0))), ((q 15), .inl (cI, 80, .inl (fun _ => 0))), ((q 46), .inl (cI, 40, .inl (upd (upd (upd (upd (upd (upd (upd (upd (upd (upd (upd (upd f2 0 0) 1 0) 2 0) 3 0) 4 0) 5 0) 6 0) 7 0) 8 0) 9 0) 10 0) 11 0))), ((q 0), .inr (12, (mo q)))] H := hP
  have hD : va_D A [((q 18), .inl (cI, 6, .inl (fun _ => 0))), ((q 44), .inl (cI, 3, .inl (upd (upd (upd f0 0 0) 1 0) 2 0))), ((q 14), .inl (cI, 8, .inl (fun _ => 0))), ((q 45), .inl (cI, 4, .inl (upd (upd (upd (upd f1 0 0) 1 0) 2 0) 3 0))), ((q 15), .inl (cI, 80, .inl (fun _ => 0))), ((q 46), .inl (cI, 40, .inl (upd (upd (upd (upd (upd (upd (upd (upd (upd (upd (upd (upd f2 0 0) 1 0) 2 0) 3 0) 4 0) 5 0) 6 0) 7 0) 8 0) 9 0) 10 0) 11 0))), ((q 0), .inr (12, (mo q)))] := hD
  refine lv_iinc (v := 12) (lv' := [(1, .int 12), (0, .ref (q 0))]) hx hb dX12_notes_89 hl (k := 0) rfl (by decide +kernel) (by decide) rfl (fun ls hl => ?_)
  refine lv_goto (tgt := 63) hx hb dX12_notes_92 (by decide) ?_
  refine lv_iload_n hx hb dX12_notes_63 rfl (lv_at hl 0 rfl) ?_
  refine lv_bipush (v := 40) hx hb dX12_notes_64 (by decide +kernel) ?_
  refine lv_icmp_ge (tgt := 95) hx hb dX12_notes_66 (by decide) (fun c => absurd c (by decide +kernel)) (fun _ => ?_)
  refine lv_aload_n hx hb dX12_notes_69 rfl (lv_at hl 1 rfl) ?_
  refine va_get (D := (dC, dI)) (ci := 12) (v := .ref (q 46)) (C := RX12) (T := TX12) (N := 85) hx hb hts hiX12 hown hK hP 6 rfl rfl 63 (by decide) (hts _ (List.mem_of_getElem? (i := 11) rfl)) (fun _ h9 => h9) rfl dX12_notes_70 ?_
  refine lv_iload_n hx hb dX12_notes_73 rfl (lv_at hl 0 rfl) ?_
  refine lv_aload_n hx hb dX12_notes_74 rfl (lv_at hl 1 rfl) ?_
  refine va_get (D := (dC, dI)) (ci := 12) (v := .ref (q 15)) (C := RX12) (T := TX12) (N := 85) hx hb hts hiX12 hown hK hP 6 rfl rfl 26 (by decide) (hts _ (List.mem_of_getElem? (i := 12) rfl)) (fun _ h9 => h9) rfl dX12_notes_75 ?_
  refine lv_bipush (v := 40) hx hb dX12_notes_78 (by decide +kernel) ?_
  refine lv_aload_n hx hb dX12_notes_80 rfl (lv_at hl 1 rfl) ?_
  refine va_get (D := (dC, dI)) (ci := 12) (v := .int 0) (C := RX12) (T := TX12) (N := 85) hx hb hts hiX12 hown hK hP 6 rfl rfl 12 (by decide) (hts _ (List.mem_of_getElem? (i := 3) rfl)) (fun _ h9 => h9) rfl dX12_notes_81 ?_
  refine lv_imul hx hb dX12_notes_84 ?_
  refine tp_i (y := 0) (by decide +kernel) ?_
  refine lv_iload_n hx hb dX12_notes_85 rfl (lv_at hl 0 rfl) ?_
  refine lv_iadd hx hb dX12_notes_86 ?_
  refine tp_i (y := 12) (by decide +kernel) ?_
  refine va_iald hx hb hK hP 4 1 rfl rfl (vpc _ _ (by decide +kernel)) dX12_notes_87 ?_
  refine tp_i (y := 0) rfl ?_
  refine va_iast hx hb hK hP hD hS 5 1 rfl rfl (vpc _ _ (by decide +kernel)) dX12_notes_88 (fun H locs hP hD hS => ?_)
  have hP : va_P (dC, dI) vwCl [((q 18), .inl (cI, 6, .inl (fun _ => 0))), ((q 44), .inl (cI, 3, .inl (upd (upd (upd f0 0 0) 1 0) 2 0))), ((q 14), .inl (cI, 8, .inl (fun _ => 0))), ((q 45), .inl (cI, 4, .inl (upd (upd (upd (upd f1 0 0) 1 0) 2 0) 3 0))), ((q 15), .inl (cI, 80, .inl (fun _ => 0))), ((q 46), .inl (cI, 40, .inl (upd (upd (upd (upd (upd (upd (upd (upd (upd (upd (upd (upd (upd f2 0 0) 1 0) 2 0) 3 0) 4 0) 5 0) 6 0) 7 0) 8 0) 9 0) 10 0) 11 0) 12 0))), ((q 0), .inr (12, (mo q)))] H := hP
  have hD : va_D A [((q 18), .inl (cI, 6, .inl (fun _ => 0))), ((q 44), .inl (cI, 3, .inl (upd (upd (upd f0 0 0) 1 0) 2 0))), ((q 14), .inl (cI, 8, .inl (fun _ => 0))), ((q 45), .inl (cI, 4, .inl (upd (upd (upd (upd f1 0 0) 1 0) 2 0) 3 0))), ((q 15), .inl (cI, 80, .inl (fun _ => 0))), ((q 46), .inl (cI, 40, .inl (upd (upd (upd (upd (upd (upd (upd (upd (upd (upd (upd (upd (upd f2 0 0) 1 0) 2 0) 3 0) 4 0) 5 0) 6 0) 7 0) 8 0) 9 0) 10 0) 11 0) 12 0))), ((q 0), .inr (12, (mo q)))] := hD
  refine lv_iinc (v := 13) (lv' := [(1, .int 13), (0, .ref (q 0))]) hx hb dX12_notes_89 hl (k := 0) rfl (by decide +kernel) (by decide) rfl (fun ls hl => ?_)
  refine lv_goto (tgt := 63) hx hb dX12_notes_92 (by decide) ?_
  refine lv_iload_n hx hb dX12_notes_63 rfl (lv_at hl 0 rfl) ?_
  refine lv_bipush (v := 40) hx hb dX12_notes_64 (by decide +kernel) ?_
  refine lv_icmp_ge (tgt := 95) hx hb dX12_notes_66 (by decide) (fun c => absurd c (by decide +kernel)) (fun _ => ?_)
  refine lv_aload_n hx hb dX12_notes_69 rfl (lv_at hl 1 rfl) ?_
  refine va_get (D := (dC, dI)) (ci := 12) (v := .ref (q 46)) (C := RX12) (T := TX12) (N := 85) hx hb hts hiX12 hown hK hP 6 rfl rfl 63 (by decide) (hts _ (List.mem_of_getElem? (i := 11) rfl)) (fun _ h9 => h9) rfl dX12_notes_70 ?_
  refine lv_iload_n hx hb dX12_notes_73 rfl (lv_at hl 0 rfl) ?_
  refine lv_aload_n hx hb dX12_notes_74 rfl (lv_at hl 1 rfl) ?_
  refine va_get (D := (dC, dI)) (ci := 12) (v := .ref (q 15)) (C := RX12) (T := TX12) (N := 85) hx hb hts hiX12 hown hK hP 6 rfl rfl 26 (by decide) (hts _ (List.mem_of_getElem? (i := 12) rfl)) (fun _ h9 => h9) rfl dX12_notes_75 ?_
  refine lv_bipush (v := 40) hx hb dX12_notes_78 (by decide +kernel) ?_
  refine lv_aload_n hx hb dX12_notes_80 rfl (lv_at hl 1 rfl) ?_
  refine va_get (D := (dC, dI)) (ci := 12) (v := .int 0) (C := RX12) (T := TX12) (N := 85) hx hb hts hiX12 hown hK hP 6 rfl rfl 12 (by decide) (hts _ (List.mem_of_getElem? (i := 3) rfl)) (fun _ h9 => h9) rfl dX12_notes_81 ?_
  refine lv_imul hx hb dX12_notes_84 ?_
  refine tp_i (y := 0) (by decide +kernel) ?_
  refine lv_iload_n hx hb dX12_notes_85 rfl (lv_at hl 0 rfl) ?_
  refine lv_iadd hx hb dX12_notes_86 ?_
  refine tp_i (y := 13) (by decide +kernel) ?_
  refine va_iald hx hb hK hP 4 1 rfl rfl (vpc _ _ (by decide +kernel)) dX12_notes_87 ?_
  refine tp_i (y := 0) rfl ?_
  refine va_iast hx hb hK hP hD hS 5 1 rfl rfl (vpc _ _ (by decide +kernel)) dX12_notes_88 (fun H locs hP hD hS => ?_)
  have hP : va_P (dC, dI) vwCl [((q 18), .inl (cI, 6, .inl (fun _ => 0))), ((q 44), .inl (cI, 3, .inl (upd (upd (upd f0 0 0) 1 0) 2 0))), ((q 14), .inl (cI, 8, .inl (fun _ => 0))), ((q 45), .inl (cI, 4, .inl (upd (upd (upd (upd f1 0 0) 1 0) 2 0) 3 0))), ((q 15), .inl (cI, 80, .inl (fun _ => 0))), ((q 46), .inl (cI, 40, .inl (upd (upd (upd (upd (upd (upd (upd (upd (upd (upd (upd (upd (upd (upd f2 0 0) 1 0) 2 0) 3 0) 4 0) 5 0) 6 0) 7 0) 8 0) 9 0) 10 0) 11 0) 12 0) 13 0))), ((q 0), .inr (12, (mo q)))] H := hP
  have hD : va_D A [((q 18), .inl (cI, 6, .inl (fun _ => 0))), ((q 44), .inl (cI, 3, .inl (upd (upd (upd f0 0 0) 1 0) 2 0))), ((q 14), .inl (cI, 8, .inl (fun _ => 0))), ((q 45), .inl (cI, 4, .inl (upd (upd (upd (upd f1 0 0) 1 0) 2 0) 3 0))), ((q 15), .inl (cI, 80, .inl (fun _ => 0))), ((q 46), .inl (cI, 40, .inl (upd (upd (upd (upd (upd (upd (upd (upd (upd (upd (upd (upd (upd (upd f2 0 0) 1 0) 2 0) 3 0) 4 0) 5 0) 6 0) 7 0) 8 0) 9 0) 10 0) 11 0) 12 0) 13 0))), ((q 0), .inr (12, (mo q)))] := hD
  refine lv_iinc (v := 14) (lv' := [(1, .int 14), (0, .ref (q 0))]) hx hb dX12_notes_89 hl (k := 0) rfl (by decide +kernel) (by decide) rfl (fun ls hl => ?_)
  refine lv_goto (tgt := 63) hx hb dX12_notes_92 (by decide) ?_
  refine lv_iload_n hx hb dX12_notes_63 rfl (lv_at hl 0 rfl) ?_
  refine lv_bipush (v := 40) hx hb dX12_notes_64 (by decide +kernel) ?_
  refine lv_icmp_ge (tgt := 95) hx hb dX12_notes_66 (by decide) (fun c => absurd c (by decide +kernel)) (fun _ => ?_)
  refine lv_aload_n hx hb dX12_notes_69 rfl (lv_at hl 1 rfl) ?_
  refine va_get (D := (dC, dI)) (ci := 12) (v := .ref (q 46)) (C := RX12) (T := TX12) (N := 85) hx hb hts hiX12 hown hK hP 6 rfl rfl 63 (by decide) (hts _ (List.mem_of_getElem? (i := 11) rfl)) (fun _ h9 => h9) rfl dX12_notes_70 ?_
  refine lv_iload_n hx hb dX12_notes_73 rfl (lv_at hl 0 rfl) ?_
  refine lv_aload_n hx hb dX12_notes_74 rfl (lv_at hl 1 rfl) ?_
  refine va_get (D := (dC, dI)) (ci := 12) (v := .ref (q 15)) (C := RX12) (T := TX12) (N := 85) hx hb hts hiX12 hown hK hP 6 rfl rfl 26 (by decide) (hts _ (List.mem_of_getElem? (i := 12) rfl)) (fun _ h9 => h9) rfl dX12_notes_75 ?_
  refine lv_bipush (v := 40) hx hb dX12_notes_78 (by decide +kernel) ?_
  refine lv_aload_n hx hb dX12_notes_80 rfl (lv_at hl 1 rfl) ?_
  refine va_get (D := (dC, dI)) (ci := 12) (v := .int 0) (C := RX12) (T := TX12) (N := 85) hx hb hts hiX12 hown hK hP 6 rfl rfl 12 (by decide) (hts _ (List.mem_of_getElem? (i := 3) rfl)) (fun _ h9 => h9) rfl dX12_notes_81 ?_
  refine lv_imul hx hb dX12_notes_84 ?_
  refine tp_i (y := 0) (by decide +kernel) ?_
  refine lv_iload_n hx hb dX12_notes_85 rfl (lv_at hl 0 rfl) ?_
  refine lv_iadd hx hb dX12_notes_86 ?_
  refine tp_i (y := 14) (by decide +kernel) ?_
  refine va_iald hx hb hK hP 4 1 rfl rfl (vpc _ _ (by decide +kernel)) dX12_notes_87 ?_
  refine tp_i (y := 0) rfl ?_
  refine va_iast hx hb hK hP hD hS 5 1 rfl rfl (vpc _ _ (by decide +kernel)) dX12_notes_88 (fun H locs hP hD hS => ?_)
  have hP : va_P (dC, dI) vwCl [((q 18), .inl (cI, 6, .inl (fun _ => 0))), ((q 44), .inl (cI, 3, .inl (upd (upd (upd f0 0 0) 1 0) 2 0))), ((q 14), .inl (cI, 8, .inl (fun _ => 0))), ((q 45), .inl (cI, 4, .inl (upd (upd (upd (upd f1 0 0) 1 0) 2 0) 3 0))), ((q 15), .inl (cI, 80, .inl (fun _ => 0))), ((q 46), .inl (cI, 40, .inl (upd (upd (upd (upd (upd (upd (upd (upd (upd (upd (upd (upd (upd (upd (upd f2 0 0) 1 0) 2 0) 3 0) 4 0) 5 0) 6 0) 7 0) 8 0) 9 0) 10 0) 11 0) 12 0) 13 0) 14 0))), ((q 0), .inr (12, (mo q)))] H := hP
  have hD : va_D A [((q 18), .inl (cI, 6, .inl (fun _ => 0))), ((q 44), .inl (cI, 3, .inl (upd (upd (upd f0 0 0) 1 0) 2 0))), ((q 14), .inl (cI, 8, .inl (fun _ => 0))), ((q 45), .inl (cI, 4, .inl (upd (upd (upd (upd f1 0 0) 1 0) 2 0) 3 0))), ((q 15), .inl (cI, 80, .inl (fun _ => 0))), ((q 46), .inl (cI, 40, .inl (upd (upd (upd (upd (upd (upd (upd (upd (upd (upd (upd (upd (upd (upd (upd f2 0 0) 1 0) 2 0) 3 0) 4 0) 5 0) 6 0) 7 0) 8 0) 9 0) 10 0) 11 0) 12 0) 13 0) 14 0))), ((q 0), .inr (12, (mo q)))] := hD
  refine lv_iinc (v := 15) (lv' := [(1, .int 15), (0, .ref (q 0))]) hx hb dX12_notes_89 hl (k := 0) rfl (by decide +kernel) (by decide) rfl (fun ls hl => ?_)
  refine lv_goto (tgt := 63) hx hb dX12_notes_92 (by decide) ?_
  refine lv_iload_n hx hb dX12_notes_63 rfl (lv_at hl 0 rfl) ?_
  refine lv_bipush (v := 40) hx hb dX12_notes_64 (by decide +kernel) ?_
  refine lv_icmp_ge (tgt := 95) hx hb dX12_notes_66 (by decide) (fun c => absurd c (by decide +kernel)) (fun _ => ?_)
  refine lv_aload_n hx hb dX12_notes_69 rfl (lv_at hl 1 rfl) ?_
  refine va_get (D := (dC, dI)) (ci := 12) (v := .ref (q 46)) (C := RX12) (T := TX12) (N := 85) hx hb hts hiX12 hown hK hP 6 rfl rfl 63 (by decide) (hts _ (List.mem_of_getElem? (i := 11) rfl)) (fun _ h9 => h9) rfl dX12_notes_70 ?_
  refine lv_iload_n hx hb dX12_notes_73 rfl (lv_at hl 0 rfl) ?_
  refine lv_aload_n hx hb dX12_notes_74 rfl (lv_at hl 1 rfl) ?_
  refine va_get (D := (dC, dI)) (ci := 12) (v := .ref (q 15)) (C := RX12) (T := TX12) (N := 85) hx hb hts hiX12 hown hK hP 6 rfl rfl 26 (by decide) (hts _ (List.mem_of_getElem? (i := 12) rfl)) (fun _ h9 => h9) rfl dX12_notes_75 ?_
  refine lv_bipush (v := 40) hx hb dX12_notes_78 (by decide +kernel) ?_
  refine lv_aload_n hx hb dX12_notes_80 rfl (lv_at hl 1 rfl) ?_
  refine va_get (D := (dC, dI)) (ci := 12) (v := .int 0) (C := RX12) (T := TX12) (N := 85) hx hb hts hiX12 hown hK hP 6 rfl rfl 12 (by decide) (hts _ (List.mem_of_getElem? (i := 3) rfl)) (fun _ h9 => h9) rfl dX12_notes_81 ?_
  refine lv_imul hx hb dX12_notes_84 ?_
  refine tp_i (y := 0) (by decide +kernel) ?_
  refine lv_iload_n hx hb dX12_notes_85 rfl (lv_at hl 0 rfl) ?_
  refine lv_iadd hx hb dX12_notes_86 ?_
  refine tp_i (y := 15) (by decide +kernel) ?_
  refine va_iald hx hb hK hP 4 1 rfl rfl (vpc _ _ (by decide +kernel)) dX12_notes_87 ?_
  refine tp_i (y := 0) rfl ?_
  refine va_iast hx hb hK hP hD hS 5 1 rfl rfl (vpc _ _ (by decide +kernel)) dX12_notes_88 (fun H locs hP hD hS => ?_)
  have hP : va_P (dC, dI) vwCl [((q 18), .inl (cI, 6, .inl (fun _ => 0))), ((q 44), .inl (cI, 3, .inl (upd (upd (upd f0 0 0) 1 0) 2 0))), ((q 14), .inl (cI, 8, .inl (fun _ => 0))), ((q 45), .inl (cI, 4, .inl (upd (upd (upd (upd f1 0 0) 1 0) 2 0) 3 0))), ((q 15), .inl (cI, 80, .inl (fun _ => 0))), ((q 46), .inl (cI, 40, .inl (upd (upd (upd (upd (upd (upd (upd (upd (upd (upd (upd (upd (upd (upd (upd (upd f2 0 0) 1 0) 2 0) 3 0) 4 0) 5 0) 6 0) 7 0) 8 0) 9 0) 10 0) 11 0) 12 0) 13 0) 14 0) 15 0))), ((q 0), .inr (12, (mo q)))] H := hP
  have hD : va_D A [((q 18), .inl (cI, 6, .inl (fun _ => 0))), ((q 44), .inl (cI, 3, .inl (upd (upd (upd f0 0 0) 1 0) 2 0))), ((q 14), .inl (cI, 8, .inl (fun _ => 0))), ((q 45), .inl (cI, 4, .inl (upd (upd (upd (upd f1 0 0) 1 0) 2 0) 3 0))), ((q 15), .inl (cI, 80, .inl (fun _ => 0))), ((q 46), .inl (cI, 40, .inl (upd (upd (upd (upd (upd (upd (upd (upd (upd (upd (upd (upd (upd (upd (upd (upd f2 0 0) 1 0) 2 0) 3 0) 4 0) 5 0) 6 0) 7 0) 8 0) 9 0) 10 0) 11 0) 12 0) 13 0) 14 0) 15 0))), ((q 0), .inr (12, (mo q)))] := hD
  refine lv_iinc (v := 16) (lv' := [(1, .int 16), (0, .ref (q 0))]) hx hb dX12_notes_89 hl (k := 0) rfl (by decide +kernel) (by decide) rfl (fun ls hl => ?_)
  refine lv_goto (tgt := 63) hx hb dX12_notes_92 (by decide) ?_
  refine lv_iload_n hx hb dX12_notes_63 rfl (lv_at hl 0 rfl) ?_
  refine lv_bipush (v := 40) hx hb dX12_notes_64 (by decide +kernel) ?_
  refine lv_icmp_ge (tgt := 95) hx hb dX12_notes_66 (by decide) (fun c => absurd c (by decide +kernel)) (fun _ => ?_)
  refine lv_aload_n hx hb dX12_notes_69 rfl (lv_at hl 1 rfl) ?_
  refine va_get (D := (dC, dI)) (ci := 12) (v := .ref (q 46)) (C := RX12) (T := TX12) (N := 85) hx hb hts hiX12 hown hK hP 6 rfl rfl 63 (by decide) (hts _ (List.mem_of_getElem? (i := 11) rfl)) (fun _ h9 => h9) rfl dX12_notes_70 ?_
  refine lv_iload_n hx hb dX12_notes_73 rfl (lv_at hl 0 rfl) ?_
  refine lv_aload_n hx hb dX12_notes_74 rfl (lv_at hl 1 rfl) ?_
  refine va_get (D := (dC, dI)) (ci := 12) (v := .ref (q 15)) (C := RX12) (T := TX12) (N := 85) hx hb hts hiX12 hown hK hP 6 rfl rfl 26 (by decide) (hts _ (List.mem_of_getElem? (i := 12) rfl)) (fun _ h9 => h9) rfl dX12_notes_75 ?_
  refine lv_bipush (v := 40) hx hb dX12_notes_78 (by decide +kernel) ?_
  refine lv_aload_n hx hb dX12_notes_80 rfl (lv_at hl 1 rfl) ?_
  refine va_get (D := (dC, dI)) (ci := 12) (v := .int 0) (C := RX12) (T := TX12) (N := 85) hx hb hts hiX12 hown hK hP 6 rfl rfl 12 (by decide) (hts _ (List.mem_of_getElem? (i := 3) rfl)) (fun _ h9 => h9) rfl dX12_notes_81 ?_
  refine lv_imul hx hb dX12_notes_84 ?_
  refine tp_i (y := 0) (by decide +kernel) ?_
  refine lv_iload_n hx hb dX12_notes_85 rfl (lv_at hl 0 rfl) ?_
  refine lv_iadd hx hb dX12_notes_86 ?_
  refine tp_i (y := 16) (by decide +kernel) ?_
  refine va_iald hx hb hK hP 4 1 rfl rfl (vpc _ _ (by decide +kernel)) dX12_notes_87 ?_
  refine tp_i (y := 0) rfl ?_
  refine va_iast hx hb hK hP hD hS 5 1 rfl rfl (vpc _ _ (by decide +kernel)) dX12_notes_88 (fun H locs hP hD hS => ?_)
  have hP : va_P (dC, dI) vwCl [((q 18), .inl (cI, 6, .inl (fun _ => 0))), ((q 44), .inl (cI, 3, .inl (upd (upd (upd f0 0 0) 1 0) 2 0))), ((q 14), .inl (cI, 8, .inl (fun _ => 0))), ((q 45), .inl (cI, 4, .inl (upd (upd (upd (upd f1 0 0) 1 0) 2 0) 3 0))), ((q 15), .inl (cI, 80, .inl (fun _ => 0))), ((q 46), .inl (cI, 40, .inl (upd (upd (upd (upd (upd (upd (upd (upd (upd (upd (upd (upd (upd (upd (upd (upd (upd f2 0 0) 1 0) 2 0) 3 0) 4 0) 5 0) 6 0) 7 0) 8 0) 9 0) 10 0) 11 0) 12 0) 13 0) 14 0) 15 0) 16 0))), ((q 0), .inr (12, (mo q)))] H := hP
  have hD : va_D A [((q 18), .inl (cI, 6, .inl (fun _ => 0))), ((q 44), .inl (cI, 3, .inl (upd (upd (upd f0 0 0) 1 0) 2 0))), ((q 14), .inl (cI, 8, .inl (fun _ => 0))), ((q 45), .inl (cI, 4, .inl (upd (upd (upd (upd f1 0 0) 1 0) 2 0) 3 0))), ((q 15), .inl (cI, 80, .inl (fun _ => 0))), ((q 46), .inl (cI, 40, .inl (upd (upd (upd (upd (upd (upd (upd (upd (upd (upd (upd (upd (upd (upd (upd (upd (upd f2 0 0) 1 0) 2 0) 3 0) 4 0) 5 0) 6 0) 7 0) 8 0) 9 0) 10 0) 11 0) 12 0) 13 0) 14 0) 15 0) 16 0))), ((q 0), .inr (12, (mo q)))] := hD
  refine lv_iinc (v := 17) (lv' := [(1, .int 17), (0, .ref (q 0))]) hx hb dX12_notes_89 hl (k := 0) rfl (by decide +kernel) (by decide) rfl (fun ls hl => ?_)
  refine lv_goto (tgt := 63) hx hb dX12_notes_92 (by decide) ?_
  refine lv_iload_n hx hb dX12_notes_63 rfl (lv_at hl 0 rfl) ?_
  refine lv_bipush (v := 40) hx hb dX12_notes_64 (by decide +kernel) ?_
  refine lv_icmp_ge (tgt := 95) hx hb dX12_notes_66 (by decide) (fun c => absurd c (by decide +kernel)) (fun _ => ?_)
  refine lv_aload_n hx hb dX12_notes_69 rfl (lv_at hl 1 rfl) ?_
  refine va_get (D := (dC, dI)) (ci := 12) (v := .ref (q 46)) (C := RX12) (T := TX12) (N := 85) hx hb hts hiX12 hown hK hP 6 rfl rfl 63 (by decide) (hts _ (List.mem_of_getElem? (i := 11) rfl)) (fun _ h9 => h9) rfl dX12_notes_70 ?_
  refine lv_iload_n hx hb dX12_notes_73 rfl (lv_at hl 0 rfl) ?_
  refine lv_aload_n hx hb dX12_notes_74 rfl (lv_at hl 1 rfl) ?_
  refine va_get (D := (dC, dI)) (ci := 12) (v := .ref (q 15)) (C := RX12) (T := TX12) (N := 85) hx hb hts hiX12 hown hK hP 6 rfl rfl 26 (by decide) (hts _ (List.mem_of_getElem? (i := 12) rfl)) (fun _ h9 => h9) rfl dX12_notes_75 ?_
  refine lv_bipush (v := 40) hx hb dX12_notes_78 (by decide +kernel) ?_
  refine lv_aload_n hx hb dX12_notes_80 rfl (lv_at hl 1 rfl) ?_
  refine va_get (D := (dC, dI)) (ci := 12) (v := .int 0) (C := RX12) (T := TX12) (N := 85) hx hb hts hiX12 hown hK hP 6 rfl rfl 12 (by decide) (hts _ (List.mem_of_getElem? (i := 3) rfl)) (fun _ h9 => h9) rfl dX12_notes_81 ?_
  refine lv_imul hx hb dX12_notes_84 ?_
  refine tp_i (y := 0) (by decide +kernel) ?_
  refine lv_iload_n hx hb dX12_notes_85 rfl (lv_at hl 0 rfl) ?_
  refine lv_iadd hx hb dX12_notes_86 ?_
  refine tp_i (y := 17) (by decide +kernel) ?_
  refine va_iald hx hb hK hP 4 1 rfl rfl (vpc _ _ (by decide +kernel)) dX12_notes_87 ?_
  refine tp_i (y := 0) rfl ?_
  refine va_iast hx hb hK hP hD hS 5 1 rfl rfl (vpc _ _ (by decide +kernel)) dX12_notes_88 (fun H locs hP hD hS => ?_)
  have hP : va_P (dC, dI) vwCl [((q 18), .inl (cI, 6, .inl (fun _ => 0))), ((q 44), .inl (cI, 3, .inl (upd (upd (upd f0 0 0) 1 0) 2 0))), ((q 14), .inl (cI, 8, .inl (fun _ => 0))), ((q 45), .inl (cI, 4, .inl (upd (upd (upd (upd f1 0 0) 1 0) 2 0) 3 0))), ((q 15), .inl (cI, 80, .inl (fun _ => 0))), ((q 46), .inl (cI, 40, .inl (upd (upd (upd (upd (upd (upd (upd (upd (upd (upd (upd (upd (upd (upd (upd (upd (upd (upd f2 0 0) 1 0) 2 0) 3 0) 4 0) 5 0) 6 0) 7 0) 8 0) 9 0) 10 0) 11 0) 12 0) 13 0) 14 0) 15 0) 16 0) 17 0))), ((q 0), .inr (12, (mo q)))] H := hP
  have hD : va_D A [((q 18), .inl (cI, 6, .inl (fun _ => 0))), ((q 44), .inl (cI, 3, .inl (upd (upd (upd f0 0 0) 1 0) 2 0))), ((q 14), .inl (cI, 8, .inl (fun _ => 0))), ((q 45), .inl (cI, 4, .inl (upd (upd (upd (upd f1 0 0) 1 0) 2 0) 3 0))), ((q 15), .inl (cI, 80, .inl (fun _ => 0))), ((q 46), .inl (cI, 40, .inl (upd (upd (upd (upd (upd (upd (upd (upd (upd (upd (upd (upd (upd (upd (upd (upd (upd (upd f2 0 0) 1 0) 2 0) 3 0) 4 0) 5 0) 6 0) 7 0) 8 0) 9 0) 10 0) 11 0) 12 0) 13 0) 14 0) 15 0) 16 0) 17 0))), ((q 0), .inr (12, (mo q)))] := hD
  refine lv_iinc (v := 18) (lv' := [(1, .int 18), (0, .ref (q 0))]) hx hb dX12_notes_89 hl (k := 0) rfl (by decide +kernel) (by decide) rfl (fun ls hl => ?_)
  refine lv_goto (tgt := 63) hx hb dX12_notes_92 (by decide) ?_
  refine lv_iload_n hx hb dX12_notes_63 rfl (lv_at hl 0 rfl) ?_
  refine lv_bipush (v := 40) hx hb dX12_notes_64 (by decide +kernel) ?_
  refine lv_icmp_ge (tgt := 95) hx hb dX12_notes_66 (by decide) (fun c => absurd c (by decide +kernel)) (fun _ => ?_)
  refine lv_aload_n hx hb dX12_notes_69 rfl (lv_at hl 1 rfl) ?_
  refine va_get (D := (dC, dI)) (ci := 12) (v := .ref (q 46)) (C := RX12) (T := TX12) (N := 85) hx hb hts hiX12 hown hK hP 6 rfl rfl 63 (by decide) (hts _ (List.mem_of_getElem? (i := 11) rfl)) (fun _ h9 => h9) rfl dX12_notes_70 ?_
  refine lv_iload_n hx hb dX12_notes_73 rfl (lv_at hl 0 rfl) ?_
  refine lv_aload_n hx hb dX12_notes_74 rfl (lv_at hl 1 rfl) ?_
  refine va_get (D := (dC, dI)) (ci := 12) (v := .ref (q 15)) (C := RX12) (T := TX12) (N := 85) hx hb hts hiX12 hown hK hP 6 rfl rfl 26 (by decide) (hts _ (List.mem_of_getElem? (i := 12) rfl)) (fun _ h9 => h9) rfl dX12_notes_75 ?_
  refine lv_bipush (v := 40) hx hb dX12_notes_78 (by decide +kernel) ?_
  refine lv_aload_n hx hb dX12_notes_80 rfl (lv_at hl 1 rfl) ?_
  refine va_get (D := (dC, dI)) (ci := 12) (v := .int 0) (C := RX12) (T := TX12) (N := 85) hx hb hts hiX12 hown hK hP 6 rfl rfl 12 (by decide) (hts _ (List.mem_of_getElem? (i := 3) rfl)) (fun _ h9 => h9) rfl dX12_notes_81 ?_
  refine lv_imul hx hb dX12_notes_84 ?_
  refine tp_i (y := 0) (by decide +kernel) ?_
  refine lv_iload_n hx hb dX12_notes_85 rfl (lv_at hl 0 rfl) ?_
  refine lv_iadd hx hb dX12_notes_86 ?_
  refine tp_i (y := 18) (by decide +kernel) ?_
  refine va_iald hx hb hK hP 4 1 rfl rfl (vpc _ _ (by decide +kernel)) dX12_notes_87 ?_
  refine tp_i (y := 0) rfl ?_
  refine va_iast hx hb hK hP hD hS 5 1 rfl rfl (vpc _ _ (by decide +kernel)) dX12_notes_88 (fun H locs hP hD hS => ?_)
  have hP : va_P (dC, dI) vwCl [((q 18), .inl (cI, 6, .inl (fun _ => 0))), ((q 44), .inl (cI, 3, .inl (upd (upd (upd f0 0 0) 1 0) 2 0))), ((q 14), .inl (cI, 8, .inl (fun _ => 0))), ((q 45), .inl (cI, 4, .inl (upd (upd (upd (upd f1 0 0) 1 0) 2 0) 3 0))), ((q 15), .inl (cI, 80, .inl (fun _ => 0))), ((q 46), .inl (cI, 40, .inl (upd (upd (upd (upd (upd (upd (upd (upd (upd (upd (upd (upd (upd (upd (upd (upd (upd (upd (upd f2 0 0) 1 0) 2 0) 3 0) 4 0) 5 0) 6 0) 7 0) 8 0) 9 0) 10 0) 11 0) 12 0) 13 0) 14 0) 15 0) 16 0) 17 0) 18 0))), ((q 0), .inr (12, (mo q)))] H := hP
  have hD : va_D A [((q 18), .inl (cI, 6, .inl (fun _ => 0))), ((q 44), .inl (cI, 3, .inl (upd (upd (upd f0 0 0) 1 0) 2 0))), ((q 14), .inl (cI, 8, .inl (fun _ => 0))), ((q 45), .inl (cI, 4, .inl (upd (upd (upd (upd f1 0 0) 1 0) 2 0) 3 0))), ((q 15), .inl (cI, 80, .inl (fun _ => 0))), ((q 46), .inl (cI, 40, .inl (upd (upd (upd (upd (upd (upd (upd (upd (upd (upd (upd (upd (upd (upd (upd (upd (upd (upd (upd f2 0 0) 1 0) 2 0) 3 0) 4 0) 5 0) 6 0) 7 0) 8 0) 9 0) 10 0) 11 0) 12 0) 13 0) 14 0) 15 0) 16 0) 17 0) 18 0))), ((q 0), .inr (12, (mo q)))] := hD
  refine lv_iinc (v := 19) (lv' := [(1, .int 19), (0, .ref (q 0))]) hx hb dX12_notes_89 hl (k := 0) rfl (by decide +kernel) (by decide) rfl (fun ls hl => ?_)
  refine lv_goto (tgt := 63) hx hb dX12_notes_92 (by decide) ?_
  refine lv_iload_n hx hb dX12_notes_63 rfl (lv_at hl 0 rfl) ?_
  refine lv_bipush (v := 40) hx hb dX12_notes_64 (by decide +kernel) ?_
  refine lv_icmp_ge (tgt := 95) hx hb dX12_notes_66 (by decide) (fun c => absurd c (by decide +kernel)) (fun _ => ?_)
  refine lv_aload_n hx hb dX12_notes_69 rfl (lv_at hl 1 rfl) ?_
  refine va_get (D := (dC, dI)) (ci := 12) (v := .ref (q 46)) (C := RX12) (T := TX12) (N := 85) hx hb hts hiX12 hown hK hP 6 rfl rfl 63 (by decide) (hts _ (List.mem_of_getElem? (i := 11) rfl)) (fun _ h9 => h9) rfl dX12_notes_70 ?_
  refine lv_iload_n hx hb dX12_notes_73 rfl (lv_at hl 0 rfl) ?_
  refine lv_aload_n hx hb dX12_notes_74 rfl (lv_at hl 1 rfl) ?_
  refine va_get (D := (dC, dI)) (ci := 12) (v := .ref (q 15)) (C := RX12) (T := TX12) (N := 85) hx hb hts hiX12 hown hK hP 6 rfl rfl 26 (by decide) (hts _ (List.mem_of_getElem? (i := 12) rfl)) (fun _ h9 => h9) rfl dX12_notes_75 ?_
  refine lv_bipush (v := 40) hx hb dX12_notes_78 (by decide +kernel) ?_
  refine lv_aload_n hx hb dX12_notes_80 rfl (lv_at hl 1 rfl) ?_
  refine va_get (D := (dC, dI)) (ci := 12) (v := .int 0) (C := RX12) (T := TX12) (N := 85) hx hb hts hiX12 hown hK hP 6 rfl rfl 12 (by decide) (hts _ (List.mem_of_getElem? (i := 3) rfl)) (fun _ h9 => h9) rfl dX12_notes_81 ?_
  refine lv_imul hx hb dX12_notes_84 ?_
  refine tp_i (y := 0) (by decide +kernel) ?_
  refine lv_iload_n hx hb dX12_notes_85 rfl (lv_at hl 0 rfl) ?_
  refine lv_iadd hx hb dX12_notes_86 ?_
  refine tp_i (y := 19) (by decide +kernel) ?_
  refine va_iald hx hb hK hP 4 1 rfl rfl (vpc _ _ (by decide +kernel)) dX12_notes_87 ?_
  refine tp_i (y := 0) rfl ?_
  refine va_iast hx hb hK hP hD hS 5 1 rfl rfl (vpc _ _ (by decide +kernel)) dX12_notes_88 (fun H locs hP hD hS => ?_)
  have hP : va_P (dC, dI) vwCl [((q 18), .inl (cI, 6, .inl (fun _ => 0))), ((q 44), .inl (cI, 3, .inl (upd (upd (upd f0 0 0) 1 0) 2 0))), ((q 14), .inl (cI, 8, .inl (fun _ => 0))), ((q 45), .inl (cI, 4, .inl (upd (upd (upd (upd f1 0 0) 1 0) 2 0) 3 0))), ((q 15), .inl (cI, 80, .inl (fun _ => 0))), ((q 46), .inl (cI, 40, .inl (upd (upd (upd (upd (upd (upd (upd (upd (upd (upd (upd (upd (upd (upd (upd (upd (upd (upd (upd (upd f2 0 0) 1 0) 2 0) 3 0) 4 0) 5 0) 6 0) 7 0) 8 0) 9 0) 10 0) 11 0) 12 0) 13 0) 14 0) 15 0) 16 0) 17 0) 18 0) 19 0))), ((q 0), .inr (12, (mo q)))] H := hP
  have hD : va_D A [((q 18), .inl (cI, 6, .inl (fun _ => 0))), ((q 44), .inl (cI, 3, .inl (upd (upd (upd f0 0 0) 1 0) 2 0))), ((q 14), .inl (cI, 8, .inl (fun _ => 0))), ((q 45), .inl (cI, 4, .inl (upd (upd (upd (upd f1 0 0) 1 0) 2 0) 3 0))), ((q 15), .inl (cI, 80, .inl (fun _ => 0))), ((q 46), .inl (cI, 40, .inl (upd (upd (upd (upd (upd (upd (upd (upd (upd (upd (upd (upd (upd (upd (upd (upd (upd (upd (upd (upd f2 0 0) 1 0) 2 0) 3 0) 4 0) 5 0) 6 0) 7 0) 8 0) 9 0) 10 0) 11 0) 12 0) 13 0) 14 0) 15 0) 16 0) 17 0) 18 0) 19 0))), ((q 0), .inr (12, (mo q)))] := hD
  refine lv_iinc (v := 20) (lv' := [(1, .int 20), (0, .ref (q 0))]) hx hb dX12_notes_89 hl (k := 0) rfl (by decide +kernel) (by decide) rfl (fun ls hl => ?_)
  refine lv_goto (tgt := 63) hx hb dX12_notes_92 (by decide) ?_
  refine lv_iload_n hx hb dX12_notes_63 rfl (lv_at hl 0 rfl) ?_
  refine lv_bipush (v := 40) hx hb dX12_notes_64 (by decide +kernel) ?_
  refine lv_icmp_ge (tgt := 95) hx hb dX12_notes_66 (by decide) (fun c => absurd c (by decide +kernel)) (fun _ => ?_)
  refine lv_aload_n hx hb dX12_notes_69 rfl (lv_at hl 1 rfl) ?_
  refine va_get (D := (dC, dI)) (ci := 12) (v := .ref (q 46)) (C := RX12) (T := TX12) (N := 85) hx hb hts hiX12 hown hK hP 6 rfl rfl 63 (by decide) (hts _ (List.mem_of_getElem? (i := 11) rfl)) (fun _ h9 => h9) rfl dX12_notes_70 ?_
  refine lv_iload_n hx hb dX12_notes_73 rfl (lv_at hl 0 rfl) ?_
  refine lv_aload_n hx hb dX12_notes_74 rfl (lv_at hl 1 rfl) ?_
  refine va_get (D := (dC, dI)) (ci := 12) (v := .ref (q 15)) (C := RX12) (T := TX12) (N := 85) hx hb hts hiX12 hown hK hP 6 rfl rfl 26 (by decide) (hts _ (List.mem_of_getElem? (i := 12) rfl)) (fun _ h9 => h9) rfl dX12_notes_75 ?_
  refine lv_bipush (v := 40) hx hb dX12_notes_78 (by decide +kernel) ?_
  refine lv_aload_n hx hb dX12_notes_80 rfl (lv_at hl 1 rfl) ?_
  refine va_get (D := (dC, dI)) (ci := 12) (v := .int 0) (C := RX12) (T := TX12) (N := 85) hx hb hts hiX12 hown hK hP 6 rfl rfl 12 (by decide) (hts _ (List.mem_of_getElem? (i := 3) rfl)) (fun _ h9 => h9) rfl dX12_notes_81 ?_
  refine lv_imul hx hb dX12_notes_84 ?_
  refine tp_i (y := 0) (by decide +kernel) ?_
  refine lv_iload_n hx hb dX12_notes_85 rfl (lv_at hl 0 rfl) ?_
  refine lv_iadd hx hb dX12_notes_86 ?_
  refine tp_i (y := 20) (by decide +kernel) ?_
  refine va_iald hx hb hK hP 4 1 rfl rfl (vpc _ _ (by decide +kernel)) dX12_notes_87 ?_
  refine tp_i (y := 0) rfl ?_
  refine va_iast hx hb hK hP hD hS 5 1 rfl rfl (vpc _ _ (by decide +kernel)) dX12_notes_88 (fun H locs hP hD hS => ?_)
  have hP : va_P (dC, dI) vwCl [((q 18), .inl (cI, 6, .inl (fun _ => 0))), ((q 44), .inl (cI, 3, .inl (upd (upd (upd f0 0 0) 1 0) 2 0))), ((q 14), .inl (cI, 8, .inl (fun _ => 0))), ((q 45), .inl (cI, 4, .inl (upd (upd (upd (upd f1 0 0) 1 0) 2 0) 3 0))), ((q 15), .inl (cI, 80, .inl (fun _ => 0))), ((q 46), .inl (cI, 40, .inl (upd (upd (upd (upd (upd (upd (upd (upd (upd (upd (upd (upd (upd (upd (upd (upd (upd (upd (upd (upd (upd f2 0 0) 1 0) 2 0) 3 0) 4 0) 5 0) 6 0) 7 0) 8 0) 9 0) 10 0) 11 0) 12 0) 13 0) 14 0) 15 0) 16 0) 17 0) 18 0) 19 0) 20 0))), ((q 0), .inr (12, (mo q)))] H := hP
  have hD : va_D A [((q 18), .inl (cI, 6, .inl (fun _ => 0))), ((q 44), .inl (cI, 3, .inl (upd (upd (upd f0 0 0) 1 0) 2 0))), ((q 14), .inl (cI, 8, .inl (fun _ => 0))), ((q 45), .inl (cI, 4, .inl (upd (upd (upd (upd f1 0 0) 1 0) 2 0) 3 0))), ((q 15), .inl (cI, 80, .inl (fun _ => 0))), ((q 46), .inl (cI, 40, .inl (upd (upd (upd (upd (upd (upd (upd (upd (upd (upd (upd (upd (upd (upd (upd (upd (upd (upd (upd (upd (upd f2 0 0) 1 0) 2 0) 3 0) 4 0) 5 0) 6 0) 7 0) 8 0) 9 0) 10 0) 11 0) 12 0) 13 0) 14 0) 15 0) 16 0) 17 0) 18 0) 19 0) 20 0))), ((q 0), .inr (12, (mo q)))] := hD
  refine lv_iinc (v := 21) (lv' := [(1, .int 21), (0, .ref (q 0))]) hx hb dX12_notes_89 hl (k := 0) rfl (by decide +kernel) (by decide) rfl (fun ls hl => ?_)
  refine lv_goto (tgt := 63) hx hb dX12_notes_92 (by decide) ?_
  refine lv_iload_n hx hb dX12_notes_63 rfl (lv_at hl 0 rfl) ?_
  refine lv_bipush (v := 40) hx hb dX12_notes_64 (by decide +kernel) ?_
  refine lv_icmp_ge (tgt := 95) hx hb dX12_notes_66 (by decide) (fun c => absurd c (by decide +kernel)) (fun _ => ?_)
  refine lv_aload_n hx hb dX12_notes_69 rfl (lv_at hl 1 rfl) ?_
  refine va_get (D := (dC, dI)) (ci := 12) (v := .ref (q 46)) (C := RX12) (T := TX12) (N := 85) hx hb hts hiX12 hown hK hP 6 rfl rfl 63 (by decide) (hts _ (List.mem_of_getElem? (i := 11) rfl)) (fun _ h9 => h9) rfl dX12_notes_70 ?_
  refine lv_iload_n hx hb dX12_notes_73 rfl (lv_at hl 0 rfl) ?_
  refine lv_aload_n hx hb dX12_notes_74 rfl (lv_at hl 1 rfl) ?_
  refine va_get (D := (dC, dI)) (ci := 12) (v := .ref (q 15)) (C := RX12) (T := TX12) (N := 85) hx hb hts hiX12 hown hK hP 6 rfl rfl 26 (by decide) (hts _ (List.mem_of_getElem? (i := 12) rfl)) (fun _ h9 => h9) rfl dX12_notes_75 ?_
  refine lv_bipush (v := 40) hx hb dX12_notes_78 (by decide +kernel) ?_
  refine lv_aload_n hx hb dX12_notes_80 rfl (lv_at hl 1 rfl) ?_
  refine va_get (D := (dC, dI)) (ci := 12) (v := .int 0) (C := RX12) (T := TX12) (N := 85) hx hb hts hiX12 hown hK hP 6 rfl rfl 12 (by decide) (hts _ (List.mem_of_getElem? (i := 3) rfl)) (fun _ h9 => h9) rfl dX12_notes_81 ?_
  refine lv_imul hx hb dX12_notes_84 ?_
  refine tp_i (y := 0) (by decide +kernel) ?_
  refine lv_iload_n hx hb dX12_notes_85 rfl (lv_at hl 0 rfl) ?_
  refine lv_iadd hx hb dX12_notes_86 ?_
  refine tp_i (y := 21) (by decide +kernel) ?_
  refine va_iald hx hb hK hP 4 1 rfl rfl (vpc _ _ (by decide +kernel)) dX12_notes_87 ?_
  refine tp_i (y := 0) rfl ?_
  refine va_iast hx hb hK hP hD hS 5 1 rfl rfl (vpc _ _ (by decide +kernel)) dX12_notes_88 (fun H locs hP hD hS => ?_)
  have hP : va_P (dC, dI) vwCl [((q 18), .inl (cI, 6, .inl (fun _ => 0))), ((q 44), .inl (cI, 3, .inl (upd (upd (upd f0 0 0) 1 0) 2 0))), ((q 14), .inl (cI, 8, .inl (fun _ => 0))), ((q 45), .inl (cI, 4, .inl (upd (upd (upd (upd f1 0 0) 1 0) 2 0) 3 0))), ((q 15), .inl (cI, 80, .inl (fun _ => 0))), ((q 46), .inl (cI, 40, .inl (upd (upd (upd (upd (upd (upd (upd (upd (upd (upd (upd (upd (upd (upd (upd (upd (upd (upd (upd (upd (upd (upd f2 0 0) 1 0) 2 0) 3 0) 4 0) 5 0) 6 0) 7 0) 8 0) 9 0) 10 0) 11 0) 12 0) 13 0) 14 0) 15 0) 16 0) 17 0) 18 0) 19 0) 20 0) 21 0))), ((q 0), .inr (12, (mo q)))] H := hP
  have hD : va_D A [((q 18), .inl (cI, 6, .inl (fun _ => 0))), ((q 44), .inl (cI, 3, .inl (upd (upd (upd f0 0 0) 1 0) 2 0))), ((q 14), .inl (cI, 8, .inl (fun _ => 0))), ((q 45), .inl (cI, 4, .inl (upd (upd (upd (upd f1 0 0) 1 0) 2 0) 3 0))), ((q 15), .inl (cI, 80, .inl (fun _ => 0))), ((q 46), .inl (cI, 40, .inl (upd (upd (upd (upd (upd (upd (upd (upd (upd (upd (upd (upd (upd (upd (upd (upd (upd (upd (upd (upd (upd (upd f2 0 0) 1 0) 2 0) 3 0) 4 0) 5 0) 6 0) 7 0) 8 0) 9 0) 10 0) 11 0) 12 0) 13 0) 14 0) 15 0) 16 0) 17 0) 18 0) 19 0) 20 0) 21 0))), ((q 0), .inr (12, (mo q)))] := hD
  refine lv_iinc (v := 22) (lv' := [(1, .int 22), (0, .ref (q 0))]) hx hb dX12_notes_89 hl (k := 0) rfl (by decide +kernel) (by decide) rfl (fun ls hl => ?_)
  refine lv_goto (tgt := 63) hx hb dX12_notes_92 (by decide) ?_
  refine lv_iload_n hx hb dX12_notes_63 rfl (lv_at hl 0 rfl) ?_
  refine lv_bipush (v := 40) hx hb dX12_notes_64 (by decide +kernel) ?_
  refine lv_icmp_ge (tgt := 95) hx hb dX12_notes_66 (by decide) (fun c => absurd c (by decide +kernel)) (fun _ => ?_)
  refine lv_aload_n hx hb dX12_notes_69 rfl (lv_at hl 1 rfl) ?_
  refine va_get (D := (dC, dI)) (ci := 12) (v := .ref (q 46)) (C := RX12) (T := TX12) (N := 85) hx hb hts hiX12 hown hK hP 6 rfl rfl 63 (by decide) (hts _ (List.mem_of_getElem? (i := 11) rfl)) (fun _ h9 => h9) rfl dX12_notes_70 ?_
  refine lv_iload_n hx hb dX12_notes_73 rfl (lv_at hl 0 rfl) ?_
  refine lv_aload_n hx hb dX12_notes_74 rfl (lv_at hl 1 rfl) ?_
  refine va_get (D := (dC, dI)) (ci := 12) (v := .ref (q 15)) (C := RX12) (T := TX12) (N := 85) hx hb hts hiX12 hown hK hP 6 rfl rfl 26 (by decide) (hts _ (List.mem_of_getElem? (i := 12) rfl)) (fun _ h9 => h9) rfl dX12_notes_75 ?_
  refine lv_bipush (v := 40) hx hb dX12_notes_78 (by decide +kernel) ?_
  refine lv_aload_n hx hb dX12_notes_80 rfl (lv_at hl 1 rfl) ?_
  refine va_get (D := (dC, dI)) (ci := 12) (v := .int 0) (C := RX12) (T := TX12) (N := 85) hx hb hts hiX12 hown hK hP 6 rfl rfl 12 (by decide) (hts _ (List.mem_of_getElem? (i := 3) rfl)) (fun _ h9 => h9) rfl dX12_notes_81 ?_
  refine lv_imul hx hb dX12_notes_84 ?_
  refine tp_i (y := 0) (by decide +kernel) ?_
  refine lv_iload_n hx hb dX12_notes_85 rfl (lv_at hl 0 rfl) ?_
  refine lv_iadd hx hb dX12_notes_86 ?_
  refine tp_i (y := 22) (by decide +kernel) ?_
  refine va_iald hx hb hK hP 4 1 rfl rfl (vpc _ _ (by decide +kernel)) dX12_notes_87 ?_
  refine tp_i (y := 0) rfl ?_
  refine va_iast hx hb hK hP hD hS 5 1 rfl rfl (vpc _ _ (by decide +kernel)) dX12_notes_88 (fun H locs hP hD hS => ?_)
  have hP : va_P (dC, dI) vwCl [((q 18), .inl (cI, 6, .inl (fun _ => 0))), ((q 44), .inl (cI, 3, .inl (upd (upd (upd f0 0 0) 1 0) 2 0))), ((q 14), .inl (cI, 8, .inl (fun _ => 0))), ((q 45), .inl (cI, 4, .inl (upd (upd (upd (upd f1 0 0) 1 0) 2 0) 3 0))), ((q 15), .inl (cI, 80, .inl (fun _ => 0))), ((q 46), .inl (cI, 40, .inl (upd (upd (upd (upd (upd (upd (upd (upd (upd (upd (upd (upd (upd (upd (upd (upd (upd (upd (upd (upd (upd (upd (upd f2 0 0) 1 0) 2 0) 3 0) 4 0) 5 0) 6 0) 7 0) 8 0) 9 0) 10 0) 11 0) 12 0) 13 0) 14 0) 15 0) 16 0) 17 0) 18 0) 19 0) 20 0) 21 0) 22 0))), ((q 0), .inr (12, (mo q)))] H := hP
  have hD : va_D A [((q 18), .inl (cI, 6, .inl (fun _ => 0))), ((q 44), .inl (cI, 3, .inl (upd (upd (upd f0 0 0) 1 0) 2 0))), ((q 14), .inl (cI, 8, .inl (fun _ => 0))), ((q 45), .inl (cI, 4, .inl (upd (upd (upd (upd f1 0 0) 1 0) 2 0) 3 0))), ((q 15), .inl (cI, 80, .inl (fun _ => 0))), ((q 46), .inl (cI, 40, .inl (upd (upd (upd (upd (upd (upd (upd (upd (upd (upd (upd (upd (upd (upd (upd (upd (upd (upd (upd (upd (upd (upd (upd f2 0 0) 1 0) 2 0) 3 0) 4 0) 5 0) 6 0) 7 0) 8 0) 9 0) 10 0) 11 0) 12 0) 13 0) 14 0) 15 0) 16 0) 17 0) 18 0) 19 0) 20 0) 21 0) 22 0))), ((q 0), .inr (12, (mo q)))] := hD
  refine lv_iinc (v := 23) (lv' := [(1, .int 23), (0, .ref (q 0))]) hx hb dX12_notes_89 hl (k := 0) rfl (by decide +kernel) (by decide) rfl (fun ls hl => ?_)
  refine lv_goto (tgt := 63) hx hb dX12_notes_92 (by decide) ?_
  refine lv_iload_n hx hb dX12_notes_63 rfl (lv_at hl 0 rfl) ?_
  refine lv_bipush (v := 40) hx hb dX12_notes_64 (by decide +kernel) ?_
  refine lv_icmp_ge (tgt := 95) hx hb dX12_notes_66 (by decide) (fun c => absurd c (by decide +kernel)) (fun _ => ?_)
  refine lv_aload_n hx hb dX12_notes_69 rfl (lv_at hl 1 rfl) ?_
  refine va_get (D := (dC, dI)) (ci := 12) (v := .ref (q 46)) (C := RX12) (T := TX12) (N := 85) hx hb hts hiX12 hown hK hP 6 rfl rfl 63 (by decide) (hts _ (List.mem_of_getElem? (i := 11) rfl)) (fun _ h9 => h9) rfl dX12_notes_70 ?_
  refine lv_iload_n hx hb dX12_notes_73 rfl (lv_at hl 0 rfl) ?_
  refine lv_aload_n hx hb dX12_notes_74 rfl (lv_at hl 1 rfl) ?_
  refine va_get (D := (dC, dI)) (ci := 12) (v := .ref (q 15)) (C := RX12) (T := TX12) (N := 85) hx hb hts hiX12 hown hK hP 6 rfl rfl 26 (by decide) (hts _ (List.mem_of_getElem? (i := 12) rfl)) (fun _ h9 => h9) rfl dX12_notes_75 ?_
  refine lv_bipush (v := 40) hx hb dX12_notes_78 (by decide +kernel) ?_
  refine lv_aload_n hx hb dX12_notes_80 rfl (lv_at hl 1 rfl) ?_
  refine va_get (D := (dC, dI)) (ci := 12) (v := .int 0) (C := RX12) (T := TX12) (N := 85) hx hb hts hiX12 hown hK hP 6 rfl rfl 12 (by decide) (hts _ (List.mem_of_getElem? (i := 3) rfl)) (fun _ h9 => h9) rfl dX12_notes_81 ?_
  refine lv_imul hx hb dX12_notes_84 ?_
  refine tp_i (y := 0) (by decide +kernel) ?_
  refine lv_iload_n hx hb dX12_notes_85 rfl (lv_at hl 0 rfl) ?_
  refine lv_iadd hx hb dX12_notes_86 ?_
  refine tp_i (y := 23) (by decide +kernel) ?_
  refine va_iald hx hb hK hP 4 1 rfl rfl (vpc _ _ (by decide +kernel)) dX12_notes_87 ?_
  refine tp_i (y := 0) rfl ?_
  refine va_iast hx hb hK hP hD hS 5 1 rfl rfl (vpc _ _ (by decide +kernel)) dX12_notes_88 (fun H locs hP hD hS => ?_)
  have hP : va_P (dC, dI) vwCl [((q 18), .inl (cI, 6, .inl (fun _ => 0))), ((q 44), .inl (cI, 3, .inl (upd (upd (upd f0 0 0) 1 0) 2 0))), ((q 14), .inl (cI, 8, .inl (fun _ => 0))), ((q 45), .inl (cI, 4, .inl (upd (upd (upd (upd f1 0 0) 1 0) 2 0) 3 0))), ((q 15), .inl (cI, 80, .inl (fun _ => 0))), ((q 46), .inl (cI, 40, .inl (upd (upd (upd (upd (upd (upd (upd (upd (upd (upd (upd (upd (upd (upd (upd (upd (upd (upd (upd (upd (upd (upd (upd (upd f2 0 0) 1 0) 2 0) 3 0) 4 0) 5 0) 6 0) 7 0) 8 0) 9 0) 10 0) 11 0) 12 0) 13 0) 14 0) 15 0) 16 0) 17 0) 18 0) 19 0) 20 0) 21 0) 22 0) 23 0))), ((q 0), .inr (12, (mo q)))] H := hP
  have hD : va_D A [((q 18), .inl (cI, 6, .inl (fun _ => 0))), ((q 44), .inl (cI, 3, .inl (upd (upd (upd f0 0 0) 1 0) 2 0))), ((q 14), .inl (cI, 8, .inl (fun _ => 0))), ((q 45), .inl (cI, 4, .inl (upd (upd (upd (upd f1 0 0) 1 0) 2 0) 3 0))), ((q 15), .inl (cI, 80, .inl (fun _ => 0))), ((q 46), .inl (cI, 40, .inl (upd (upd (upd (upd (upd (upd (upd (upd (upd (upd (upd (upd (upd (upd (upd (upd (upd (upd (upd (upd (upd (upd (upd (upd f2 0 0) 1 0) 2 0) 3 0) 4 0) 5 0) 6 0) 7 0) 8 0) 9 0) 10 0) 11 0) 12 0) 13 0) 14 0) 15 0) 16 0) 17 0) 18 0) 19 0) 20 0) 21 0) 22 0) 23 0))), ((q 0), .inr (12, (mo q)))] := hD
  refine lv_iinc (v := 24) (lv' := [(1, .int 24), (0, .ref (q 0))]) hx hb dX12_notes_89 hl (k := 0) rfl (by decide +kernel) (by decide) rfl (fun ls hl => ?_)
  refine lv_goto (tgt := 63) hx hb dX12_notes_92 (by decide) ?_
  refine lv_iload_n hx hb dX12_notes_63 rfl (lv_at hl 0 rfl) ?_
  refine lv_bipush (v := 40) hx hb dX12_notes_64 (by decide +kernel) ?_
  refine lv_icmp_ge (tgt := 95) hx hb dX12_notes_66 (by decide) (fun c => absurd c (by decide +kernel)) (fun _ => ?_)
  refine lv_aload_n hx hb dX12_notes_69 rfl (lv_at hl 1 rfl) ?_
  refine va_get (D := (dC, dI)) (ci := 12) (v := .ref (q 46)) (C := RX12) (T := TX12) (N := 85) hx hb hts hiX12 hown hK hP 6 rfl rfl 63 (by decide) (hts _ (List.mem_of_getElem? (i := 11) rfl)) (fun _ h9 => h9) rfl dX12_notes_70 ?_
  refine lv_iload_n hx hb dX12_notes_73 rfl (lv_at hl 0 rfl) ?_
  refine lv_aload_n hx hb dX12_notes_74 rfl (lv_at hl 1 rfl) ?_
  refine va_get (D := (dC, dI)) (ci := 12) (v := .ref (q 15)) (C := RX12) (T := TX12) (N := 85) hx hb hts hiX12 hown hK hP 6 rfl rfl 26 (by decide) (hts _ (List.mem_of_getElem? (i := 12) rfl)) (fun _ h9 => h9) rfl dX12_notes_75 ?_
  refine lv_bipush (v := 40) hx hb dX12_notes_78 (by decide +kernel) ?_
  refine lv_aload_n hx hb dX12_notes_80 rfl (lv_at hl 1 rfl) ?_
  refine va_get (D := (dC, dI)) (ci := 12) (v := .int 0) (C := RX12) (T := TX12) (N := 85) hx hb hts hiX12 hown hK hP 6 rfl rfl 12 (by decide) (hts _ (List.mem_of_getElem? (i := 3) rfl)) (fun _ h9 => h9) rfl dX12_notes_81 ?_
  refine lv_imul hx hb dX12_notes_84 ?_
  refine tp_i (y := 0) (by decide +kernel) ?_
  refine lv_iload_n hx hb dX12_notes_85 rfl (lv_at hl 0 rfl) ?_
  refine lv_iadd hx hb dX12_notes_86 ?_
  refine tp_i (y := 24) (by decide +kernel) ?_
  refine va_iald hx hb hK hP 4 1 rfl rfl (vpc _ _ (by decide +kernel)) dX12_notes_87 ?_
  refine tp_i (y := 0) rfl ?_
  refine va_iast hx hb hK hP hD hS 5 1 rfl rfl (vpc _ _ (by decide +kernel)) dX12_notes_88 (fun H locs hP hD hS => ?_)
  have hP : va_P (dC, dI) vwCl [((q 18), .inl (cI, 6, .inl (fun _ => 0))), ((q 44), .inl (cI, 3, .inl (upd (upd (upd f0 0 0) 1 0) 2 0))), ((q 14), .inl (cI, 8, .inl (fun _ => 0))), ((q 45), .inl (cI, 4, .inl (upd (upd (upd (upd f1 0 0) 1 0) 2 0) 3 0))), ((q 15), .inl (cI, 80, .inl (fun _ => 0))), ((q 46), .inl (cI, 40, .inl (upd (upd (upd (upd (upd (upd (upd (upd (upd (upd (upd (upd (upd (upd (upd (upd (upd (upd (upd (upd (upd (upd (upd (upd (upd f2 0 0) 1 0) 2 0) 3 0) 4 0) 5 0) 6 0) 7 0) 8 0) 9 0) 10 0) 11 0) 12 0) 13 0) 14 0) 15 0) 16 0) 17 0) 18 0) 19 0) 20 0) 21 0) 22 0) 23 0) 24 0))), ((q 0), .inr (12, (mo q)))] H := hP
  have hD : va_D A [((q 18), .inl (cI, 6, .inl (fun _ => 0))), ((q 44), .inl (cI, 3, .inl (upd (upd (upd f0 0 0) 1 0) 2 0))), ((q 14), .inl (cI, 8, .inl (fun _ => 0))), ((q 45), .inl (cI, 4, .inl (upd (upd (upd (upd f1 0 0) 1 0) 2 0) 3 0))), ((q 15), .inl (cI, 80, .inl (fun _ => 0))), ((q 46), .inl (cI, 40, .inl (upd (upd (upd (upd (upd (upd (upd (upd (upd (upd (upd (upd (upd (upd (upd (upd (upd (upd (upd (upd (upd (upd (upd (upd (upd f2 0 0) 1 0) 2 0) 3 0) 4 0) 5 0) 6 0) 7 0) 8 0) 9 0) 10 0) 11 0) 12 0) 13 0) 14 0) 15 0) 16 0) 17 0) 18 0) 19 0) 20 0) 21 0) 22 0) 23 0) 24 0))), ((q 0), .inr (12, (mo q)))] := hD
  refine lv_iinc (v := 25) (lv' := [(1, .int 25), (0, .ref (q 0))]) hx hb dX12_notes_89 hl (k := 0) rfl (by decide +kernel) (by decide) rfl (fun ls hl => ?_)
  refine lv_goto (tgt := 63) hx hb dX12_notes_92 (by decide) ?_
  refine lv_iload_n hx hb dX12_notes_63 rfl (lv_at hl 0 rfl) ?_
  refine lv_bipush (v := 40) hx hb dX12_notes_64 (by decide +kernel) ?_
  refine lv_icmp_ge (tgt := 95) hx hb dX12_notes_66 (by decide) (fun c => absurd c (by decide +kernel)) (fun _ => ?_)
  refine lv_aload_n hx hb dX12_notes_69 rfl (lv_at hl 1 rfl) ?_
  refine va_get (D := (dC, dI)) (ci := 12) (v := .ref (q 46)) (C := RX12) (T := TX12) (N := 85) hx hb hts hiX12 hown hK hP 6 rfl rfl 63 (by decide) (hts _ (List.mem_of_getElem? (i := 11) rfl)) (fun _ h9 => h9) rfl dX12_notes_70 ?_
  refine lv_iload_n hx hb dX12_notes_73 rfl (lv_at hl 0 rfl) ?_
  refine lv_aload_n hx hb dX12_notes_74 rfl (lv_at hl 1 rfl) ?_
  refine va_get (D := (dC, dI)) (ci := 12) (v := .ref (q 15)) (C := RX12) (T := TX12) (N := 85) hx hb hts hiX12 hown hK hP 6 rfl rfl 26 (by decide) (hts _ (List.mem_of_getElem? (i := 12) rfl)) (fun _ h9 => h9) rfl dX12_notes_75 ?_
  refine lv_bipush (v := 40) hx hb dX12_notes_78 (by decide +kernel) ?_
  refine lv_aload_n hx hb dX12_notes_80 rfl (lv_at hl 1 rfl) ?_
  refine va_get (D := (dC, dI)) (ci := 12) (v := .int 0) (C := RX12) (T := TX12) (N := 85) hx hb hts hiX12 hown hK hP 6 rfl rfl 12 (by decide) (hts _ (List.mem_of_getElem? (i := 3) rfl)) (fun _ h9 => h9) rfl dX12_notes_81 ?_
  refine lv_imul hx hb dX12_notes_84 ?_
  refine tp_i (y := 0) (by decide +kernel) ?_
  refine lv_iload_n hx hb dX12_notes_85 rfl (lv_at hl 0 rfl) ?_
  refine lv_iadd hx hb dX12_notes_86 ?_
  refine tp_i (y := 25) (by decide +kernel) ?_
  refine va_iald hx hb hK hP 4 1 rfl rfl (vpc _ _ (by decide +kernel)) dX12_notes_87 ?_
  refine tp_i (y := 0) rfl ?_
  refine va_iast hx hb hK hP hD hS 5 1 rfl rfl (vpc _ _ (by decide +kernel)) dX12_notes_88 (fun H locs hP hD hS => ?_)
  have hP : va_P (dC, dI) vwCl [((q 18), .inl (cI, 6, .inl (fun _ => 0))), ((q 44), .inl (cI, 3, .inl (upd (upd (upd f0 0 0) 1 0) 2 0))), ((q 14), .inl (cI, 8, .inl (fun _ => 0))), ((q 45), .inl (cI, 4, .inl (upd (upd (upd (upd f1 0 0) 1 0) 2 0) 3 0))), ((q 15), .inl (cI, 80, .inl (fun _ => 0))), ((q 46), .inl (cI, 40, .inl (upd (upd (upd (upd (upd (upd (upd (upd (upd (upd (upd (upd (upd (upd (upd (upd (upd (upd (upd (upd (upd (upd (upd (upd (upd (upd f2 0 0) 1 0) 2 0) 3 0) 4 0) 5 0) 6 0) 7 0) 8 0) 9 0) 10 0) 11 0) 12 0) 13 0) 14 0) 15 0) 16 0) 17 0) 18 0) 19 0) 20 0) 21 0) 22 0) 23 0) 24 0) 25 0))), ((q 0), .inr (12, (mo q)))] H := hP
  have hD : va_D A [((q 18), .inl (cI, 6, .inl (fun _ => 0))), ((q 44), .inl (cI, 3, .inl (upd (upd (upd f0 0 0) 1 0) 2 0))), ((q 14), .inl (cI, 8, .inl (fun _ => 0))), ((q 45), .inl (cI, 4, .inl (upd (upd (upd (upd f1 0 0) 1 0) 2 0) 3 0))), ((q 15), .inl (cI, 80, .inl (fun _ => 0))), ((q 46), .inl (cI, 40, .inl (upd (upd (upd (upd (upd (upd (upd (upd (upd (upd (upd (upd (upd (upd (upd (upd (upd (upd (upd (upd (upd (upd (upd (upd (upd (upd f2 0 0) 1 0) 2 0) 3 0) 4 0) 5 0) 6 0) 7 0) 8 0) 9 0) 10 0) 11 0) 12 0) 13 0) 14 0) 15 0) 16 0) 17 0) 18 0) 19 0) 20 0) 21 0) 22 0) 23 0) 24 0) 25 0))), ((q 0), .inr (12, (mo q)))] := hD
  refine lv_iinc (v := 26) (lv' := [(1, .int 26), (0, .ref (q 0))]) hx hb dX12_notes_89 hl (k := 0) rfl (by decide +kernel) (by decide) rfl (fun ls hl => ?_)
  refine lv_goto (tgt := 63) hx hb dX12_notes_92 (by decide) ?_
  refine lv_iload_n hx hb dX12_notes_63 rfl (lv_at hl 0 rfl) ?_
  refine lv_bipush (v := 40) hx hb dX12_notes_64 (by decide +kernel) ?_
  refine lv_icmp_ge (tgt := 95) hx hb dX12_notes_66 (by decide) (fun c => absurd c (by decide +kernel)) (fun _ => ?_)
  refine lv_aload_n hx hb dX12_notes_69 rfl (lv_at hl 1 rfl) ?_
  refine va_get (D := (dC, dI)) (ci := 12) (v := .ref (q 46)) (C := RX12) (T := TX12) (N := 85) hx hb hts hiX12 hown hK hP 6 rfl rfl 63 (by decide) (hts _ (List.mem_of_getElem? (i := 11) rfl)) (fun _ h9 => h9) rfl dX12_notes_70 ?_
  refine lv_iload_n hx hb dX12_notes_73 rfl (lv_at hl 0 rfl) ?_
  refine lv_aload_n hx hb dX12_notes_74 rfl (lv_at hl 1 rfl) ?_
  refine va_get (D := (dC, dI)) (ci := 12) (v := .ref (q 15)) (C := RX12) (T := TX12) (N := 85) hx hb hts hiX12 hown hK hP 6 rfl rfl 26 (by decide) (hts _ (List.mem_of_getElem? (i := 12) rfl)) (fun _ h9 => h9) rfl dX12_notes_75 ?_
  refine lv_bipush (v := 40) hx hb dX12_notes_78 (by decide +kernel) ?_
  refine lv_aload_n hx hb dX12_notes_80 rfl (lv_at hl 1 rfl) ?_
  refine va_get (D := (dC, dI)) (ci := 12) (v := .int 0) (C := RX12) (T := TX12) (N := 85) hx hb hts hiX12 hown hK hP 6 rfl rfl 12 (by decide) (hts _ (List.mem_of_getElem? (i := 3) rfl)) (fun _ h9 => h9) rfl dX12_notes_81 ?_
  refine lv_imul hx hb dX12_notes_84 ?_
  refine tp_i (y := 0) (by decide +kernel) ?_
  refine lv_iload_n hx hb dX12_notes_85 rfl (lv_at hl 0 rfl) ?_
  refine lv_iadd hx hb dX12_notes_86 ?_
  refine tp_i (y := 26) (by decide +kernel) ?_
  refine va_iald hx hb hK hP 4 1 rfl rfl (vpc _ _ (by decide +kernel)) dX12_notes_87 ?_
  refine tp_i (y := 0) rfl ?_
  refine va_iast hx hb hK hP hD hS 5 1 rfl rfl (vpc _ _ (by decide +kernel)) dX12_notes_88 (fun H locs hP hD hS => ?_)
  have hP : va_P (dC, dI) vwCl [((q 18), .inl (cI, 6, .inl (fun _ => 0))), ((q 44), .inl (cI, 3, .inl (upd (upd (upd f0 0 0) 1 0) 2 0))), ((q 14), .inl (cI, 8, .inl (fun _ => 0))), ((q 45), .inl (cI, 4, .inl (upd (upd (upd (upd f1 0 0) 1 0) 2 0) 3 0))), ((q 15), .inl (cI, 80, .inl (fun _ => 0))), ((q 46), .inl (cI, 40, .inl (upd (upd (upd (upd (upd (upd (upd (upd (upd (upd (upd (upd (upd (upd (upd (upd (upd (upd (upd (upd (upd (upd (upd (upd (upd (upd (upd f2 0 0) 1 0) 2 0) 3 0) 4 0) 5 0) 6 0) 7 0) 8 0) 9 0) 10 0) 11 0) 12 0) 13 0) 14 0) 15 0) 16 0) 17 0) 18 0) 19 0) 20 0) 21 0) 22 0) 23 0) 24 0) 25 0) 26 0))), ((q 0), .inr (12, (mo q)))] H := hP
  have hD : va_D A [((q 18), .inl (cI, 6, .inl (fun _ => 0))), ((q 44), .inl (cI, 3, .inl (upd (upd (upd f0 0 0) 1 0) 2 0))), ((q 14), .inl (cI, 8, .inl (fun _ => 0))), ((q 45), .inl (cI, 4, .inl (upd (upd (upd (upd f1 0 0) 1 0) 2 0) 3 0))), ((q 15), .inl (cI, 80, .inl (fun _ => 0))), ((q 46), .inl (cI, 40, .inl (upd (upd (upd (upd (upd (upd (upd (upd (upd (upd (upd (upd (upd (upd (upd (upd (upd (upd (upd (upd (upd (upd (upd (upd (upd (upd (upd f2 0 0) 1 0) 2 0) 3 0) 4 0) 5 0) 6 0) 7 0) 8 0) 9 0) 10 0) 11 0) 12 0) 13 0) 14 0) 15 0) 16 0) 17 0) 18 0) 19 0) 20 0) 21 0) 22 0) 23 0) 24 0) 25 0) 26 0))), ((q 0), .inr (12, (mo q)))] := hD
  refine lv_iinc (v := 27) (lv' := [(1, .int 27), (0, .ref (q 0))]) hx hb dX12_notes_89 hl (k := 0) rfl (by decide +kernel) (by decide) rfl (fun ls hl => ?_)
  refine lv_goto (tgt := 63) hx hb dX12_notes_92 (by decide) ?_
  refine lv_iload_n hx hb dX12_notes_63 rfl (lv_at hl 0 rfl) ?_
  refine lv_bipush (v := 40) hx hb dX12_notes_64 (by decide +kernel) ?_
  refine lv_icmp_ge (tgt := 95) hx hb dX12_notes_66 (by decide) (fun c => absurd c (by decide +kernel)) (fun _ => ?_)
  refine lv_aload_n hx hb dX12_notes_69 rfl (lv_at hl 1 rfl) ?_
  refine va_get (D := (dC, dI)) (ci := 12) (v := .ref (q 46)) (C := RX12) (T := TX12) (N := 85) hx hb hts hiX12 hown hK hP 6 rfl rfl 63 (by decide) (hts _ (List.mem_of_getElem? (i := 11) rfl)) (fun _ h9 => h9) rfl dX12_notes_70 ?_
  refine lv_iload_n hx hb dX12_notes_73 rfl (lv_at hl 0 rfl) ?_
  refine lv_aload_n hx hb dX12_notes_74 rfl (lv_at hl 1 rfl) ?_
  refine va_get (D := (dC, dI)) (ci := 12) (v := .ref (q 15)) (C := RX12) (T := TX12) (N := 85) hx hb hts hiX12 hown hK hP 6 rfl rfl 26 (by decide) (hts _ (List.mem_of_getElem? (i := 12) rfl)) (fun _ h9 => h9) rfl dX12_notes_75 ?_
  refine lv_bipush (v := 40) hx hb dX12_notes_78 (by decide +kernel) ?_
  refine lv_aload_n hx hb dX12_notes_80 rfl (lv_at hl 1 rfl) ?_
  refine va_get (D := (dC, dI)) (ci := 12) (v := .int 0) (C := RX12) (T := TX12) (N := 85) hx hb hts hiX12 hown hK hP 6 rfl rfl 12 (by decide) (hts _ (List.mem_of_getElem? (i := 3) rfl)) (fun _ h9 => h9) rfl dX12_notes_81 ?_
  refine lv_imul hx hb dX12_notes_84 ?_
  refine tp_i (y := 0) (by decide +kernel) ?_
  refine lv_iload_n hx hb dX12_notes_85 rfl (lv_at hl 0 rfl) ?_
  refine lv_iadd hx hb dX12_notes_86 ?_
  refine tp_i (y := 27) (by decide +kernel) ?_
  refine va_iald hx hb hK hP 4 1 rfl rfl (vpc _ _ (by decide +kernel)) dX12_notes_87 ?_
  refine tp_i (y := 0) rfl ?_
  refine va_iast hx hb hK hP hD hS 5 1 rfl rfl (vpc _ _ (by decide +kernel)) dX12_notes_88 (fun H locs hP hD hS => ?_)
  have hP : va_P (dC, dI) vwCl [((q 18), .inl (cI, 6, .inl (fun _ => 0))), ((q 44), .inl (cI, 3, .inl (upd (upd (upd f0 0 0) 1 0) 2 0))), ((q 14), .inl (cI, 8, .inl (fun _ => 0))), ((q 45), .inl (cI, 4, .inl (upd (upd (upd (upd f1 0 0) 1 0) 2 0) 3 0))), ((q 15), .inl (cI, 80, .inl (fun _ => 0))), ((q 46), .inl (cI, 40, .inl (upd (upd (upd (upd (upd (upd (upd (upd (upd (upd (upd (upd (upd (upd (upd (upd (upd (upd (upd (upd (upd (upd (upd (upd (upd (upd (upd (upd f2 0 0) 1 0) 2 0) 3 0) 4 0) 5 0) 6 0) 7 0) 8 0) 9 0) 10 0) 11 0) 12 0) 13 0) 14 0) 15 0) 16 0) 17 0) 18 0) 19 0) 20 0) 21 0) 22 0) 23 0) 24 0) 25 0) 26 0) 27 0))), ((q 0), .inr (12, (mo q)))] H := hP
  have hD : va_D A [((q 18), .inl (cI, 6, .inl (fun _ => 0))), ((q 44), .inl (cI, 3, .inl (upd (upd (upd f0 0 0) 1 0) 2 0))), ((q 14), .inl (cI, 8, .inl (fun _ => 0))), ((q 45), .inl (cI, 4, .inl (upd (upd (upd (upd f1 0 0) 1 0) 2 0) 3 0))), ((q 15), .inl (cI, 80, .inl (fun _ => 0))), ((q 46), .inl (cI, 40, .inl (upd (upd (upd (upd (upd (upd (upd (upd (upd (upd (upd (upd (upd (upd (upd (upd (upd (upd (upd (upd (upd (upd (upd (upd (upd (upd (upd (upd f2 0 0) 1 0) 2 0) 3 0) 4 0) 5 0) 6 0) 7 0) 8 0) 9 0) 10 0) 11 0) 12 0) 13 0) 14 0) 15 0) 16 0) 17 0) 18 0) 19 0) 20 0) 21 0) 22 0) 23 0) 24 0) 25 0) 26 0) 27 0))), ((q 0), .inr (12, (mo q)))] := hD
  refine lv_iinc (v := 28) (lv' := [(1, .int 28), (0, .ref (q 0))]) hx hb dX12_notes_89 hl (k := 0) rfl (by decide +kernel) (by decide) rfl (fun ls hl => ?_)
  refine lv_goto (tgt := 63) hx hb dX12_notes_92 (by decide) ?_
  refine lv_iload_n hx hb dX12_notes_63 rfl (lv_at hl 0 rfl) ?_
  refine lv_bipush (v := 40) hx hb dX12_notes_64 (by decide +kernel) ?_
  refine lv_icmp_ge (tgt := 95) hx hb dX12_notes_66 (by decide) (fun c => absurd c (by decide +kernel)) (fun _ => ?_)
  refine lv_aload_n hx hb dX12_notes_69 rfl (lv_at hl 1 rfl) ?_
  refine va_get (D := (dC, dI)) (ci := 12) (v := .ref (q 46)) (C := RX12) (T := TX12) (N := 85) hx hb hts hiX12 hown hK hP 6 rfl rfl 63 (by decide) (hts _ (List.mem_of_getElem? (i := 11) rfl)) (fun _ h9 => h9) rfl dX12_notes_70 ?_
  refine lv_iload_n hx hb dX12_notes_73 rfl (lv_at hl 0 rfl) ?_
  refine lv_aload_n hx hb dX12_notes_74 rfl (lv_at hl 1 rfl) ?_
  refine va_get (D := (dC, dI)) (ci := 12) (v := .ref (q 15)) (C := RX12) (T := TX12) (N := 85) hx hb hts hiX12 hown hK hP 6 rfl rfl 26 (by decide) (hts _ (List.mem_of_getElem? (i := 12) rfl)) (fun _ h9 => h9) rfl dX12_notes_75 ?_
  refine lv_bipush (v := 40) hx hb dX12_notes_78 (by decide +kernel) ?_
  refine lv_aload_n hx hb dX12_notes_80 rfl (lv_at hl 1 rfl) ?_
  refine va_get (D := (dC, dI)) (ci := 12) (v := .int 0) (C := RX12) (T := TX12) (N := 85) hx hb hts hiX12 hown hK hP 6 rfl rfl 12 (by decide) (hts _ (List.mem_of_getElem? (i := 3) rfl)) (fun _ h9 => h9) rfl dX12_notes_81 ?_
  refine lv_imul hx hb dX12_notes_84 ?_
  refine tp_i (y := 0) (by decide +kernel) ?_
  refine lv_iload_n hx hb dX12_notes_85 rfl (lv_at hl 0 rfl) ?_
  refine lv_iadd hx hb dX12_notes_86 ?_
  refine tp_i (y := 28) (by decide +kernel) ?_
  refine va_iald hx hb hK hP 4 1 rfl rfl (vpc _ _ (by decide +kernel)) dX12_notes_87 ?_
  refine tp_i (y := 0) rfl ?_
  refine va_iast hx hb hK hP hD hS 5 1 rfl rfl (vpc _ _ (by decide +kernel)) dX12_notes_88 (fun H locs hP hD hS => ?_)
  have hP : va_P (dC, dI) vwCl [((q 18), .inl (cI, 6, .inl (fun _ => 0))), ((q 44), .inl (cI, 3, .inl (upd (upd (upd f0 0 0) 1 0) 2 0))), ((q 14), .inl (cI, 8, .inl (fun _ => 0))), ((q 45), .inl (cI, 4, .inl (upd (upd (upd (upd f1 0 0) 1 0) 2 0) 3 0))), ((q 15), .inl (cI, 80, .inl (fun _ => 0))), ((q 46), .inl (cI, 40, .inl (upd (upd (upd (upd (upd (upd (upd (upd (upd (upd (upd (upd (upd (upd (upd (upd (upd (upd (upd (upd (upd (upd (upd (upd (upd (upd (upd (upd (upd f2 0 0) 1 0) 2 0) 3 0) 4 0) 5 0) 6 0) 7 0) 8 0) 9 0) 10 0) 11 0) 12 0) 13 0) 14 0) 15 0) 16 0) 17 0) 18 0) 19 0) 20 0) 21 0) 22 0) 23 0) 24 0) 25 0) 26 0) 27 0) 28 0))), ((q 0), .inr (12, (mo q)))] H := hP
  have hD : va_D A [((q 18), .inl (cI, 6, .inl (fun _ => 0))), ((q 44), .inl (cI, 3, .inl (upd (upd (upd f0 0 0) 1 0) 2 0))), ((q 14), .inl (cI, 8, .inl (fun _ => 0))), ((q 45), .inl (cI, 4, .inl (upd (upd (upd (upd f1 0 0) 1 0) 2 0) 3 0))), ((q 15), .inl (cI, 80, .inl (fun _ => 0))), ((q 46), .inl (cI, 40, .inl (upd (upd (upd (upd (upd (upd (upd (upd (upd (upd (upd (upd (upd (upd (upd (upd (upd (upd (upd (upd (upd (upd (upd (upd (upd (upd (upd (upd (upd f2 0 0) 1 0) 2 0) 3 0) 4 0) 5 0) 6 0) 7 0) 8 0) 9 0) 10 0) 11 0) 12 0) 13 0) 14 0) 15 0) 16 0) 17 0) 18 0) 19 0) 20 0) 21 0) 22 0) 23 0) 24 0) 25 0) 26 0) 27 0) 28 0))), ((q 0), .inr (12, (mo q)))] := hD
  refine lv_iinc (v := 29) (lv' := [(1, .int 29), (0, .ref (q 0))]) hx hb dX12_notes_89 hl (k := 0) rfl (by decide +kernel) (by decide) rfl (fun ls hl => ?_)
  refine lv_goto (tgt := 63) hx hb dX12_notes_92 (by decide) ?_
  refine lv_iload_n hx hb dX12_notes_63 rfl (lv_at hl 0 rfl) ?_
  refine lv_bipush (v := 40) hx hb dX12_notes_64 (by decide +kernel) ?_
  refine lv_icmp_ge (tgt := 95) hx hb dX12_notes_66 (by decide) (fun c => absurd c (by decide +kernel)) (fun _ => ?_)
  refine lv_aload_n hx hb dX12_notes_69 rfl (lv_at hl 1 rfl) ?_
  refine va_get (D := (dC, dI)) (ci := 12) (v := .ref (q 46)) (C := RX12) (T := TX12) (N := 85) hx hb hts hiX12 hown hK hP 6 rfl rfl 63 (by decide) (hts _ (List.mem_of_getElem? (i := 11) rfl)) (fun _ h9 => h9) rfl dX12_notes_70 ?_
  refine lv_iload_n hx hb dX12_notes_73 rfl (lv_at hl 0 rfl) ?_
  refine lv_aload_n hx hb dX12_notes_74 rfl (lv_at hl 1 rfl) ?_
  refine va_get (D := (dC, dI)) (ci := 12) (v := .ref (q 15)) (C := RX12) (T := TX12) (N := 85) hx hb hts hiX12 hown hK hP 6 rfl rfl 26 (by decide) (hts _ (List.mem_of_getElem? (i := 12) rfl)) (fun _ h9 => h9) rfl dX12_notes_75 ?_
  refine lv_bipush (v := 40) hx hb dX12_notes_78 (by decide +kernel) ?_
  refine lv_aload_n hx hb dX12_notes_80 rfl (lv_at hl 1 rfl) ?_
  refine va_get (D := (dC, dI)) (ci := 12) (v := .int 0) (C := RX12) (T := TX12) (N := 85) hx hb hts hiX12 hown hK hP 6 rfl rfl 12 (by decide) (hts _ (List.mem_of_getElem? (i := 3) rfl)) (fun _ h9 => h9) rfl dX12_notes_81 ?_
  refine lv_imul hx hb dX12_notes_84 ?_
  refine tp_i (y := 0) (by decide +kernel) ?_
  refine lv_iload_n hx hb dX12_notes_85 rfl (lv_at hl 0 rfl) ?_
  refine lv_iadd hx hb dX12_notes_86 ?_
  refine tp_i (y := 29) (by decide +kernel) ?_
  refine va_iald hx hb hK hP 4 1 rfl rfl (vpc _ _ (by decide +kernel)) dX12_notes_87 ?_
  refine tp_i (y := 0) rfl ?_
  refine va_iast hx hb hK hP hD hS 5 1 rfl rfl (vpc _ _ (by decide +kernel)) dX12_notes_88 (fun H locs hP hD hS => ?_)
  have hP : va_P (dC, dI) vwCl [((q 18), .inl (cI, 6, .inl (fun _ => 0))), ((q 44), .inl (cI, 3, .inl (upd (upd (upd f0 0 0) 1 0) 2 0))), ((q 14), .inl (cI, 8, .inl (fun _ => 0))), ((q 45), .inl (cI, 4, .inl (upd (upd (upd (upd f1 0 0) 1 0) 2 0) 3 0))), ((q 15), .inl (cI, 80, .inl (fun _ => 0))), ((q 46), .inl (cI, 40, .inl (upd (upd (upd (upd (upd (upd (upd (upd (upd (upd (upd (upd (upd (upd (upd (upd (upd (upd (upd (upd (upd (upd (upd (upd (upd (upd (upd (upd (upd (upd f2 0 0) 1 0) 2 0) 3 0) 4 0) 5 0) 6 0) 7 0) 8 0) 9 0) 10 0) 11 0) 12 0) 13 0) 14 0) 15 0) 16 0) 17 0) 18 0) 19 0) 20 0) 21 0) 22 0) 23 0) 24 0) 25 0) 26 0) 27 0) 28 0) 29 0))), ((q 0), .inr (12, (mo q)))] H := hP
  have hD : va_D A [((q 18), .inl (cI, 6, .inl (fun _ => 0))), ((q 44), .inl (cI, 3, .inl (upd (upd (upd f0 0 0) 1 0) 2 0))), ((q 14), .inl (cI, 8, .inl (fun _ => 0))), ((q 45), .inl (cI, 4, .inl (upd (upd (upd (upd f1 0 0) 1 0) 2 0) 3 0))), ((q 15), .inl (cI, 80, .inl (fun _ => 0))), ((q 46), .inl (cI, 40, .inl (upd (upd (upd (upd (upd (upd (upd (upd (upd (upd (upd (upd (upd (upd (upd (upd (upd (upd (upd (upd (upd (upd (upd (upd (upd (upd (upd (upd (upd (upd f2 0 0) 1 0) 2 0) 3 0) 4 0) 5 0) 6 0) 7 0) 8 0) 9 0) 10 0) 11 0) 12 0) 13 0) 14 0) 15 0) 16 0) 17 0) 18 0) 19 0) 20 0) 21 0) 22 0) 23 0) 24 0) 25 0) 26 0) 27 0) 28 0) 29 0))), ((q 0), .inr (12, (mo q)))] := hD
  refine lv_iinc (v := 30) (lv' := [(1, .int 30), (0, .ref (q 0))]) hx hb dX12_notes_89 hl (k := 0) rfl (by decide +kernel) (by decide) rfl (fun ls hl => ?_)
  refine lv_goto (tgt := 63) hx hb dX12_notes_92 (by decide) ?_
  refine lv_iload_n hx hb dX12_notes_63 rfl (lv_at hl 0 rfl) ?_
  refine lv_bipush (v := 40) hx hb dX12_notes_64 (by decide +kernel) ?_
  refine lv_icmp_ge (tgt := 95) hx hb dX12_notes_66 (by decide) (fun c => absurd c (by decide +kernel)) (fun _ => ?_)
  refine lv_aload_n hx hb dX12_notes_69 rfl (lv_at hl 1 rfl) ?_
  refine va_get (D := (dC, dI)) (ci := 12) (v := .ref (q 46)) (C := RX12) (T := TX12) (N := 85) hx hb hts hiX12 hown hK hP 6 rfl rfl 63 (by decide) (hts _ (List.mem_of_getElem? (i := 11) rfl)) (fun _ h9 => h9) rfl dX12_notes_70 ?_
  refine lv_iload_n hx hb dX12_notes_73 rfl (lv_at hl 0 rfl) ?_
  refine lv_aload_n hx hb dX12_notes_74 rfl (lv_at hl 1 rfl) ?_
  refine va_get (D := (dC, dI)) (ci := 12) (v := .ref (q 15)) (C := RX12) (T := TX12) (N := 85) hx hb hts hiX12 hown hK hP 6 rfl rfl 26 (by decide) (hts _ (List.mem_of_getElem? (i := 12) rfl)) (fun _ h9 => h9) rfl dX12_notes_75 ?_
  refine lv_bipush (v := 40) hx hb dX12_notes_78 (by decide +kernel) ?_
  refine lv_aload_n hx hb dX12_notes_80 rfl (lv_at hl 1 rfl) ?_
  refine va_get (D := (dC, dI)) (ci := 12) (v := .int 0) (C := RX12) (T := TX12) (N := 85) hx hb hts hiX12 hown hK hP 6 rfl rfl 12 (by decide) (hts _ (List.mem_of_getElem? (i := 3) rfl)) (fun _ h9 => h9) rfl dX12_notes_81 ?_
  refine lv_imul hx hb dX12_notes_84 ?_
  refine tp_i (y := 0) (by decide +kernel) ?_
  refine lv_iload_n hx hb dX12_notes_85 rfl (lv_at hl 0 rfl) ?_
  refine lv_iadd hx hb dX12_notes_86 ?_
  refine tp_i (y := 30) (by decide +kernel) ?_
  refine va_iald hx hb hK hP 4 1 rfl rfl (vpc _ _ (by decide +kernel)) dX12_notes_87 ?_
  refine tp_i (y := 0) rfl ?_
  refine va_iast hx hb hK hP hD hS 5 1 rfl rfl (vpc _ _ (by decide +kernel)) dX12_notes_88 (fun H locs hP hD hS => ?_)
  have hP : va_P (dC, dI) vwCl [((q 18), .inl (cI, 6, .inl (fun _ => 0))), ((q 44), .inl (cI, 3, .inl (upd (upd (upd f0 0 0) 1 0) 2 0))), ((q 14), .inl (cI, 8, .inl (fun _ => 0))), ((q 45), .inl (cI, 4, .inl (upd (upd (upd (upd f1 0 0) 1 0) 2 0) 3 0))), ((q 15), .inl (cI, 80, .inl (fun _ => 0))), ((q 46), .inl (cI, 40, .inl (upd (upd (upd (upd (upd (upd (upd (upd (upd (upd (upd (upd (upd (upd (upd (upd (upd (upd (upd (upd (upd (upd (upd (upd (upd (upd (upd (upd (upd (upd (upd f2 0 0) 1 0) 2 0) 3 0) 4 0) 5 0) 6 0) 7 0) 8 0) 9 0) 10 0) 11 0) 12 0) 13 0) 14 0) 15 0) 16 0) 17 0) 18 0) 19 0) 20 0) 21 0) 22 0) 23 0) 24 0) 25 0) 26 0) 27 0) 28 0) 29 0) 30 0))), ((q 0), .inr (12, (mo q)))] H := hP
  have hD : va_D A [((q 18), .inl (cI, 6, .inl (fun _ => 0))), ((q 44), .inl (cI, 3, .inl (upd (upd (upd f0 0 0) 1 0) 2 0))), ((q 14), .inl (cI, 8, .inl (fun _ => 0))), ((q 45), .inl (cI, 4, .inl (upd (upd (upd (upd f1 0 0) 1 0) 2 0) 3 0))), ((q 15), .inl (cI, 80, .inl (fun _ => 0))), ((q 46), .inl (cI, 40, .inl (upd (upd (upd (upd (upd (upd (upd (upd (upd (upd (upd (upd (upd (upd (upd (upd (upd (upd (upd (upd (upd (upd (upd (upd (upd (upd (upd (upd (upd (upd (upd f2 0 0) 1 0) 2 0) 3 0) 4 0) 5 0) 6 0) 7 0) 8 0) 9 0) 10 0) 11 0) 12 0) 13 0) 14 0) 15 0) 16 0) 17 0) 18 0) 19 0) 20 0) 21 0) 22 0) 23 0) 24 0) 25 0) 26 0) 27 0) 28 0) 29 0) 30 0))), ((q 0), .inr (12, (mo q)))] := hD
  refine lv_iinc (v := 31) (lv' := [(1, .int 31), (0, .ref (q 0))]) hx hb dX12_notes_89 hl (k := 0) rfl (by decide +kernel) (by decide) rfl (fun ls hl => ?_)
  refine lv_goto (tgt := 63) hx hb dX12_notes_92 (by decide) ?_
  refine lv_iload_n hx hb dX12_notes_63 rfl (lv_at hl 0 rfl) ?_
  refine lv_bipush (v := 40) hx hb dX12_notes_64 (by decide +kernel) ?_
  refine lv_icmp_ge (tgt := 95) hx hb dX12_notes_66 (by decide) (fun c => absurd c (by decide +kernel)) (fun _ => ?_)
  refine lv_aload_n hx hb dX12_notes_69 rfl (lv_at hl 1 rfl) ?_
  refine va_get (D := (dC, dI)) (ci := 12) (v := .ref (q 46)) (C := RX12) (T := TX12) (N := 85) hx hb hts hiX12 hown hK hP 6 rfl rfl 63 (by decide) (hts _ (List.mem_of_getElem? (i := 11) rfl)) (fun _ h9 => h9) rfl dX12_notes_70 ?_
  refine lv_iload_n hx hb dX12_notes_73 rfl (lv_at hl 0 rfl) ?_
  refine lv_aload_n hx hb dX12_notes_74 rfl (lv_at hl 1 rfl) ?_
  refine va_get (D := (dC, dI)) (ci := 12) (v := .ref (q 15)) (C := RX12) (T := TX12) (N := 85) hx hb hts hiX12 hown hK hP 6 rfl rfl 26 (by decide) (hts _ (List.mem_of_getElem? (i := 12) rfl)) (fun _ h9 => h9) rfl dX12_notes_75 ?_
  refine lv_bipush (v := 40) hx hb dX12_notes_78 (by decide +kernel) ?_
  refine lv_aload_n hx hb dX12_notes_80 rfl (lv_at hl 1 rfl) ?_
  refine va_get (D := (dC, dI)) (ci := 12) (v := .int 0) (C := RX12) (T := TX12) (N := 85) hx hb hts hiX12 hown hK hP 6 rfl rfl 12 (by decide) (hts _ (List.mem_of_getElem? (i := 3) rfl)) (fun _ h9 => h9) rfl dX12_notes_81 ?_
  refine lv_imul hx hb dX12_notes_84 ?_
  refine tp_i (y := 0) (by decide +kernel) ?_
  refine lv_iload_n hx hb dX12_notes_85 rfl (lv_at hl 0 rfl) ?_
  refine lv_iadd hx hb dX12_notes_86 ?_
  refine tp_i (y := 31) (by decide +kernel) ?_
  refine va_iald hx hb hK hP 4 1 rfl rfl (vpc _ _ (by decide +kernel)) dX12_notes_87 ?_
  refine tp_i (y := 0) rfl ?_
  refine va_iast hx hb hK hP hD hS 5 1 rfl rfl (vpc _ _ (by decide +kernel)) dX12_notes_88 (fun H locs hP hD hS => ?_)
  have hP : va_P (dC, dI) vwCl [((q 18), .inl (cI, 6, .inl (fun _ => 0))), ((q 44), .inl (cI, 3, .inl (upd (upd (upd f0 0 0) 1 0) 2 0))), ((q 14), .inl (cI, 8, .inl (fun _ => 0))), ((q 45), .inl (cI, 4, .inl (upd (upd (upd (upd f1 0 0) 1 0) 2 0) 3 0))), ((q 15), .inl (cI, 80, .inl (fun _ => 0))), ((q 46), .inl (cI, 40, .inl (upd (upd (upd (upd (upd (upd (upd (upd (upd (upd (upd (upd (upd (upd (upd (upd (upd (upd (upd (upd (upd (upd (upd (upd (upd (upd (upd (upd (upd (upd (upd (upd f2 0 0) 1 0) 2 0) 3 0) 4 0) 5 0) 6 0) 7 0) 8 0) 9 0) 10 0) 11 0) 12 0) 13 0) 14 0) 15 0) 16 0) 17 0) 18 0) 19 0) 20 0) 21 0) 22 0) 23 0) 24 0) 25 0) 26 0) 27 0) 28 0) 29 0) 30 0) 31 0))), ((q 0), .inr (12, (mo q)))] H := hP
  have hD : va_D A [((q 18), .inl (cI, 6, .inl (fun _ => 0))), ((q 44), .inl (cI, 3, .inl (upd (upd (upd f0 0 0) 1 0) 2 0))), ((q 14), .inl (cI, 8, .inl (fun _ => 0))), ((q 45), .inl (cI, 4, .inl (upd (upd (upd (upd f1 0 0) 1 0) 2 0) 3 0))), ((q 15), .inl (cI, 80, .inl (fun _ => 0))), ((q 46), .inl (cI, 40, .inl (upd (upd (upd (upd (upd (upd (upd (upd (upd (upd (upd (upd (upd (upd (upd (upd (upd (upd (upd (upd (upd (upd (upd (upd (upd (upd (upd (upd (upd (upd (upd (upd f2 0 0) 1 0) 2 0) 3 0) 4 0) 5 0) 6 0) 7 0) 8 0) 9 0) 10 0) 11 0) 12 0) 13 0) 14 0) 15 0) 16 0) 17 0) 18 0) 19 0) 20 0) 21 0) 22 0) 23 0) 24 0) 25 0) 26 0) 27 0) 28 0) 29 0) 30 0) 31 0))), ((q 0), .inr (12, (mo q)))] := hD
  refine lv_iinc (v := 32) (lv' := [(1, .int 32), (0, .ref (q 0))]) hx hb dX12_notes_89 hl (k := 0) rfl (by decide +kernel) (by decide) rfl (fun ls hl => ?_)
  refine lv_goto (tgt := 63) hx hb dX12_notes_92 (by decide) ?_
  refine lv_iload_n hx hb dX12_notes_63 rfl (lv_at hl 0 rfl) ?_
  refine lv_bipush (v := 40) hx hb dX12_notes_64 (by decide +kernel) ?_
  refine lv_icmp_ge (tgt := 95) hx hb dX12_notes_66 (by decide) (fun c => absurd c (by decide +kernel)) (fun _ => ?_)
  refine lv_aload_n hx hb dX12_notes_69 rfl (lv_at hl 1 rfl) ?_
  refine va_get (D := (dC, dI)) (ci := 12) (v := .ref (q 46)) (C := RX12) (T := TX12) (N := 85) hx hb hts hiX12 hown hK hP 6 rfl rfl 63 (by decide) (hts _ (List.mem_of_getElem? (i := 11) rfl)) (fun _ h9 => h9) rfl dX12_notes_70 ?_
  refine lv_iload_n hx hb dX12_notes_73 rfl (lv_at hl 0 rfl) ?_
  refine lv_aload_n hx hb dX12_notes_74 rfl (lv_at hl 1 rfl) ?_
  refine va_get (D := (dC, dI)) (ci := 12) (v := .ref (q 15)) (C := RX12) (T := TX12) (N := 85) hx hb hts hiX12 hown hK hP 6 rfl rfl 26 (by decide) (hts _ (List.mem_of_getElem? (i := 12) rfl)) (fun _ h9 => h9) rfl dX12_notes_75 ?_
  refine lv_bipush (v := 40) hx hb dX12_notes_78 (by decide +kernel) ?_
  refine lv_aload_n hx hb dX12_notes_80 rfl (lv_at hl 1 rfl) ?_
  refine va_get (D := (dC, dI)) (ci := 12) (v := .int 0) (C := RX12) (T := TX12) (N := 85) hx hb hts hiX12 hown hK hP 6 rfl rfl 12 (by decide) (hts _ (List.mem_of_getElem? (i := 3) rfl)) (fun _ h9 => h9) rfl dX12_notes_81 ?_
  refine lv_imul hx hb dX12_notes_84 ?_
  refine tp_i (y := 0) (by decide +kernel) ?_
  refine lv_iload_n hx hb dX12_notes_85 rfl (lv_at hl 0 rfl) ?_
  refine lv_iadd hx hb dX12_notes_86 ?_
  refine tp_i (y := 32) (by decide +kernel) ?_
  refine va_iald hx hb hK hP 4 1 rfl rfl (vpc _ _ (by decide +kernel)) dX12_notes_87 ?_
  refine tp_i (y := 0) rfl ?_
  refine va_iast hx hb hK hP hD hS 5 1 rfl rfl (vpc _ _ (by decide +kernel)) dX12_notes_88 (fun H locs hP hD hS => ?_)
  have hP : va_P (dC, dI) vwCl [((q 18), .inl (cI, 6, .inl (fun _ => 0))), ((q 44), .inl (cI, 3, .inl (upd (upd (upd f0 0 0) 1 0) 2 0))), ((q 14), .inl (cI, 8, .inl (fun _ => 0))), ((q 45), .inl (cI, 4, .inl (upd (upd (upd (upd f1 0 0) 1 0) 2 0) 3 0))), ((q 15), .inl (cI, 80, .inl (fun _ => 0))), ((q 46), .inl (cI, 40, .inl (upd (upd (upd (upd (upd (upd (upd (upd (upd (upd (upd (upd (upd (upd (upd (upd (upd (upd (upd (upd (upd (upd (upd (upd (upd (upd (upd (upd (upd (upd (upd (upd (upd f2 0 0) 1 0) 2 0) 3 0) 4 0) 5 0) 6 0) 7 0) 8 0) 9 0) 10 0) 11 0) 12 0) 13 0) 14 0) 15 0) 16 0) 17 0) 18 0) 19 0) 20 0) 21 0) 22 0) 23 0) 24 0) 25 0) 26 0) 27 0) 28 0) 29 0) 30 0) 31 0) 32 0))), ((q 0), .inr (12, (mo q)))] H := hP
  have hD : va_D A [((q 18), .inl (cI, 6, .inl (fun _ => 0))), ((q 44), .inl (cI, 3, .inl (upd (upd (upd f0 0 0) 1 0) 2 0))), ((q 14), .inl (cI, 8, .inl (fun _ => 0))), ((q 45), .inl (cI, 4, .inl (upd (upd (upd (upd f1 0 0) 1 0) 2 0) 3 0))), ((q 15), .inl (cI, 80, .inl (fun _ => 0))), ((q 46), .inl (cI, 40, .inl (upd (upd (upd (upd (upd (upd (upd (upd (upd (upd (upd (upd (upd (upd (upd (upd (upd (upd (upd (upd (upd (upd (upd (upd (upd (upd (upd (upd (upd (upd (upd (upd (upd f2 0 0) 1 0) 2 0) 3 0) 4 0) 5 0) 6 0) 7 0) 8 0) 9 0) 10 0) 11 0) 12 0) 13 0) 14 0) 15 0) 16 0) 17 0) 18 0) 19 0) 20 0) 21 0) 22 0) 23 0) 24 0) 25 0) 26 0) 27 0) 28 0) 29 0) 30 0) 31 0) 32 0))), ((q 0), .inr (12, (mo q)))] := hD
  refine lv_iinc (v := 33) (lv' := [(1, .int 33), (0, .ref (q 0))]) hx hb dX12_notes_89 hl (k := 0) rfl (by decide +kernel) (by decide) rfl (fun ls hl => ?_)
  refine lv_goto (tgt := 63) hx hb dX12_notes_92 (by decide) ?_
  refine lv_iload_n hx hb dX12_notes_63 rfl (lv_at hl 0 rfl) ?_
  refine lv_bipush (v := 40) hx hb dX12_notes_64 (by decide +kernel) ?_
  refine lv_icmp_ge (tgt := 95) hx hb dX12_notes_66 (by decide) (fun c => absurd c (by decide +kernel)) (fun _ => ?_)
  refine lv_aload_n hx hb dX12_notes_69 rfl (lv_at hl 1 rfl) ?_
  refine va_get (D := (dC, dI)) (ci := 12) (v := .ref (q 46)) (C := RX12) (T := TX12) (N := 85) hx hb hts hiX12 hown hK hP 6 rfl rfl 63 (by decide) (hts _ (List.mem_of_getElem? (i := 11) rfl)) (fun _ h9 => h9) rfl dX12_notes_70 ?_
  refine lv_iload_n hx hb dX12_notes_73 rfl (lv_at hl 0 rfl) ?_
  refine lv_aload_n hx hb dX12_notes_74 rfl (lv_at hl 1 rfl) ?_
  refine va_get (D := (dC, dI)) (ci := 12) (v := .ref (q 15)) (C := RX12) (T := TX12) (N := 85) hx hb hts hiX12 hown hK hP 6 rfl rfl 26 (by decide) (hts _ (List.mem_of_getElem? (i := 12) rfl)) (fun _ h9 => h9) rfl dX12_notes_75 ?_
  refine lv_bipush (v := 40) hx hb dX12_notes_78 (by decide +kernel) ?_
  refine lv_aload_n hx hb dX12_notes_80 rfl (lv_at hl 1 rfl) ?_
  refine va_get (D := (dC, dI)) (ci := 12) (v := .int 0) (C := RX12) (T := TX12) (N := 85) hx hb hts hiX12 hown hK hP 6 rfl rfl 12 (by decide) (hts _ (List.mem_of_getElem? (i := 3) rfl)) (fun _ h9 => h9) rfl dX12_notes_81 ?_
  refine lv_imul hx hb dX12_notes_84 ?_
  refine tp_i (y := 0) (by decide +kernel) ?_
  refine lv_iload_n hx hb dX12_notes_85 rfl (lv_at hl 0 rfl) ?_
  refine lv_iadd hx hb dX12_notes_86 ?_
  refine tp_i (y := 33) (by decide +kernel) ?_
  refine va_iald hx hb hK hP 4 1 rfl rfl (vpc _ _ (by decide +kernel)) dX12_notes_87 ?_
  refine tp_i (y := 0) rfl ?_
  refine va_iast hx hb hK hP hD hS 5 1 rfl rfl (vpc _ _ (by decide +kernel)) dX12_notes_88 (fun H locs hP hD hS => ?_)
  have hP : va_P (dC, dI) vwCl [((q 18), .inl (cI, 6, .inl (fun _ => 0))), ((q 44), .inl (cI, 3, .inl (upd (upd (upd f0 0 0) 1 0) 2 0))), ((q 14), .inl (cI, 8, .inl (fun _ => 0))), ((q 45), .inl (cI, 4, .inl (upd (upd (upd (upd f1 0 0) 1 0) 2 0) 3 0))), ((q 15), .inl (cI, 80, .inl (fun _ => 0))), ((q 46), .inl (cI, 40, .inl (upd (upd (upd (upd (upd (upd (upd (upd (upd (upd (upd (upd (upd (upd (upd (upd (upd (upd (upd (upd (upd (upd (upd (upd (upd (upd (upd (upd (upd (upd (upd (upd (upd (upd f2 0 0) 1 0) 2 0) 3 0) 4 0) 5 0) 6 0) 7 0) 8 0) 9 0) 10 0) 11 0) 12 0) 13 0) 14 0) 15 0) 16 0) 17 0) 18 0) 19 0) 20 0) 21 0) 22 0) 23 0) 24 0) 25 0) 26 0) 27 0) 28 0) 29 0) 30 0) 31 0) 32 0) 33 0))), ((q 0), .inr (12, (mo q)))] H := hP
  have hD : va_D A [((q 18), .inl (cI, 6, .inl (fun _ => 0))), ((q 44), .inl (cI, 3, .inl (upd (upd (upd f0 0 0) 1 0) 2 0))), ((q 14), .inl (cI, 8, .inl (fun _ => 0))), ((q 45), .inl (cI, 4, .inl (upd (upd (upd (upd f1 0 0) 1 0) 2 0) 3 0))), ((q 15), .inl (cI, 80, .inl (fun _ => 0))), ((q 46), .inl (cI, 40, .inl (upd (upd (upd (upd (upd (upd (upd (upd (upd (upd (upd (upd (upd (upd (upd (upd (upd (upd (upd (upd (upd (upd (upd (upd (upd (upd (upd (upd (upd (upd (upd (upd (upd (upd f2 0 0) 1 0) 2 0) 3 0) 4 0) 5 0) 6 0) 7 0) 8 0) 9 0) 10 0) 11 0) 12 0) 13 0) 14 0) 15 0) 16 0) 17 0) 18 0) 19 0) 20 0) 21 0) 22 0) 23 0) 24 0) 25 0) 26 0) 27 0) 28 0) 29 0) 30 0) 31 0) 32 0) 33 0))), ((q 0), .inr (12, (mo q)))] := hD
  refine lv_iinc (v := 34) (lv' := [(1, .int 34), (0, .ref (q 0))]) hx hb dX12_notes_89 hl (k := 0) rfl (by decide +kernel) (by decide) rfl (fun ls hl => ?_)
  refine lv_goto (tgt := 63) hx hb dX12_notes_92 (by decide) ?_
  refine lv_iload_n hx hb dX12_notes_63 rfl (lv_at hl 0 rfl) ?_
  refine lv_bipush (v := 40) hx hb dX12_notes_64 (by decide +kernel) ?_
  refine lv_icmp_ge (tgt := 95) hx hb dX12_notes_66 (by decide) (fun c => absurd c (by decide +kernel)) (fun _ => ?_)
  refine lv_aload_n hx hb dX12_notes_69 rfl (lv_at hl 1 rfl) ?_
  refine va_get (D := (dC, dI)) (ci := 12) (v := .ref (q 46)) (C := RX12) (T := TX12) (N := 85) hx hb hts hiX12 hown hK hP 6 rfl rfl 63 (by decide) (hts _ (List.mem_of_getElem? (i := 11) rfl)) (fun _ h9 => h9) rfl dX12_notes_70 ?_
  refine lv_iload_n hx hb dX12_notes_73 rfl (lv_at hl 0 rfl) ?_
  refine lv_aload_n hx hb dX12_notes_74 rfl (lv_at hl 1 rfl) ?_
  refine va_get (D := (dC, dI)) (ci := 12) (v := .ref (q 15)) (C := RX12) (T := TX12) (N := 85) hx hb hts hiX12 hown hK hP 6 rfl rfl 26 (by decide) (hts _ (List.mem_of_getElem? (i := 12) rfl)) (fun _ h9 => h9) rfl dX12_notes_75 ?_
  refine lv_bipush (v := 40) hx hb dX12_notes_78 (by decide +kernel) ?_
  refine lv_aload_n hx hb dX12_notes_80 rfl (lv_at hl 1 rfl) ?_
  refine va_get (D := (dC, dI)) (ci := 12) (v := .int 0) (C := RX12) (T := TX12) (N := 85) hx hb hts hiX12 hown hK hP 6 rfl rfl 12 (by decide) (hts _ (List.mem_of_getElem? (i := 3) rfl)) (fun _ h9 => h9) rfl dX12_notes_81 ?_
  refine lv_imul hx hb dX12_notes_84 ?_
  refine tp_i (y := 0) (by decide +kernel) ?_
  refine lv_iload_n hx hb dX12_notes_85 rfl (lv_at hl 0 rfl) ?_
  refine lv_iadd hx hb dX12_notes_86 ?_
  refine tp_i (y := 34) (by decide +kernel) ?_
  refine va_iald hx hb hK hP 4 1 rfl rfl (vpc _ _ (by decide +kernel)) dX12_notes_87 ?_
  refine tp_i (y := 0) rfl ?_
  refine va_iast hx hb hK hP hD hS 5 1 rfl rfl (vpc _ _ (by decide +kernel)) dX12_notes_88 (fun H locs hP hD hS => ?_)
  have hP : va_P (dC, dI) vwCl [((q 18), .inl (cI, 6, .inl (fun _ => 0))), ((q 44), .inl (cI, 3, .inl (upd (upd (upd f0 0 0) 1 0) 2 0))), ((q 14), .inl (cI, 8, .inl (fun _ => 0))), ((q 45), .inl (cI, 4, .inl (upd (upd (upd (upd f1 0 0) 1 0) 2 0) 3 0))), ((q 15), .inl (cI, 80, .inl (fun _ => 0))), ((q 46), .inl (cI, 40, .inl (upd (upd (upd (upd (upd (upd (upd (upd (upd (upd (upd (upd (upd (upd (upd (upd (upd (upd (upd (upd (upd (upd (upd (upd (upd (upd (upd (upd (upd (upd (upd (upd (upd (upd (upd f2 0 0) 1 0) 2 0) 3 0) 4 0) 5 0) 6 0) 7 0) 8 0) 9 0) 10 0) 11 0) 12 0) 13 0) 14 0) 15 0) 16 0) 17 0) 18 0) 19 0) 20 0) 21 0) 22 0) 23 0) 24 0) 25 0) 26 0) 27 0) 28 0) 29 0) 30 0) 31 0) 32 0) 33 0) 34 0))), ((q 0), .inr (12, (mo q)))] H := hP
  have hD : va_D A [((q 18), .inl (cI, 6, .inl (fun _ => 0))), ((q 44), .inl (cI, 3, .inl (upd (upd (upd f0 0 0) 1 0) 2 0))), ((q 14), .inl (cI, 8, .inl (fun _ => 0))), ((q 45), .inl (cI, 4, .inl (upd (upd (upd (upd f1 0 0) 1 0) 2 0) 3 0))), ((q 15), .inl (cI, 80, .inl (fun _ => 0))), ((q 46), .inl (cI, 40, .inl (upd (upd (upd (upd (upd (upd (upd (upd (upd (upd (upd (upd (upd (upd (upd (upd (upd (upd (upd (upd (upd (upd (upd (upd (upd (upd (upd (upd (upd (upd (upd (upd (upd (upd (upd f2 0 0) 1 0) 2 0) 3 0) 4 0) 5 0) 6 0) 7 0) 8 0) 9 0) 10 0) 11 0) 12 0) 13 0) 14 0) 15 0) 16 0) 17 0) 18 0) 19 0) 20 0) 21 0) 22 0) 23 0) 24 0) 25 0) 26 0) 27 0) 28 0) 29 0) 30 0) 31 0) 32 0) 33 0) 34 0))), ((q 0), .inr (12, (mo q)))] := hD
  refine lv_iinc (v := 35) (lv' := [(1, .int 35), (0, .ref (q 0))]) hx hb dX12_notes_89 hl (k := 0) rfl (by decide +kernel) (by decide) rfl (fun ls hl => ?_)
  refine lv_goto (tgt := 63) hx hb dX12_notes_92 (by decide) ?_
  refine lv_iload_n hx hb dX12_notes_63 rfl (lv_at hl 0 rfl) ?_
  refine lv_bipush (v := 40) hx hb dX12_notes_64 (by decide +kernel) ?_
  refine lv_icmp_ge (tgt := 95) hx hb dX12_notes_66 (by decide) (fun c => absurd c (by decide +kernel)) (fun _ => ?_)
  refine lv_aload_n hx hb dX12_notes_69 rfl (lv_at hl 1 rfl) ?_
  refine va_get (D := (dC, dI)) (ci := 12) (v := .ref (q 46)) (C := RX12) (T := TX12) (N := 85) hx hb hts hiX12 hown hK hP 6 rfl rfl 63 (by decide) (hts _ (List.mem_of_getElem? (i := 11) rfl)) (fun _ h9 => h9) rfl dX12_notes_70 ?_
  refine lv_iload_n hx hb dX12_notes_73 rfl (lv_at hl 0 rfl) ?_
  refine lv_aload_n hx hb dX12_notes_74 rfl (lv_at hl 1 rfl) ?_
  refine va_get (D := (dC, dI)) (ci := 12) (v := .ref (q 15)) (C := RX12) (T := TX12) (N := 85) hx hb hts hiX12 hown hK hP 6 rfl rfl 26 (by decide) (hts _ (List.mem_of_getElem? (i := 12) rfl)) (fun _ h9 => h9) rfl dX12_notes_75 ?_
  refine lv_bipush (v := 40) hx hb dX12_notes_78 (by decide +kernel) ?_
  refine lv_aload_n hx hb dX12_notes_80 rfl (lv_at hl 1 rfl) ?_
  refine va_get (D := (dC, dI)) (ci := 12) (v := .int 0) (C := RX12) (T := TX12) (N := 85) hx hb hts hiX12 hown hK hP 6 rfl rfl 12 (by decide) (hts _ (List.mem_of_getElem? (i := 3) rfl)) (fun _ h9 => h9) rfl dX12_notes_81 ?_
  refine lv_imul hx hb dX12_notes_84 ?_
  refine tp_i (y := 0) (by decide +kernel) ?_
  refine lv_iload_n hx hb dX12_notes_85 rfl (lv_at hl 0 rfl) ?_
  refine lv_iadd hx hb dX12_notes_86 ?_
  refine tp_i (y := 35) (by decide +kernel) ?_
  refine va_iald hx hb hK hP 4 1 rfl rfl (vpc _ _ (by decide +kernel)) dX12_notes_87 ?_
  refine tp_i (y := 0) rfl ?_
  refine va_iast hx hb hK hP hD hS 5 1 rfl rfl (vpc _ _ (by decide +kernel)) dX12_notes_88 (fun H locs hP hD hS => ?_)
  have hP : va_P (dC, dI) vwCl [((q 18), .inl (cI, 6, .inl (fun _ => 0))), ((q 44), .inl (cI, 3, .inl (upd (upd (upd f0 0 0) 1 0) 2 0))), ((q 14), .inl (cI, 8, .inl (fun _ => 0))), ((q 45), .inl (cI, 4, .inl (upd (upd (upd (upd f1 0 0) 1 0) 2 0) 3 0))), ((q 15), .inl (cI, 80, .inl (fun _ => 0))), ((q 46), .inl (cI, 40, .inl (upd (upd (upd (upd (upd (upd (upd (upd (upd (upd (upd (upd (upd (upd (upd (upd (upd (upd (upd (upd (upd (upd (upd (upd (upd (upd (upd (upd (upd (upd (upd (upd (upd (upd (upd (upd f2 0 0) 1 0) 2 0) 3 0) 4 0) 5 0) 6 0) 7 0) 8 0) 9 0) 10 0) 11 0) 12 0) 13 0) 14 0) 15 0) 16 0) 17 0) 18 0) 19 0) 20 0) 21 0) 22 0) 23 0) 24 0) 25 0) 26 0) 27 0) 28 0) 29 0) 30 0) 31 0) 32 0) 33 0) 34 0) 35 0))), ((q 0), .inr (12, (mo q)))] H := hP
  have hD : va_D A [((q 18), .inl (cI, 6, .inl (fun _ => 0))), ((q 44), .inl (cI, 3, .inl (upd (upd (upd f0 0 0) 1 0) 2 0))), ((q 14), .inl (cI, 8, .inl (fun _ => 0))), ((q 45), .inl (cI, 4, .inl (upd (upd (upd (upd f1 0 0) 1 0) 2 0) 3 0))), ((q 15), .inl (cI, 80, .inl (fun _ => 0))), ((q 46), .inl (cI, 40, .inl (upd (upd (upd (upd (upd (upd (upd (upd (upd (upd (upd (upd (upd (upd (upd (upd (upd (upd (upd (upd (upd (upd (upd (upd (upd (upd (upd (upd (upd (upd (upd (upd (upd (upd (upd (upd f2 0 0) 1 0) 2 0) 3 0) 4 0) 5 0) 6 0) 7 0) 8 0) 9 0) 10 0) 11 0) 12 0) 13 0) 14 0) 15 0) 16 0) 17 0) 18 0) 19 0) 20 0) 21 0) 22 0) 23 0) 24 0) 25 0) 26 0) 27 0) 28 0) 29 0) 30 0) 31 0) 32 0) 33 0) 34 0) 35 0))), ((q 0), .inr (12, (mo q)))] := hD
  refine lv_iinc (v := 36) (lv' := [(1, .int 36), (0, .ref (q 0))]) hx hb dX12_notes_89 hl (k := 0) rfl (by decide +kernel) (by decide) rfl (fun ls hl => ?_)
  refine lv_goto (tgt := 63) hx hb dX12_notes_92 (by decide) ?_
  refine lv_iload_n hx hb dX12_notes_63 rfl (lv_at hl 0 rfl) ?_
  refine lv_bipush (v := 40) hx hb dX12_notes_64 (by decide +kernel) ?_
  refine lv_icmp_ge (tgt := 95) hx hb dX12_notes_66 (by decide) (fun c => absurd c (by decide +kernel)) (fun _ => ?_)
  refine lv_aload_n hx hb dX12_notes_69 rfl (lv_at hl 1 rfl) ?_
  refine va_get (D := (dC, dI)) (ci := 12) (v := .ref (q 46)) (C := RX12) (T := TX12) (N := 85) hx hb hts hiX12 hown hK hP 6 rfl rfl 63 (by decide) (hts _ (List.mem_of_getElem? (i := 11) rfl)) (fun _ h9 => h9) rfl dX12_notes_70 ?_
  refine lv_iload_n hx hb dX12_notes_73 rfl (lv_at hl 0 rfl) ?_
  refine lv_aload_n hx hb dX12_notes_74 rfl (lv_at hl 1 rfl) ?_
  refine va_get (D := (dC, dI)) (ci := 12) (v := .ref (q 15)) (C := RX12) (T := TX12) (N := 85) hx hb hts hiX12 hown hK hP 6 rfl rfl 26 (by decide) (hts _ (List.mem_of_getElem? (i := 12) rfl)) (fun _ h9 => h9) rfl dX12_notes_75 ?_
  refine lv_bipush (v := 40) hx hb dX12_notes_78 (by decide +kernel) ?_
  refine lv_aload_n hx hb dX12_notes_80 rfl (lv_at hl 1 rfl) ?_
  refine va_get (D := (dC, dI)) (ci := 12) (v := .int 0) (C := RX12) (T := TX12) (N := 85) hx hb hts hiX12 hown hK hP 6 rfl rfl 12 (by decide) (hts _ (List.mem_of_getElem? (i := 3) rfl)) (fun _ h9 => h9) rfl dX12_notes_81 ?_
  refine lv_imul hx hb dX12_notes_84 ?_
  refine tp_i (y := 0) (by decide +kernel) ?_
  refine lv_iload_n hx hb dX12_notes_85 rfl (lv_at hl 0 rfl) ?_
  refine lv_iadd hx hb dX12_notes_86 ?_
  refine tp_i (y := 36) (by decide +kernel) ?_
  refine va_iald hx hb hK hP 4 1 rfl rfl (vpc _ _ (by decide +kernel)) dX12_notes_87 ?_
  refine tp_i (y := 0) rfl ?_
  refine va_iast hx hb hK hP hD hS 5 1 rfl rfl (vpc _ _ (by decide +kernel)) dX12_notes_88 (fun H locs hP hD hS => ?_)
  have hP : va_P (dC, dI) vwCl [((q 18), .inl (cI, 6, .inl (fun _ => 0))), ((q 44), .inl (cI, 3, .inl (upd (upd (upd f0 0 0) 1 0) 2 0))), ((q 14), .inl (cI, 8, .inl (fun _ => 0))), ((q 45), .inl (cI, 4, .inl (upd (upd (upd (upd f1 0 0) 1 0) 2 0) 3 0))), ((q 15), .inl (cI, 80, .inl (fun _ => 0))), ((q 46), .inl (cI, 40, .inl (upd (upd (upd (upd (upd (upd (upd (upd (upd (upd (upd (upd (upd (upd (upd (upd (upd (upd (upd (upd (upd (upd (upd (upd (upd (upd (upd (upd (upd (upd (upd (upd (upd (upd (upd (upd (upd f2 0 0) 1 0) 2 0) 3 0) 4 0) 5 0) 6 0) 7 0) 8 0) 9 0) 10 0) 11 0) 12 0) 13 0) 14 0) 15 0) 16 0) 17 0) 18 0) 19 0) 20 0) 21 0) 22 0) 23 0) 24 0) 25 0) 26 0) 27 0) 28 0) 29 0) 30 0) 31 0) 32 0) 33 0) 34 0) 35 0) 36 0))), ((q 0), .inr (12, (mo q)))] H := hP
  have hD : va_D A [((q 18), .inl (cI, 6, .inl (fun _ => 0))), ((q 44), .inl (cI, 3, .inl (upd (upd (upd f0 0 0) 1 0) 2 0))), ((q 14), .inl (cI, 8, .inl (fun _ => 0))), ((q 45), .inl (cI, 4, .inl (upd (upd (upd (upd f1 0 0) 1 0) 2 0) 3 0))), ((q 15), .inl (cI, 80, .inl (fun _ => 0))), ((q 46), .inl (cI, 40, .inl (upd (upd (upd (upd (upd (upd (upd (upd (upd (upd (upd (upd (upd (upd (upd (upd (upd (upd (upd (upd (upd (upd (upd (upd (upd (upd (upd (upd (upd (upd (upd (upd (upd (upd (upd (upd (upd f2 0 0) 1 0) 2 0) 3 0) 4 0) 5 0) 6 0) 7 0) 8 0) 9 0) 10 0) 11 0) 12 0) 13 0) 14 0) 15 0) 16 0) 17 0) 18 0) 19 0) 20 0) 21 0) 22 0) 23 0) 24 0) 25 0) 26 0) 27 0) 28 0) 29 0) 30 0) 31 0) 32 0) 33 0) 34 0) 35 0) 36 0))), ((q 0), .inr (12, (mo q)))] := hD
  refine lv_iinc (v := 37) (lv' := [(1, .int 37), (0, .ref (q 0))]) hx hb dX12_notes_89 hl (k := 0) rfl (by decide +kernel) (by decide) rfl (fun ls hl => ?_)
  refine lv_goto (tgt := 63) hx hb dX12_notes_92 (by decide) ?_
  refine lv_iload_n hx hb dX12_notes_63 rfl (lv_at hl 0 rfl) ?_
  refine lv_bipush (v := 40) hx hb dX12_notes_64 (by decide +kernel) ?_
  refine lv_icmp_ge (tgt := 95) hx hb dX12_notes_66 (by decide) (fun c => absurd c (by decide +kernel)) (fun _ => ?_)
  refine lv_aload_n hx hb dX12_notes_69 rfl (lv_at hl 1 rfl) ?_
  refine va_get (D := (dC, dI)) (ci := 12) (v := .ref (q 46)) (C := RX12) (T := TX12) (N := 85) hx hb hts hiX12 hown hK hP 6 rfl rfl 63 (by decide) (hts _ (List.mem_of_getElem? (i := 11) rfl)) (fun _ h9 => h9) rfl dX12_notes_70 ?_
  refine lv_iload_n hx hb dX12_notes_73 rfl (lv_at hl 0 rfl) ?_
  refine lv_aload_n hx hb dX12_notes_74 rfl (lv_at hl 1 rfl) ?_
  refine va_get (D := (dC, dI)) (ci := 12) (v := .ref (q 15)) (C := RX12) (T := TX12) (N := 85) hx hb hts hiX12 hown hK hP 6 rfl rfl 26 (by decide) (hts _ (List.mem_of_getElem? (i := 12) rfl)) (fun _ h9 => h9) rfl dX12_notes_75 ?_
  refine lv_bipush (v := 40) hx hb dX12_notes_78 (by decide +kernel) ?_
  refine lv_aload_n hx hb dX12_notes_80 rfl (lv_at hl 1 rfl) ?_
  refine va_get (D := (dC, dI)) (ci := 12) (v := .int 0) (C := RX12) (T := TX12) (N := 85) hx hb hts hiX12 hown hK hP 6 rfl rfl 12 (by decide) (hts _ (List.mem_of_getElem? (i := 3) rfl)) (fun _ h9 => h9) rfl dX12_notes_81 ?_
  refine lv_imul hx hb dX12_notes_84 ?_
  refine tp_i (y := 0) (by decide +kernel) ?_
  refine lv_iload_n hx hb dX12_notes_85 rfl (lv_at hl 0 rfl) ?_
  refine lv_iadd hx hb dX12_notes_86 ?_
  refine tp_i (y := 37) (by decide +kernel) ?_
  refine va_iald hx hb hK hP 4 1 rfl rfl (vpc _ _ (by decide +kernel)) dX12_notes_87 ?_
  refine tp_i (y := 0) rfl ?_
  refine va_iast hx hb hK hP hD hS 5 1 rfl rfl (vpc _ _ (by decide +kernel)) dX12_notes_88 (fun H locs hP hD hS => ?_)
  have hP : va_P (dC, dI) vwCl [((q 18), .inl (cI, 6, .inl (fun _ => 0))), ((q 44), .inl (cI, 3, .inl (upd (upd (upd f0 0 0) 1 0) 2 0))), ((q 14), .inl (cI, 8, .inl (fun _ => 0))), ((q 45), .inl (cI, 4, .inl (upd (upd (upd (upd f1 0 0) 1 0) 2 0) 3 0))), ((q 15), .inl (cI, 80, .inl (fun _ => 0))), ((q 46), .inl (cI, 40, .inl (upd (upd (upd (upd (upd (upd (upd (upd (upd (upd (upd (upd (upd (upd (upd (upd (upd (upd (upd (upd (upd (upd (upd (upd (upd (upd (upd (upd (upd (upd (upd (upd (upd (upd (upd (upd (upd (upd f2 0 0) 1 0) 2 0) 3 0) 4 0) 5 0) 6 0) 7 0) 8 0) 9 0) 10 0) 11 0) 12 0) 13 0) 14 0) 15 0) 16 0) 17 0) 18 0) 19 0) 20 0) 21 0) 22 0) 23 0) 24 0) 25 0) 26 0) 27 0) 28 0) 29 0) 30 0) 31 0) 32 0) 33 0) 34 0) 35 0) 36 0) 37 0))), ((q 0), .inr (12, (mo q)))] H := hP
  have hD : va_D A [((q 18), .inl (cI, 6, .inl (fun _ => 0))), ((q 44), .inl (cI, 3, .inl (upd (upd (upd f0 0 0) 1 0) 2 0))), ((q 14), .inl (cI, 8, .inl (fun _ => 0))), ((q 45), .inl (cI, 4, .inl (upd (upd (upd (upd f1 0 0) 1 0) 2 0) 3 0))), ((q 15), .inl (cI, 80, .inl (fun _ => 0))), ((q 46), .inl (cI, 40, .inl (upd (upd (upd (upd (upd (upd (upd (upd (upd (upd (upd (upd (upd (upd (upd (upd (upd (upd (upd (upd (upd (upd (upd (upd (upd (upd (upd (upd (upd (upd (upd (upd (upd (upd (upd (upd (upd (upd f2 0 0) 1 0) 2 0) 3 0) 4 0) 5 0) 6 0) 7 0) 8 0) 9 0) 10 0) 11 0) 12 0) 13 0) 14 0) 15 0) 16 0) 17 0) 18 0) 19 0) 20 0) 21 0) 22 0) 23 0) 24 0) 25 0) 26 0) 27 0) 28 0) 29 0) 30 0) 31 0) 32 0) 33 0) 34 0) 35 0) 36 0) 37 0))), ((q 0), .inr (12, (mo q)))] := hD
  refine lv_iinc (v := 38) (lv' := [(1, .int 38), (0, .ref (q 0))]) hx hb dX12_notes_89 hl (k := 0) rfl (by decide +kernel) (by decide) rfl (fun ls hl => ?_)
  refine lv_goto (tgt := 63) hx hb dX12_notes_92 (by decide) ?_
  refine lv_iload_n hx hb dX12_notes_63 rfl (lv_at hl 0 rfl) ?_
  refine lv_bipush (v := 40) hx hb dX12_notes_64 (by decide +kernel) ?_
  refine lv_icmp_ge (tgt := 95) hx hb dX12_notes_66 (by decide) (fun c => absurd c (by decide +kernel)) (fun _ => ?_)
  refine lv_aload_n hx hb dX12_notes_69 rfl (lv_at hl 1 rfl) ?_
  refine va_get (D := (dC, dI)) (ci := 12) (v := .ref (q 46)) (C := RX12) (T := TX12) (N := 85) hx hb hts hiX12 hown hK hP 6 rfl rfl 63 (by decide) (hts _ (List.mem_of_getElem? (i := 11) rfl)) (fun _ h9 => h9) rfl dX12_notes_70 ?_
  refine lv_iload_n hx hb dX12_notes_73 rfl (lv_at hl 0 rfl) ?_
  refine lv_aload_n hx hb dX12_notes_74 rfl (lv_at hl 1 rfl) ?_
  refine va_get (D := (dC, dI)) (ci := 12) (v := .ref (q 15)) (C := RX12) (T := TX12) (N := 85) hx hb hts hiX12 hown hK hP 6 rfl rfl 26 (by decide) (hts _ (List.mem_of_getElem? (i := 12) rfl)) (fun _ h9 => h9) rfl dX12_notes_75 ?_
  refine lv_bipush (v := 40) hx hb dX12_notes_78 (by decide +kernel) ?_
  refine lv_aload_n hx hb dX12_notes_80 rfl (lv_at hl 1 rfl) ?_
  refine va_get (D := (dC, dI)) (ci := 12) (v := .int 0) (C := RX12) (T := TX12) (N := 85) hx hb hts hiX12 hown hK hP 6 rfl rfl 12 (by decide) (hts _ (List.mem_of_getElem? (i := 3) rfl)) (fun _ h9 => h9) rfl dX12_notes_81 ?_
  refine lv_imul hx hb dX12_notes_84 ?_
  refine tp_i (y := 0) (by decide +kernel) ?_
  refine lv_iload_n hx hb dX12_notes_85 rfl (lv_at hl 0 rfl) ?_
  refine lv_iadd hx hb dX12_notes_86 ?_
  refine tp_i (y := 38) (by decide +kernel) ?_
  refine va_iald hx hb hK hP 4 1 rfl rfl (vpc _ _ (by decide +kernel)) dX12_notes_87 ?_
  refine tp_i (y := 0) rfl ?_
  refine va_iast hx hb hK hP hD hS 5 1 rfl rfl (vpc _ _ (by decide +kernel)) dX12_notes_88 (fun H locs hP hD hS => ?_)
  have hP : va_P (dC, dI) vwCl [((q 18), .inl (cI, 6, .inl (fun _ => 0))), ((q 44), .inl (cI, 3, .inl (upd (upd (upd f0 0 0) 1 0) 2 0))), ((q 14), .inl (cI, 8, .inl (fun _ => 0))), ((q 45), .inl (cI, 4, .inl (upd (upd (upd (upd f1 0 0) 1 0) 2 0) 3 0))), ((q 15), .inl (cI, 80, .inl (fun _ => 0))), ((q 46), .inl (cI, 40, .inl (upd (upd (upd (upd (upd (upd (upd (upd (upd (upd (upd (upd (upd (upd (upd (upd (upd (upd (upd (upd (upd (upd (upd (upd (upd (upd (upd (upd (upd (upd (upd (upd (upd (upd (upd (upd (upd (upd (upd f2 0 0) 1 0) 2 0) 3 0) 4 0) 5 0) 6 0) 7 0) 8 0) 9 0) 10 0) 11 0) 12 0) 13 0) 14 0) 15 0) 16 0) 17 0) 18 0) 19 0) 20 0) 21 0) 22 0) 23 0) 24 0) 25 0) 26 0) 27 0) 28 0) 29 0) 30 0) 31 0) 32 0) 33 0) 34 0) 35 0) 36 0) 37 0) 38 0))), ((q 0), .inr (12, (mo q)))] H := hP
  have hD : va_D A [((q 18), .inl (cI, 6, .inl (fun _ => 0))), ((q 44), .inl (cI, 3, .inl (upd (upd (upd f0 0 0) 1 0) 2 0))), ((q 14), .inl (cI, 8, .inl (fun _ => 0))), ((q 45), .inl (cI, 4, .inl (upd (upd (upd (upd f1 0 0) 1 0) 2 0) 3 0))), ((q 15), .inl (cI, 80, .inl (fun _ => 0))), ((q 46), .inl (cI, 40, .inl (upd (upd (upd (upd (upd (upd (upd (upd (upd (upd (upd (upd (upd (upd (upd (upd (upd (upd (upd (upd (upd (upd (upd (upd (upd (upd (upd (upd (upd (upd (upd (upd (upd (upd (upd (upd (upd (upd (upd f2 0 0) 1 0) 2 0) 3 0) 4 0) 5 0) 6 0) 7 0) 8 0) 9 0) 10 0) 11 0) 12 0) 13 0) 14 0) 15 0) 16 0) 17 0) 18 0) 19 0) 20 0) 21 0) 22 0) 23 0) 24 0) 25 0) 26 0) 27 0) 28 0) 29 0) 30 0) 31 0) 32 0) 33 0) 34 0) 35 0) 36 0) 37 0) 38 0))), ((q 0), .inr (12, (mo q)))] := hD
  refine lv_iinc (v := 39) (lv' := [(1, .int 39), (0, .ref (q 0))]) hx hb dX12_notes_89 hl (k := 0) rfl (by decide +kernel) (by decide) rfl (fun ls hl => ?_)
  refine lv_goto (tgt := 63) hx hb dX12_notes_92 (by decide) ?_
  refine lv_iload_n hx hb dX12_notes_63 rfl (lv_at hl 0 rfl) ?_
  refine lv_bipush (v := 40) hx hb dX12_notes_64 (by decide +kernel) ?_
  refine lv_icmp_ge (tgt := 95) hx hb dX12_notes_66 (by decide) (fun c => absurd c (by decide +kernel)) (fun _ => ?_)
  refine lv_aload_n hx hb dX12_notes_69 rfl (lv_at hl 1 rfl) ?_
  refine va_get (D := (dC, dI)) (ci := 12) (v := .ref (q 46)) (C := RX12) (T := TX12) (N := 85) hx hb hts hiX12 hown hK hP 6 rfl rfl 63 (by decide) (hts _ (List.mem_of_getElem? (i := 11) rfl)) (fun _ h9 => h9) rfl dX12_notes_70 ?_
  refine lv_iload_n hx hb dX12_notes_73 rfl (lv_at hl 0 rfl) ?_
  refine lv_aload_n hx hb dX12_notes_74 rfl (lv_at hl 1 rfl) ?_
  refine va_get (D := (dC, dI)) (ci := 12) (v := .ref (q 15)) (C := RX12) (T := TX12) (N := 85) hx hb hts hiX12 hown hK hP 6 rfl rfl 26 (by decide) (hts _ (List.mem_of_getElem? (i := 12) rfl)) (fun _ h9 => h9) rfl dX12_notes_75 ?_
  refine lv_bipush (v := 40) hx hb dX12_notes_78 (by decide +kernel) ?_
  refine lv_aload_n hx hb dX12_notes_80 rfl (lv_at hl 1 rfl) ?_
  refine va_get (D := (dC, dI)) (ci := 12) (v := .int 0) (C := RX12) (T := TX12) (N := 85) hx hb hts hiX12 hown hK hP 6 rfl rfl 12 (by decide) (hts _ (List.mem_of_getElem? (i := 3) rfl)) (fun _ h9 => h9) rfl dX12_notes_81 ?_
  refine lv_imul hx hb dX12_notes_84 ?_
  refine tp_i (y := 0) (by decide +kernel) ?_
  refine lv_iload_n hx hb dX12_notes_85 rfl (lv_at hl 0 rfl) ?_
  refine lv_iadd hx hb dX12_notes_86 ?_
  refine tp_i (y := 39) (by decide +kernel) ?_
  refine va_iald hx hb hK hP 4 1 rfl rfl (vpc _ _ (by decide +kernel)) dX12_notes_87 ?_
  refine tp_i (y := 0) rfl ?_
  refine va_iast hx hb hK hP hD hS 5 1 rfl rfl (vpc _ _ (by decide +kernel)) dX12_notes_88 (fun H locs hP hD hS => ?_)
  have hP : va_P (dC, dI) vwCl [((q 18), .inl (cI, 6, .inl (fun _ => 0))), ((q 44), .inl (cI, 3, .inl (upd (upd (upd f0 0 0) 1 0) 2 0))), ((q 14), .inl (cI, 8, .inl (fun _ => 0))), ((q 45), .inl (cI, 4, .inl (upd (upd (upd (upd f1 0 0) 1 0) 2 0) 3 0))), ((q 15), .inl (cI, 80, .inl (fun _ => 0))), ((q 46), .inl (cI, 40, .inl (upd (upd (upd (upd (upd (upd (upd (upd (upd (upd (upd (upd (upd (upd (upd (upd (upd (upd (upd (upd (upd (upd (upd (upd (upd (upd (upd (upd (upd (upd (upd (upd (upd (upd (upd (upd (upd (upd (upd (upd f2 0 0) 1 0) 2 0) 3 0) 4 0) 5 0) 6 0) 7 0) 8 0) 9 0) 10 0) 11 0) 12 0) 13 0) 14 0) 15 0) 16 0) 17 0) 18 0) 19 0) 20 0) 21 0) 22 0) 23 0) 24 0) 25 0) 26 0) 27 0) 28 0) 29 0) 30 0) 31 0) 32 0) 33 0) 34 0) 35 0) 36 0) 37 0) 38 0) 39 0))), ((q 0), .inr (12, (mo q)))] H := hP
  have hD : va_D A [((q 18), .inl (cI, 6, .inl (fun _ => 0))), ((q 44), .inl (cI, 3, .inl (upd (upd (upd f0 0 0) 1 0) 2 0))), ((q 14), .inl (cI, 8, .inl (fun _ => 0))), ((q 45), .inl (cI, 4, .inl (upd (upd (upd (upd f1 0 0) 1 0) 2 0) 3 0))), ((q 15), .inl (cI, 80, .inl (fun _ => 0))), ((q 46), .inl (cI, 40, .inl (upd (upd (upd (upd (upd (upd (upd (upd (upd (upd (upd (upd (upd (upd (upd (upd (upd (upd (upd (upd (upd (upd (upd (upd (upd (upd (upd (upd (upd (upd (upd (upd (upd (upd (upd (upd (upd (upd (upd (upd f2 0 0) 1 0) 2 0) 3 0) 4 0) 5 0) 6 0) 7 0) 8 0) 9 0) 10 0) 11 0) 12 0) 13 0) 14 0) 15 0) 16 0) 17 0) 18 0) 19 0) 20 0) 21 0) 22 0) 23 0) 24 0) 25 0) 26 0) 27 0) 28 0) 29 0) 30 0) 31 0) 32 0) 33 0) 34 0) 35 0) 36 0) 37 0) 38 0) 39 0))), ((q 0), .inr (12, (mo q)))] := hD
  refine lv_iinc (v := 40) (lv' := [(1, .int 40), (0, .ref (q 0))]) hx hb dX12_notes_89 hl (k := 0) rfl (by decide +kernel) (by decide) rfl (fun ls hl => ?_)
  refine lv_goto (tgt := 63) hx hb dX12_notes_92 (by decide) ?_
  refine lv_iload_n hx hb dX12_notes_63 rfl (lv_at hl 0 rfl) ?_
  refine lv_bipush (v := 40) hx hb dX12_notes_64 (by decide +kernel) ?_
  refine lv_icmp_ge (tgt := 95) hx hb dX12_notes_66 (by decide) (fun _ => ?_) (fun c => absurd c (by decide +kernel))
  have hP9 := hP.sub (ws' := [((q 0), .inr (12, (mo q))), ((q 18), .inl (cI, 6, .inl (fun _ => 0))), ((q 44), .inl (cI, 3, .inl (upd (upd (upd f0 0 0) 1 0) 2 0))), ((q 14), .inl (cI, 8, .inl (fun _ => 0))), ((q 45), .inl (cI, 4, .inl (upd (upd (upd (upd f1 0 0) 1 0) 2 0) 3 0))), ((q 15), .inl (cI, 80, .inl (fun _ => 0))), ((q 46), .inl (cI, 40, .inl (upd (upd (upd (upd (upd (upd (upd (upd (upd (upd (upd (upd (upd (upd (upd (upd (upd (upd (upd (upd (upd (upd (upd (upd (upd (upd (upd (upd (upd (upd (upd (upd (upd (upd (upd (upd (upd (upd (upd (upd f2 0 0) 1 0) 2 0) 3 0) 4 0) 5 0) 6 0) 7 0) 8 0) 9 0) 10 0) 11 0) 12 0) 13 0) 14 0) 15 0) 16 0) 17 0) 18 0) 19 0) 20 0) 21 0) 22 0) 23 0) 24 0) 25 0) 26 0) 27 0) 28 0) 29 0) 30 0) 31 0) 32 0) 33 0) 34 0) 35 0) 36 0) 37 0) 38 0) 39 0)))]) [6, 0, 1, 2, 3, 4, 5] rfl
  have hD9 := hD.sub (ws' := [((q 0), .inr (12, (mo q))), ((q 18), .inl (cI, 6, .inl (fun _ => 0))), ((q 44), .inl (cI, 3, .inl (upd (upd (upd f0 0 0) 1 0) 2 0))), ((q 14), .inl (cI, 8, .inl (fun _ => 0))), ((q 45), .inl (cI, 4, .inl (upd (upd (upd (upd f1 0 0) 1 0) 2 0) 3 0))), ((q 15), .inl (cI, 80, .inl (fun _ => 0))), ((q 46), .inl (cI, 40, .inl (upd (upd (upd (upd (upd (upd (upd (upd (upd (upd (upd (upd (upd (upd (upd (upd (upd (upd (upd (upd (upd (upd (upd (upd (upd (upd (upd (upd (upd (upd (upd (upd (upd (upd (upd (upd (upd (upd (upd (upd f2 0 0) 1 0) 2 0) 3 0) 4 0) 5 0) 6 0) 7 0) 8 0) 9 0) 10 0) 11 0) 12 0) 13 0) 14 0) 15 0) 16 0) 17 0) 18 0) 19 0) 20 0) 21 0) 22 0) 23 0) 24 0) 25 0) 26 0) 27 0) 28 0) 29 0) 30 0) 31 0) 32 0) 33 0) 34 0) 35 0) 36 0) 37 0) 38 0) 39 0)))]) [6, 0, 1, 2, 3, 4, 5] (by decide) rfl
  exact W.vret hx hb hr (fun t ht hW => ⟨⟨(), rfl, trivial, by rw [ht]; exact hP9, va_K.moved hW.alike hK, hD9⟩, hS.F ht⟩) hS.2.2 dX12_notes_95
def ws_k_X12_back_123 : List Cond := .code yX12_back cX12_back 2 none :: ([.fieldLink RX12 101 "StackKeysModel" "personAt" "[I", .fieldLink RX12 48 "StackKeysModel" "bank" "I", .fieldLink RX12 198 "StackKeysModel" "wasAt" "[I", .fieldLink RX12 89 "StackKeysModel" "rowMany" "[I", .methodLink RX12 484 yX12_key4, .instanceMethod yX12_key4, .selects RX12 yX12_key4 yX12_key4, .initialized RX12, .code yX12_key4 cX12_key4 2 (some .int), .fieldLink RX12 201 "StackKeysModel" "wasMany" "[I", .fieldLink RX12 92 "StackKeysModel" "rowOf" "[I", .fieldLink RX12 204 "StackKeysModel" "wasRow" "[I"] ++ wsX120)
set_option maxRecDepth 20000 in
theorem g_k_X12_back_123_0 : GoodIn ws_k_X12_back_123 (wsV RX12 484 RX12 yX12_key4 ws_k_X12_key4_118) := goodIn_r _ [5, 6, 7, 8, 9, 2, 13, 14, 15, 16, 17, 18, 19, 20, 21, 22, 23, 24, 25, 26, 27, 28, 29, 30, 31, 32, 33, 34, 35, 36, 37, 38, 39, 40, 41, 42, 43, 44, 45, 46, 47, 48, 49, 50, 51, 52, 53, 54, 55, 56, 57, 58, 59, 60, 61, 62, 63, 64, 65, 66, 67, 68, 69, 70, 71, 72, 73, 74, 75, 76, 77, 78, 79, 80, 81, 82, 83, 84, 85, 86, 87, 88, 89, 90, 91, 92, 93, 94, 95, 96, 97] (by decide +kernel) (by decide +kernel)
set_option maxRecDepth 20000 in
theorem g_k_X12_back_123_1 : GoodIn ws_k_X12_back_123 (wsV RX12 484 RX12 yX12_key4 ws_k_X12_key4_119) := goodIn_r _ [5, 6, 7, 8, 9, 2, 13, 14, 15, 16, 17, 18, 19, 20, 21, 22, 23, 24, 25, 26, 27, 28, 29, 30, 31, 32, 33, 34, 35, 36, 37, 38, 39, 40, 41, 42, 43, 44, 45, 46, 47, 48, 49, 50, 51, 52, 53, 54, 55, 56, 57, 58, 59, 60, 61, 62, 63, 64, 65, 66, 67, 68, 69, 70, 71, 72, 73, 74, 75, 76, 77, 78, 79, 80, 81, 82, 83, 84, 85, 86, 87, 88, 89, 90, 91, 92, 93, 94, 95, 96, 97] (by decide +kernel) (by decide +kernel)
set_option maxRecDepth 20000 in
theorem g_k_X12_back_123_2 : GoodIn ws_k_X12_back_123 (wsV RX12 484 RX12 yX12_key4 ws_k_X12_key4_120) := goodIn_r _ [5, 6, 7, 8, 9, 2, 13, 14, 15, 16, 17, 18, 19, 20, 21, 22, 23, 24, 25, 26, 27, 28, 29, 30, 31, 32, 33, 34, 35, 36, 37, 38, 39, 40, 41, 42, 43, 44, 45, 46, 47, 48, 49, 50, 51, 52, 53, 54, 55, 56, 57, 58, 59, 60, 61, 62, 63, 64, 65, 66, 67, 68, 69, 70, 71, 72, 73, 74, 75, 76, 77, 78, 79, 80, 81, 82, 83, 84, 85, 86, 87, 88, 89, 90, 91, 92, 93, 94, 95, 96, 97] (by decide +kernel) (by decide +kernel)
set_option maxRecDepth 20000 in
theorem g_k_X12_back_123_3 : GoodIn ws_k_X12_back_123 (wsV RX12 484 RX12 yX12_key4 ws_k_X12_key4_121) := goodIn_r _ [5, 6, 7, 8, 9, 2, 13, 14, 15, 16, 17, 18, 19, 20, 21, 22, 23, 24, 25, 26, 27, 28, 29, 30, 31, 32, 33, 34, 35, 36, 37, 38, 39, 40, 41, 42, 43, 44, 45, 46, 47, 48, 49, 50, 51, 52, 53, 54, 55, 56, 57, 58, 59, 60, 61, 62, 63, 64, 65, 66, 67, 68, 69, 70, 71, 72, 73, 74, 75, 76, 77, 78, 79, 80, 81, 82, 83, 84, 85, 86, 87, 88, 89, 90, 91, 92, 93, 94, 95, 96, 97] (by decide +kernel) (by decide +kernel)
set_option maxHeartbeats 4000000 in
set_option maxRecDepth 100000 in
theorem k_X12_back_123 (l : Launch) (dC : Nat → ClassId) (dI : Nat → Nat → Nat) (cB cI cJ cZ cQ : ClassId) (sz : Nat) (q : Nat → Nat) (f0 f1 f2 : Nat → Int32) : Met l yX12_back ws_k_X12_back_123 ({ frames := 1, cells := 0, slots := 0, locals := 21 }) (va_Pc [.ref (q 0)] (fun U => U.heap.size = sz ∧ va_P (dC, dI) vwCl [((q 0), .inr (12, (mo q))), ((q 44), .inl (cI, 3, .inl (upd (upd (upd (fun _ => 0) 0 0) 1 0) 2 0))), ((q 18), .inl (cI, 6, .inl f0)), ((q 45), .inl (cI, 4, .inl (upd (upd (upd (upd (fun _ => 0) 0 0) 1 0) 2 0) 3 0))), ((q 14), .inl (cI, 8, .inl f1)), ((q 46), .inl (cI, 40, .inl (upd (upd (upd (upd (upd (upd (upd (upd (upd (upd (upd (upd (upd (upd (upd (upd (upd (upd (upd (upd (upd (upd (upd (upd (upd (upd (upd (upd (upd (upd (upd (upd (upd (upd (upd (upd (upd (upd (upd (upd (fun _ => 0) 0 0) 1 0) 2 0) 3 0) 4 0) 5 0) 6 0) 7 0) 8 0) 9 0) 10 0) 11 0) 12 0) 13 0) 14 0) 15 0) 16 0) 17 0) 18 0) 19 0) 20 0) 21 0) 22 0) 23 0) 24 0) 25 0) 26 0) 27 0) 28 0) 29 0) 30 0) 31 0) 32 0) 33 0) 34 0) 35 0) 36 0) 37 0) 38 0) 39 0))), ((q 15), .inl (cI, 80, .inl f2))] U.heap ∧ va_K (dC, dI) vwCl (tyA cB cI cJ cZ cQ) U ∧ va_D (fun _ => True) [((q 0), .inr (12, (mo q))), ((q 44), .inl (cI, 3, .inl (upd (upd (upd (fun _ => 0) 0 0) 1 0) 2 0))), ((q 18), .inl (cI, 6, .inl f0)), ((q 45), .inl (cI, 4, .inl (upd (upd (upd (upd (fun _ => 0) 0 0) 1 0) 2 0) 3 0))), ((q 14), .inl (cI, 8, .inl f1)), ((q 46), .inl (cI, 40, .inl (upd (upd (upd (upd (upd (upd (upd (upd (upd (upd (upd (upd (upd (upd (upd (upd (upd (upd (upd (upd (upd (upd (upd (upd (upd (upd (upd (upd (upd (upd (upd (upd (upd (upd (upd (upd (upd (upd (upd (upd (fun _ => 0) 0 0) 1 0) 2 0) 3 0) 4 0) 5 0) 6 0) 7 0) 8 0) 9 0) 10 0) 11 0) 12 0) 13 0) 14 0) 15 0) 16 0) 17 0) 18 0) 19 0) 20 0) 21 0) 22 0) 23 0) 24 0) 25 0) 26 0) 27 0) 28 0) 29 0) 30 0) 31 0) 32 0) 33 0) 34 0) 35 0) 36 0) 37 0) 38 0) 39 0))), ((q 15), .inl (cI, 80, .inl f2))])) (va_Qv (fun _ : Unit => True) (fun (u : Unit) t => va_P (dC, dI) vwCl [((q 0), .inr (12, (mo q))), ((q 44), .inl (cI, 3, .inl (upd (upd (upd (fun _ => 0) 0 0) 1 0) 2 0))), ((q 18), .inl (cI, 6, .inl (upd (upd (upd f0 0 0) 1 0) 2 0))), ((q 45), .inl (cI, 4, .inl (upd (upd (upd (upd (fun _ => 0) 0 0) 1 0) 2 0) 3 0))), ((q 14), .inl (cI, 8, .inl (upd (upd (upd (upd f1 0 0) 1 0) 2 0) 3 0))), ((q 46), .inl (cI, 40, .inl (upd (upd (upd (upd (upd (upd (upd (upd (upd (upd (upd (upd (upd (upd (upd (upd (upd (upd (upd (upd (upd (upd (upd (upd (upd (upd (upd (upd (upd (upd (upd (upd (upd (upd (upd (upd (upd (upd (upd (upd (fun _ => 0) 0 0) 1 0) 2 0) 3 0) 4 0) 5 0) 6 0) 7 0) 8 0) 9 0) 10 0) 11 0) 12 0) 13 0) 14 0) 15 0) 16 0) 17 0) 18 0) 19 0) 20 0) 21 0) 22 0) 23 0) 24 0) 25 0) 26 0) 27 0) 28 0) 29 0) 30 0) 31 0) 32 0) 33 0) 34 0) 35 0) 36 0) 37 0) 38 0) 39 0))), ((q 15), .inl (cI, 80, .inl (upd (upd (upd (upd (upd (upd (upd (upd (upd (upd (upd (upd (upd (upd (upd (upd (upd (upd (upd (upd (upd (upd (upd (upd (upd (upd (upd (upd (upd (upd (upd (upd (upd (upd (upd (upd (upd (upd (upd (upd f2 0 0) 1 0) 2 0) 3 0) 4 0) 5 0) 6 0) 7 0) 8 0) 9 0) 10 0) 11 0) 12 0) 13 0) 14 0) 15 0) 16 0) 17 0) 18 0) 19 0) 20 0) 21 0) 22 0) 23 0) 24 0) 25 0) 26 0) 27 0) 28 0) 29 0) 30 0) 31 0) 32 0) 33 0) 34 0) 35 0) 36 0) 37 0) 38 0) 39 0)))] t.heap ∧ va_K (dC, dI) vwCl (tyA cB cI cJ cZ cQ) t ∧ va_D (va_A [((q 0), .inr (12, (mo q))), ((q 44), .inl (cI, 3, .inl (upd (upd (upd (fun _ => 0) 0 0) 1 0) 2 0))), ((q 18), .inl (cI, 6, .inl f0)), ((q 45), .inl (cI, 4, .inl (upd (upd (upd (upd (fun _ => 0) 0 0) 1 0) 2 0) 3 0))), ((q 14), .inl (cI, 8, .inl f1)), ((q 46), .inl (cI, 40, .inl (upd (upd (upd (upd (upd (upd (upd (upd (upd (upd (upd (upd (upd (upd (upd (upd (upd (upd (upd (upd (upd (upd (upd (upd (upd (upd (upd (upd (upd (upd (upd (upd (upd (upd (upd (upd (upd (upd (upd (upd (fun _ => 0) 0 0) 1 0) 2 0) 3 0) 4 0) 5 0) 6 0) 7 0) 8 0) 9 0) 10 0) 11 0) 12 0) 13 0) 14 0) 15 0) 16 0) 17 0) 18 0) 19 0) 20 0) 21 0) 22 0) 23 0) 24 0) 25 0) 26 0) 27 0) 28 0) 29 0) 30 0) 31 0) 32 0) 33 0) 34 0) 35 0) 36 0) 37 0) 38 0) 39 0))), ((q 15), .inl (cI, 80, .inl f2))] sz) [((q 0), .inr (12, (mo q))), ((q 44), .inl (cI, 3, .inl (upd (upd (upd (fun _ => 0) 0 0) 1 0) 2 0))), ((q 18), .inl (cI, 6, .inl (upd (upd (upd f0 0 0) 1 0) 2 0))), ((q 45), .inl (cI, 4, .inl (upd (upd (upd (upd (fun _ => 0) 0 0) 1 0) 2 0) 3 0))), ((q 14), .inl (cI, 8, .inl (upd (upd (upd (upd f1 0 0) 1 0) 2 0) 3 0))), ((q 46), .inl (cI, 40, .inl (upd (upd (upd (upd (upd (upd (upd (upd (upd (upd (upd (upd (upd (upd (upd (upd (upd (upd (upd (upd (upd (upd (upd (upd (upd (upd (upd (upd (upd (upd (upd (upd (upd (upd (upd (upd (upd (upd (upd (upd (fun _ => 0) 0 0) 1 0) 2 0) 3 0) 4 0) 5 0) 6 0) 7 0) 8 0) 9 0) 10 0) 11 0) 12 0) 13 0) 14 0) 15 0) 16 0) 17 0) 18 0) 19 0) 20 0) 21 0) 22 0) 23 0) 24 0) 25 0) 26 0) 27 0) 28 0) 29 0) 30 0) 31 0) 32 0) 33 0) 34 0) 35 0) 36 0) 37 0) 38 0) 39 0))), ((q 15), .inl (cI, 80, .inl (upd (upd (upd (upd (upd (upd (upd (upd (upd (upd (upd (upd (upd (upd (upd (upd (upd (upd (upd (upd (upd (upd (upd (upd (upd (upd (upd (upd (upd (upd (upd (upd (upd (upd (upd (upd (upd (upd (upd (upd f2 0 0) 1 0) 2 0) 3 0) 4 0) 5 0) 6 0) 7 0) 8 0) 9 0) 10 0) 11 0) 12 0) 13 0) 14 0) 15 0) 16 0) 17 0) 18 0) 19 0) 20 0) 21 0) 22 0) 23 0) 24 0) 25 0) 26 0) 27 0) 28 0) 29 0) 30 0) 31 0) 32 0) 33 0) 34 0) 35 0) 36 0) 37 0) 38 0) 39 0)))]) (va_A [((q 0), .inr (12, (mo q))), ((q 44), .inl (cI, 3, .inl (upd (upd (upd (fun _ => 0) 0 0) 1 0) 2 0))), ((q 18), .inl (cI, 6, .inl f0)), ((q 45), .inl (cI, 4, .inl (upd (upd (upd (upd (fun _ => 0) 0 0) 1 0) 2 0) 3 0))), ((q 14), .inl (cI, 8, .inl f1)), ((q 46), .inl (cI, 40, .inl (upd (upd (upd (upd (upd (upd (upd (upd (upd (upd (upd (upd (upd (upd (upd (upd (upd (upd (upd (upd (upd (upd (upd (upd (upd (upd (upd (upd (upd (upd (upd (upd (upd (upd (upd (upd (upd (upd (upd (upd (fun _ => 0) 0 0) 1 0) 2 0) 3 0) 4 0) 5 0) 6 0) 7 0) 8 0) 9 0) 10 0) 11 0) 12 0) 13 0) 14 0) 15 0) 16 0) 17 0) 18 0) 19 0) 20 0) 21 0) 22 0) 23 0) 24 0) 25 0) 26 0) 27 0) 28 0) 29 0) 30 0) 31 0) 32 0) 33 0) 34 0) 35 0) 36 0) 37 0) 38 0) 39 0))), ((q 15), .inl (cI, 80, .inl f2))] sz)) 0 0 (va_A [((q 0), .inr (12, (mo q))), ((q 44), .inl (cI, 3, .inl (upd (upd (upd (fun _ => 0) 0 0) 1 0) 2 0))), ((q 18), .inl (cI, 6, .inl f0)), ((q 45), .inl (cI, 4, .inl (upd (upd (upd (upd (fun _ => 0) 0 0) 1 0) 2 0) 3 0))), ((q 14), .inl (cI, 8, .inl f1)), ((q 46), .inl (cI, 40, .inl (upd (upd (upd (upd (upd (upd (upd (upd (upd (upd (upd (upd (upd (upd (upd (upd (upd (upd (upd (upd (upd (upd (upd (upd (upd (upd (upd (upd (upd (upd (upd (upd (upd (upd (upd (upd (upd (upd (upd (upd (fun _ => 0) 0 0) 1 0) 2 0) 3 0) 4 0) 5 0) 6 0) 7 0) 8 0) 9 0) 10 0) 11 0) 12 0) 13 0) 14 0) 15 0) 16 0) 17 0) 18 0) 19 0) 20 0) 21 0) 22 0) 23 0) 24 0) 25 0) 26 0) 27 0) 28 0) 29 0) 30 0) 31 0) 32 0) 33 0) 34 0) 35 0) 36 0) 37 0) 38 0) 39 0))), ((q 15), .inl (cI, 80, .inl f2))] sz) := by
  refine Met.ofW (cc := cX12_back) (maxL := 2) (ret := none) (by decide +kernel) rfl ?_
  intro p e s m args below meth c s₁ B hml hv
  obtain ⟨rfl, hsz, hP, hK, hD0⟩ := hv
  have hx := B.exec
  have hb := B.bytes
  have hr := B.returns
  have hts := atoms_spec (ws := ws_k_X12_back_123) B.pre
  have hown : s.vm.findClass RX12 = some m.cls := findClass_of_methodNamed B.named
  have hiX12 : ∀ w ∈ u_ws RX12 TX12 85, w ∈ ws_k_X12_back_123 := fun w h => List.mem_cons_of_mem _ (List.mem_append_right _ h)
  subst hsz
  have hD := hD0.self (sz := s.heap.size)
  generalize hAe : va_A [((q 0), .inr (12, (mo q))), ((q 44), .inl (cI, 3, .inl (upd (upd (upd (fun _ => 0) 0 0) 1 0) 2 0))), ((q 18), .inl (cI, 6, .inl f0)), ((q 45), .inl (cI, 4, .inl (upd (upd (upd (upd (fun _ => 0) 0 0) 1 0) 2 0) 3 0))), ((q 14), .inl (cI, 8, .inl f1)), ((q 46), .inl (cI, 40, .inl (upd (upd (upd (upd (upd (upd (upd (upd (upd (upd (upd (upd (upd (upd (upd (upd (upd (upd (upd (upd (upd (upd (upd (upd (upd (upd (upd (upd (upd (upd (upd (upd (upd (upd (upd (upd (upd (upd (upd (upd (fun _ => 0) 0 0) 1 0) 2 0) 3 0) 4 0) 5 0) 6 0) 7 0) 8 0) 9 0) 10 0) 11 0) 12 0) 13 0) 14 0) 15 0) 16 0) 17 0) 18 0) 19 0) 20 0) 21 0) 22 0) 23 0) 24 0) 25 0) 26 0) 27 0) 28 0) 29 0) 30 0) 31 0) 32 0) 33 0) 34 0) 35 0) 36 0) 37 0) 38 0) 39 0))), ((q 15), .inl (cI, 80, .inl f2))] s.heap.size = A at hD ⊢
  have hA : ∀ b : Nat, s.heap.size ≤ b → A b := fun b h => by rw [← hAe]; exact Or.inr h
  clear hD0 hAe
  have hS : va_S A s.heap s.heap [] := va_S.rf
  have hl := lv_entry ([.ref (q 0)]) (n := 2) (Nat.le_of_ble_eq_true rfl)
  rw [lg_entry_eq]
  generalize (lg_sl ([.ref (q 0)]) ++ List.replicate (2 - (lg_sl ([.ref (q 0)])).length) Slot.unset).toArray = ls at hl ⊢
  have hl : lv_has ls 2 [(0, .ref (q 0))] := hl
  obtain ⟨H, hHe⟩ : ∃ H : Heap, H = s.heap := ⟨_, rfl⟩
  rw [← hHe] at hP
  have hS : va_S A s.heap H [] := by rw [hHe]; exact hS
  rw [← hHe]
  refine lv_iconst (v := 0) hx hb dX12_back_0 (by decide +kernel) ?_
  refine lv_istore_n (lv' := [(1, .int 0), (0, .ref (q 0))]) hx hb dX12_back_1 rfl hl (by decide) rfl (fun ls hl => ?_)
  refine lv_iload_n hx hb dX12_back_2 rfl (lv_at hl 0 rfl) ?_
  refine lv_iconst (v := 3) hx hb dX12_back_3 (by decide +kernel) ?_
  refine lv_icmp_ge (tgt := 32) hx hb dX12_back_4 (by decide) (fun c => absurd c (by decide +kernel)) (fun _ => ?_)
  refine lv_aload_n hx hb dX12_back_7 rfl (lv_at hl 1 rfl) ?_
  refine va_get (D := (dC, dI)) (ci := 12) (v := .ref (q 18)) (C := RX12) (T := TX12) (N := 85) hx hb hts hiX12 hown hK hP 0 rfl rfl 29 (by decide) (hts _ (List.mem_of_getElem? (i := 1) rfl)) (fun _ h9 => h9) rfl dX12_back_8 ?_
  refine lv_iconst (v := 3) hx hb dX12_back_11 (by decide +kernel) ?_
  refine lv_aload_n hx hb dX12_back_12 rfl (lv_at hl 1 rfl) ?_
  refine va_get (D := (dC, dI)) (ci := 12) (v := .int 0) (C := RX12) (T := TX12) (N := 85) hx hb hts hiX12 hown hK hP 0 rfl rfl 12 (by decide) (hts _ (List.mem_of_getElem? (i := 2) rfl)) (fun _ h9 => h9) rfl dX12_back_13 ?_
  refine lv_imul hx hb dX12_back_16 ?_
  refine tp_i (y := 0) (by decide +kernel) ?_
  refine lv_iload_n hx hb dX12_back_17 rfl (lv_at hl 0 rfl) ?_
  refine lv_iadd hx hb dX12_back_18 ?_
  refine tp_i (y := 0) (by decide +kernel) ?_
  refine lv_aload_n hx hb dX12_back_19 rfl (lv_at hl 1 rfl) ?_
  refine va_get (D := (dC, dI)) (ci := 12) (v := .ref (q 44)) (C := RX12) (T := TX12) (N := 85) hx hb hts hiX12 hown hK hP 0 rfl rfl 61 (by decide) (hts _ (List.mem_of_getElem? (i := 3) rfl)) (fun _ h9 => h9) rfl dX12_back_20 ?_
  refine lv_iload_n hx hb dX12_back_23 rfl (lv_at hl 0 rfl) ?_
  refine va_iald hx hb hK hP 1 1 rfl rfl (vpc _ _ (by decide +kernel)) dX12_back_24 ?_
  refine tp_i (y := 0) rfl ?_
  refine va_iast hx hb hK hP hD hS 2 1 rfl rfl (vpc _ _ (by decide +kernel)) dX12_back_25 (fun H locs hP hD hS => ?_)
  have hP : va_P (dC, dI) vwCl [((q 0), .inr (12, (mo q))), ((q 44), .inl (cI, 3, .inl (upd (upd (upd (fun _ => 0) 0 0) 1 0) 2 0))), ((q 18), .inl (cI, 6, .inl (upd f0 0 0))), ((q 45), .inl (cI, 4, .inl (upd (upd (upd (upd (fun _ => 0) 0 0) 1 0) 2 0) 3 0))), ((q 14), .inl (cI, 8, .inl f1)), ((q 46), .inl (cI, 40, .inl (upd (upd (upd (upd (upd (upd (upd (upd (upd (upd (upd (upd (upd (upd (upd (upd (upd (upd (upd (upd (upd (upd (upd (upd (upd (upd (upd (upd (upd (upd (upd (upd (upd (upd (upd (upd (upd (upd (upd (upd (fun _ => 0) 0 0) 1 0) 2 0) 3 0) 4 0) 5 0) 6 0) 7 0) 8 0) 9 0) 10 0) 11 0) 12 0) 13 0) 14 0) 15 0) 16 0) 17 0) 18 0) 19 0) 20 0) 21 0) 22 0) 23 0) 24 0) 25 0) 26 0) 27 0) 28 0) 29 0) 30 0) 31 0) 32 0) 33 0) 34 0) 35 0) 36 0) 37 0) 38 0) 39 0))), ((q 15), .inl (cI, 80, .inl f2))] H := hP
  have hD : va_D A [((q 0), .inr (12, (mo q))), ((q 44), .inl (cI, 3, .inl (upd (upd (upd (fun _ => 0) 0 0) 1 0) 2 0))), ((q 18), .inl (cI, 6, .inl (upd f0 0 0))), ((q 45), .inl (cI, 4, .inl (upd (upd (upd (upd (fun _ => 0) 0 0) 1 0) 2 0) 3 0))), ((q 14), .inl (cI, 8, .inl f1)), ((q 46), .inl (cI, 40, .inl (upd (upd (upd (upd (upd (upd (upd (upd (upd (upd (upd (upd (upd (upd (upd (upd (upd (upd (upd (upd (upd (upd (upd (upd (upd (upd (upd (upd (upd (upd (upd (upd (upd (upd (upd (upd (upd (upd (upd (upd (fun _ => 0) 0 0) 1 0) 2 0) 3 0) 4 0) 5 0) 6 0) 7 0) 8 0) 9 0) 10 0) 11 0) 12 0) 13 0) 14 0) 15 0) 16 0) 17 0) 18 0) 19 0) 20 0) 21 0) 22 0) 23 0) 24 0) 25 0) 26 0) 27 0) 28 0) 29 0) 30 0) 31 0) 32 0) 33 0) 34 0) 35 0) 36 0) 37 0) 38 0) 39 0))), ((q 15), .inl (cI, 80, .inl f2))] := hD
  refine lv_iinc (v := 1) (lv' := [(1, .int 1), (0, .ref (q 0))]) hx hb dX12_back_26 hl (k := 0) rfl (by decide +kernel) (by decide) rfl (fun ls hl => ?_)
  refine lv_goto (tgt := 2) hx hb dX12_back_29 (by decide) ?_
  refine lv_iload_n hx hb dX12_back_2 rfl (lv_at hl 0 rfl) ?_
  refine lv_iconst (v := 3) hx hb dX12_back_3 (by decide +kernel) ?_
  refine lv_icmp_ge (tgt := 32) hx hb dX12_back_4 (by decide) (fun c => absurd c (by decide +kernel)) (fun _ => ?_)
  refine lv_aload_n hx hb dX12_back_7 rfl (lv_at hl 1 rfl) ?_
  refine va_get (D := (dC, dI)) (ci := 12) (v := .ref (q 18)) (C := RX12) (T := TX12) (N := 85) hx hb hts hiX12 hown hK hP 0 rfl rfl 29 (by decide) (hts _ (List.mem_of_getElem? (i := 1) rfl)) (fun _ h9 => h9) rfl dX12_back_8 ?_
  refine lv_iconst (v := 3) hx hb dX12_back_11 (by decide +kernel) ?_
  refine lv_aload_n hx hb dX12_back_12 rfl (lv_at hl 1 rfl) ?_
  refine va_get (D := (dC, dI)) (ci := 12) (v := .int 0) (C := RX12) (T := TX12) (N := 85) hx hb hts hiX12 hown hK hP 0 rfl rfl 12 (by decide) (hts _ (List.mem_of_getElem? (i := 2) rfl)) (fun _ h9 => h9) rfl dX12_back_13 ?_
  refine lv_imul hx hb dX12_back_16 ?_
  refine tp_i (y := 0) (by decide +kernel) ?_
  refine lv_iload_n hx hb dX12_back_17 rfl (lv_at hl 0 rfl) ?_
  refine lv_iadd hx hb dX12_back_18 ?_
  refine tp_i (y := 1) (by decide +kernel) ?_
  refine lv_aload_n hx hb dX12_back_19 rfl (lv_at hl 1 rfl) ?_
  refine va_get (D := (dC, dI)) (ci := 12) (v := .ref (q 44)) (C := RX12) (T := TX12) (N := 85) hx hb hts hiX12 hown hK hP 0 rfl rfl 61 (by decide) (hts _ (List.mem_of_getElem? (i := 3) rfl)) (fun _ h9 => h9) rfl dX12_back_20 ?_
  refine lv_iload_n hx hb dX12_back_23 rfl (lv_at hl 0 rfl) ?_
  refine va_iald hx hb hK hP 1 1 rfl rfl (vpc _ _ (by decide +kernel)) dX12_back_24 ?_
  refine tp_i (y := 0) rfl ?_
  refine va_iast hx hb hK hP hD hS 2 1 rfl rfl (vpc _ _ (by decide +kernel)) dX12_back_25 (fun H locs hP hD hS => ?_)
  have hP : va_P (dC, dI) vwCl [((q 0), .inr (12, (mo q))), ((q 44), .inl (cI, 3, .inl (upd (upd (upd (fun _ => 0) 0 0) 1 0) 2 0))), ((q 18), .inl (cI, 6, .inl (upd (upd f0 0 0) 1 0))), ((q 45), .inl (cI, 4, .inl (upd (upd (upd (upd (fun _ => 0) 0 0) 1 0) 2 0) 3 0))), ((q 14), .inl (cI, 8, .inl f1)), ((q 46), .inl (cI, 40, .inl (upd (upd (upd (upd (upd (upd (upd (upd (upd (upd (upd (upd (upd (upd (upd (upd (upd (upd (upd (upd (upd (upd (upd (upd (upd (upd (upd (upd (upd (upd (upd (upd (upd (upd (upd (upd (upd (upd (upd (upd (fun _ => 0) 0 0) 1 0) 2 0) 3 0) 4 0) 5 0) 6 0) 7 0) 8 0) 9 0) 10 0) 11 0) 12 0) 13 0) 14 0) 15 0) 16 0) 17 0) 18 0) 19 0) 20 0) 21 0) 22 0) 23 0) 24 0) 25 0) 26 0) 27 0) 28 0) 29 0) 30 0) 31 0) 32 0) 33 0) 34 0) 35 0) 36 0) 37 0) 38 0) 39 0))), ((q 15), .inl (cI, 80, .inl f2))] H := hP
  have hD : va_D A [((q 0), .inr (12, (mo q))), ((q 44), .inl (cI, 3, .inl (upd (upd (upd (fun _ => 0) 0 0) 1 0) 2 0))), ((q 18), .inl (cI, 6, .inl (upd (upd f0 0 0) 1 0))), ((q 45), .inl (cI, 4, .inl (upd (upd (upd (upd (fun _ => 0) 0 0) 1 0) 2 0) 3 0))), ((q 14), .inl (cI, 8, .inl f1)), ((q 46), .inl (cI, 40, .inl (upd (upd (upd (upd (upd (upd (upd (upd (upd (upd (upd (upd (upd (upd (upd (upd (upd (upd (upd (upd (upd (upd (upd (upd (upd (upd (upd (upd (upd (upd (upd (upd (upd (upd (upd (upd (upd (upd (upd (upd (fun _ => 0) 0 0) 1 0) 2 0) 3 0) 4 0) 5 0) 6 0) 7 0) 8 0) 9 0) 10 0) 11 0) 12 0) 13 0) 14 0) 15 0) 16 0) 17 0) 18 0) 19 0) 20 0) 21 0) 22 0) 23 0) 24 0) 25 0) 26 0) 27 0) 28 0) 29 0) 30 0) 31 0) 32 0) 33 0) 34 0) 35 0) 36 0) 37 0) 38 0) 39 0))), ((q 15), .inl (cI, 80, .inl f2))] := hD
  refine lv_iinc (v := 2) (lv' := [(1, .int 2), (0, .ref (q 0))]) hx hb dX12_back_26 hl (k := 0) rfl (by decide +kernel) (by decide) rfl (fun ls hl => ?_)
  refine lv_goto (tgt := 2) hx hb dX12_back_29 (by decide) ?_
  refine lv_iload_n hx hb dX12_back_2 rfl (lv_at hl 0 rfl) ?_
  refine lv_iconst (v := 3) hx hb dX12_back_3 (by decide +kernel) ?_
  refine lv_icmp_ge (tgt := 32) hx hb dX12_back_4 (by decide) (fun c => absurd c (by decide +kernel)) (fun _ => ?_)
  refine lv_aload_n hx hb dX12_back_7 rfl (lv_at hl 1 rfl) ?_
  refine va_get (D := (dC, dI)) (ci := 12) (v := .ref (q 18)) (C := RX12) (T := TX12) (N := 85) hx hb hts hiX12 hown hK hP 0 rfl rfl 29 (by decide) (hts _ (List.mem_of_getElem? (i := 1) rfl)) (fun _ h9 => h9) rfl dX12_back_8 ?_
  refine lv_iconst (v := 3) hx hb dX12_back_11 (by decide +kernel) ?_
  refine lv_aload_n hx hb dX12_back_12 rfl (lv_at hl 1 rfl) ?_
  refine va_get (D := (dC, dI)) (ci := 12) (v := .int 0) (C := RX12) (T := TX12) (N := 85) hx hb hts hiX12 hown hK hP 0 rfl rfl 12 (by decide) (hts _ (List.mem_of_getElem? (i := 2) rfl)) (fun _ h9 => h9) rfl dX12_back_13 ?_
  refine lv_imul hx hb dX12_back_16 ?_
  refine tp_i (y := 0) (by decide +kernel) ?_
  refine lv_iload_n hx hb dX12_back_17 rfl (lv_at hl 0 rfl) ?_
  refine lv_iadd hx hb dX12_back_18 ?_
  refine tp_i (y := 2) (by decide +kernel) ?_
  refine lv_aload_n hx hb dX12_back_19 rfl (lv_at hl 1 rfl) ?_
  refine va_get (D := (dC, dI)) (ci := 12) (v := .ref (q 44)) (C := RX12) (T := TX12) (N := 85) hx hb hts hiX12 hown hK hP 0 rfl rfl 61 (by decide) (hts _ (List.mem_of_getElem? (i := 3) rfl)) (fun _ h9 => h9) rfl dX12_back_20 ?_
  refine lv_iload_n hx hb dX12_back_23 rfl (lv_at hl 0 rfl) ?_
  refine va_iald hx hb hK hP 1 1 rfl rfl (vpc _ _ (by decide +kernel)) dX12_back_24 ?_
  refine tp_i (y := 0) rfl ?_
  refine va_iast hx hb hK hP hD hS 2 1 rfl rfl (vpc _ _ (by decide +kernel)) dX12_back_25 (fun H locs hP hD hS => ?_)
  have hP : va_P (dC, dI) vwCl [((q 0), .inr (12, (mo q))), ((q 44), .inl (cI, 3, .inl (upd (upd (upd (fun _ => 0) 0 0) 1 0) 2 0))), ((q 18), .inl (cI, 6, .inl (upd (upd (upd f0 0 0) 1 0) 2 0))), ((q 45), .inl (cI, 4, .inl (upd (upd (upd (upd (fun _ => 0) 0 0) 1 0) 2 0) 3 0))), ((q 14), .inl (cI, 8, .inl f1)), ((q 46), .inl (cI, 40, .inl (upd (upd (upd (upd (upd (upd (upd (upd (upd (upd (upd (upd (upd (upd (upd (upd (upd (upd (upd (upd (upd (upd (upd (upd (upd (upd (upd (upd (upd (upd (upd (upd (upd (upd (upd (upd (upd (upd (upd (upd (fun _ => 0) 0 0) 1 0) 2 0) 3 0) 4 0) 5 0) 6 0) 7 0) 8 0) 9 0) 10 0) 11 0) 12 0) 13 0) 14 0) 15 0) 16 0) 17 0) 18 0) 19 0) 20 0) 21 0) 22 0) 23 0) 24 0) 25 0) 26 0) 27 0) 28 0) 29 0) 30 0) 31 0) 32 0) 33 0) 34 0) 35 0) 36 0) 37 0) 38 0) 39 0))), ((q 15), .inl (cI, 80, .inl f2))] H := hP
  have hD : va_D A [((q 0), .inr (12, (mo q))), ((q 44), .inl (cI, 3, .inl (upd (upd (upd (fun _ => 0) 0 0) 1 0) 2 0))), ((q 18), .inl (cI, 6, .inl (upd (upd (upd f0 0 0) 1 0) 2 0))), ((q 45), .inl (cI, 4, .inl (upd (upd (upd (upd (fun _ => 0) 0 0) 1 0) 2 0) 3 0))), ((q 14), .inl (cI, 8, .inl f1)), ((q 46), .inl (cI, 40, .inl (upd (upd (upd (upd (upd (upd (upd (upd (upd (upd (upd (upd (upd (upd (upd (upd (upd (upd (upd (upd (upd (upd (upd (upd (upd (upd (upd (upd (upd (upd (upd (upd (upd (upd (upd (upd (upd (upd (upd (upd (fun _ => 0) 0 0) 1 0) 2 0) 3 0) 4 0) 5 0) 6 0) 7 0) 8 0) 9 0) 10 0) 11 0) 12 0) 13 0) 14 0) 15 0) 16 0) 17 0) 18 0) 19 0) 20 0) 21 0) 22 0) 23 0) 24 0) 25 0) 26 0) 27 0) 28 0) 29 0) 30 0) 31 0) 32 0) 33 0) 34 0) 35 0) 36 0) 37 0) 38 0) 39 0))), ((q 15), .inl (cI, 80, .inl f2))] := hD
  refine lv_iinc (v := 3) (lv' := [(1, .int 3), (0, .ref (q 0))]) hx hb dX12_back_26 hl (k := 0) rfl (by decide +kernel) (by decide) rfl (fun ls hl => ?_)
  refine lv_goto (tgt := 2) hx hb dX12_back_29 (by decide) ?_
  refine lv_iload_n hx hb dX12_back_2 rfl (lv_at hl 0 rfl) ?_
  refine lv_iconst (v := 3) hx hb dX12_back_3 (by decide +kernel) ?_
  refine lv_icmp_ge (tgt := 32) hx hb dX12_back_4 (by decide) (fun _ => ?_) (fun c => absurd c (by decide +kernel))
  refine lv_iconst (v := 0) hx hb dX12_back_32 (by decide +kernel) ?_
  refine lv_istore_n (lv' := [(1, .int 0), (0, .ref (q 0))]) hx hb dX12_back_33 rfl hl (by decide) rfl (fun ls hl => ?_)
  refine lv_iload_n hx hb dX12_back_34 rfl (lv_at hl 0 rfl) ?_
  refine lv_iconst (v := 4) hx hb dX12_back_35 (by decide +kernel) ?_
  refine lv_icmp_ge (tgt := 61) hx hb dX12_back_36 (by decide) (fun c => absurd c (by decide +kernel)) (fun _ => ?_)
  refine lv_aload_n hx hb dX12_back_39 rfl (lv_at hl 1 rfl) ?_
  refine va_get (D := (dC, dI)) (ci := 12) (v := .ref (q 14)) (C := RX12) (T := TX12) (N := 85) hx hb hts hiX12 hown hK hP 0 rfl rfl 25 (by decide) (hts _ (List.mem_of_getElem? (i := 4) rfl)) (fun _ h9 => h9) rfl dX12_back_40 ?_
  refine lv_aload_n hx hb dX12_back_43 rfl (lv_at hl 1 rfl) ?_
  refine lv_iload_n hx hb dX12_back_44 rfl (lv_at hl 0 rfl) ?_
  have hPc := hP.sub (ws' := [((q 0), .inr (12, (mo q)))]) [0] rfl
  have hDc := hD.sub (ws' := [((q 0), .inr (12, (mo q)))]) [0] (by decide) rfl
  have hFc := va_free (wc := [((q 0), .inr (12, (mo q)))]) hD hS hA [0] rfl
  refine va_calli (va_runV (As := [.int 0]) (rest := [.ref (q 14)]) ⟨hx, hb, hml, hown, hts⟩ (k_X12_key4_118 l dC dI cB cI cJ cZ cQ H.size q) (cwV 1 hts g_k_X12_back_123_0 rfl rfl rfl (by decide +kernel) ⟨Nat.le_of_ble_eq_true rfl, Nat.le_of_ble_eq_true rfl⟩) ⟨fun a U g mk Z => by obtain ⟨q0, q1, qP, qK, qD⟩ := Z; exact ⟨q0, q1, qP, va_K.moved (u := U) (U := U.calling g mk a) (Vm.Alike.refl U.vm) qK, qD⟩, va_recv hK hPc (ci := 12) (q0 := 0) rfl rfl, fun U hU hW => ⟨rfl, by rw [hU], by rw [hU]; exact hPc, va_K.moved hW.alike hK, hDc.weaken (fun _ _ _ _ => trivial)⟩⟩ rfl rfl hl.1 rfl (lv_room (Nat.le_of_ble_eq_true rfl)) dX12_back_45 ⟨Nat.le_of_ble_eq_true rfl, Nat.le_of_ble_eq_true rfl⟩) hS (fun b _ h => hFc b h) hFc (fun r2 u1 t H1 locs ht hvm hw hB hz1 hk1 hS => ?_)
  obtain ⟨hP1, hK1, hD1⟩ := hB
  rw [ht] at hP1
  obtain ⟨hP, hD⟩ := va_join (wr := [((q 44), .inl (cI, 3, .inl (upd (upd (upd (fun _ => 0) 0 0) 1 0) 2 0))), ((q 18), .inl (cI, 6, .inl (upd (upd (upd f0 0 0) 1 0) 2 0))), ((q 45), .inl (cI, 4, .inl (upd (upd (upd (upd (fun _ => 0) 0 0) 1 0) 2 0) 3 0))), ((q 14), .inl (cI, 8, .inl f1)), ((q 46), .inl (cI, 40, .inl (upd (upd (upd (upd (upd (upd (upd (upd (upd (upd (upd (upd (upd (upd (upd (upd (upd (upd (upd (upd (upd (upd (upd (upd (upd (upd (upd (upd (upd (upd (upd (upd (upd (upd (upd (upd (upd (upd (upd (upd (fun _ => 0) 0 0) 1 0) 2 0) 3 0) 4 0) 5 0) 6 0) 7 0) 8 0) 9 0) 10 0) 11 0) 12 0) 13 0) 14 0) 15 0) 16 0) 17 0) 18 0) 19 0) 20 0) 21 0) 22 0) 23 0) 24 0) 25 0) 26 0) 27 0) 28 0) 29 0) 30 0) 31 0) 32 0) 33 0) 34 0) 35 0) 36 0) 37 0) 38 0) 39 0))), ((q 15), .inl (cI, 80, .inl f2))]) (w1 := [((q 0), .inr (12, (mo q)))]) hP hD [0] [1, 2, 3, 4, 5, 6] rfl rfl (by decide) (by decide) hk1 hFc hP1 hD1
  clear hP1 hK1 hD1 hk1 hz1 hvm hPc hDc hFc
  generalize H1 = H at hP hS ⊢
  have hP : va_P (dC, dI) vwCl [((q 44), .inl (cI, 3, .inl (upd (upd (upd (fun _ => 0) 0 0) 1 0) 2 0))), ((q 18), .inl (cI, 6, .inl (upd (upd (upd f0 0 0) 1 0) 2 0))), ((q 45), .inl (cI, 4, .inl (upd (upd (upd (upd (fun _ => 0) 0 0) 1 0) 2 0) 3 0))), ((q 14), .inl (cI, 8, .inl f1)), ((q 46), .inl (cI, 40, .inl (upd (upd (upd (upd (upd (upd (upd (upd (upd (upd (upd (upd (upd (upd (upd (upd (upd (upd (upd (upd (upd (upd (upd (upd (upd (upd (upd (upd (upd (upd (upd (upd (upd (upd (upd (upd (upd (upd (upd (upd (fun _ => 0) 0 0) 1 0) 2 0) 3 0) 4 0) 5 0) 6 0) 7 0) 8 0) 9 0) 10 0) 11 0) 12 0) 13 0) 14 0) 15 0) 16 0) 17 0) 18 0) 19 0) 20 0) 21 0) 22 0) 23 0) 24 0) 25 0) 26 0) 27 0) 28 0) 29 0) 30 0) 31 0) 32 0) 33 0) 34 0) 35 0) 36 0) 37 0) 38 0) 39 0))), ((q 15), .inl (cI, 80, .inl f2)), ((q 0), .inr (12, (mo q)))] H := hP
  have hD : va_D A [((q 44), .inl (cI, 3, .inl (upd (upd (upd (fun _ => 0) 0 0) 1 0) 2 0))), ((q 18), .inl (cI, 6, .inl (upd (upd (upd f0 0 0) 1 0) 2 0))), ((q 45), .inl (cI, 4, .inl (upd (upd (upd (upd (fun _ => 0) 0 0) 1 0) 2 0) 3 0))), ((q 14), .inl (cI, 8, .inl f1)), ((q 46), .inl (cI, 40, .inl (upd (upd (upd (upd (upd (upd (upd (upd (upd (upd (upd (upd (upd (upd (upd (upd (upd (upd (upd (upd (upd (upd (upd (upd (upd (upd (upd (upd (upd (upd (upd (upd (upd (upd (upd (upd (upd (upd (upd (upd (fun _ => 0) 0 0) 1 0) 2 0) 3 0) 4 0) 5 0) 6 0) 7 0) 8 0) 9 0) 10 0) 11 0) 12 0) 13 0) 14 0) 15 0) 16 0) 17 0) 18 0) 19 0) 20 0) 21 0) 22 0) 23 0) 24 0) 25 0) 26 0) 27 0) 28 0) 29 0) 30 0) 31 0) 32 0) 33 0) 34 0) 35 0) 36 0) 37 0) 38 0) 39 0))), ((q 15), .inl (cI, 80, .inl f2)), ((q 0), .inr (12, (mo q)))] := hD
  subst hw
  refine lv_aload_n hx hb dX12_back_48 rfl (lv_at hl 1 rfl) ?_
  refine va_get (D := (dC, dI)) (ci := 12) (v := .ref (q 45)) (C := RX12) (T := TX12) (N := 85) hx hb hts hiX12 hown hK hP 6 rfl rfl 62 (by decide) (hts _ (List.mem_of_getElem? (i := 10) rfl)) (fun _ h9 => h9) rfl dX12_back_49 ?_
  refine lv_iload_n hx hb dX12_back_52 rfl (lv_at hl 0 rfl) ?_
  refine va_iald hx hb hK hP 2 1 rfl rfl (vpc _ _ (by decide +kernel)) dX12_back_53 ?_
  refine tp_i (y := 0) rfl ?_
  refine va_iast hx hb hK hP hD hS 3 1 rfl rfl (vpc _ _ (by decide +kernel)) dX12_back_54 (fun H locs hP hD hS => ?_)
  have hP : va_P (dC, dI) vwCl [((q 44), .inl (cI, 3, .inl (upd (upd (upd (fun _ => 0) 0 0) 1 0) 2 0))), ((q 18), .inl (cI, 6, .inl (upd (upd (upd f0 0 0) 1 0) 2 0))), ((q 45), .inl (cI, 4, .inl (upd (upd (upd (upd (fun _ => 0) 0 0) 1 0) 2 0) 3 0))), ((q 14), .inl (cI, 8, .inl (upd f1 0 0))), ((q 46), .inl (cI, 40, .inl (upd (upd (upd (upd (upd (upd (upd (upd (upd (upd (upd (upd (upd (upd (upd (upd (upd (upd (upd (upd (upd (upd (upd (upd (upd (upd (upd (upd (upd (upd (upd (upd (upd (upd (upd (upd (upd (upd (upd (upd (fun _ => 0) 0 0) 1 0) 2 0) 3 0) 4 0) 5 0) 6 0) 7 0) 8 0) 9 0) 10 0) 11 0) 12 0) 13 0) 14 0) 15 0) 16 0) 17 0) 18 0) 19 0) 20 0) 21 0) 22 0) 23 0) 24 0) 25 0) 26 0) 27 0) 28 0) 29 0) 30 0) 31 0) 32 0) 33 0) 34 0) 35 0) 36 0) 37 0) 38 0) 39 0))), ((q 15), .inl (cI, 80, .inl f2)), ((q 0), .inr (12, (mo q)))] H := hP
  have hD : va_D A [((q 44), .inl (cI, 3, .inl (upd (upd (upd (fun _ => 0) 0 0) 1 0) 2 0))), ((q 18), .inl (cI, 6, .inl (upd (upd (upd f0 0 0) 1 0) 2 0))), ((q 45), .inl (cI, 4, .inl (upd (upd (upd (upd (fun _ => 0) 0 0) 1 0) 2 0) 3 0))), ((q 14), .inl (cI, 8, .inl (upd f1 0 0))), ((q 46), .inl (cI, 40, .inl (upd (upd (upd (upd (upd (upd (upd (upd (upd (upd (upd (upd (upd (upd (upd (upd (upd (upd (upd (upd (upd (upd (upd (upd (upd (upd (upd (upd (upd (upd (upd (upd (upd (upd (upd (upd (upd (upd (upd (upd (fun _ => 0) 0 0) 1 0) 2 0) 3 0) 4 0) 5 0) 6 0) 7 0) 8 0) 9 0) 10 0) 11 0) 12 0) 13 0) 14 0) 15 0) 16 0) 17 0) 18 0) 19 0) 20 0) 21 0) 22 0) 23 0) 24 0) 25 0) 26 0) 27 0) 28 0) 29 0) 30 0) 31 0) 32 0) 33 0) 34 0) 35 0) 36 0) 37 0) 38 0) 39 0))), ((q 15), .inl (cI, 80, .inl f2)), ((q 0), .inr (12, (mo q)))] := hD
  refine lv_iinc (v := 1) (lv' := [(1, .int 1), (0, .ref (q 0))]) hx hb dX12_back_55 hl (k := 0) rfl (by decide +kernel) (by decide) rfl (fun ls hl => ?_)
  refine lv_goto (tgt := 34) hx hb dX12_back_58 (by decide) ?_
  refine lv_iload_n hx hb dX12_back_34 rfl (lv_at hl 0 rfl) ?_
  refine lv_iconst (v := 4) hx hb dX12_back_35 (by decide +kernel) ?_
  refine lv_icmp_ge (tgt := 61) hx hb dX12_back_36 (by decide) (fun c => absurd c (by decide +kernel)) (fun _ => ?_)
  refine lv_aload_n hx hb dX12_back_39 rfl (lv_at hl 1 rfl) ?_
  refine va_get (D := (dC, dI)) (ci := 12) (v := .ref (q 14)) (C := RX12) (T := TX12) (N := 85) hx hb hts hiX12 hown hK hP 6 rfl rfl 25 (by decide) (hts _ (List.mem_of_getElem? (i := 4) rfl)) (fun _ h9 => h9) rfl dX12_back_40 ?_
  refine lv_aload_n hx hb dX12_back_43 rfl (lv_at hl 1 rfl) ?_
  refine lv_iload_n hx hb dX12_back_44 rfl (lv_at hl 0 rfl) ?_
  have hPc := hP.sub (ws' := [((q 0), .inr (12, (mo q)))]) [6] rfl
  have hDc := hD.sub (ws' := [((q 0), .inr (12, (mo q)))]) [6] (by decide) rfl
  have hFc := va_free (wc := [((q 0), .inr (12, (mo q)))]) hD hS hA [6] rfl
  refine va_calli (va_runV (As := [.int 1]) (rest := [.ref (q 14)]) ⟨hx, hb, hml, hown, hts⟩ (k_X12_key4_119 l dC dI cB cI cJ cZ cQ H.size q) (cwV 1 hts g_k_X12_back_123_1 rfl rfl rfl (by decide +kernel) ⟨Nat.le_of_ble_eq_true rfl, Nat.le_of_ble_eq_true rfl⟩) ⟨fun a U g mk Z => by obtain ⟨q0, q1, qP, qK, qD⟩ := Z; exact ⟨q0, q1, qP, va_K.moved (u := U) (U := U.calling g mk a) (Vm.Alike.refl U.vm) qK, qD⟩, va_recv hK hPc (ci := 12) (q0 := 0) rfl rfl, fun U hU hW => ⟨rfl, by rw [hU], by rw [hU]; exact hPc, va_K.moved hW.alike hK, hDc.weaken (fun _ _ _ _ => trivial)⟩⟩ rfl rfl hl.1 rfl (lv_room (Nat.le_of_ble_eq_true rfl)) dX12_back_45 ⟨Nat.le_of_ble_eq_true rfl, Nat.le_of_ble_eq_true rfl⟩) hS (fun b _ h => hFc b h) hFc (fun r4 u3 t H1 locs ht hvm hw hB hz1 hk1 hS => ?_)
  obtain ⟨hP1, hK1, hD1⟩ := hB
  rw [ht] at hP1
  obtain ⟨hP, hD⟩ := va_join (wr := [((q 44), .inl (cI, 3, .inl (upd (upd (upd (fun _ => 0) 0 0) 1 0) 2 0))), ((q 18), .inl (cI, 6, .inl (upd (upd (upd f0 0 0) 1 0) 2 0))), ((q 45), .inl (cI, 4, .inl (upd (upd (upd (upd (fun _ => 0) 0 0) 1 0) 2 0) 3 0))), ((q 14), .inl (cI, 8, .inl (upd f1 0 0))), ((q 46), .inl (cI, 40, .inl (upd (upd (upd (upd (upd (upd (upd (upd (upd (upd (upd (upd (upd (upd (upd (upd (upd (upd (upd (upd (upd (upd (upd (upd (upd (upd (upd (upd (upd (upd (upd (upd (upd (upd (upd (upd (upd (upd (upd (upd (fun _ => 0) 0 0) 1 0) 2 0) 3 0) 4 0) 5 0) 6 0) 7 0) 8 0) 9 0) 10 0) 11 0) 12 0) 13 0) 14 0) 15 0) 16 0) 17 0) 18 0) 19 0) 20 0) 21 0) 22 0) 23 0) 24 0) 25 0) 26 0) 27 0) 28 0) 29 0) 30 0) 31 0) 32 0) 33 0) 34 0) 35 0) 36 0) 37 0) 38 0) 39 0))), ((q 15), .inl (cI, 80, .inl f2))]) (w1 := [((q 0), .inr (12, (mo q)))]) hP hD [6] [0, 1, 2, 3, 4, 5] rfl rfl (by decide) (by decide) hk1 hFc hP1 hD1
  clear hP1 hK1 hD1 hk1 hz1 hvm hPc hDc hFc
  generalize H1 = H at hP hS ⊢
  have hP : va_P (dC, dI) vwCl [((q 44), .inl (cI, 3, .inl (upd (upd (upd (fun _ => 0) 0 0) 1 0) 2 0))), ((q 18), .inl (cI, 6, .inl (upd (upd (upd f0 0 0) 1 0) 2 0))), ((q 45), .inl (cI, 4, .inl (upd (upd (upd (upd (fun _ => 0) 0 0) 1 0) 2 0) 3 0))), ((q 14), .inl (cI, 8, .inl (upd f1 0 0))), ((q 46), .inl (cI, 40, .inl (upd (upd (upd (upd (upd (upd (upd (upd (upd (upd (upd (upd (upd (upd (upd (upd (upd (upd (upd (upd (upd (upd (upd (upd (upd (upd (upd (upd (upd (upd (upd (upd (upd (upd (upd (upd (upd (upd (upd (upd (fun _ => 0) 0 0) 1 0) 2 0) 3 0) 4 0) 5 0) 6 0) 7 0) 8 0) 9 0) 10 0) 11 0) 12 0) 13 0) 14 0) 15 0) 16 0) 17 0) 18 0) 19 0) 20 0) 21 0) 22 0) 23 0) 24 0) 25 0) 26 0) 27 0) 28 0) 29 0) 30 0) 31 0) 32 0) 33 0) 34 0) 35 0) 36 0) 37 0) 38 0) 39 0))), ((q 15), .inl (cI, 80, .inl f2)), ((q 0), .inr (12, (mo q)))] H := hP
  have hD : va_D A [((q 44), .inl (cI, 3, .inl (upd (upd (upd (fun _ => 0) 0 0) 1 0) 2 0))), ((q 18), .inl (cI, 6, .inl (upd (upd (upd f0 0 0) 1 0) 2 0))), ((q 45), .inl (cI, 4, .inl (upd (upd (upd (upd (fun _ => 0) 0 0) 1 0) 2 0) 3 0))), ((q 14), .inl (cI, 8, .inl (upd f1 0 0))), ((q 46), .inl (cI, 40, .inl (upd (upd (upd (upd (upd (upd (upd (upd (upd (upd (upd (upd (upd (upd (upd (upd (upd (upd (upd (upd (upd (upd (upd (upd (upd (upd (upd (upd (upd (upd (upd (upd (upd (upd (upd (upd (upd (upd (upd (upd (fun _ => 0) 0 0) 1 0) 2 0) 3 0) 4 0) 5 0) 6 0) 7 0) 8 0) 9 0) 10 0) 11 0) 12 0) 13 0) 14 0) 15 0) 16 0) 17 0) 18 0) 19 0) 20 0) 21 0) 22 0) 23 0) 24 0) 25 0) 26 0) 27 0) 28 0) 29 0) 30 0) 31 0) 32 0) 33 0) 34 0) 35 0) 36 0) 37 0) 38 0) 39 0))), ((q 15), .inl (cI, 80, .inl f2)), ((q 0), .inr (12, (mo q)))] := hD
  subst hw
  refine lv_aload_n hx hb dX12_back_48 rfl (lv_at hl 1 rfl) ?_
  refine va_get (D := (dC, dI)) (ci := 12) (v := .ref (q 45)) (C := RX12) (T := TX12) (N := 85) hx hb hts hiX12 hown hK hP 6 rfl rfl 62 (by decide) (hts _ (List.mem_of_getElem? (i := 10) rfl)) (fun _ h9 => h9) rfl dX12_back_49 ?_
  refine lv_iload_n hx hb dX12_back_52 rfl (lv_at hl 0 rfl) ?_
  refine va_iald hx hb hK hP 2 1 rfl rfl (vpc _ _ (by decide +kernel)) dX12_back_53 ?_
  refine tp_i (y := 0) rfl ?_
  refine va_iast hx hb hK hP hD hS 3 1 rfl rfl (vpc _ _ (by decide +kernel)) dX12_back_54 (fun H locs hP hD hS => ?_)
  have hP : va_P (dC, dI) vwCl [((q 44), .inl (cI, 3, .inl (upd (upd (upd (fun _ => 0) 0 0) 1 0) 2 0))), ((q 18), .inl (cI, 6, .inl (upd (upd (upd f0 0 0) 1 0) 2 0))), ((q 45), .inl (cI, 4, .inl (upd (upd (upd (upd (fun _ => 0) 0 0) 1 0) 2 0) 3 0))), ((q 14), .inl (cI, 8, .inl (upd (upd f1 0 0) 1 0))), ((q 46), .inl (cI, 40, .inl (upd (upd (upd (upd (upd (upd (upd (upd (upd (upd (upd (upd (upd (upd (upd (upd (upd (upd (upd (upd (upd (upd (upd (upd (upd (upd (upd (upd (upd (upd (upd (upd (upd (upd (upd (upd (upd (upd (upd (upd (fun _ => 0) 0 0) 1 0) 2 0) 3 0) 4 0) 5 0) 6 0) 7 0) 8 0) 9 0) 10 0) 11 0) 12 0) 13 0) 14 0) 15 0) 16 0) 17 0) 18 0) 19 0) 20 0) 21 0) 22 0) 23 0) 24 0) 25 0) 26 0) 27 0) 28 0) 29 0) 30 0) 31 0) 32 0) 33 0) 34 0) 35 0) 36 0) 37 0) 38 0) 39 0))), ((q 15), .inl (cI, 80, .inl f2)), ((q 0), .inr (12, (mo q)))] H := hP
  have hD : va_D A [((q 44), .inl (cI, 3, .inl (upd (upd (upd (fun _ => 0) 0 0) 1 0) 2 0))), ((q 18), .inl (cI, 6, .inl (upd (upd (upd f0 0 0) 1 0) 2 0))), ((q 45), .inl (cI, 4, .inl (upd (upd (upd (upd (fun _ => 0) 0 0) 1 0) 2 0) 3 0))), ((q 14), .inl (cI, 8, .inl (upd (upd f1 0 0) 1 0))), ((q 46), .inl (cI, 40, .inl (upd (upd (upd (upd (upd (upd (upd (upd (upd (upd (upd (upd (upd (upd (upd (upd (upd (upd (upd (upd (upd (upd (upd (upd (upd (upd (upd (upd (upd (upd (upd (upd (upd (upd (upd (upd (upd (upd (upd (upd (fun _ => 0) 0 0) 1 0) 2 0) 3 0) 4 0) 5 0) 6 0) 7 0) 8 0) 9 0) 10 0) 11 0) 12 0) 13 0) 14 0) 15 0) 16 0) 17 0) 18 0) 19 0) 20 0) 21 0) 22 0) 23 0) 24 0) 25 0) 26 0) 27 0) 28 0) 29 0) 30 0) 31 0) 32 0) 33 0) 34 0) 35 0) 36 0) 37 0) 38 0) 39 0))), ((q 15), .inl (cI, 80, .inl f2)), ((q 0), .inr (12, (mo q)))] := hD
  refine lv_iinc (v := 2) (lv' := [(1, .int 2), (0, .ref (q 0))]) hx hb dX12_back_55 hl (k := 0) rfl (by decide +kernel) (by decide) rfl (fun ls hl => ?_)
  refine lv_goto (tgt := 34) hx hb dX12_back_58 (by decide) ?_
  refine lv_iload_n hx hb dX12_back_34 rfl (lv_at hl 0 rfl) ?_
  refine lv_iconst (v := 4) hx hb dX12_back_35 (by decide +kernel) ?_
  refine lv_icmp_ge (tgt := 61) hx hb dX12_back_36 (by decide) (fun c => absurd c (by decide +kernel)) (fun _ => ?_)
  refine lv_aload_n hx hb dX12_back_39 rfl (lv_at hl 1 rfl) ?_
  refine va_get (D := (dC, dI)) (ci := 12) (v := .ref (q 14)) (C := RX12) (T := TX12) (N := 85) hx hb hts hiX12 hown hK hP 6 rfl rfl 25 (by decide) (hts _ (List.mem_of_getElem? (i := 4) rfl)) (fun _ h9 => h9) rfl dX12_back_40 ?_
  refine lv_aload_n hx hb dX12_back_43 rfl (lv_at hl 1 rfl) ?_
  refine lv_iload_n hx hb dX12_back_44 rfl (lv_at hl 0 rfl) ?_
  have hPc := hP.sub (ws' := [((q 0), .inr (12, (mo q)))]) [6] rfl
  have hDc := hD.sub (ws' := [((q 0), .inr (12, (mo q)))]) [6] (by decide) rfl
  have hFc := va_free (wc := [((q 0), .inr (12, (mo q)))]) hD hS hA [6] rfl
  refine va_calli (va_runV (As := [.int 2]) (rest := [.ref (q 14)]) ⟨hx, hb, hml, hown, hts⟩ (k_X12_key4_120 l dC dI cB cI cJ cZ cQ H.size q) (cwV 1 hts g_k_X12_back_123_2 rfl rfl rfl (by decide +kernel) ⟨Nat.le_of_ble_eq_true rfl, Nat.le_of_ble_eq_true rfl⟩) ⟨fun a U g mk Z => by obtain ⟨q0, q1, qP, qK, qD⟩ := Z; exact ⟨q0, q1, qP, va_K.moved (u := U) (U := U.calling g mk a) (Vm.Alike.refl U.vm) qK, qD⟩, va_recv hK hPc (ci := 12) (q0 := 0) rfl rfl, fun U hU hW => ⟨rfl, by rw [hU], by rw [hU]; exact hPc, va_K.moved hW.alike hK, hDc.weaken (fun _ _ _ _ => trivial)⟩⟩ rfl rfl hl.1 rfl (lv_room (Nat.le_of_ble_eq_true rfl)) dX12_back_45 ⟨Nat.le_of_ble_eq_true rfl, Nat.le_of_ble_eq_true rfl⟩) hS (fun b _ h => hFc b h) hFc (fun r6 u5 t H1 locs ht hvm hw hB hz1 hk1 hS => ?_)
  obtain ⟨hP1, hK1, hD1⟩ := hB
  rw [ht] at hP1
  obtain ⟨hP, hD⟩ := va_join (wr := [((q 44), .inl (cI, 3, .inl (upd (upd (upd (fun _ => 0) 0 0) 1 0) 2 0))), ((q 18), .inl (cI, 6, .inl (upd (upd (upd f0 0 0) 1 0) 2 0))), ((q 45), .inl (cI, 4, .inl (upd (upd (upd (upd (fun _ => 0) 0 0) 1 0) 2 0) 3 0))), ((q 14), .inl (cI, 8, .inl (upd (upd f1 0 0) 1 0))), ((q 46), .inl (cI, 40, .inl (upd (upd (upd (upd (upd (upd (upd (upd (upd (upd (upd (upd (upd (upd (upd (upd (upd (upd (upd (upd (upd (upd (upd (upd (upd (upd (upd (upd (upd (upd (upd (upd (upd (upd (upd (upd (upd (upd (upd (upd (fun _ => 0) 0 0) 1 0) 2 0) 3 0) 4 0) 5 0) 6 0) 7 0) 8 0) 9 0) 10 0) 11 0) 12 0) 13 0) 14 0) 15 0) 16 0) 17 0) 18 0) 19 0) 20 0) 21 0) 22 0) 23 0) 24 0) 25 0) 26 0) 27 0) 28 0) 29 0) 30 0) 31 0) 32 0) 33 0) 34 0) 35 0) 36 0) 37 0) 38 0) 39 0))), ((q 15), .inl (cI, 80, .inl f2))]) (w1 := [((q 0), .inr (12, (mo q)))]) hP hD [6] [0, 1, 2, 3, 4, 5] rfl rfl (by decide) (by decide) hk1 hFc hP1 hD1
  clear hP1 hK1 hD1 hk1 hz1 hvm hPc hDc hFc
  generalize H1 = H at hP hS ⊢
  have hP : va_P (dC, dI) vwCl [((q 44), .inl (cI, 3, .inl (upd (upd (upd (fun _ => 0) 0 0) 1 0) 2 0))), ((q 18), .inl (cI, 6, .inl (upd (upd (upd f0 0 0) 1 0) 2 0))), ((q 45), .inl (cI, 4, .inl (upd (upd (upd (upd (fun _ => 0) 0 0) 1 0) 2 0) 3 0))), ((q 14), .inl (cI, 8, .inl (upd (upd f1 0 0) 1 0))), ((q 46), .inl (cI, 40, .inl (upd (upd (upd (upd (upd (upd (upd (upd (upd (upd (upd (upd (upd (upd (upd (upd (upd (upd (upd (upd (upd (upd (upd (upd (upd (upd (upd (upd (upd (upd (upd (upd (upd (upd (upd (upd (upd (upd (upd (upd (fun _ => 0) 0 0) 1 0) 2 0) 3 0) 4 0) 5 0) 6 0) 7 0) 8 0) 9 0) 10 0) 11 0) 12 0) 13 0) 14 0) 15 0) 16 0) 17 0) 18 0) 19 0) 20 0) 21 0) 22 0) 23 0) 24 0) 25 0) 26 0) 27 0) 28 0) 29 0) 30 0) 31 0) 32 0) 33 0) 34 0) 35 0) 36 0) 37 0) 38 0) 39 0))), ((q 15), .inl (cI, 80, .inl f2)), ((q 0), .inr (12, (mo q)))] H := hP
  have hD : va_D A [((q 44), .inl (cI, 3, .inl (upd (upd (upd (fun _ => 0) 0 0) 1 0) 2 0))), ((q 18), .inl (cI, 6, .inl (upd (upd (upd f0 0 0) 1 0) 2 0))), ((q 45), .inl (cI, 4, .inl (upd (upd (upd (upd (fun _ => 0) 0 0) 1 0) 2 0) 3 0))), ((q 14), .inl (cI, 8, .inl (upd (upd f1 0 0) 1 0))), ((q 46), .inl (cI, 40, .inl (upd (upd (upd (upd (upd (upd (upd (upd (upd (upd (upd (upd (upd (upd (upd (upd (upd (upd (upd (upd (upd (upd (upd (upd (upd (upd (upd (upd (upd (upd (upd (upd (upd (upd (upd (upd (upd (upd (upd (upd (fun _ => 0) 0 0) 1 0) 2 0) 3 0) 4 0) 5 0) 6 0) 7 0) 8 0) 9 0) 10 0) 11 0) 12 0) 13 0) 14 0) 15 0) 16 0) 17 0) 18 0) 19 0) 20 0) 21 0) 22 0) 23 0) 24 0) 25 0) 26 0) 27 0) 28 0) 29 0) 30 0) 31 0) 32 0) 33 0) 34 0) 35 0) 36 0) 37 0) 38 0) 39 0))), ((q 15), .inl (cI, 80, .inl f2)), ((q 0), .inr (12, (mo q)))] := hD
  subst hw
  refine lv_aload_n hx hb dX12_back_48 rfl (lv_at hl 1 rfl) ?_
  refine va_get (D := (dC, dI)) (ci := 12) (v := .ref (q 45)) (C := RX12) (T := TX12) (N := 85) hx hb hts hiX12 hown hK hP 6 rfl rfl 62 (by decide) (hts _ (List.mem_of_getElem? (i := 10) rfl)) (fun _ h9 => h9) rfl dX12_back_49 ?_
  refine lv_iload_n hx hb dX12_back_52 rfl (lv_at hl 0 rfl) ?_
  refine va_iald hx hb hK hP 2 1 rfl rfl (vpc _ _ (by decide +kernel)) dX12_back_53 ?_
  refine tp_i (y := 0) rfl ?_
  refine va_iast hx hb hK hP hD hS 3 1 rfl rfl (vpc _ _ (by decide +kernel)) dX12_back_54 (fun H locs hP hD hS => ?_)
  have hP : va_P (dC, dI) vwCl [((q 44), .inl (cI, 3, .inl (upd (upd (upd (fun _ => 0) 0 0) 1 0) 2 0))), ((q 18), .inl (cI, 6, .inl (upd (upd (upd f0 0 0) 1 0) 2 0))), ((q 45), .inl (cI, 4, .inl (upd (upd (upd (upd (fun _ => 0) 0 0) 1 0) 2 0) 3 0))), ((q 14), .inl (cI, 8, .inl (upd (upd (upd f1 0 0) 1 0) 2 0))), ((q 46), .inl (cI, 40, .inl (upd (upd (upd (upd (upd (upd (upd (upd (upd (upd (upd (upd (upd (upd (upd (upd (upd (upd (upd (upd (upd (upd (upd (upd (upd (upd (upd (upd (upd (upd (upd (upd (upd (upd (upd (upd (upd (upd (upd (upd (fun _ => 0) 0 0) 1 0) 2 0) 3 0) 4 0) 5 0) 6 0) 7 0) 8 0) 9 0) 10 0) 11 0) 12 0) 13 0) 14 0) 15 0) 16 0) 17 0) 18 0) 19 0) 20 0) 21 0) 22 0) 23 0) 24 0) 25 0) 26 0) 27 0) 28 0) 29 0) 30 0) 31 0) 32 0) 33 0) 34 0) 35 0) 36 0) 37 0) 38 0) 39 0))), ((q 15), .inl (cI, 80, .inl f2)), ((q 0), .inr (12, (mo q)))] H := hP
  have hD : va_D A [((q 44), .inl (cI, 3, .inl (upd (upd (upd (fun _ => 0) 0 0) 1 0) 2 0))), ((q 18), .inl (cI, 6, .inl (upd (upd (upd f0 0 0) 1 0) 2 0))), ((q 45), .inl (cI, 4, .inl (upd (upd (upd (upd (fun _ => 0) 0 0) 1 0) 2 0) 3 0))), ((q 14), .inl (cI, 8, .inl (upd (upd (upd f1 0 0) 1 0) 2 0))), ((q 46), .inl (cI, 40, .inl (upd (upd (upd (upd (upd (upd (upd (upd (upd (upd (upd (upd (upd (upd (upd (upd (upd (upd (upd (upd (upd (upd (upd (upd (upd (upd (upd (upd (upd (upd (upd (upd (upd (upd (upd (upd (upd (upd (upd (upd (fun _ => 0) 0 0) 1 0) 2 0) 3 0) 4 0) 5 0) 6 0) 7 0) 8 0) 9 0) 10 0) 11 0) 12 0) 13 0) 14 0) 15 0) 16 0) 17 0) 18 0) 19 0) 20 0) 21 0) 22 0) 23 0) 24 0) 25 0) 26 0) 27 0) 28 0) 29 0) 30 0) 31 0) 32 0) 33 0) 34 0) 35 0) 36 0) 37 0) 38 0) 39 0))), ((q 15), .inl (cI, 80, .inl f2)), ((q 0), .inr (12, (mo q)))] := hD
  refine lv_iinc (v := 3) (lv' := [(1, .int 3), (0, .ref (q 0))]) hx hb dX12_back_55 hl (k := 0) rfl (by decide +kernel) (by decide) rfl (fun ls hl => ?_)
  refine lv_goto (tgt := 34) hx hb dX12_back_58 (by decide) ?_
  refine lv_iload_n hx hb dX12_back_34 rfl (lv_at hl 0 rfl) ?_
  refine lv_iconst (v := 4) hx hb dX12_back_35 (by decide +kernel) ?_
  refine lv_icmp_ge (tgt := 61) hx hb dX12_back_36 (by decide) (fun c => absurd c (by decide +kernel)) (fun _ => ?_)
  refine lv_aload_n hx hb dX12_back_39 rfl (lv_at hl 1 rfl) ?_
  refine va_get (D := (dC, dI)) (ci := 12) (v := .ref (q 14)) (C := RX12) (T := TX12) (N := 85) hx hb hts hiX12 hown hK hP 6 rfl rfl 25 (by decide) (hts _ (List.mem_of_getElem? (i := 4) rfl)) (fun _ h9 => h9) rfl dX12_back_40 ?_
  refine lv_aload_n hx hb dX12_back_43 rfl (lv_at hl 1 rfl) ?_
  refine lv_iload_n hx hb dX12_back_44 rfl (lv_at hl 0 rfl) ?_
  have hPc := hP.sub (ws' := [((q 0), .inr (12, (mo q)))]) [6] rfl
  have hDc := hD.sub (ws' := [((q 0), .inr (12, (mo q)))]) [6] (by decide) rfl
  have hFc := va_free (wc := [((q 0), .inr (12, (mo q)))]) hD hS hA [6] rfl
  refine va_calli (va_runV (As := [.int 3]) (rest := [.ref (q 14)]) ⟨hx, hb, hml, hown, hts⟩ (k_X12_key4_121 l dC dI cB cI cJ cZ cQ H.size q) (cwV 1 hts g_k_X12_back_123_3 rfl rfl rfl (by decide +kernel) ⟨Nat.le_of_ble_eq_true rfl, Nat.le_of_ble_eq_true rfl⟩) ⟨fun a U g mk Z => by obtain ⟨q0, q1, qP, qK, qD⟩ := Z; exact ⟨q0, q1, qP, va_K.moved (u := U) (U := U.calling g mk a) (Vm.Alike.refl U.vm) qK, qD⟩, va_recv hK hPc (ci := 12) (q0 := 0) rfl rfl, fun U hU hW => ⟨rfl, by rw [hU], by rw [hU]; exact hPc, va_K.moved hW.alike hK, hDc.weaken (fun _ _ _ _ => trivial)⟩⟩ rfl rfl hl.1 rfl (lv_room (Nat.le_of_ble_eq_true rfl)) dX12_back_45 ⟨Nat.le_of_ble_eq_true rfl, Nat.le_of_ble_eq_true rfl⟩) hS (fun b _ h => hFc b h) hFc (fun r8 u7 t H1 locs ht hvm hw hB hz1 hk1 hS => ?_)
  obtain ⟨hP1, hK1, hD1⟩ := hB
  rw [ht] at hP1
  obtain ⟨hP, hD⟩ := va_join (wr := [((q 44), .inl (cI, 3, .inl (upd (upd (upd (fun _ => 0) 0 0) 1 0) 2 0))), ((q 18), .inl (cI, 6, .inl (upd (upd (upd f0 0 0) 1 0) 2 0))), ((q 45), .inl (cI, 4, .inl (upd (upd (upd (upd (fun _ => 0) 0 0) 1 0) 2 0) 3 0))), ((q 14), .inl (cI, 8, .inl (upd (upd (upd f1 0 0) 1 0) 2 0))), ((q 46), .inl (cI, 40, .inl (upd (upd (upd (upd (upd (upd (upd (upd (upd (upd (upd (upd (upd (upd (upd (upd (upd (upd (upd (upd (upd (upd (upd (upd (upd (upd (upd (upd (upd (upd (upd (upd (upd (upd (upd (upd (upd (upd (upd (upd (fun _ => 0) 0 0) 1 0) 2 0) 3 0) 4 0) 5 0) 6 0) 7 0) 8 0) 9 0) 10 0) 11 0) 12 0) 13 0) 14 0) 15 0) 16 0) 17 0) 18 0) 19 0) 20 0) 21 0) 22 0) 23 0) 24 0) 25 0) 26 0) 27 0) 28 0) 29 0) 30 0) 31 0) 32 0) 33 0) 34 0) 35 0) 36 0) 37 0) 38 0) 39 0))), ((q 15), .inl (cI, 80, .inl f2))]) (w1 := [((q 0), .inr (12, (mo q)))]) hP hD [6] [0, 1, 2, 3, 4, 5] rfl rfl (by decide) (by decide) hk1 hFc hP1 hD1
  clear hP1 hK1 hD1 hk1 hz1 hvm hPc hDc hFc
  generalize H1 = H at hP hS ⊢
  have hP : va_P (dC, dI) vwCl [((q 44), .inl (cI, 3, .inl (upd (upd (upd (fun _ => 0) 0 0) 1 0) 2 0))), ((q 18), .inl (cI, 6, .inl (upd (upd (upd f0 0 0) 1 0) 2 0))), ((q 45), .inl (cI, 4, .inl (upd (upd (upd (upd (fun _ => 0) 0 0) 1 0) 2 0) 3 0))), ((q 14), .inl (cI, 8, .inl (upd (upd (upd f1 0 0) 1 0) 2 0))), ((q 46), .inl (cI, 40, .inl (upd (upd (upd (upd (upd (upd (upd (upd (upd (upd (upd (upd (upd (upd (upd (upd (upd (upd (upd (upd (upd (upd (upd (upd (upd (upd (upd (upd (upd (upd (upd (upd (upd (upd (upd (upd (upd (upd (upd (upd (fun _ => 0) 0 0) 1 0) 2 0) 3 0) 4 0) 5 0) 6 0) 7 0) 8 0) 9 0) 10 0) 11 0) 12 0) 13 0) 14 0) 15 0) 16 0) 17 0) 18 0) 19 0) 20 0) 21 0) 22 0) 23 0) 24 0) 25 0) 26 0) 27 0) 28 0) 29 0) 30 0) 31 0) 32 0) 33 0) 34 0) 35 0) 36 0) 37 0) 38 0) 39 0))), ((q 15), .inl (cI, 80, .inl f2)), ((q 0), .inr (12, (mo q)))] H := hP
  have hD : va_D A [((q 44), .inl (cI, 3, .inl (upd (upd (upd (fun _ => 0) 0 0) 1 0) 2 0))), ((q 18), .inl (cI, 6, .inl (upd (upd (upd f0 0 0) 1 0) 2 0))), ((q 45), .inl (cI, 4, .inl (upd (upd (upd (upd (fun _ => 0) 0 0) 1 0) 2 0) 3 0))), ((q 14), .inl (cI, 8, .inl (upd (upd (upd f1 0 0) 1 0) 2 0))), ((q 46), .inl (cI, 40, .inl (upd (upd (upd (upd (upd (upd (upd (upd (upd (upd (upd (upd (upd (upd (upd (upd (upd (upd (upd (upd (upd (upd (upd (upd (upd (upd (upd (upd (upd (upd (upd (upd (upd (upd (upd (upd (upd (upd (upd (upd (fun _ => 0) 0 0) 1 0) 2 0) 3 0) 4 0) 5 0) 6 0) 7 0) 8 0) 9 0) 10 0) 11 0) 12 0) 13 0) 14 0) 15 0) 16 0) 17 0) 18 0) 19 0) 20 0) 21 0) 22 0) 23 0) 24 0) 25 0) 26 0) 27 0) 28 0) 29 0) 30 0) 31 0) 32 0) 33 0) 34 0) 35 0) 36 0) 37 0) 38 0) 39 0))), ((q 15), .inl (cI, 80, .inl f2)), ((q 0), .inr (12, (mo q)))] := hD
  subst hw
  refine lv_aload_n hx hb dX12_back_48 rfl (lv_at hl 1 rfl) ?_
  refine va_get (D := (dC, dI)) (ci := 12) (v := .ref (q 45)) (C := RX12) (T := TX12) (N := 85) hx hb hts hiX12 hown hK hP 6 rfl rfl 62 (by decide) (hts _ (List.mem_of_getElem? (i := 10) rfl)) (fun _ h9 => h9) rfl dX12_back_49 ?_
  refine lv_iload_n hx hb dX12_back_52 rfl (lv_at hl 0 rfl) ?_
  refine va_iald hx hb hK hP 2 1 rfl rfl (vpc _ _ (by decide +kernel)) dX12_back_53 ?_
  refine tp_i (y := 0) rfl ?_
  refine va_iast hx hb hK hP hD hS 3 1 rfl rfl (vpc _ _ (by decide +kernel)) dX12_back_54 (fun H locs hP hD hS => ?_)
  have hP : va_P (dC, dI) vwCl [((q 44), .inl (cI, 3, .inl (upd (upd (upd (fun _ => 0) 0 0) 1 0) 2 0))), ((q 18), .inl (cI, 6, .inl (upd (upd (upd f0 0 0) 1 0) 2 0))), ((q 45), .inl (cI, 4, .inl (upd (upd (upd (upd (fun _ => 0) 0 0) 1 0) 2 0) 3 0))), ((q 14), .inl (cI, 8, .inl (upd (upd (upd (upd f1 0 0) 1 0) 2 0) 3 0))), ((q 46), .inl (cI, 40, .inl (upd (upd (upd (upd (upd (upd (upd (upd (upd (upd (upd (upd (upd (upd (upd (upd (upd (upd (upd (upd (upd (upd (upd (upd (upd (upd (upd (upd (upd (upd (upd (upd (upd (upd (upd (upd (upd (upd (upd (upd (fun _ => 0) 0 0) 1 0) 2 0) 3 0) 4 0) 5 0) 6 0) 7 0) 8 0) 9 0) 10 0) 11 0) 12 0) 13 0) 14 0) 15 0) 16 0) 17 0) 18 0) 19 0) 20 0) 21 0) 22 0) 23 0) 24 0) 25 0) 26 0) 27 0) 28 0) 29 0) 30 0) 31 0) 32 0) 33 0) 34 0) 35 0) 36 0) 37 0) 38 0) 39 0))), ((q 15), .inl (cI, 80, .inl f2)), ((q 0), .inr (12, (mo q)))] H := hP
  have hD : va_D A [((q 44), .inl (cI, 3, .inl (upd (upd (upd (fun _ => 0) 0 0) 1 0) 2 0))), ((q 18), .inl (cI, 6, .inl (upd (upd (upd f0 0 0) 1 0) 2 0))), ((q 45), .inl (cI, 4, .inl (upd (upd (upd (upd (fun _ => 0) 0 0) 1 0) 2 0) 3 0))), ((q 14), .inl (cI, 8, .inl (upd (upd (upd (upd f1 0 0) 1 0) 2 0) 3 0))), ((q 46), .inl (cI, 40, .inl (upd (upd (upd (upd (upd (upd (upd (upd (upd (upd (upd (upd (upd (upd (upd (upd (upd (upd (upd (upd (upd (upd (upd (upd (upd (upd (upd (upd (upd (upd (upd (upd (upd (upd (upd (upd (upd (upd (upd (upd (fun _ => 0) 0 0) 1 0) 2 0) 3 0) 4 0) 5 0) 6 0) 7 0) 8 0) 9 0) 10 0) 11 0) 12 0) 13 0) 14 0) 15 0) 16 0) 17 0) 18 0) 19 0) 20 0) 21 0) 22 0) 23 0) 24 0) 25 0) 26 0) 27 0) 28 0) 29 0) 30 0) 31 0) 32 0) 33 0) 34 0) 35 0) 36 0) 37 0) 38 0) 39 0))), ((q 15), .inl (cI, 80, .inl f2)), ((q 0), .inr (12, (mo q)))] := hD
  refine lv_iinc (v := 4) (lv' := [(1, .int 4), (0, .ref (q 0))]) hx hb dX12_back_55 hl (k := 0) rfl (by decide +kernel) (by decide) rfl (fun ls hl => ?_)
  refine lv_goto (tgt := 34) hx hb dX12_back_58 (by decide) ?_
  refine lv_iload_n hx hb dX12_back_34 rfl (lv_at hl 0 rfl) ?_
  refine lv_iconst (v := 4) hx hb dX12_back_35 (by decide +kernel) ?_
  refine lv_icmp_ge (tgt := 61) hx hb dX12_back_36 (by decide) (fun _ => ?_) (fun c => absurd c (by decide +kernel))
  refine lv_iconst (v := 0) hx hb dX12_back_61 (by decide +kernel) ?_
  refine lv_istore_n (lv' := [(1, .int 0), (0, .ref (q 0))]) hx hb dX12_back_62 rfl hl (by decide) rfl (fun ls hl => ?_)
  refine lv_iload_n hx hb dX12_back_63 rfl (lv_at hl 0 rfl) ?_
  refine lv_bipush (v := 40) hx hb dX12_back_64 (by decide +kernel) ?_
  refine lv_icmp_ge (tgt := 95) hx hb dX12_back_66 (by decide) (fun c => absurd c (by decide +kernel)) (fun _ => ?_)
  refine lv_aload_n hx hb dX12_back_69 rfl (lv_at hl 1 rfl) ?_
  refine va_get (D := (dC, dI)) (ci := 12) (v := .ref (q 15)) (C := RX12) (T := TX12) (N := 85) hx hb hts hiX12 hown hK hP 6 rfl rfl 26 (by decide) (hts _ (List.mem_of_getElem? (i := 11) rfl)) (fun _ h9 => h9) rfl dX12_back_70 ?_
  refine lv_bipush (v := 40) hx hb dX12_back_73 (by decide +kernel) ?_
  refine lv_aload_n hx hb dX12_back_75 rfl (lv_at hl 1 rfl) ?_
  refine va_get (D := (dC, dI)) (ci := 12) (v := .int 0) (C := RX12) (T := TX12) (N := 85) hx hb hts hiX12 hown hK hP 6 rfl rfl 12 (by decide) (hts _ (List.mem_of_getElem? (i := 2) rfl)) (fun _ h9 => h9) rfl dX12_back_76 ?_
  refine lv_imul hx hb dX12_back_79 ?_
  refine tp_i (y := 0) (by decide +kernel) ?_
  refine lv_iload_n hx hb dX12_back_80 rfl (lv_at hl 0 rfl) ?_
  refine lv_iadd hx hb dX12_back_81 ?_
  refine tp_i (y := 0) (by decide +kernel) ?_
  refine lv_aload_n hx hb dX12_back_82 rfl (lv_at hl 1 rfl) ?_
  refine va_get (D := (dC, dI)) (ci := 12) (v := .ref (q 46)) (C := RX12) (T := TX12) (N := 85) hx hb hts hiX12 hown hK hP 6 rfl rfl 63 (by decide) (hts _ (List.mem_of_getElem? (i := 12) rfl)) (fun _ h9 => h9) rfl dX12_back_83 ?_
  refine lv_iload_n hx hb dX12_back_86 rfl (lv_at hl 0 rfl) ?_
  refine va_iald hx hb hK hP 4 1 rfl rfl (vpc _ _ (by decide +kernel)) dX12_back_87 ?_
  refine tp_i (y := 0) rfl ?_
  refine va_iast hx hb hK hP hD hS 5 1 rfl rfl (vpc _ _ (by decide +kernel)) dX12_back_88 (fun H locs hP hD hS => ?_)
  have hP : va_P (dC, dI) vwCl [((q 44), .inl (cI, 3, .inl (upd (upd (upd (fun _ => 0) 0 0) 1 0) 2 0))), ((q 18), .inl (cI, 6, .inl (upd (upd (upd f0 0 0) 1 0) 2 0))), ((q 45), .inl (cI, 4, .inl (upd (upd (upd (upd (fun _ => 0) 0 0) 1 0) 2 0) 3 0))), ((q 14), .inl (cI, 8, .inl (upd (upd (upd (upd f1 0 0) 1 0) 2 0) 3 0))), ((q 46), .inl (cI, 40, .inl (upd (upd (upd (upd (upd (upd (upd (upd (upd (upd (upd (upd (upd (upd (upd (upd (upd (upd (upd (upd (upd (upd (upd (upd (upd (upd (upd (upd (upd (upd (upd (upd (upd (upd (upd (upd (upd (upd (upd (upd (fun _ => 0) 0 0) 1 0) 2 0) 3 0) 4 0) 5 0) 6 0) 7 0) 8 0) 9 0) 10 0) 11 0) 12 0) 13 0) 14 0) 15 0) 16 0) 17 0) 18 0) 19 0) 20 0) 21 0) 22 0) 23 0) 24 0) 25 0) 26 0) 27 0) 28 0) 29 0) 30 0) 31 0) 32 0) 33 0) 34 0) 35 0) 36 0) 37 0) 38 0) 39 0))), ((q 15), .inl (cI, 80, .inl (upd f2 0 0))), ((q 0), .inr (12, (mo q)))] H := hP
  have hD : va_D A [((q 44), .inl (cI, 3, .inl (upd (upd (upd (fun _ => 0) 0 0) 1 0) 2 0))), ((q 18), .inl (cI, 6, .inl (upd (upd (upd f0 0 0) 1 0) 2 0))), ((q 45), .inl (cI, 4, .inl (upd (upd (upd (upd (fun _ => 0) 0 0) 1 0) 2 0) 3 0))), ((q 14), .inl (cI, 8, .inl (upd (upd (upd (upd f1 0 0) 1 0) 2 0) 3 0))), ((q 46), .inl (cI, 40, .inl (upd (upd (upd (upd (upd (upd (upd (upd (upd (upd (upd (upd (upd (upd (upd (upd (upd (upd (upd (upd (upd (upd (upd (upd (upd (upd (upd (upd (upd (upd (upd (upd (upd (upd (upd (upd (upd (upd (upd (upd (fun _ => 0) 0 0) 1 0) 2 0) 3 0) 4 0) 5 0) 6 0) 7 0) 8 0) 9 0) 10 0) 11 0) 12 0) 13 0) 14 0) 15 0) 16 0) 17 0) 18 0) 19 0) 20 0) 21 0) 22 0) 23 0) 24 0) 25 0) 26 0) 27 0) 28 0) 29 0) 30 0) 31 0) 32 0) 33 0) 34 0) 35 0) 36 0) 37 0) 38 0) 39 0))), ((q 15), .inl (cI, 80, .inl (upd f2 0 0))), ((q 0), .inr (12, (mo q)))] := hD
  refine lv_iinc (v := 1) (lv' := [(1, .int 1), (0, .ref (q 0))]) hx hb dX12_back_89 hl (k := 0) rfl (by decide +kernel) (by decide) rfl (fun ls hl => ?_)
  refine lv_goto (tgt := 63) hx hb dX12_back_92 (by decide) ?_
  refine lv_iload_n hx hb dX12_back_63 rfl (lv_at hl 0 rfl) ?_
  refine lv_bipush (v := 40) hx hb dX12_back_64 (by decide +kernel) ?_
  refine lv_icmp_ge (tgt := 95) hx hb dX12_back_66 (by decide) (fun c => absurd c (by decide +kernel)) (fun _ => ?_)
  refine lv_aload_n hx hb dX12_back_69 rfl (lv_at hl 1 rfl) ?_
  refine va_get (D := (dC, dI)) (ci := 12) (v := .ref (q 15)) (C := RX12) (T := TX12) (N := 85) hx hb hts hiX12 hown hK hP 6 rfl rfl 26 (by decide) (hts _ (List.mem_of_getElem? (i := 11) rfl)) (fun _ h9 => h9) rfl dX12_back_70 ?_
  refine lv_bipush (v := 40) hx hb dX12_back_73 (by decide +kernel) ?_
  refine lv_aload_n hx hb dX12_back_75 rfl (lv_at hl 1 rfl) ?_
  refine va_get (D := (dC, dI)) (ci := 12) (v := .int 0) (C := RX12) (T := TX12) (N := 85) hx hb hts hiX12 hown hK hP 6 rfl rfl 12 (by decide) (hts _ (List.mem_of_getElem? (i := 2) rfl)) (fun _ h9 => h9) rfl dX12_back_76 ?_
  refine lv_imul hx hb dX12_back_79 ?_
  refine tp_i (y := 0) (by decide +kernel) ?_
  refine lv_iload_n hx hb dX12_back_80 rfl (lv_at hl 0 rfl) ?_
  refine lv_iadd hx hb dX12_back_81 ?_
  refine tp_i (y := 1) (by decide +kernel) ?_
  refine lv_aload_n hx hb dX12_back_82 rfl (lv_at hl 1 rfl) ?_
  refine va_get (D := (dC, dI)) (ci := 12) (v := .ref (q 46)) (C := RX12) (T := TX12) (N := 85) hx hb hts hiX12 hown hK hP 6 rfl rfl 63 (by decide) (hts _ (List.mem_of_getElem? (i := 12) rfl)) (fun _ h9 => h9) rfl dX12_back_83 ?_
  refine lv_iload_n hx hb dX12_back_86 rfl (lv_at hl 0 rfl) ?_
  refine va_iald hx hb hK hP 4 1 rfl rfl (vpc _ _ (by decide +kernel)) dX12_back_87 ?_
  refine tp_i (y := 0) rfl ?_
  refine va_iast hx hb hK hP hD hS 5 1 rfl rfl (vpc _ _ (by decide +kernel)) dX12_back_88 (fun H locs hP hD hS => ?_)
  have hP : va_P (dC, dI) vwCl [((q 44), .inl (cI, 3, .inl (upd (upd (upd (fun _ => 0) 0 0) 1 0) 2 0))), ((q 18), .inl (cI, 6, .inl (upd (upd (upd f0 0 0) 1 0) 2 0))), ((q 45), .inl (cI, 4, .inl (upd (upd (upd (upd (fun _ => 0) 0 0) 1 0) 2 0) 3 0))), ((q 14), .inl (cI, 8, .inl (upd (upd (upd (upd f1 0 0) 1 0) 2 0) 3 0))), ((q 46), .inl (cI, 40, .inl (upd (upd (upd (upd (upd (upd (upd (upd (upd (upd (upd (upd (upd (upd (upd (upd (upd (upd (upd (upd (upd (upd (upd (upd (upd (upd (upd (upd (upd (upd (upd (upd (upd (upd (upd (upd (upd (upd (upd (upd (fun _ => 0) 0 0) 1 0) 2 0) 3 0) 4 0) 5 0) 6 0) 7 0) 8 0) 9 0) 10 0) 11 0) 12 0) 13 0) 14 0) 15 0) 16 0) 17 0) 18 0) 19 0) 20 0) 21 0) 22 0) 23 0) 24 0) 25 0) 26 0) 27 0) 28 0) 29 0) 30 0) 31 0) 32 0) 33 0) 34 0) 35 0) 36 0) 37 0) 38 0) 39 0))), ((q 15), .inl (cI, 80, .inl (upd (upd f2 0 0) 1 0))), ((q 0), .inr (12, (mo q)))] H := hP
  have hD : va_D A [((q 44), .inl (cI, 3, .inl (upd (upd (upd (fun _ => 0) 0 0) 1 0) 2 0))), ((q 18), .inl (cI, 6, .inl (upd (upd (upd f0 0 0) 1 0) 2 0))), ((q 45), .inl (cI, 4, .inl (upd (upd (upd (upd (fun _ => 0) 0 0) 1 0) 2 0) 3 0))), ((q 14), .inl (cI, 8, .inl (upd (upd (upd (upd f1 0 0) 1 0) 2 0) 3 0))), ((q 46), .inl (cI, 40, .inl (upd (upd (upd (upd (upd (upd (upd (upd (upd (upd (upd (upd (upd (upd (upd (upd (upd (upd (upd (upd (upd (upd (upd (upd (upd (upd (upd (upd (upd (upd (upd (upd (upd (upd (upd (upd (upd (upd (upd (upd (fun _ => 0) 0 0) 1 0) 2 0) 3 0) 4 0) 5 0) 6 0) 7 0) 8 0) 9 0) 10 0) 11 0) 12 0) 13 0) 14 0) 15 0) 16 0) 17 0) 18 0) 19 0) 20 0) 21 0) 22 0) 23 0) 24 0) 25 0) 26 0) 27 0) 28 0) 29 0) 30 0) 31 0) 32 0) 33 0) 34 0) 35 0) 36 0) 37 0) 38 0) 39 0))), ((q 15), .inl (cI, 80, .inl (upd (upd f2 0 0) 1 0))), ((q 0), .inr (12, (mo q)))] := hD
  refine lv_iinc (v := 2) (lv' := [(1, .int 2), (0, .ref (q 0))]) hx hb dX12_back_89 hl (k := 0) rfl (by decide +kernel) (by decide) rfl (fun ls hl => ?_)
  refine lv_goto (tgt := 63) hx hb dX12_back_92 (by decide) ?_
  refine lv_iload_n hx hb dX12_back_63 rfl (lv_at hl 0 rfl) ?_
  refine lv_bipush (v := 40) hx hb dX12_back_64 (by decide +kernel) ?_
  refine lv_icmp_ge (tgt := 95) hx hb dX12_back_66 (by decide) (fun c => absurd c (by decide +kernel)) (fun _ => ?_)
  refine lv_aload_n hx hb dX12_back_69 rfl (lv_at hl 1 rfl) ?_
  refine va_get (D := (dC, dI)) (ci := 12) (v := .ref (q 15)) (C := RX12) (T := TX12) (N := 85) hx hb hts hiX12 hown hK hP 6 rfl rfl 26 (by decide) (hts _ (List.mem_of_getElem? (i := 11) rfl)) (fun _ h9 => h9) rfl dX12_back_70 ?_
  refine lv_bipush (v := 40) hx hb dX12_back_73 (by decide +kernel) ?_
  refine lv_aload_n hx hb dX12_back_75 rfl (lv_at hl 1 rfl) ?_
  refine va_get (D := (dC, dI)) (ci := 12) (v := .int 0) (C := RX12) (T := TX12) (N := 85) hx hb hts hiX12 hown hK hP 6 rfl rfl 12 (by decide) (hts _ (List.mem_of_getElem? (i := 2) rfl)) (fun _ h9 => h9) rfl dX12_back_76 ?_
  refine lv_imul hx hb dX12_back_79 ?_
  refine tp_i (y := 0) (by decide +kernel) ?_
  refine lv_iload_n hx hb dX12_back_80 rfl (lv_at hl 0 rfl) ?_
  refine lv_iadd hx hb dX12_back_81 ?_
  refine tp_i (y := 2) (by decide +kernel) ?_
  refine lv_aload_n hx hb dX12_back_82 rfl (lv_at hl 1 rfl) ?_
  refine va_get (D := (dC, dI)) (ci := 12) (v := .ref (q 46)) (C := RX12) (T := TX12) (N := 85) hx hb hts hiX12 hown hK hP 6 rfl rfl 63 (by decide) (hts _ (List.mem_of_getElem? (i := 12) rfl)) (fun _ h9 => h9) rfl dX12_back_83 ?_
  refine lv_iload_n hx hb dX12_back_86 rfl (lv_at hl 0 rfl) ?_
  refine va_iald hx hb hK hP 4 1 rfl rfl (vpc _ _ (by decide +kernel)) dX12_back_87 ?_
  refine tp_i (y := 0) rfl ?_
  refine va_iast hx hb hK hP hD hS 5 1 rfl rfl (vpc _ _ (by decide +kernel)) dX12_back_88 (fun H locs hP hD hS => ?_)
  have hP : va_P (dC, dI) vwCl [((q 44), .inl (cI, 3, .inl (upd (upd (upd (fun _ => 0) 0 0) 1 0) 2 0))), ((q 18), .inl (cI, 6, .inl (upd (upd (upd f0 0 0) 1 0) 2 0))), ((q 45), .inl (cI, 4, .inl (upd (upd (upd (upd (fun _ => 0) 0 0) 1 0) 2 0) 3 0))), ((q 14), .inl (cI, 8, .inl (upd (upd (upd (upd f1 0 0) 1 0) 2 0) 3 0))), ((q 46), .inl (cI, 40, .inl (upd (upd (upd (upd (upd (upd (upd (upd (upd (upd (upd (upd (upd (upd (upd (upd (upd (upd (upd (upd (upd (upd (upd (upd (upd (upd (upd (upd (upd (upd (upd (upd (upd (upd (upd (upd (upd (upd (upd (upd (fun _ => 0) 0 0) 1 0) 2 0) 3 0) 4 0) 5 0) 6 0) 7 0) 8 0) 9 0) 10 0) 11 0) 12 0) 13 0) 14 0) 15 0) 16 0) 17 0) 18 0) 19 0) 20 0) 21 0) 22 0) 23 0) 24 0) 25 0) 26 0) 27 0) 28 0) 29 0) 30 0) 31 0) 32 0) 33 0) 34 0) 35 0) 36 0) 37 0) 38 0) 39 0))), ((q 15), .inl (cI, 80, .inl (upd (upd (upd f2 0 0) 1 0) 2 0))), ((q 0), .inr (12, (mo q)))] H := hP
  have hD : va_D A [((q 44), .inl (cI, 3, .inl (upd (upd (upd (fun _ => 0) 0 0) 1 0) 2 0))), ((q 18), .inl (cI, 6, .inl (upd (upd (upd f0 0 0) 1 0) 2 0))), ((q 45), .inl (cI, 4, .inl (upd (upd (upd (upd (fun _ => 0) 0 0) 1 0) 2 0) 3 0))), ((q 14), .inl (cI, 8, .inl (upd (upd (upd (upd f1 0 0) 1 0) 2 0) 3 0))), ((q 46), .inl (cI, 40, .inl (upd (upd (upd (upd (upd (upd (upd (upd (upd (upd (upd (upd (upd (upd (upd (upd (upd (upd (upd (upd (upd (upd (upd (upd (upd (upd (upd (upd (upd (upd (upd (upd (upd (upd (upd (upd (upd (upd (upd (upd (fun _ => 0) 0 0) 1 0) 2 0) 3 0) 4 0) 5 0) 6 0) 7 0) 8 0) 9 0) 10 0) 11 0) 12 0) 13 0) 14 0) 15 0) 16 0) 17 0) 18 0) 19 0) 20 0) 21 0) 22 0) 23 0) 24 0) 25 0) 26 0) 27 0) 28 0) 29 0) 30 0) 31 0) 32 0) 33 0) 34 0) 35 0) 36 0) 37 0) 38 0) 39 0))), ((q 15), .inl (cI, 80, .inl (upd (upd (upd f2 0 0) 1 0) 2 0))), ((q 0), .inr (12, (mo q)))] := hD
  refine lv_iinc (v := 3) (lv' := [(1, .int 3), (0, .ref (q 0))]) hx hb dX12_back_89 hl (k := 0) rfl (by decide +kernel) (by decide) rfl (fun ls hl => ?_)
  refine lv_goto (tgt := 63) hx hb dX12_back_92 (by decide) ?_
  refine lv_iload_n hx hb dX12_back_63 rfl (lv_at hl 0 rfl) ?_
  refine lv_bipush (v := 40) hx hb dX12_back_64 (by decide +kernel) ?_
  refine lv_icmp_ge (tgt := 95) hx hb dX12_back_66 (by decide) (fun c => absurd c (by decide +kernel)) (fun _ => ?_)
  refine lv_aload_n hx hb dX12_back_69 rfl (lv_at hl 1 rfl) ?_
  refine va_get (D := (dC, dI)) (ci := 12) (v := .ref (q 15)) (C := RX12) (T := TX12) (N := 85) hx hb hts hiX12 hown hK hP 6 rfl rfl 26 (by decide) (hts _ (List.mem_of_getElem? (i := 11) rfl)) (fun _ h9 => h9) rfl dX12_back_70 ?_
  refine lv_bipush (v := 40) hx hb dX12_back_73 (by decide +kernel) ?_
  refine lv_aload_n hx hb dX12_back_75 rfl (lv_at hl 1 rfl) ?_
  refine va_get (D := (dC, dI)) (ci := 12) (v := .int 0) (C := RX12) (T := TX12) (N := 85) hx hb hts hiX12 hown hK hP 6 rfl rfl 12 (by decide) (hts _ (List.mem_of_getElem? (i := 2) rfl)) (fun _ h9 => h9) rfl dX12_back_76 ?_
  refine lv_imul hx hb dX12_back_79 ?_
  refine tp_i (y := 0) (by decide +kernel) ?_
  refine lv_iload_n hx hb dX12_back_80 rfl (lv_at hl 0 rfl) ?_
  refine lv_iadd hx hb dX12_back_81 ?_
  refine tp_i (y := 3) (by decide +kernel) ?_
  refine lv_aload_n hx hb dX12_back_82 rfl (lv_at hl 1 rfl) ?_
  refine va_get (D := (dC, dI)) (ci := 12) (v := .ref (q 46)) (C := RX12) (T := TX12) (N := 85) hx hb hts hiX12 hown hK hP 6 rfl rfl 63 (by decide) (hts _ (List.mem_of_getElem? (i := 12) rfl)) (fun _ h9 => h9) rfl dX12_back_83 ?_
  refine lv_iload_n hx hb dX12_back_86 rfl (lv_at hl 0 rfl) ?_
  refine va_iald hx hb hK hP 4 1 rfl rfl (vpc _ _ (by decide +kernel)) dX12_back_87 ?_
  refine tp_i (y := 0) rfl ?_
  refine va_iast hx hb hK hP hD hS 5 1 rfl rfl (vpc _ _ (by decide +kernel)) dX12_back_88 (fun H locs hP hD hS => ?_)
  have hP : va_P (dC, dI) vwCl [((q 44), .inl (cI, 3, .inl (upd (upd (upd (fun _ => 0) 0 0) 1 0) 2 0))), ((q 18), .inl (cI, 6, .inl (upd (upd (upd f0 0 0) 1 0) 2 0))), ((q 45), .inl (cI, 4, .inl (upd (upd (upd (upd (fun _ => 0) 0 0) 1 0) 2 0) 3 0))), ((q 14), .inl (cI, 8, .inl (upd (upd (upd (upd f1 0 0) 1 0) 2 0) 3 0))), ((q 46), .inl (cI, 40, .inl (upd (upd (upd (upd (upd (upd (upd (upd (upd (upd (upd (upd (upd (upd (upd (upd (upd (upd (upd (upd (upd (upd (upd (upd (upd (upd (upd (upd (upd (upd (upd (upd (upd (upd (upd (upd (upd (upd (upd (upd (fun _ => 0) 0 0) 1 0) 2 0) 3 0) 4 0) 5 0) 6 0) 7 0) 8 0) 9 0) 10 0) 11 0) 12 0) 13 0) 14 0) 15 0) 16 0) 17 0) 18 0) 19 0) 20 0) 21 0) 22 0) 23 0) 24 0) 25 0) 26 0) 27 0) 28 0) 29 0) 30 0) 31 0) 32 0) 33 0) 34 0) 35 0) 36 0) 37 0) 38 0) 39 0))), ((q 15), .inl (cI, 80, .inl (upd (upd (upd (upd f2 0 0) 1 0) 2 0) 3 0))), ((q 0), .inr (12, (mo q)))] H := hP
  have hD : va_D A [((q 44), .inl (cI, 3, .inl (upd (upd (upd (fun _ => 0) 0 0) 1 0) 2 0))), ((q 18), .inl (cI, 6, .inl (upd (upd (upd f0 0 0) 1 0) 2 0))), ((q 45), .inl (cI, 4, .inl (upd (upd (upd (upd (fun _ => 0) 0 0) 1 0) 2 0) 3 0))), ((q 14), .inl (cI, 8, .inl (upd (upd (upd (upd f1 0 0) 1 0) 2 0) 3 0))), ((q 46), .inl (cI, 40, .inl (upd (upd (upd (upd (upd (upd (upd (upd (upd (upd (upd (upd (upd (upd (upd (upd (upd (upd (upd (upd (upd (upd (upd (upd (upd (upd (upd (upd (upd (upd (upd (upd (upd (upd (upd (upd (upd (upd (upd (upd (fun _ => 0) 0 0) 1 0) 2 0) 3 0) 4 0) 5 0) 6 0) 7 0) 8 0) 9 0) 10 0) 11 0) 12 0) 13 0) 14 0) 15 0) 16 0) 17 0) 18 0) 19 0) 20 0) 21 0) 22 0) 23 0) 24 0) 25 0) 26 0) 27 0) 28 0) 29 0) 30 0) 31 0) 32 0) 33 0) 34 0) 35 0) 36 0) 37 0) 38 0) 39 0))), ((q 15), .inl (cI, 80, .inl (upd (upd (upd (upd f2 0 0) 1 0) 2 0) 3 0))), ((q 0), .inr (12, (mo q)))] := hD
  refine lv_iinc (v := 4) (lv' := [(1, .int 4), (0, .ref (q 0))]) hx hb dX12_back_89 hl (k := 0) rfl (by decide +kernel) (by decide) rfl (fun ls hl => ?_)
  refine lv_goto (tgt := 63) hx hb dX12_back_92 (by decide) ?_
  refine lv_iload_n hx hb dX12_back_63 rfl (lv_at hl 0 rfl) ?_
  refine lv_bipush (v := 40) hx hb dX12_back_64 (by decide +kernel) ?_
  refine lv_icmp_ge (tgt := 95) hx hb dX12_back_66 (by decide) (fun c => absurd c (by decide +kernel)) (fun _ => ?_)
  refine lv_aload_n hx hb dX12_back_69 rfl (lv_at hl 1 rfl) ?_
  refine va_get (D := (dC, dI)) (ci := 12) (v := .ref (q 15)) (C := RX12) (T := TX12) (N := 85) hx hb hts hiX12 hown hK hP 6 rfl rfl 26 (by decide) (hts _ (List.mem_of_getElem? (i := 11) rfl)) (fun _ h9 => h9) rfl dX12_back_70 ?_
  refine lv_bipush (v := 40) hx hb dX12_back_73 (by decide +kernel) ?_
  refine lv_aload_n hx hb dX12_back_75 rfl (lv_at hl 1 rfl) ?_
  refine va_get (D := (dC, dI)) (ci := 12) (v := .int 0) (C := RX12) (T := TX12) (N := 85) hx hb hts hiX12 hown hK hP 6 rfl rfl 12 (by decide) (hts _ (List.mem_of_getElem? (i := 2) rfl)) (fun _ h9 => h9) rfl dX12_back_76 ?_
  refine lv_imul hx hb dX12_back_79 ?_
  refine tp_i (y := 0) (by decide +kernel) ?_
  refine lv_iload_n hx hb dX12_back_80 rfl (lv_at hl 0 rfl) ?_
  refine lv_iadd hx hb dX12_back_81 ?_
  refine tp_i (y := 4) (by decide +kernel) ?_
  refine lv_aload_n hx hb dX12_back_82 rfl (lv_at hl 1 rfl) ?_
  refine va_get (D := (dC, dI)) (ci := 12) (v := .ref (q 46)) (C := RX12) (T := TX12) (N := 85) hx hb hts hiX12 hown hK hP 6 rfl rfl 63 (by decide) (hts _ (List.mem_of_getElem? (i := 12) rfl)) (fun _ h9 => h9) rfl dX12_back_83 ?_
  refine lv_iload_n hx hb dX12_back_86 rfl (lv_at hl 0 rfl) ?_
  refine va_iald hx hb hK hP 4 1 rfl rfl (vpc _ _ (by decide +kernel)) dX12_back_87 ?_
  refine tp_i (y := 0) rfl ?_
  refine va_iast hx hb hK hP hD hS 5 1 rfl rfl (vpc _ _ (by decide +kernel)) dX12_back_88 (fun H locs hP hD hS => ?_)
  have hP : va_P (dC, dI) vwCl [((q 44), .inl (cI, 3, .inl (upd (upd (upd (fun _ => 0) 0 0) 1 0) 2 0))), ((q 18), .inl (cI, 6, .inl (upd (upd (upd f0 0 0) 1 0) 2 0))), ((q 45), .inl (cI, 4, .inl (upd (upd (upd (upd (fun _ => 0) 0 0) 1 0) 2 0) 3 0))), ((q 14), .inl (cI, 8, .inl (upd (upd (upd (upd f1 0 0) 1 0) 2 0) 3 0))), ((q 46), .inl (cI, 40, .inl (upd (upd (upd (upd (upd (upd (upd (upd (upd (upd (upd (upd (upd (upd (upd (upd (upd (upd (upd (upd (upd (upd (upd (upd (upd (upd (upd (upd (upd (upd (upd (upd (upd (upd (upd (upd (upd (upd (upd (upd (fun _ => 0) 0 0) 1 0) 2 0) 3 0) 4 0) 5 0) 6 0) 7 0) 8 0) 9 0) 10 0) 11 0) 12 0) 13 0) 14 0) 15 0) 16 0) 17 0) 18 0) 19 0) 20 0) 21 0) 22 0) 23 0) 24 0) 25 0) 26 0) 27 0) 28 0) 29 0) 30 0) 31 0) 32 0) 33 0) 34 0) 35 0) 36 0) 37 0) 38 0) 39 0))), ((q 15), .inl (cI, 80, .inl (upd (upd (upd (upd (upd f2 0 0) 1 0) 2 0) 3 0) 4 0))), ((q 0), .inr (12, (mo q)))] H := hP
  have hD : va_D A [((q 44), .inl (cI, 3, .inl (upd (upd (upd (fun _ => 0) 0 0) 1 0) 2 0))), ((q 18), .inl (cI, 6, .inl (upd (upd (upd f0 0 0) 1 0) 2 0))), ((q 45), .inl (cI, 4, .inl (upd (upd (upd (upd (fun _ => 0) 0 0) 1 0) 2 0) 3 0))), ((q 14), .inl (cI, 8, .inl (upd (upd (upd (upd f1 0 0) 1 0) 2 0) 3 0))), ((q 46), .inl (cI, 40, .inl (upd (upd (upd (upd (upd (upd (upd (upd (upd (upd (upd (upd (upd (upd (upd (upd (upd (upd (upd (upd (upd (upd (upd (upd (upd (upd (upd (upd (upd (upd (upd (upd (upd (upd (upd (upd (upd (upd (upd (upd (fun _ => 0) 0 0) 1 0) 2 0) 3 0) 4 0) 5 0) 6 0) 7 0) 8 0) 9 0) 10 0) 11 0) 12 0) 13 0) 14 0) 15 0) 16 0) 17 0) 18 0) 19 0) 20 0) 21 0) 22 0) 23 0) 24 0) 25 0) 26 0) 27 0) 28 0) 29 0) 30 0) 31 0) 32 0) 33 0) 34 0) 35 0) 36 0) 37 0) 38 0) 39 0))), ((q 15), .inl (cI, 80, .inl (upd (upd (upd (upd (upd f2 0 0) 1 0) 2 0) 3 0) 4 0))), ((q 0), .inr (12, (mo q)))] := hD
  refine lv_iinc (v := 5) (lv' := [(1, .int 5), (0, .ref (q 0))]) hx hb dX12_back_89 hl (k := 0) rfl (by decide +kernel) (by decide) rfl (fun ls hl => ?_)
  refine lv_goto (tgt := 63) hx hb dX12_back_92 (by decide) ?_
  refine lv_iload_n hx hb dX12_back_63 rfl (lv_at hl 0 rfl) ?_
  refine lv_bipush (v := 40) hx hb dX12_back_64 (by decide +kernel) ?_
  refine lv_icmp_ge (tgt := 95) hx hb dX12_back_66 (by decide) (fun c => absurd c (by decide +kernel)) (fun _ => ?_)
  refine lv_aload_n hx hb dX12_back_69 rfl (lv_at hl 1 rfl) ?_
  refine va_get (D := (dC, dI)) (ci := 12) (v := .ref (q 15)) (C := RX12) (T := TX12) (N := 85) hx hb hts hiX12 hown hK hP 6 rfl rfl 26 (by decide) (hts _ (List.mem_of_getElem? (i := 11) rfl)) (fun _ h9 => h9) rfl dX12_back_70 ?_
  refine lv_bipush (v := 40) hx hb dX12_back_73 (by decide +kernel) ?_
  refine lv_aload_n hx hb dX12_back_75 rfl (lv_at hl 1 rfl) ?_
  refine va_get (D := (dC, dI)) (ci := 12) (v := .int 0) (C := RX12) (T := TX12) (N := 85) hx hb hts hiX12 hown hK hP 6 rfl rfl 12 (by decide) (hts _ (List.mem_of_getElem? (i := 2) rfl)) (fun _ h9 => h9) rfl dX12_back_76 ?_
  refine lv_imul hx hb dX12_back_79 ?_
  refine tp_i (y := 0) (by decide +kernel) ?_
  refine lv_iload_n hx hb dX12_back_80 rfl (lv_at hl 0 rfl) ?_
  refine lv_iadd hx hb dX12_back_81 ?_
  refine tp_i (y := 5) (by decide +kernel) ?_
  refine lv_aload_n hx hb dX12_back_82 rfl (lv_at hl 1 rfl) ?_
  refine va_get (D := (dC, dI)) (ci := 12) (v := .ref (q 46)) (C := RX12) (T := TX12) (N := 85) hx hb hts hiX12 hown hK hP 6 rfl rfl 63 (by decide) (hts _ (List.mem_of_getElem? (i := 12) rfl)) (fun _ h9 => h9) rfl dX12_back_83 ?_
  refine lv_iload_n hx hb dX12_back_86 rfl (lv_at hl 0 rfl) ?_
  refine va_iald hx hb hK hP 4 1 rfl rfl (vpc _ _ (by decide +kernel)) dX12_back_87 ?_
  refine tp_i (y := 0) rfl ?_
  refine va_iast hx hb hK hP hD hS 5 1 rfl rfl (vpc _ _ (by decide +kernel)) dX12_back_88 (fun H locs hP hD hS => ?_)
  have hP : va_P (dC, dI) vwCl [((q 44), .inl (cI, 3, .inl (upd (upd (upd (fun _ => 0) 0 0) 1 0) 2 0))), ((q 18), .inl (cI, 6, .inl (upd (upd (upd f0 0 0) 1 0) 2 0))), ((q 45), .inl (cI, 4, .inl (upd (upd (upd (upd (fun _ => 0) 0 0) 1 0) 2 0) 3 0))), ((q 14), .inl (cI, 8, .inl (upd (upd (upd (upd f1 0 0) 1 0) 2 0) 3 0))), ((q 46), .inl (cI, 40, .inl (upd (upd (upd (upd (upd (upd (upd (upd (upd (upd (upd (upd (upd (upd (upd (upd (upd (upd (upd (upd (upd (upd (upd (upd (upd (upd (upd (upd (upd (upd (upd (upd (upd (upd (upd (upd (upd (upd (upd (upd (fun _ => 0) 0 0) 1 0) 2 0) 3 0) 4 0) 5 0) 6 0) 7 0) 8 0) 9 0) 10 0) 11 0) 12 0) 13 0) 14 0) 15 0) 16 0) 17 0) 18 0) 19 0) 20 0) 21 0) 22 0) 23 0) 24 0) 25 0) 26 0) 27 0) 28 0) 29 0) 30 0) 31 0) 32 0) 33 0) 34 0) 35 0) 36 0) 37 0) 38 0) 39 0))), ((q 15), .inl (cI, 80, .inl (upd (upd (upd (upd (upd (upd f2 0 0) 1 0) 2 0) 3 0) 4 0) 5 0))), ((q 0), .inr (12, (mo q)))] H := hP
  have hD : va_D A [((q 44), .inl (cI, 3, .inl (upd (upd (upd (fun _ => 0) 0 0) 1 0) 2 0))), ((q 18), .inl (cI, 6, .inl (upd (upd (upd f0 0 0) 1 0) 2 0))), ((q 45), .inl (cI, 4, .inl (upd (upd (upd (upd (fun _ => 0) 0 0) 1 0) 2 0) 3 0))), ((q 14), .inl (cI, 8, .inl (upd (upd (upd (upd f1 0 0) 1 0) 2 0) 3 0))), ((q 46), .inl (cI, 40, .inl (upd (upd (upd (upd (upd (upd (upd (upd (upd (upd (upd (upd (upd (upd (upd (upd (upd (upd (upd (upd (upd (upd (upd (upd (upd (upd (upd (upd (upd (upd (upd (upd (upd (upd (upd (upd (upd (upd (upd (upd (fun _ => 0) 0 0) 1 0) 2 0) 3 0) 4 0) 5 0) 6 0) 7 0) 8 0) 9 0) 10 0) 11 0) 12 0) 13 0) 14 0) 15 0) 16 0) 17 0) 18 0) 19 0) 20 0) 21 0) 22 0) 23 0) 24 0) 25 0) 26 0) 27 0) 28 0) 29 0) 30 0) 31 0) 32 0) 33 0) 34 0) 35 0) 36 0) 37 0) 38 0) 39 0))), ((q 15), .inl (cI, 80, .inl (upd (upd (upd (upd (upd (upd f2 0 0) 1 0) 2 0) 3 0) 4 0) 5 0))), ((q 0), .inr (12, (mo q)))] := hD
  refine lv_iinc (v := 6) (lv' := [(1, .int 6), (0, .ref (q 0))]) hx hb dX12_back_89 hl (k := 0) rfl (by decide +kernel) (by decide) rfl (fun ls hl => ?_)
  refine lv_goto (tgt := 63) hx hb dX12_back_92 (by decide) ?_
  refine lv_iload_n hx hb dX12_back_63 rfl (lv_at hl 0 rfl) ?_
  refine lv_bipush (v := 40) hx hb dX12_back_64 (by decide +kernel) ?_
  refine lv_icmp_ge (tgt := 95) hx hb dX12_back_66 (by decide) (fun c => absurd c (by decide +kernel)) (fun _ => ?_)
  refine lv_aload_n hx hb dX12_back_69 rfl (lv_at hl 1 rfl) ?_
  refine va_get (D := (dC, dI)) (ci := 12) (v := .ref (q 15)) (C := RX12) (T := TX12) (N := 85) hx hb hts hiX12 hown hK hP 6 rfl rfl 26 (by decide) (hts _ (List.mem_of_getElem? (i := 11) rfl)) (fun _ h9 => h9) rfl dX12_back_70 ?_
  refine lv_bipush (v := 40) hx hb dX12_back_73 (by decide +kernel) ?_
  refine lv_aload_n hx hb dX12_back_75 rfl (lv_at hl 1 rfl) ?_
  refine va_get (D := (dC, dI)) (ci := 12) (v := .int 0) (C := RX12) (T := TX12) (N := 85) hx hb hts hiX12 hown hK hP 6 rfl rfl 12 (by decide) (hts _ (List.mem_of_getElem? (i := 2) rfl)) (fun _ h9 => h9) rfl dX12_back_76 ?_
  refine lv_imul hx hb dX12_back_79 ?_
  refine tp_i (y := 0) (by decide +kernel) ?_
  refine lv_iload_n hx hb dX12_back_80 rfl (lv_at hl 0 rfl) ?_
  refine lv_iadd hx hb dX12_back_81 ?_
  refine tp_i (y := 6) (by decide +kernel) ?_
  refine lv_aload_n hx hb dX12_back_82 rfl (lv_at hl 1 rfl) ?_
  refine va_get (D := (dC, dI)) (ci := 12) (v := .ref (q 46)) (C := RX12) (T := TX12) (N := 85) hx hb hts hiX12 hown hK hP 6 rfl rfl 63 (by decide) (hts _ (List.mem_of_getElem? (i := 12) rfl)) (fun _ h9 => h9) rfl dX12_back_83 ?_
  refine lv_iload_n hx hb dX12_back_86 rfl (lv_at hl 0 rfl) ?_
  refine va_iald hx hb hK hP 4 1 rfl rfl (vpc _ _ (by decide +kernel)) dX12_back_87 ?_
  refine tp_i (y := 0) rfl ?_
  refine va_iast hx hb hK hP hD hS 5 1 rfl rfl (vpc _ _ (by decide +kernel)) dX12_back_88 (fun H locs hP hD hS => ?_)
  have hP : va_P (dC, dI) vwCl [((q 44), .inl (cI, 3, .inl (upd (upd (upd (fun _ => 0) 0 0) 1 0) 2 0))), ((q 18), .inl (cI, 6, .inl (upd (upd (upd f0 0 0) 1 0) 2 0))), ((q 45), .inl (cI, 4, .inl (upd (upd (upd (upd (fun _ => 0) 0 0) 1 0) 2 0) 3 0))), ((q 14), .inl (cI, 8, .inl (upd (upd (upd (upd f1 0 0) 1 0) 2 0) 3 0))), ((q 46), .inl (cI, 40, .inl (upd (upd (upd (upd (upd (upd (upd (upd (upd (upd (upd (upd (upd (upd (upd (upd (upd (upd (upd (upd (upd (upd (upd (upd (upd (upd (upd (upd (upd (upd (upd (upd (upd (upd (upd (upd (upd (upd (upd (upd (fun _ => 0) 0 0) 1 0) 2 0) 3 0) 4 0) 5 0) 6 0) 7 0) 8 0) 9 0) 10 0) 11 0) 12 0) 13 0) 14 0) 15 0) 16 0) 17 0) 18 0) 19 0) 20 0) 21 0) 22 0) 23 0) 24 0) 25 0) 26 0) 27 0) 28 0) 29 0) 30 0) 31 0) 32 0) 33 0) 34 0) 35 0) 36 0) 37 0) 38 0) 39 0))), ((q 15), .inl (cI, 80, .inl (upd (upd (upd (upd (upd (upd (upd f2 0 0) 1 0) 2 0) 3 0) 4 0) 5 0) 6 0))), ((q 0), .inr (12, (mo q)))] H := hP
  have hD : va_D A [((q 44), .inl (cI, 3, .inl (upd (upd (upd (fun _ => 0) 0 0) 1 0) 2 0))), ((q 18), .inl (cI, 6, .inl (upd (upd (upd f0 0 0) 1 0) 2 0))), ((q 45), .inl (cI, 4, .inl (upd (upd (upd (upd (fun _ => 0) 0 0) 1 0) 2 0) 3 0))), ((q 14), .inl (cI, 8, .inl (upd (upd (upd (upd f1 0 0) 1 0) 2 0) 3 0))), ((q 46), .inl (cI, 40, .inl (upd (upd (upd (upd (upd (upd (upd (upd (upd (upd (upd (upd (upd (upd (upd (upd (upd (upd (upd (upd (upd (upd (upd (upd (upd (upd (upd (upd (upd (upd (upd (upd (upd (upd (upd (upd (upd (upd (upd (upd (fun _ => 0) 0 0) 1 0) 2 0) 3 0) 4 0) 5 0) 6 0) 7 0) 8 0) 9 0) 10 0) 11 0) 12 0) 13 0) 14 0) 15 0) 16 0) 17 0) 18 0) 19 0) 20 0) 21 0) 22 0) 23 0) 24 0) 25 0) 26 0) 27 0) 28 0) 29 0) 30 0) 31 0) 32 0) 33 0) 34 0) 35 0) 36 0) 37 0) 38 0) 39 0))), ((q 15), .inl (cI, 80, .inl (upd (upd (upd (upd (upd (upd (upd f2 0 0) 1 0) 2 0) 3 0) 4 0) 5 0) 6 0))), ((q 0), .inr (12, (mo q)))] := hD
  refine lv_iinc (v := 7) (lv' := [(1, .int 7), (0, .ref (q 0))]) hx hb dX12_back_89 hl (k := 0) rfl (by decide +kernel) (by decide) rfl (fun ls hl => ?_)
  refine lv_goto (tgt := 63) hx hb dX12_back_92 (by decide) ?_
  refine lv_iload_n hx hb dX12_back_63 rfl (lv_at hl 0 rfl) ?_
  refine lv_bipush (v := 40) hx hb dX12_back_64 (by decide +kernel) ?_
  refine lv_icmp_ge (tgt := 95) hx hb dX12_back_66 (by decide) (fun c => absurd c (by decide +kernel)) (fun _ => ?_)
  refine lv_aload_n hx hb dX12_back_69 rfl (lv_at hl 1 rfl) ?_
  refine va_get (D := (dC, dI)) (ci := 12) (v := .ref (q 15)) (C := RX12) (T := TX12) (N := 85) hx hb hts hiX12 hown hK hP 6 rfl rfl 26 (by decide) (hts _ (List.mem_of_getElem? (i := 11) rfl)) (fun _ h9 => h9) rfl dX12_back_70 ?_
  refine lv_bipush (v := 40) hx hb dX12_back_73 (by decide +kernel) ?_
  refine lv_aload_n hx hb dX12_back_75 rfl (lv_at hl 1 rfl) ?_
  refine va_get (D := (dC, dI)) (ci := 12) (v := .int 0) (C := RX12) (T := TX12) (N := 85) hx hb hts hiX12 hown hK hP 6 rfl rfl 12 (by decide) (hts _ (List.mem_of_getElem? (i := 2) rfl)) (fun _ h9 => h9) rfl dX12_back_76 ?_
  refine lv_imul hx hb dX12_back_79 ?_
  refine tp_i (y := 0) (by decide +kernel) ?_
  refine lv_iload_n hx hb dX12_back_80 rfl (lv_at hl 0 rfl) ?_
  refine lv_iadd hx hb dX12_back_81 ?_
  refine tp_i (y := 7) (by decide +kernel) ?_
  refine lv_aload_n hx hb dX12_back_82 rfl (lv_at hl 1 rfl) ?_
  refine va_get (D := (dC, dI)) (ci := 12) (v := .ref (q 46)) (C := RX12) (T := TX12) (N := 85) hx hb hts hiX12 hown hK hP 6 rfl rfl 63 (by decide) (hts _ (List.mem_of_getElem? (i := 12) rfl)) (fun _ h9 => h9) rfl dX12_back_83 ?_
  refine lv_iload_n hx hb dX12_back_86 rfl (lv_at hl 0 rfl) ?_
  refine va_iald hx hb hK hP 4 1 rfl rfl (vpc _ _ (by decide +kernel)) dX12_back_87 ?_
  refine tp_i (y := 0) rfl ?_
  refine va_iast hx hb hK hP hD hS 5 1 rfl rfl (vpc _ _ (by decide +kernel)) dX12_back_88 (fun H locs hP hD hS => ?_)
  have hP : va_P (dC, dI) vwCl [((q 44), .inl (cI, 3, .inl (upd (upd (upd (fun _ => 0) 0 0) 1 0) 2 0))), ((q 18), .inl (cI, 6, .inl (upd (upd (upd f0 0 0) 1 0) 2 0))), ((q 45), .inl (cI, 4, .inl (upd (upd (upd (upd (fun _ => 0) 0 0) 1 0) 2 0) 3 0))), ((q 14), .inl (cI, 8, .inl (upd (upd (upd (upd f1 0 0) 1 0) 2 0) 3 0))), ((q 46), .inl (cI, 40, .inl (upd (upd (upd (upd (upd (upd (upd (upd (upd (upd (upd (upd (upd (upd (upd (upd (upd (upd (upd (upd (upd (upd (upd (upd (upd (upd (upd (upd (upd (upd (upd (upd (upd (upd (upd (upd (upd (upd (upd (upd (fun _ => 0) 0 0) 1 0) 2 0) 3 0) 4 0) 5 0) 6 0) 7 0) 8 0) 9 0) 10 0) 11 0) 12 0) 13 0) 14 0) 15 0) 16 0) 17 0) 18 0) 19 0) 20 0) 21 0) 22 0) 23 0) 24 0) 25 0) 26 0) 27 0) 28 0) 29 0) 30 0) 31 0) 32 0) 33 0) 34 0) 35 0) 36 0) 37 0) 38 0) 39 0))), ((q 15), .inl (cI, 80, .inl (upd (upd (upd (upd (upd (upd (upd (upd f2 0 0) 1 0) 2 0) 3 0) 4 0) 5 0) 6 0) 7 0))), ((q 0), .inr (12, (mo q)))] H := hP
  have hD : va_D A [((q 44), .inl (cI, 3, .inl (upd (upd (upd (fun _ => 0) 0 0) 1 0) 2 0))), ((q 18), .inl (cI, 6, .inl (upd (upd (upd f0 0 0) 1 0) 2 0))), ((q 45), .inl (cI, 4, .inl (upd (upd (upd (upd (fun _ => 0) 0 0) 1 0) 2 0) 3 0))), ((q 14), .inl (cI, 8, .inl (upd (upd (upd (upd f1 0 0) 1 0) 2 0) 3 0))), ((q 46), .inl (cI, 40, .inl (upd (upd (upd (upd (upd (upd (upd (upd (upd (upd (upd (upd (upd (upd (upd (upd (upd (upd (upd (upd (upd (upd (upd (upd (upd (upd (upd (upd (upd (upd (upd (upd (upd (upd (upd (upd (upd (upd (upd (upd (fun _ => 0) 0 0) 1 0) 2 0) 3 0) 4 0) 5 0) 6 0) 7 0) 8 0) 9 0) 10 0) 11 0) 12 0) 13 0) 14 0) 15 0) 16 0) 17 0) 18 0) 19 0) 20 0) 21 0) 22 0) 23 0) 24 0) 25 0) 26 0) 27 0) 28 0) 29 0) 30 0) 31 0) 32 0) 33 0) 34 0) 35 0) 36 0) 37 0) 38 0) 39 0))), ((q 15), .inl (cI, 80, .inl (upd (upd (upd (upd (upd (upd (upd (upd f2 0 0) 1 0) 2 0) 3 0) 4 0) 5 0) 6 0) 7 0))), ((q 0), .inr (12, (mo q)))] := hD
  refine lv_iinc (v := 8) (lv' := [(1, .int 8), (0, .ref (q 0))]) hx hb dX12_back_89 hl (k := 0) rfl (by decide +kernel) (by decide) rfl (fun ls hl => ?_)
  refine lv_goto (tgt := 63) hx hb dX12_back_92 (by decide) ?_
  refine lv_iload_n hx hb dX12_back_63 rfl (lv_at hl 0 rfl) ?_
  refine lv_bipush (v := 40) hx hb dX12_back_64 (by decide +kernel) ?_
  refine lv_icmp_ge (tgt := 95) hx hb dX12_back_66 (by decide) (fun c => absurd c (by decide +kernel)) (fun _ => ?_)
  refine lv_aload_n hx hb dX12_back_69 rfl (lv_at hl 1 rfl) ?_
  refine va_get (D := (dC, dI)) (ci := 12) (v := .ref (q 15)) (C := RX12) (T := TX12) (N := 85) hx hb hts hiX12 hown hK hP 6 rfl rfl 26 (by decide) (hts _ (List.mem_of_getElem? (i := 11) rfl)) (fun _ h9 => h9) rfl dX12_back_70 ?_
  refine lv_bipush (v := 40) hx hb dX12_back_73 (by decide +kernel) ?_
  refine lv_aload_n hx hb dX12_back_75 rfl (lv_at hl 1 rfl) ?_
  refine va_get (D := (dC, dI)) (ci := 12) (v := .int 0) (C := RX12) (T := TX12) (N := 85) hx hb hts hiX12 hown hK hP 6 rfl rfl 12 (by decide) (hts _ (List.mem_of_getElem? (i := 2) rfl)) (fun _ h9 => h9) rfl dX12_back_76 ?_
  refine lv_imul hx hb dX12_back_79 ?_
  refine tp_i (y := 0) (by decide +kernel) ?_
  refine lv_iload_n hx hb dX12_back_80 rfl (lv_at hl 0 rfl) ?_
  refine lv_iadd hx hb dX12_back_81 ?_
  refine tp_i (y := 8) (by decide +kernel) ?_
  refine lv_aload_n hx hb dX12_back_82 rfl (lv_at hl 1 rfl) ?_
  refine va_get (D := (dC, dI)) (ci := 12) (v := .ref (q 46)) (C := RX12) (T := TX12) (N := 85) hx hb hts hiX12 hown hK hP 6 rfl rfl 63 (by decide) (hts _ (List.mem_of_getElem? (i := 12) rfl)) (fun _ h9 => h9) rfl dX12_back_83 ?_
  refine lv_iload_n hx hb dX12_back_86 rfl (lv_at hl 0 rfl) ?_
  refine va_iald hx hb hK hP 4 1 rfl rfl (vpc _ _ (by decide +kernel)) dX12_back_87 ?_
  refine tp_i (y := 0) rfl ?_
  refine va_iast hx hb hK hP hD hS 5 1 rfl rfl (vpc _ _ (by decide +kernel)) dX12_back_88 (fun H locs hP hD hS => ?_)
  have hP : va_P (dC, dI) vwCl [((q 44), .inl (cI, 3, .inl (upd (upd (upd (fun _ => 0) 0 0) 1 0) 2 0))), ((q 18), .inl (cI, 6, .inl (upd (upd (upd f0 0 0) 1 0) 2 0))), ((q 45), .inl (cI, 4, .inl (upd (upd (upd (upd (fun _ => 0) 0 0) 1 0) 2 0) 3 0))), ((q 14), .inl (cI, 8, .inl (upd (upd (upd (upd f1 0 0) 1 0) 2 0) 3 0))), ((q 46), .inl (cI, 40, .inl (upd (upd (upd (upd (upd (upd (upd (upd (upd (upd (upd (upd (upd (upd (upd (upd (upd (upd (upd (upd (upd (upd (upd (upd (upd (upd (upd (upd (upd (upd (upd (upd (upd (upd (upd (upd (upd (upd (upd (upd (fun _ => 0) 0 0) 1 0) 2 0) 3 0) 4 0) 5 0) 6 0) 7 0) 8 0) 9 0) 10 0) 11 0) 12 0) 13 0) 14 0) 15 0) 16 0) 17 0) 18 0) 19 0) 20 0) 21 0) 22 0) 23 0) 24 0) 25 0) 26 0) 27 0) 28 0) 29 0) 30 0) 31 0) 32 0) 33 0) 34 0) 35 0) 36 0) 37 0) 38 0) 39 0))), ((q 15), .inl (cI, 80, .inl (upd (upd (upd (upd (upd (upd (upd (upd (upd f2 0 0) 1 0) 2 0) 3 0) 4 0) 5 0) 6 0) 7 0) 8 0))), ((q 0), .inr (12, (mo q)))] H := hP
  have hD : va_D A [((q 44), .inl (cI, 3, .inl (upd (upd (upd (fun _ => 0) 0 0) 1 0) 2 0))), ((q 18), .inl (cI, 6, .inl (upd (upd (upd f0 0 0) 1 0) 2 0))), ((q 45), .inl (cI, 4, .inl (upd (upd (upd (upd (fun _ => 0) 0 0) 1 0) 2 0) 3 0))), ((q 14), .inl (cI, 8, .inl (upd (upd (upd (upd f1 0 0) 1 0) 2 0) 3 0))), ((q 46), .inl (cI, 40, .inl (upd (upd (upd (upd (upd (upd (upd (upd (upd (upd (upd (upd (upd (upd (upd (upd (upd (upd (upd (upd (upd (upd (upd (upd (upd (upd (upd (upd (upd (upd (upd (upd (upd (upd (upd (upd (upd (upd (upd (upd (fun _ => 0) 0 0) 1 0) 2 0) 3 0) 4 0) 5 0) 6 0) 7 0) 8 0) 9 0) 10 0) 11 0) 12 0) 13 0) 14 0) 15 0) 16 0) 17 0) 18 0) 19 0) 20 0) 21 0) 22 0) 23 0) 24 0) 25 0) 26 0) 27 0) 28 0) 29 0) 30 0) 31 0) 32 0) 33 0) 34 0) 35 0) 36 0) 37 0) 38 0) 39 0))), ((q 15), .inl (cI, 80, .inl (upd (upd (upd (upd (upd (upd (upd (upd (upd f2 0 0) 1 0) 2 0) 3 0) 4 0) 5 0) 6 0) 7 0) 8 0))), ((q 0), .inr (12, (mo q)))] := hD
  refine lv_iinc (v := 9) (lv' := [(1, .int 9), (0, .ref (q 0))]) hx hb dX12_back_89 hl (k := 0) rfl (by decide +kernel) (by decide) rfl (fun ls hl => ?_)
  refine lv_goto (tgt := 63) hx hb dX12_back_92 (by decide) ?_
  refine lv_iload_n hx hb dX12_back_63 rfl (lv_at hl 0 rfl) ?_
  refine lv_bipush (v := 40) hx hb dX12_back_64 (by decide +kernel) ?_
  refine lv_icmp_ge (tgt := 95) hx hb dX12_back_66 (by decide) (fun c => absurd c (by decide +kernel)) (fun _ => ?_)
  refine lv_aload_n hx hb dX12_back_69 rfl (lv_at hl 1 rfl) ?_
  refine va_get (D := (dC, dI)) (ci := 12) (v := .ref (q 15)) (C := RX12) (T := TX12) (N := 85) hx hb hts hiX12 hown hK hP 6 rfl rfl 26 (by decide) (hts _ (List.mem_of_getElem? (i := 11) rfl)) (fun _ h9 => h9) rfl dX12_back_70 ?_
  refine lv_bipush (v := 40) hx hb dX12_back_73 (by decide +kernel) ?_
  refine lv_aload_n hx hb dX12_back_75 rfl (lv_at hl 1 rfl) ?_
  refine va_get (D := (dC, dI)) (ci := 12) (v := .int 0) (C := RX12) (T := TX12) (N := 85) hx hb hts hiX12 hown hK hP 6 rfl rfl 12 (by decide) (hts _ (List.mem_of_getElem? (i := 2) rfl)) (fun _ h9 => h9) rfl dX12_back_76 ?_
  refine lv_imul hx hb dX12_back_79 ?_
  refine tp_i (y := 0) (by decide +kernel) ?_
  refine lv_iload_n hx hb dX12_back_80 rfl (lv_at hl 0 rfl) ?_
  refine lv_iadd hx hb dX12_back_81 ?_
  refine tp_i (y := 9) (by decide +kernel) ?_
  refine lv_aload_n hx hb dX12_back_82 rfl (lv_at hl 1 rfl) ?_
  refine va_get (D := (dC, dI)) (ci := 12) (v := .ref (q 46)) (C := RX12) (T := TX12) (N := 85) hx hb hts hiX12 hown hK hP 6 rfl rfl 63 (by decide) (hts _ (List.mem_of_getElem? (i := 12) rfl)) (fun _ h9 => h9) rfl dX12_back_83 ?_
  refine lv_iload_n hx hb dX12_back_86 rfl (lv_at hl 0 rfl) ?_
  refine va_iald hx hb hK hP 4 1 rfl rfl (vpc _ _ (by decide +kernel)) dX12_back_87 ?_
  refine tp_i (y := 0) rfl ?_
  refine va_iast hx hb hK hP hD hS 5 1 rfl rfl (vpc _ _ (by decide +kernel)) dX12_back_88 (fun H locs hP hD hS => ?_)
  have hP : va_P (dC, dI) vwCl [((q 44), .inl (cI, 3, .inl (upd (upd (upd (fun _ => 0) 0 0) 1 0) 2 0))), ((q 18), .inl (cI, 6, .inl (upd (upd (upd f0 0 0) 1 0) 2 0))), ((q 45), .inl (cI, 4, .inl (upd (upd (upd (upd (fun _ => 0) 0 0) 1 0) 2 0) 3 0))), ((q 14), .inl (cI, 8, .inl (upd (upd (upd (upd f1 0 0) 1 0) 2 0) 3 0))), ((q 46), .inl (cI, 40, .inl (upd (upd (upd (upd (upd (upd (upd (upd (upd (upd (upd (upd (upd (upd (upd (upd (upd (upd (upd (upd (upd (upd (upd (upd (upd (upd (upd (upd (upd (upd (upd (upd (upd (upd (upd (upd (upd (upd (upd (upd (fun _ => 0) 0 0) 1 0) 2 0) 3 0) 4 0) 5 0) 6 0) 7 0) 8 0) 9 0) 10 0) 11 0) 12 0) 13 0) 14 0) 15 0) 16 0) 17 0) 18 0) 19 0) 20 0) 21 0) 22 0) 23 0) 24 0) 25 0) 26 0) 27 0) 28 0) 29 0) 30 0) 31 0) 32 0) 33 0) 34 0) 35 0) 36 0) 37 0) 38 0) 39 0))), ((q 15), .inl (cI, 80, .inl (upd (upd (upd (upd (upd (upd (upd (upd (upd (upd f2 0 0) 1 0) 2 0) 3 0) 4 0) 5 0) 6 0) 7 0) 8 0) 9 0))), ((q 0), .inr (12, (mo q)))] H := hP
  have hD : va_D A [((q 44), .inl (cI, 3, .inl (upd (upd (upd (fun _ => 0) 0 0) 1 0) 2 0))), ((q 18), .inl (cI, 6, .inl (upd (upd (upd f0 0 0) 1 0) 2 0))), ((q 45), .inl (cI, 4, .inl (upd (upd (upd (upd (fun _ => 0) 0 0) 1 0) 2 0) 3 0))), ((q 14), .inl (cI, 8, .inl (upd (upd (upd (upd f1 0 0) 1 0) 2 0) 3 0))), ((q 46), .inl (cI, 40, .inl (upd (upd (upd (upd (upd (upd (upd (upd (upd (upd (upd (upd (upd (upd (upd (upd (upd (upd (upd (upd (upd (upd (upd (upd (upd (upd (upd (upd (upd (upd (upd (upd (upd (upd (upd (upd (upd (upd (upd (upd (fun _ => 0) 0 0) 1 0) 2 0) 3 0) 4 0) 5 0) 6 0) 7 0) 8 0) 9 0) 10 0) 11 0) 12 0) 13 0) 14 0) 15 0) 16 0) 17 0) 18 0) 19 0) 20 0) 21 0) 22 0) 23 0) 24 0) 25 0) 26 0) 27 0) 28 0) 29 0) 30 0) 31 0) 32 0) 33 0) 34 0) 35 0) 36 0) 37 0) 38 0) 39 0))), ((q 15), .inl (cI, 80, .inl (upd (upd (upd (upd (upd (upd (upd (upd (upd (upd f2 0 0) 1 0) 2 0) 3 0) 4 0) 5 0) 6 0) 7 0) 8 0) 9 0))), ((q 0), .inr (12, (mo q)))] := hD
  refine lv_iinc (v := 10) (lv' := [(1, .int 10), (0, .ref (q 0))]) hx hb dX12_back_89 hl (k := 0) rfl (by decide +kernel) (by decide) rfl (fun ls hl => ?_)
  refine lv_goto (tgt := 63) hx hb dX12_back_92 (by decide) ?_
  refine lv_iload_n hx hb dX12_back_63 rfl (lv_at hl 0 rfl) ?_
  refine lv_bipush (v := 40) hx hb dX12_back_64 (by decide +kernel) ?_
  refine lv_icmp_ge (tgt := 95) hx hb dX12_back_66 (by decide) (fun c => absurd c (by decide +kernel)) (fun _ => ?_)
  refine lv_aload_n hx hb dX12_back_69 rfl (lv_at hl 1 rfl) ?_
  refine va_get (D := (dC, dI)) (ci := 12) (v := .ref (q 15)) (C := RX12) (T := TX12) (N := 85) hx hb hts hiX12 hown hK hP 6 rfl rfl 26 (by decide) (hts _ (List.mem_of_getElem? (i := 11) rfl)) (fun _ h9 => h9) rfl dX12_back_70 ?_
  refine lv_bipush (v := 40) hx hb dX12_back_73 (by decide +kernel) ?_
  refine lv_aload_n hx hb dX12_back_75 rfl (lv_at hl 1 rfl) ?_
  refine va_get (D := (dC, dI)) (ci := 12) (v := .int 0) (C := RX12) (T := TX12) (N := 85) hx hb hts hiX12 hown hK hP 6 rfl rfl 12 (by decide) (hts _ (List.mem_of_getElem? (i := 2) rfl)) (fun _ h9 => h9) rfl dX12_back_76 ?_
  refine lv_imul hx hb dX12_back_79 ?_
  refine tp_i (y := 0) (by decide +kernel) ?_
  refine lv_iload_n hx hb dX12_back_80 rfl (lv_at hl 0 rfl) ?_
  refine lv_iadd hx hb dX12_back_81 ?_
  refine tp_i (y := 10) (by decide +kernel) ?_
  refine lv_aload_n hx hb dX12_back_82 rfl (lv_at hl 1 rfl) ?_
  refine va_get (D := (dC, dI)) (ci := 12) (v := .ref (q 46)) (C := RX12) (T := TX12) (N := 85) hx hb hts hiX12 hown hK hP 6 rfl rfl 63 (by decide) (hts _ (List.mem_of_getElem? (i := 12) rfl)) (fun _ h9 => h9) rfl dX12_back_83 ?_
  refine lv_iload_n hx hb dX12_back_86 rfl (lv_at hl 0 rfl) ?_
  refine va_iald hx hb hK hP 4 1 rfl rfl (vpc _ _ (by decide +kernel)) dX12_back_87 ?_
  refine tp_i (y := 0) rfl ?_
  refine va_iast hx hb hK hP hD hS 5 1 rfl rfl (vpc _ _ (by decide +kernel)) dX12_back_88 (fun H locs hP hD hS => ?_)
  have hP : va_P (dC, dI) vwCl [((q 44), .inl (cI, 3, .inl (upd (upd (upd (fun _ => 0) 0 0) 1 0) 2 0))), ((q 18), .inl (cI, 6, .inl (upd (upd (upd f0 0 0) 1 0) 2 0))), ((q 45), .inl (cI, 4, .inl (upd (upd (upd (upd (fun _ => 0) 0 0) 1 0) 2 0) 3 0))), ((q 14), .inl (cI, 8, .inl (upd (upd (upd (upd f1 0 0) 1 0) 2 0) 3 0))), ((q 46), .inl (cI, 40, .inl (upd (upd (upd (upd (upd (upd (upd (upd (upd (upd (upd (upd (upd (upd (upd (upd (upd (upd (upd (upd (upd (upd (upd (upd (upd (upd (upd (upd (upd (upd (upd (upd (upd (upd (upd (upd (upd (upd (upd (upd (fun _ => 0) 0 0) 1 0) 2 0) 3 0) 4 0) 5 0) 6 0) 7 0) 8 0) 9 0) 10 0) 11 0) 12 0) 13 0) 14 0) 15 0) 16 0) 17 0) 18 0) 19 0) 20 0) 21 0) 22 0) 23 0) 24 0) 25 0) 26 0) 27 0) 28 0) 29 0) 30 0) 31 0) 32 0) 33 0) 34 0) 35 0) 36 0) 37 0) 38 0) 39 0))), ((q 15), .inl (cI, 80, .inl (upd (upd (upd (upd (upd (upd (upd (upd (upd (upd (upd f2 0 0) 1 0) 2 0) 3 0) 4 0) 5 0) 6 0) 7 0) 8 0) 9 0) 10 0))), ((q 0), .inr (12, (mo q)))] H := hP
  have hD : va_D A [((q 44), .inl (cI, 3, .inl (upd (upd (upd (fun _ => 0) 0 0) 1 0) 2 0))), ((q 18), .inl (cI, 6, .inl (upd (upd (upd f0 0 0) 1 0) 2 0))), ((q 45), .inl (cI, 4, .inl (upd (upd (upd (upd (fun _ => 0) 0 0) 1 0) 2 0) 3 0))), ((q 14), .inl (cI, 8, .inl (upd (upd (upd (upd f1 0 0) 1 0) 2 0) 3 0))), ((q 46), .inl (cI, 40, .inl (upd (upd (upd (upd (upd (upd (upd (upd (upd (upd (upd (upd (upd (upd (upd (upd (upd (upd (upd (upd (upd (upd (upd (upd (upd (upd (upd (upd (upd (upd (upd (upd (upd (upd (upd (upd (upd (upd (upd (upd (fun _ => 0) 0 0) 1 0) 2 0) 3 0) 4 0) 5 0) 6 0) 7 0) 8 0) 9 0) 10 0) 11 0) 12 0) 13 0) 14 0) 15 0) 16 0) 17 0) 18 0) 19 0) 20 0) 21 0) 22 0) 23 0) 24 0) 25 0) 26 0) 27 0) 28 0) 29 0) 30 0) 31 0) 32 0) 33 0) 34 0) 35 0) 36 0) 37 0) 38 0) 39 0))), ((q 15), .inl (cI, 80, .inl (upd (upd (upd (upd (upd (upd (upd (upd (upd (upd (upd f2 0 0) 1 0) 2 0) 3 0) 4 0) 5 0) 6 0) 7 0) 8 0) 9 0) 10 0))), ((q 0), .inr (12, (mo q)))] := hD
  refine lv_iinc (v := 11) (lv' := [(1, .int 11), (0, .ref (q 0))]) hx hb dX12_back_89 hl (k := 0) rfl (by decide +kernel) (by decide) rfl (fun ls hl => ?_)
  refine lv_goto (tgt := 63) hx hb dX12_back_92 (by decide) ?_
  refine lv_iload_n hx hb dX12_back_63 rfl (lv_at hl 0 rfl) ?_
  refine lv_bipush (v := 40) hx hb dX12_back_64 (by decide +kernel) ?_
  refine lv_icmp_ge (tgt := 95) hx hb dX12_back_66 (by decide) (fun c => absurd c (by decide +kernel)) (fun _ => ?_)
  refine lv_aload_n hx hb dX12_back_69 rfl (lv_at hl 1 rfl) ?_
  refine va_get (D := (dC, dI)) (ci := 12) (v := .ref (q 15)) (C := RX12) (T := TX12) (N := 85) hx hb hts hiX12 hown hK hP 6 rfl rfl 26 (by decide) (hts _ (List.mem_of_getElem? (i := 11) rfl)) (fun _ h9 => h9) rfl dX12_back_70 ?_
  refine lv_bipush (v := 40) hx hb dX12_back_73 (by decide +kernel) ?_
  refine lv_aload_n hx hb dX12_back_75 rfl (lv_at hl 1 rfl) ?_
  refine va_get (D := (dC, dI)) (ci := 12) (v := .int 0) (C := RX12) (T := TX12) (N := 85) hx hb hts hiX12 hown hK hP 6 rfl rfl 12 (by decide) (hts _ (List.mem_of_getElem? (i := 2) rfl)) (fun _ h9 => h9) rfl dX12_back_76 ?_
  refine lv_imul hx hb dX12_back_79 ?_
  refine tp_i (y := 0) (by decide +kernel) ?_
  refine lv_iload_n hx hb dX12_back_80 rfl (lv_at hl 0 rfl) ?_
  refine lv_iadd hx hb dX12_back_81 ?_
  refine tp_i (y := 11) (by decide +kernel) ?_
  refine lv_aload_n hx hb dX12_back_82 rfl (lv_at hl 1 rfl) ?_
  refine va_get (D := (dC, dI)) (ci := 12) (v := .ref (q 46)) (C := RX12) (T := TX12) (N := 85) hx hb hts hiX12 hown hK hP 6 rfl rfl 63 (by decide) (hts _ (List.mem_of_getElem? (i := 12) rfl)) (fun _ h9 => h9) rfl dX12_back_83 ?_
  refine lv_iload_n hx hb dX12_back_86 rfl (lv_at hl 0 rfl) ?_
  refine va_iald hx hb hK hP 4 1 rfl rfl (vpc _ _ (by decide +kernel)) dX12_back_87 ?_
  refine tp_i (y := 0) rfl ?_
  refine va_iast hx hb hK hP hD hS 5 1 rfl rfl (vpc _ _ (by decide +kernel)) dX12_back_88 (fun H locs hP hD hS => ?_)
  have hP : va_P (dC, dI) vwCl [((q 44), .inl (cI, 3, .inl (upd (upd (upd (fun _ => 0) 0 0) 1 0) 2 0))), ((q 18), .inl (cI, 6, .inl (upd (upd (upd f0 0 0) 1 0) 2 0))), ((q 45), .inl (cI, 4, .inl (upd (upd (upd (upd (fun _ => 0) 0 0) 1 0) 2 0) 3 0))), ((q 14), .inl (cI, 8, .inl (upd (upd (upd (upd f1 0 0) 1 0) 2 0) 3 0))), ((q 46), .inl (cI, 40, .inl (upd (upd (upd (upd (upd (upd (upd (upd (upd (upd (upd (upd (upd (upd (upd (upd (upd (upd (upd (upd (upd (upd (upd (upd (upd (upd (upd (upd (upd (upd (upd (upd (upd (upd (upd (upd (upd (upd (upd (upd (fun _ => 0) 0 0) 1 0) 2 0) 3 0) 4 0) 5 0) 6 0) 7 0) 8 0) 9 0) 10 0) 11 0) 12 0) 13 0) 14 0) 15 0) 16 0) 17 0) 18 0) 19 0) 20 0) 21 0) 22 0) 23 0) 24 0) 25 0) 26 0) 27 0) 28 0) 29 0) 30 0) 31 0) 32 0) 33 0) 34 0) 35 0) 36 0) 37 0) 38 0) 39 0))), ((q 15), .inl (cI, 80, .inl (upd (upd (upd (upd (upd (upd (upd (upd (upd (upd (upd (upd f2 0 0) 1 0) 2 0) 3 0) 4 0) 5 0) 6 0) 7 0) 8 0) 9 0) 10 0) 11 0))), ((q 0), .inr (12, (mo q)))] H := hP
  have hD : va_D A [((q 44), .inl (cI, 3, .inl (upd (upd (upd (fun _ => 0) 0 0) 1 0) 2 0))), ((q 18), .inl (cI, 6, .inl (upd (upd (upd f0 0 0) 1 0) 2 0))), ((q 45), .inl (cI, 4, .inl (upd (upd (upd (upd (fun _ => 0) 0 0) 1 0) 2 0) 3 0))), ((q 14), .inl (cI, 8, .inl (upd (upd (upd (upd f1 0 0) 1 0) 2 0) 3 0))), ((q 46), .inl (cI, 40, .inl (upd (upd (upd (upd (upd (upd (upd (upd (upd (upd (upd (upd (upd (upd (upd (upd (upd (upd (upd (upd (upd (upd (upd (upd (upd (upd (upd (upd (upd (upd (upd (upd (upd (upd (upd (upd (upd (upd (upd (upd (fun _ => 0) 0 0) 1 0) 2 0) 3 0) 4 0) 5 0) 6 0) 7 0) 8 0) 9 0) 10 0) 11 0) 12 0) 13 0) 14 0) 15 0) 16 0) 17 0) 18 0) 19 0) 20 0) 21 0) 22 0) 23 0) 24 0) 25 0) 26 0) 27 0) 28 0) 29 0) 30 0) 31 0) 32 0) 33 0) 34 0) 35 0) 36 0) 37 0) 38 0) 39 0))), ((q 15), .inl (cI, 80, .inl (upd (upd (upd (upd (upd (upd (upd (upd (upd (upd (upd (upd f2 0 0) 1 0) 2 0) 3 0) 4 0) 5 0) 6 0) 7 0) 8 0) 9 0) 10 0) 11 0))), ((q 0), .inr (12, (mo q)))] := hD
  refine lv_iinc (v := 12) (lv' := [(1, .int 12), (0, .ref (q 0))]) hx hb dX12_back_89 hl (k := 0) rfl (by decide +kernel) (by decide) rfl (fun ls hl => ?_)
  refine lv_goto (tgt := 63) hx hb dX12_back_92 (by decide) ?_
  refine lv_iload_n hx hb dX12_back_63 rfl (lv_at hl 0 rfl) ?_
  refine lv_bipush (v := 40) hx hb dX12_back_64 (by decide +kernel) ?_
  refine lv_icmp_ge (tgt := 95) hx hb dX12_back_66 (by decide) (fun c => absurd c (by decide +kernel)) (fun _ => ?_)
  refine lv_aload_n hx hb dX12_back_69 rfl (lv_at hl 1 rfl) ?_
  refine va_get (D := (dC, dI)) (ci := 12) (v := .ref (q 15)) (C := RX12) (T := TX12) (N := 85) hx hb hts hiX12 hown hK hP 6 rfl rfl 26 (by decide) (hts _ (List.mem_of_getElem? (i := 11) rfl)) (fun _ h9 => h9) rfl dX12_back_70 ?_
  refine lv_bipush (v := 40) hx hb dX12_back_73 (by decide +kernel) ?_
  refine lv_aload_n hx hb dX12_back_75 rfl (lv_at hl 1 rfl) ?_
  refine va_get (D := (dC, dI)) (ci := 12) (v := .int 0) (C := RX12) (T := TX12) (N := 85) hx hb hts hiX12 hown hK hP 6 rfl rfl 12 (by decide) (hts _ (List.mem_of_getElem? (i := 2) rfl)) (fun _ h9 => h9) rfl dX12_back_76 ?_
  refine lv_imul hx hb dX12_back_79 ?_
  refine tp_i (y := 0) (by decide +kernel) ?_
  refine lv_iload_n hx hb dX12_back_80 rfl (lv_at hl 0 rfl) ?_
  refine lv_iadd hx hb dX12_back_81 ?_
  refine tp_i (y := 12) (by decide +kernel) ?_
  refine lv_aload_n hx hb dX12_back_82 rfl (lv_at hl 1 rfl) ?_
  refine va_get (D := (dC, dI)) (ci := 12) (v := .ref (q 46)) (C := RX12) (T := TX12) (N := 85) hx hb hts hiX12 hown hK hP 6 rfl rfl 63 (by decide) (hts _ (List.mem_of_getElem? (i := 12) rfl)) (fun _ h9 => h9) rfl dX12_back_83 ?_
  refine lv_iload_n hx hb dX12_back_86 rfl (lv_at hl 0 rfl) ?_
  refine va_iald hx hb hK hP 4 1 rfl rfl (vpc _ _ (by decide +kernel)) dX12_back_87 ?_
  refine tp_i (y := 0) rfl ?_
  refine va_iast hx hb hK hP hD hS 5 1 rfl rfl (vpc _ _ (by decide +kernel)) dX12_back_88 (fun H locs hP hD hS => ?_)
  have hP : va_P (dC, dI) vwCl [((q 44), .inl (cI, 3, .inl (upd (upd (upd (fun _ => 0) 0 0) 1 0) 2 0))), ((q 18), .inl (cI, 6, .inl (upd (upd (upd f0 0 0) 1 0) 2 0))), ((q 45), .inl (cI, 4, .inl (upd (upd (upd (upd (fun _ => 0) 0 0) 1 0) 2 0) 3 0))), ((q 14), .inl (cI, 8, .inl (upd (upd (upd (upd f1 0 0) 1 0) 2 0) 3 0))), ((q 46), .inl (cI, 40, .inl (upd (upd (upd (upd (upd (upd (upd (upd (upd (upd (upd (upd (upd (upd (upd (upd (upd (upd (upd (upd (upd (upd (upd (upd (upd (upd (upd (upd (upd (upd (upd (upd (upd (upd (upd (upd (upd (upd (upd (upd (fun _ => 0) 0 0) 1 0) 2 0) 3 0) 4 0) 5 0) 6 0) 7 0) 8 0) 9 0) 10 0) 11 0) 12 0) 13 0) 14 0) 15 0) 16 0) 17 0) 18 0) 19 0) 20 0) 21 0) 22 0) 23 0) 24 0) 25 0) 26 0) 27 0) 28 0) 29 0) 30 0) 31 0) 32 0) 33 0) 34 0) 35 0) 36 0) 37 0) 38 0) 39 0))), ((q 15), .inl (cI, 80, .inl (upd (upd (upd (upd (upd (upd (upd (upd (upd (upd (upd (upd (upd f2 0 0) 1 0) 2 0) 3 0) 4 0) 5 0) 6 0) 7 0) 8 0) 9 0) 10 0) 11 0) 12 0))), ((q 0), .inr (12, (mo q)))] H := hP
  have hD : va_D A [((q 44), .inl (cI, 3, .inl (upd (upd (upd (fun _ => 0) 0 0) 1 0) 2 0))), ((q 18), .inl (cI, 6, .inl (upd (upd (upd f0 0 0) 1 0) 2 0))), ((q 45), .inl (cI, 4, .inl (upd (upd (upd (upd (fun _ => 0) 0 0) 1 0) 2 0) 3 0))), ((q 14), .inl (cI, 8, .inl (upd (upd (upd (upd f1 0 0) 1 0) 2 0) 3 0))), ((q 46), .inl (cI, 40, .inl (upd (upd (upd (upd (upd (upd (upd (upd (upd (upd (upd (upd (upd (upd (upd (upd (upd (upd (upd (upd (upd (upd (upd (upd (upd (upd (upd (upd (upd (upd (upd (upd (upd (upd (upd (upd (upd (upd (upd (upd (fun _ => 0) 0 0) 1 0) 2 0) 3 0) 4 0) 5 0) 6 0) 7 0) 8 0) 9 0) 10 0) 11 0) 12 0) 13 0) 14 0) 15 0) 16 0) 17 0) 18 0) 19 0) 20 0) 21 0) 22 0) 23 0) 24 0) 25 0) 26 0) 27 0) 28 0) 29 0) 30 0) 31 0) 32 0) 33 0) 34 0) 35 0) 36 0) 37 0) 38 0) 39 0))), ((q 15), .inl (cI, 80, .inl (upd (upd (upd (upd (upd (upd (upd (upd (upd (upd (upd (upd (upd f2 0 0) 1 0) 2 0) 3 0) 4 0) 5 0) 6 0) 7 0) 8 0) 9 0) 10 0) 11 0) 12 0))), ((q 0), .inr (12, (mo q)))] := hD
  refine lv_iinc (v := 13) (lv' := [(1, .int 13), (0, .ref (q 0))]) hx hb dX12_back_89 hl (k := 0) rfl (by decide +kernel) (by decide) rfl (fun ls hl => ?_)
  refine lv_goto (tgt := 63) hx hb dX12_back_92 (by decide) ?_
  refine lv_iload_n hx hb dX12_back_63 rfl (lv_at hl 0 rfl) ?_
  refine lv_bipush (v := 40) hx hb dX12_back_64 (by decide +kernel) ?_
  refine lv_icmp_ge (tgt := 95) hx hb dX12_back_66 (by decide) (fun c => absurd c (by decide +kernel)) (fun _ => ?_)
  refine lv_aload_n hx hb dX12_back_69 rfl (lv_at hl 1 rfl) ?_
  refine va_get (D := (dC, dI)) (ci := 12) (v := .ref (q 15)) (C := RX12) (T := TX12) (N := 85) hx hb hts hiX12 hown hK hP 6 rfl rfl 26 (by decide) (hts _ (List.mem_of_getElem? (i := 11) rfl)) (fun _ h9 => h9) rfl dX12_back_70 ?_
  refine lv_bipush (v := 40) hx hb dX12_back_73 (by decide +kernel) ?_
  refine lv_aload_n hx hb dX12_back_75 rfl (lv_at hl 1 rfl) ?_
  refine va_get (D := (dC, dI)) (ci := 12) (v := .int 0) (C := RX12) (T := TX12) (N := 85) hx hb hts hiX12 hown hK hP 6 rfl rfl 12 (by decide) (hts _ (List.mem_of_getElem? (i := 2) rfl)) (fun _ h9 => h9) rfl dX12_back_76 ?_
  refine lv_imul hx hb dX12_back_79 ?_
  refine tp_i (y := 0) (by decide +kernel) ?_
  refine lv_iload_n hx hb dX12_back_80 rfl (lv_at hl 0 rfl) ?_
  refine lv_iadd hx hb dX12_back_81 ?_
  refine tp_i (y := 13) (by decide +kernel) ?_
  refine lv_aload_n hx hb dX12_back_82 rfl (lv_at hl 1 rfl) ?_
  refine va_get (D := (dC, dI)) (ci := 12) (v := .ref (q 46)) (C := RX12) (T := TX12) (N := 85) hx hb hts hiX12 hown hK hP 6 rfl rfl 63 (by decide) (hts _ (List.mem_of_getElem? (i := 12) rfl)) (fun _ h9 => h9) rfl dX12_back_83 ?_
  refine lv_iload_n hx hb dX12_back_86 rfl (lv_at hl 0 rfl) ?_
  refine va_iald hx hb hK hP 4 1 rfl rfl (vpc _ _ (by decide +kernel)) dX12_back_87 ?_
  refine tp_i (y := 0) rfl ?_
  refine va_iast hx hb hK hP hD hS 5 1 rfl rfl (vpc _ _ (by decide +kernel)) dX12_back_88 (fun H locs hP hD hS => ?_)
  have hP : va_P (dC, dI) vwCl [((q 44), .inl (cI, 3, .inl (upd (upd (upd (fun _ => 0) 0 0) 1 0) 2 0))), ((q 18), .inl (cI, 6, .inl (upd (upd (upd f0 0 0) 1 0) 2 0))), ((q 45), .inl (cI, 4, .inl (upd (upd (upd (upd (fun _ => 0) 0 0) 1 0) 2 0) 3 0))), ((q 14), .inl (cI, 8, .inl (upd (upd (upd (upd f1 0 0) 1 0) 2 0) 3 0))), ((q 46), .inl (cI, 40, .inl (upd (upd (upd (upd (upd (upd (upd (upd (upd (upd (upd (upd (upd (upd (upd (upd (upd (upd (upd (upd (upd (upd (upd (upd (upd (upd (upd (upd (upd (upd (upd (upd (upd (upd (upd (upd (upd (upd (upd (upd (fun _ => 0) 0 0) 1 0) 2 0) 3 0) 4 0) 5 0) 6 0) 7 0) 8 0) 9 0) 10 0) 11 0) 12 0) 13 0) 14 0) 15 0) 16 0) 17 0) 18 0) 19 0) 20 0) 21 0) 22 0) 23 0) 24 0) 25 0) 26 0) 27 0) 28 0) 29 0) 30 0) 31 0) 32 0) 33 0) 34 0) 35 0) 36 0) 37 0) 38 0) 39 0))), ((q 15), .inl (cI, 80, .inl (upd (upd (upd (upd (upd (upd (upd (upd (upd (upd (upd (upd (upd (upd f2 0 0) 1 0) 2 0) 3 0) 4 0) 5 0) 6 0) 7 0) 8 0) 9 0) 10 0) 11 0) 12 0) 13 0))), ((q 0), .inr (12, (mo q)))] H := hP
  have hD : va_D A [((q 44), .inl (cI, 3, .inl (upd (upd (upd (fun _ => 0) 0 0) 1 0) 2 0))), ((q 18), .inl (cI, 6, .inl (upd (upd (upd f0 0 0) 1 0) 2 0))), ((q 45), .inl (cI, 4, .inl (upd (upd (upd (upd (fun _ => 0) 0 0) 1 0) 2 0) 3 0))), ((q 14), .inl (cI, 8, .inl (upd (upd (upd (upd f1 0 0) 1 0) 2 0) 3 0))), ((q 46), .inl (cI, 40, .inl (upd (upd (upd (upd (upd (upd (upd (upd (upd (upd (upd (upd (upd (upd (upd (upd (upd (upd (upd (upd (upd (upd (upd (upd (upd (upd (upd (upd (upd (upd (upd (upd (upd (upd (upd (upd (upd (upd (upd (upd (fun _ => 0) 0 0) 1 0) 2 0) 3 0) 4 0) 5 0) 6 0) 7 0) 8 0) 9 0) 10 0) 11 0) 12 0) 13 0) 14 0) 15 0) 16 0) 17 0) 18 0) 19 0) 20 0) 21 0) 22 0) 23 0) 24 0) 25 0) 26 0) 27 0) 28 0) 29 0) 30 0) 31 0) 32 0) 33 0) 34 0) 35 0) 36 0) 37 0) 38 0) 39 0))), ((q 15), .inl (cI, 80, .inl (upd (upd (upd (upd (upd (upd (upd (upd (upd (upd (upd (upd (upd (upd f2 0 0) 1 0) 2 0) 3 0) 4 0) 5 0) 6 0) 7 0) 8 0) 9 0) 10 0) 11 0) 12 0) 13 0))), ((q 0), .inr (12, (mo q)))] := hD
  refine lv_iinc (v := 14) (lv' := [(1, .int 14), (0, .ref (q 0))]) hx hb dX12_back_89 hl (k := 0) rfl (by decide +kernel) (by decide) rfl (fun ls hl => ?_)
  refine lv_goto (tgt := 63) hx hb dX12_back_92 (by decide) ?_
  refine lv_iload_n hx hb dX12_back_63 rfl (lv_at hl 0 rfl) ?_
  refine lv_bipush (v := 40) hx hb dX12_back_64 (by decide +kernel) ?_
  refine lv_icmp_ge (tgt := 95) hx hb dX12_back_66 (by decide) (fun c => absurd c (by decide +kernel)) (fun _ => ?_)
  refine lv_aload_n hx hb dX12_back_69 rfl (lv_at hl 1 rfl) ?_
  refine va_get (D := (dC, dI)) (ci := 12) (v := .ref (q 15)) (C := RX12) (T := TX12) (N := 85) hx hb hts hiX12 hown hK hP 6 rfl rfl 26 (by decide) (hts _ (List.mem_of_getElem? (i := 11) rfl)) (fun _ h9 => h9) rfl dX12_back_70 ?_
  refine lv_bipush (v := 40) hx hb dX12_back_73 (by decide +kernel) ?_
  refine lv_aload_n hx hb dX12_back_75 rfl (lv_at hl 1 rfl) ?_
  refine va_get (D := (dC, dI)) (ci := 12) (v := .int 0) (C := RX12) (T := TX12) (N := 85) hx hb hts hiX12 hown hK hP 6 rfl rfl 12 (by decide) (hts _ (List.mem_of_getElem? (i := 2) rfl)) (fun _ h9 => h9) rfl dX12_back_76 ?_
  refine lv_imul hx hb dX12_back_79 ?_
  refine tp_i (y := 0) (by decide +kernel) ?_
  refine lv_iload_n hx hb dX12_back_80 rfl (lv_at hl 0 rfl) ?_
  refine lv_iadd hx hb dX12_back_81 ?_
  refine tp_i (y := 14) (by decide +kernel) ?_
  refine lv_aload_n hx hb dX12_back_82 rfl (lv_at hl 1 rfl) ?_
  refine va_get (D := (dC, dI)) (ci := 12) (v := .ref (q 46)) (C := RX12) (T := TX12) (N := 85) hx hb hts hiX12 hown hK hP 6 rfl rfl 63 (by decide) (hts _ (List.mem_of_getElem? (i := 12) rfl)) (fun _ h9 => h9) rfl dX12_back_83 ?_
  refine lv_iload_n hx hb dX12_back_86 rfl (lv_at hl 0 rfl) ?_
  refine va_iald hx hb hK hP 4 1 rfl rfl (vpc _ _ (by decide +kernel)) dX12_back_87 ?_
  refine tp_i (y := 0) rfl ?_
  refine va_iast hx hb hK hP hD hS 5 1 rfl rfl (vpc _ _ (by decide +kernel)) dX12_back_88 (fun H locs hP hD hS => ?_)
  have hP : va_P (dC, dI) vwCl [((q 44), .inl (cI, 3, .inl (upd (upd (upd (fun _ => 0) 0 0) 1 0) 2 0))), ((q 18), .inl (cI, 6, .inl (upd (upd (upd f0 0 0) 1 0) 2 0))), ((q 45), .inl (cI, 4, .inl (upd (upd (upd (upd (fun _ => 0) 0 0) 1 0) 2 0) 3 0))), ((q 14), .inl (cI, 8, .inl (upd (upd (upd (upd f1 0 0) 1 0) 2 0) 3 0))), ((q 46), .inl (cI, 40, .inl (upd (upd (upd (upd (upd (upd (upd (upd (upd (upd (upd (upd (upd (upd (upd (upd (upd (upd (upd (upd (upd (upd (upd (upd (upd (upd (upd (upd (upd (upd (upd (upd (upd (upd (upd (upd (upd (upd (upd (upd (fun _ => 0) 0 0) 1 0) 2 0) 3 0) 4 0) 5 0) 6 0) 7 0) 8 0) 9 0) 10 0) 11 0) 12 0) 13 0) 14 0) 15 0) 16 0) 17 0) 18 0) 19 0) 20 0) 21 0) 22 0) 23 0) 24 0) 25 0) 26 0) 27 0) 28 0) 29 0) 30 0) 31 0) 32 0) 33 0) 34 0) 35 0) 36 0) 37 0) 38 0) 39 0))), ((q 15), .inl (cI, 80, .inl (upd (upd (upd (upd (upd (upd (upd (upd (upd (upd (upd (upd (upd (upd (upd f2 0 0) 1 0) 2 0) 3 0) 4 0) 5 0) 6 0) 7 0) 8 0) 9 0) 10 0) 11 0) 12 0) 13 0) 14 0))), ((q 0), .inr (12, (mo q)))] H := hP
  have hD : va_D A [((q 44), .inl (cI, 3, .inl (upd (upd (upd (fun _ => 0) 0 0) 1 0) 2 0))), ((q 18), .inl (cI, 6, .inl (upd (upd (upd f0 0 0) 1 0) 2 0))), ((q 45), .inl (cI, 4, .inl (upd (upd (upd (upd (fun _ => 0) 0 0) 1 0) 2 0) 3 0))), ((q 14), .inl (cI, 8, .inl (upd (upd (upd (upd f1 0 0) 1 0) 2 0) 3 0))), ((q 46), .inl (cI, 40, .inl (upd (upd (upd (upd (upd (upd (upd (upd (upd (upd (upd (upd (upd (upd (upd (upd (upd (upd (upd (upd (upd (upd (upd (upd (upd (upd (upd (upd (upd (upd (upd (upd (upd (upd (upd (upd (upd (upd (upd (upd (fun _ => 0) 0 0) 1 0) 2 0) 3 0) 4 0) 5 0) 6 0) 7 0) 8 0) 9 0) 10 0) 11 0) 12 0) 13 0) 14 0) 15 0) 16 0) 17 0) 18 0) 19 0) 20 0) 21 0) 22 0) 23 0) 24 0) 25 0) 26 0) 27 0) 28 0) 29 0) 30 0) 31 0) 32 0) 33 0) 34 0) 35 0) 36 0) 37 0) 38 0) 39 0))), ((q 15), .inl (cI, 80, .inl (upd (upd (upd (upd (upd (upd (upd (upd (upd (upd (upd (upd (upd (upd (upd f2 0 0) 1 0) 2 0) 3 0) 4 0) 5 0) 6 0) 7 0) 8 0) 9 0) 10 0) 11 0) 12 0) 13 0) 14 0))), ((q 0), .inr (12, (mo q)))] := hD
  refine lv_iinc (v := 15) (lv' := [(1, .int 15), (0, .ref (q 0))]) hx hb dX12_back_89 hl (k := 0) rfl (by decide +kernel) (by decide) rfl (fun ls hl => ?_)
  refine lv_goto (tgt := 63) hx hb dX12_back_92 (by decide) ?_
  refine lv_iload_n hx hb dX12_back_63 rfl (lv_at hl 0 rfl) ?_
  refine lv_bipush (v := 40) hx hb dX12_back_64 (by decide +kernel) ?_
  refine lv_icmp_ge (tgt := 95) hx hb dX12_back_66 (by decide) (fun c => absurd c (by decide +kernel)) (fun _ => ?_)
  refine lv_aload_n hx hb dX12_back_69 rfl (lv_at hl 1 rfl) ?_
  refine va_get (D := (dC, dI)) (ci := 12) (v := .ref (q 15)) (C := RX12) (T := TX12) (N := 85) hx hb hts hiX12 hown hK hP 6 rfl rfl 26 (by decide) (hts _ (List.mem_of_getElem? (i := 11) rfl)) (fun _ h9 => h9) rfl dX12_back_70 ?_
  refine lv_bipush (v := 40) hx hb dX12_back_73 (by decide +kernel) ?_
  refine lv_aload_n hx hb dX12_back_75 rfl (lv_at hl 1 rfl) ?_
  refine va_get (D := (dC, dI)) (ci := 12) (v := .int 0) (C := RX12) (T := TX12) (N := 85) hx hb hts hiX12 hown hK hP 6 rfl rfl 12 (by decide) (hts _ (List.mem_of_getElem? (i := 2) rfl)) (fun _ h9 => h9) rfl dX12_back_76 ?_
  refine lv_imul hx hb dX12_back_79 ?_
  refine tp_i (y := 0) (by decide +kernel) ?_
  refine lv_iload_n hx hb dX12_back_80 rfl (lv_at hl 0 rfl) ?_
  refine lv_iadd hx hb dX12_back_81 ?_
  refine tp_i (y := 15) (by decide +kernel) ?_
  refine lv_aload_n hx hb dX12_back_82 rfl (lv_at hl 1 rfl) ?_
  refine va_get (D := (dC, dI)) (ci := 12) (v := .ref (q 46)) (C := RX12) (T := TX12) (N := 85) hx hb hts hiX12 hown hK hP 6 rfl rfl 63 (by decide) (hts _ (List.mem_of_getElem? (i := 12) rfl)) (fun _ h9 => h9) rfl dX12_back_83 ?_
  refine lv_iload_n hx hb dX12_back_86 rfl (lv_at hl 0 rfl) ?_
  refine va_iald hx hb hK hP 4 1 rfl rfl (vpc _ _ (by decide +kernel)) dX12_back_87 ?_
  refine tp_i (y := 0) rfl ?_
  refine va_iast hx hb hK hP hD hS 5 1 rfl rfl (vpc _ _ (by decide +kernel)) dX12_back_88 (fun H locs hP hD hS => ?_)
  have hP : va_P (dC, dI) vwCl [((q 44), .inl (cI, 3, .inl (upd (upd (upd (fun _ => 0) 0 0) 1 0) 2 0))), ((q 18), .inl (cI, 6, .inl (upd (upd (upd f0 0 0) 1 0) 2 0))), ((q 45), .inl (cI, 4, .inl (upd (upd (upd (upd (fun _ => 0) 0 0) 1 0) 2 0) 3 0))), ((q 14), .inl (cI, 8, .inl (upd (upd (upd (upd f1 0 0) 1 0) 2 0) 3 0))), ((q 46), .inl (cI, 40, .inl (upd (upd (upd (upd (upd (upd (upd (upd (upd (upd (upd (upd (upd (upd (upd (upd (upd (upd (upd (upd (upd (upd (upd (upd (upd (upd (upd (upd (upd (upd (upd (upd (upd (upd (upd (upd (upd (upd (upd (upd (fun _ => 0) 0 0) 1 0) 2 0) 3 0) 4 0) 5 0) 6 0) 7 0) 8 0) 9 0) 10 0) 11 0) 12 0) 13 0) 14 0) 15 0) 16 0) 17 0) 18 0) 19 0) 20 0) 21 0) 22 0) 23 0) 24 0) 25 0) 26 0) 27 0) 28 0) 29 0) 30 0) 31 0) 32 0) 33 0) 34 0) 35 0) 36 0) 37 0) 38 0) 39 0))), ((q 15), .inl (cI, 80, .inl (upd (upd (upd (upd (upd (upd (upd (upd (upd (upd (upd (upd (upd (upd (upd (upd f2 0 0) 1 0) 2 0) 3 0) 4 0) 5 0) 6 0) 7 0) 8 0) 9 0) 10 0) 11 0) 12 0) 13 0) 14 0) 15 0))), ((q 0), .inr (12, (mo q)))] H := hP
  have hD : va_D A [((q 44), .inl (cI, 3, .inl (upd (upd (upd (fun _ => 0) 0 0) 1 0) 2 0))), ((q 18), .inl (cI, 6, .inl (upd (upd (upd f0 0 0) 1 0) 2 0))), ((q 45), .inl (cI, 4, .inl (upd (upd (upd (upd (fun _ => 0) 0 0) 1 0) 2 0) 3 0))), ((q 14), .inl (cI, 8, .inl (upd (upd (upd (upd f1 0 0) 1 0) 2 0) 3 0))), ((q 46), .inl (cI, 40, .inl (upd (upd (upd (upd (upd (upd (upd (upd (upd (upd (upd (upd (upd (upd (upd (upd (upd (upd (upd (upd (upd (upd (upd (upd (upd (upd (upd (upd (upd (upd (upd (upd (upd (upd (upd (upd (upd (upd (upd (upd (fun _ => 0) 0 0) 1 0) 2 0) 3 0) 4 0) 5 0) 6 0) 7 0) 8 0) 9 0) 10 0) 11 0) 12 0) 13 0) 14 0) 15 0) 16 0) 17 0) 18 0) 19 0) 20 0) 21 0) 22 0) 23 0) 24 0) 25 0) 26 0) 27 0) 28 0) 29 0) 30 0) 31 0) 32 0) 33 0) 34 0) 35 0) 36 0) 37 0) 38 0) 39 0))), ((q 15), .inl (cI, 80, .inl (upd (upd (upd (upd (upd (upd (upd (upd (upd (upd (upd (upd (upd (upd (upd (upd f2 0 0) 1 0) 2 0) 3 0) 4 0) 5 0) 6 0) 7 0) 8 0) 9 0) 10 0) 11 0) 12 0) 13 0) 14 0) 15 0))), ((q 0), .inr (12, (mo q)))] := hD
  refine lv_iinc (v := 16) (lv' := [(1, .int 16), (0, .ref (q 0))]) hx hb dX12_back_89 hl (k := 0) rfl (by decide +kernel) (by decide) rfl (fun ls hl => ?_)
  refine lv_goto (tgt := 63) hx hb dX12_back_92 (by decide) ?_
  refine lv_iload_n hx hb dX12_back_63 rfl (lv_at hl 0 rfl) ?_
  refine lv_bipush (v := 40) hx hb dX12_back_64 (by decide +kernel) ?_
  refine lv_icmp_ge (tgt := 95) hx hb dX12_back_66 (by decide) (fun c => absurd c (by decide +kernel)) (fun _ => ?_)
  refine lv_aload_n hx hb dX12_back_69 rfl (lv_at hl 1 rfl) ?_
  refine va_get (D := (dC, dI)) (ci := 12) (v := .ref (q 15)) (C := RX12) (T := TX12) (N := 85) hx hb hts hiX12 hown hK hP 6 rfl rfl 26 (by decide) (hts _ (List.mem_of_getElem? (i := 11) rfl)) (fun _ h9 => h9) rfl dX12_back_70 ?_
  refine lv_bipush (v := 40) hx hb dX12_back_73 (by decide +kernel) ?_
  refine lv_aload_n hx hb dX12_back_75 rfl (lv_at hl 1 rfl) ?_
  refine va_get (D := (dC, dI)) (ci := 12) (v := .int 0) (C := RX12) (T := TX12) (N := 85) hx hb hts hiX12 hown hK hP 6 rfl rfl 12 (by decide) (hts _ (List.mem_of_getElem? (i := 2) rfl)) (fun _ h9 => h9) rfl dX12_back_76 ?_
  refine lv_imul hx hb dX12_back_79 ?_
  refine tp_i (y := 0) (by decide +kernel) ?_
  refine lv_iload_n hx hb dX12_back_80 rfl (lv_at hl 0 rfl) ?_
  refine lv_iadd hx hb dX12_back_81 ?_
  refine tp_i (y := 16) (by decide +kernel) ?_
  refine lv_aload_n hx hb dX12_back_82 rfl (lv_at hl 1 rfl) ?_
  refine va_get (D := (dC, dI)) (ci := 12) (v := .ref (q 46)) (C := RX12) (T := TX12) (N := 85) hx hb hts hiX12 hown hK hP 6 rfl rfl 63 (by decide) (hts _ (List.mem_of_getElem? (i := 12) rfl)) (fun _ h9 => h9) rfl dX12_back_83 ?_
  refine lv_iload_n hx hb dX12_back_86 rfl (lv_at hl 0 rfl) ?_
  refine va_iald hx hb hK hP 4 1 rfl rfl (vpc _ _ (by decide +kernel)) dX12_back_87 ?_
  refine tp_i (y := 0) rfl ?_
  refine va_iast hx hb hK hP hD hS 5 1 rfl rfl (vpc _ _ (by decide +kernel)) dX12_back_88 (fun H locs hP hD hS => ?_)
  have hP : va_P (dC, dI) vwCl [((q 44), .inl (cI, 3, .inl (upd (upd (upd (fun _ => 0) 0 0) 1 0) 2 0))), ((q 18), .inl (cI, 6, .inl (upd (upd (upd f0 0 0) 1 0) 2 0))), ((q 45), .inl (cI, 4, .inl (upd (upd (upd (upd (fun _ => 0) 0 0) 1 0) 2 0) 3 0))), ((q 14), .inl (cI, 8, .inl (upd (upd (upd (upd f1 0 0) 1 0) 2 0) 3 0))), ((q 46), .inl (cI, 40, .inl (upd (upd (upd (upd (upd (upd (upd (upd (upd (upd (upd (upd (upd (upd (upd (upd (upd (upd (upd (upd (upd (upd (upd (upd (upd (upd (upd (upd (upd (upd (upd (upd (upd (upd (upd (upd (upd (upd (upd (upd (fun _ => 0) 0 0) 1 0) 2 0) 3 0) 4 0) 5 0) 6 0) 7 0) 8 0) 9 0) 10 0) 11 0) 12 0) 13 0) 14 0) 15 0) 16 0) 17 0) 18 0) 19 0) 20 0) 21 0) 22 0) 23 0) 24 0) 25 0) 26 0) 27 0) 28 0) 29 0) 30 0) 31 0) 32 0) 33 0) 34 0) 35 0) 36 0) 37 0) 38 0) 39 0))), ((q 15), .inl (cI, 80, .inl (upd (upd (upd (upd (upd (upd (upd (upd (upd (upd (upd (upd (upd (upd (upd (upd (upd f2 0 0) 1 0) 2 0) 3 0) 4 0) 5 0) 6 0) 7 0) 8 0) 9 0) 10 0) 11 0) 12 0) 13 0) 14 0) 15 0) 16 0))), ((q 0), .inr (12, (mo q)))] H := hP
  have hD : va_D A [((q 44), .inl (cI, 3, .inl (upd (upd (upd (fun _ => 0) 0 0) 1 0) 2 0))), ((q 18), .inl (cI, 6, .inl (upd (upd (upd f0 0 0) 1 0) 2 0))), ((q 45), .inl (cI, 4, .inl (upd (upd (upd (upd (fun _ => 0) 0 0) 1 0) 2 0) 3 0))), ((q 14), .inl (cI, 8, .inl (upd (upd (upd (upd f1 0 0) 1 0) 2 0) 3 0))), ((q 46), .inl (cI, 40, .inl (upd (upd (upd (upd (upd (upd (upd (upd (upd (upd (upd (upd (upd (upd (upd (upd (upd (upd (upd (upd (upd (upd (upd (upd (upd (upd (upd (upd (upd (upd (upd (upd (upd (upd (upd (upd (upd (upd (upd (upd (fun _ => 0) 0 0) 1 0) 2 0) 3 0) 4 0) 5 0) 6 0) 7 0) 8 0) 9 0) 10 0) 11 0) 12 0) 13 0) 14 0) 15 0) 16 0) 17 0) 18 0) 19 0) 20 0) 21 0) 22 0) 23 0) 24 0) 25 0) 26 0) 27 0) 28 0) 29 0) 30 0) 31 0) 32 0) 33 0) 34 0) 35 0) 36 0) 37 0) 38 0) 39 0))), ((q 15), .inl (cI, 80, .inl (upd (upd (upd (upd (upd (upd (upd (upd (upd (upd (upd (upd (upd (upd (upd (upd (upd f2 0 0) 1 0) 2 0) 3 0) 4 0) 5 0) 6 0) 7 0) 8 0) 9 0) 10 0) 11 0) 12 0) 13 0) 14 0) 15 0) 16 0))), ((q 0), .inr (12, (mo q)))] := hD
  refine lv_iinc (v := 17) (lv' := [(1, .int 17), (0, .ref (q 0))]) hx hb dX12_back_89 hl (k := 0) rfl (by decide +kernel) (by decide) rfl (fun ls hl => ?_)
  refine lv_goto (tgt := 63) hx hb dX12_back_92 (by decide) ?_
  refine lv_iload_n hx hb dX12_back_63 rfl (lv_at hl 0 rfl) ?_
  refine lv_bipush (v := 40) hx hb dX12_back_64 (by decide +kernel) ?_
  refine lv_icmp_ge (tgt := 95) hx hb dX12_back_66 (by decide) (fun c => absurd c (by decide +kernel)) (fun _ => ?_)
  refine lv_aload_n hx hb dX12_back_69 rfl (lv_at hl 1 rfl) ?_
  refine va_get (D := (dC, dI)) (ci := 12) (v := .ref (q 15)) (C := RX12) (T := TX12) (N := 85) hx hb hts hiX12 hown hK hP 6 rfl rfl 26 (by decide) (hts _ (List.mem_of_getElem? (i := 11) rfl)) (fun _ h9 => h9) rfl dX12_back_70 ?_
  refine lv_bipush (v := 40) hx hb dX12_back_73 (by decide +kernel) ?_
  refine lv_aload_n hx hb dX12_back_75 rfl (lv_at hl 1 rfl) ?_
  refine va_get (D := (dC, dI)) (ci := 12) (v := .int 0) (C := RX12) (T := TX12) (N := 85) hx hb hts hiX12 hown hK hP 6 rfl rfl 12 (by decide) (hts _ (List.mem_of_getElem? (i := 2) rfl)) (fun _ h9 => h9) rfl dX12_back_76 ?_
  refine lv_imul hx hb dX12_back_79 ?_
  refine tp_i (y := 0) (by decide +kernel) ?_
  refine lv_iload_n hx hb dX12_back_80 rfl (lv_at hl 0 rfl) ?_
  refine lv_iadd hx hb dX12_back_81 ?_
  refine tp_i (y := 17) (by decide +kernel) ?_
  refine lv_aload_n hx hb dX12_back_82 rfl (lv_at hl 1 rfl) ?_
  refine va_get (D := (dC, dI)) (ci := 12) (v := .ref (q 46)) (C := RX12) (T := TX12) (N := 85) hx hb hts hiX12 hown hK hP 6 rfl rfl 63 (by decide) (hts _ (List.mem_of_getElem? (i := 12) rfl)) (fun _ h9 => h9) rfl dX12_back_83 ?_
  refine lv_iload_n hx hb dX12_back_86 rfl (lv_at hl 0 rfl) ?_
  refine va_iald hx hb hK hP 4 1 rfl rfl (vpc _ _ (by decide +kernel)) dX12_back_87 ?_
  refine tp_i (y := 0) rfl ?_
  refine va_iast hx hb hK hP hD hS 5 1 rfl rfl (vpc _ _ (by decide +kernel)) dX12_back_88 (fun H locs hP hD hS => ?_)
  have hP : va_P (dC, dI) vwCl [((q 44), .inl (cI, 3, .inl (upd (upd (upd (fun _ => 0) 0 0) 1 0) 2 0))), ((q 18), .inl (cI, 6, .inl (upd (upd (upd f0 0 0) 1 0) 2 0))), ((q 45), .inl (cI, 4, .inl (upd (upd (upd (upd (fun _ => 0) 0 0) 1 0) 2 0) 3 0))), ((q 14), .inl (cI, 8, .inl (upd (upd (upd (upd f1 0 0) 1 0) 2 0) 3 0))), ((q 46), .inl (cI, 40, .inl (upd (upd (upd (upd (upd (upd (upd (upd (upd (upd (upd (upd (upd (upd (upd (upd (upd (upd (upd (upd (upd (upd (upd (upd (upd (upd (upd (upd (upd (upd (upd (upd (upd (upd (upd (upd (upd (upd (upd (upd (fun _ => 0) 0 0) 1 0) 2 0) 3 0) 4 0) 5 0) 6 0) 7 0) 8 0) 9 0) 10 0) 11 0) 12 0) 13 0) 14 0) 15 0) 16 0) 17 0) 18 0) 19 0) 20 0) 21 0) 22 0) 23 0) 24 0) 25 0) 26 0) 27 0) 28 0) 29 0) 30 0) 31 0) 32 0) 33 0) 34 0) 35 0) 36 0) 37 0) 38 0) 39 0))), ((q 15), .inl (cI, 80, .inl (upd (upd (upd (upd (upd (upd (upd (upd (upd (upd (upd (upd (upd (upd (upd (upd (upd (upd f2 0 0) 1 0) 2 0) 3 0) 4 0) 5 0) 6 0) 7 0) 8 0) 9 0) 10 0) 11 0) 12 0) 13 0) 14 0) 15 0) 16 0) 17 0))), ((q 0), .inr (12, (mo q)))] H := hP
  have hD : va_D A [((q 44), .inl (cI, 3, .inl (upd (upd (upd (fun _ => 0) 0 0) 1 0) 2 0))), ((q 18), .inl (cI, 6, .inl (upd (upd (upd f0 0 0) 1 0) 2 0))), ((q 45), .inl (cI, 4, .inl (upd (upd (upd (upd (fun _ => 0) 0 0) 1 0) 2 0) 3 0))), ((q 14), .inl (cI, 8, .inl (upd (upd (upd (upd f1 0 0) 1 0) 2 0) 3 0))), ((q 46), .inl (cI, 40, .inl (upd (upd (upd (upd (upd (upd (upd (upd (upd (upd (upd (upd (upd (upd (upd (upd (upd (upd (upd (upd (upd (upd (upd (upd (upd (upd (upd (upd (upd (upd (upd (upd (upd (upd (upd (upd (upd (upd (upd (upd (fun _ => 0) 0 0) 1 0) 2 0) 3 0) 4 0) 5 0) 6 0) 7 0) 8 0) 9 0) 10 0) 11 0) 12 0) 13 0) 14 0) 15 0) 16 0) 17 0) 18 0) 19 0) 20 0) 21 0) 22 0) 23 0) 24 0) 25 0) 26 0) 27 0) 28 0) 29 0) 30 0) 31 0) 32 0) 33 0) 34 0) 35 0) 36 0) 37 0) 38 0) 39 0))), ((q 15), .inl (cI, 80, .inl (upd (upd (upd (upd (upd (upd (upd (upd (upd (upd (upd (upd (upd (upd (upd (upd (upd (upd f2 0 0) 1 0) 2 0) 3 0) 4 0) 5 0) 6 0) 7 0) 8 0) 9 0) 10 0) 11 0) 12 0) 13 0) 14 0) 15 0) 16 0) 17 0))), ((q 0), .inr (12, (mo q)))] := hD
  refine lv_iinc (v := 18) (lv' := [(1, .int 18), (0, .ref (q 0))]) hx hb dX12_back_89 hl (k := 0) rfl (by decide +kernel) (by decide) rfl (fun ls hl => ?_)
  refine lv_goto (tgt := 63) hx hb dX12_back_92 (by decide) ?_
  refine lv_iload_n hx hb dX12_back_63 rfl (lv_at hl 0 rfl) ?_
  refine lv_bipush (v := 40) hx hb dX12_back_64 (by decide +kernel) ?_
  refine lv_icmp_ge (tgt := 95) hx hb dX12_back_66 (by decide) (fun c => absurd c (by decide +kernel)) (fun _ => ?_)
  refine lv_aload_n hx hb dX12_back_69 rfl (lv_at hl 1 rfl) ?_
  refine va_get (D := (dC, dI)) (ci := 12) (v := .ref (q 15)) (C := RX12) (T := TX12) (N := 85) hx hb hts hiX12 hown hK hP 6 rfl rfl 26 (by decide) (hts _ (List.mem_of_getElem? (i := 11) rfl)) (fun _ h9 => h9) rfl dX12_back_70 ?_
  refine lv_bipush (v := 40) hx hb dX12_back_73 (by decide +kernel) ?_
  refine lv_aload_n hx hb dX12_back_75 rfl (lv_at hl 1 rfl) ?_
  refine va_get (D := (dC, dI)) (ci := 12) (v := .int 0) (C := RX12) (T := TX12) (N := 85) hx hb hts hiX12 hown hK hP 6 rfl rfl 12 (by decide) (hts _ (List.mem_of_getElem? (i := 2) rfl)) (fun _ h9 => h9) rfl dX12_back_76 ?_
  refine lv_imul hx hb dX12_back_79 ?_
  refine tp_i (y := 0) (by decide +kernel) ?_
  refine lv_iload_n hx hb dX12_back_80 rfl (lv_at hl 0 rfl) ?_
  refine lv_iadd hx hb dX12_back_81 ?_
  refine tp_i (y := 18) (by decide +kernel) ?_
  refine lv_aload_n hx hb dX12_back_82 rfl (lv_at hl 1 rfl) ?_
  refine va_get (D := (dC, dI)) (ci := 12) (v := .ref (q 46)) (C := RX12) (T := TX12) (N := 85) hx hb hts hiX12 hown hK hP 6 rfl rfl 63 (by decide) (hts _ (List.mem_of_getElem? (i := 12) rfl)) (fun _ h9 => h9) rfl dX12_back_83 ?_
  refine lv_iload_n hx hb dX12_back_86 rfl (lv_at hl 0 rfl) ?_
  refine va_iald hx hb hK hP 4 1 rfl rfl (vpc _ _ (by decide +kernel)) dX12_back_87 ?_
  refine tp_i (y := 0) rfl ?_
  refine va_iast hx hb hK hP hD hS 5 1 rfl rfl (vpc _ _ (by decide +kernel)) dX12_back_88 (fun H locs hP hD hS => ?_)
  have hP : va_P (dC, dI) vwCl [((q 44), .inl (cI, 3, .inl (upd (upd (upd (fun _ => 0) 0 0) 1 0) 2 0))), ((q 18), .inl (cI, 6, .inl (upd (upd (upd f0 0 0) 1 0) 2 0))), ((q 45), .inl (cI, 4, .inl (upd (upd (upd (upd (fun _ => 0) 0 0) 1 0) 2 0) 3 0))), ((q 14), .inl (cI, 8, .inl (upd (upd (upd (upd f1 0 0) 1 0) 2 0) 3 0))), ((q 46), .inl (cI, 40, .inl (upd (upd (upd (upd (upd (upd (upd (upd (upd (upd (upd (upd (upd (upd (upd (upd (upd (upd (upd (upd (upd (upd (upd (upd (upd (upd (upd (upd (upd (upd (upd (upd (upd (upd (upd (upd (upd (upd (upd (upd (fun _ => 0) 0 0) 1 0) 2 0) 3 0) 4 0) 5 0) 6 0) 7 0) 8 0) 9 0) 10 0) 11 0) 12 0) 13 0) 14 0) 15 0) 16 0) 17 0) 18 0) 19 0) 20 0) 21 0) 22 0) 23 0) 24 0) 25 0) 26 0) 27 0) 28 0) 29 0) 30 0) 31 0) 32 0) 33 0) 34 0) 35 0) 36 0) 37 0) 38 0) 39 0))), ((q 15), .inl (cI, 80, .inl (upd (upd (upd (upd (upd (upd (upd (upd (upd (upd (upd (upd (upd (upd (upd (upd (upd (upd (upd f2 0 0) 1 0) 2 0) 3 0) 4 0) 5 0) 6 0) 7 0) 8 0) 9 0) 10 0) 11 0) 12 0) 13 0) 14 0) 15 0) 16 0) 17 0) 18 0))), ((q 0), .inr (12, (mo q)))] H := hP
  have hD : va_D A [((q 44), .inl (cI, 3, .inl (upd (upd (upd (fun _ => 0) 0 0) 1 0) 2 0))), ((q 18), .inl (cI, 6, .inl (upd (upd (upd f0 0 0) 1 0) 2 0))), ((q 45), .inl (cI, 4, .inl (upd (upd (upd (upd (fun _ => 0) 0 0) 1 0) 2 0) 3 0))), ((q 14), .inl (cI, 8, .inl (upd (upd (upd (upd f1 0 0) 1 0) 2 0) 3 0))), ((q 46), .inl (cI, 40, .inl (upd (upd (upd (upd (upd (upd (upd (upd (upd (upd (upd (upd (upd (upd (upd (upd (upd (upd (upd (upd (upd (upd (upd (upd (upd (upd (upd (upd (upd (upd (upd (upd (upd (upd (upd (upd (upd (upd (upd (upd (fun _ => 0) 0 0) 1 0) 2 0) 3 0) 4 0) 5 0) 6 0) 7 0) 8 0) 9 0) 10 0) 11 0) 12 0) 13 0) 14 0) 15 0) 16 0) 17 0) 18 0) 19 0) 20 0) 21 0) 22 0) 23 0) 24 0) 25 0) 26 0) 27 0) 28 0) 29 0) 30 0) 31 0) 32 0) 33 0) 34 0) 35 0) 36 0) 37 0) 38 0) 39 0))), ((q 15), .inl (cI, 80, .inl (upd (upd (upd (upd (upd (upd (upd (upd (upd (upd (upd (upd (upd (upd (upd (upd (upd (upd (upd f2 0 0) 1 0) 2 0) 3 0) 4 0) 5 0) 6 0) 7 0) 8 0) 9 0) 10 0) 11 0) 12 0) 13 0) 14 0) 15 0) 16 0) 17 0) 18 0))), ((q 0), .inr (12, (mo q)))] := hD
  refine lv_iinc (v := 19) (lv' := [(1, .int 19), (0, .ref (q 0))]) hx hb dX12_back_89 hl (k := 0) rfl (by decide +kernel) (by decide) rfl (fun ls hl => ?_)
  refine lv_goto (tgt := 63) hx hb dX12_back_92 (by decide) ?_
  refine lv_iload_n hx hb dX12_back_63 rfl (lv_at hl 0 rfl) ?_
  refine lv_bipush (v := 40) hx hb dX12_back_64 (by decide +kernel) ?_
  refine lv_icmp_ge (tgt := 95) hx hb dX12_back_66 (by decide) (fun c => absurd c (by decide +kernel)) (fun _ => ?_)
  refine lv_aload_n hx hb dX12_back_69 rfl (lv_at hl 1 rfl) ?_
  refine va_get (D := (dC, dI)) (ci := 12) (v := .ref (q 15)) (C := RX12) (T := TX12) (N := 85) hx hb hts hiX12 hown hK hP 6 rfl rfl 26 (by decide) (hts _ (List.mem_of_getElem? (i := 11) rfl)) (fun _ h9 => h9) rfl dX12_back_70 ?_
  refine lv_bipush (v := 40) hx hb dX12_back_73 (by decide +kernel) ?_
  refine lv_aload_n hx hb dX12_back_75 rfl (lv_at hl 1 rfl) ?_
  refine va_get (D := (dC, dI)) (ci := 12) (v := .int 0) (C := RX12) (T := TX12) (N := 85) hx hb hts hiX12 hown hK hP 6 rfl rfl 12 (by decide) (hts _ (List.mem_of_getElem? (i := 2) rfl)) (fun _ h9 => h9) rfl dX12_back_76 ?_
  refine lv_imul hx hb dX12_back_79 ?_
  refine tp_i (y := 0) (by decide +kernel) ?_
  refine lv_iload_n hx hb dX12_back_80 rfl (lv_at hl 0 rfl) ?_
  refine lv_iadd hx hb dX12_back_81 ?_
  refine tp_i (y := 19) (by decide +kernel) ?_
  refine lv_aload_n hx hb dX12_back_82 rfl (lv_at hl 1 rfl) ?_
  refine va_get (D := (dC, dI)) (ci := 12) (v := .ref (q 46)) (C := RX12) (T := TX12) (N := 85) hx hb hts hiX12 hown hK hP 6 rfl rfl 63 (by decide) (hts _ (List.mem_of_getElem? (i := 12) rfl)) (fun _ h9 => h9) rfl dX12_back_83 ?_
  refine lv_iload_n hx hb dX12_back_86 rfl (lv_at hl 0 rfl) ?_
  refine va_iald hx hb hK hP 4 1 rfl rfl (vpc _ _ (by decide +kernel)) dX12_back_87 ?_
  refine tp_i (y := 0) rfl ?_
  refine va_iast hx hb hK hP hD hS 5 1 rfl rfl (vpc _ _ (by decide +kernel)) dX12_back_88 (fun H locs hP hD hS => ?_)
  have hP : va_P (dC, dI) vwCl [((q 44), .inl (cI, 3, .inl (upd (upd (upd (fun _ => 0) 0 0) 1 0) 2 0))), ((q 18), .inl (cI, 6, .inl (upd (upd (upd f0 0 0) 1 0) 2 0))), ((q 45), .inl (cI, 4, .inl (upd (upd (upd (upd (fun _ => 0) 0 0) 1 0) 2 0) 3 0))), ((q 14), .inl (cI, 8, .inl (upd (upd (upd (upd f1 0 0) 1 0) 2 0) 3 0))), ((q 46), .inl (cI, 40, .inl (upd (upd (upd (upd (upd (upd (upd (upd (upd (upd (upd (upd (upd (upd (upd (upd (upd (upd (upd (upd (upd (upd (upd (upd (upd (upd (upd (upd (upd (upd (upd (upd (upd (upd (upd (upd (upd (upd (upd (upd (fun _ => 0) 0 0) 1 0) 2 0) 3 0) 4 0) 5 0) 6 0) 7 0) 8 0) 9 0) 10 0) 11 0) 12 0) 13 0) 14 0) 15 0) 16 0) 17 0) 18 0) 19 0) 20 0) 21 0) 22 0) 23 0) 24 0) 25 0) 26 0) 27 0) 28 0) 29 0) 30 0) 31 0) 32 0) 33 0) 34 0) 35 0) 36 0) 37 0) 38 0) 39 0))), ((q 15), .inl (cI, 80, .inl (upd (upd (upd (upd (upd (upd (upd (upd (upd (upd (upd (upd (upd (upd (upd (upd (upd (upd (upd (upd f2 0 0) 1 0) 2 0) 3 0) 4 0) 5 0) 6 0) 7 0) 8 0) 9 0) 10 0) 11 0) 12 0) 13 0) 14 0) 15 0) 16 0) 17 0) 18 0) 19 0))), ((q 0), .inr (12, (mo q)))] H := hP
  have hD : va_D A [((q 44), .inl (cI, 3, .inl (upd (upd (upd (fun _ => 0) 0 0) 1 0) 2 0))), ((q 18), .inl (cI, 6, .inl (upd (upd (upd f0 0 0) 1 0) 2 0))), ((q 45), .inl (cI, 4, .inl (upd (upd (upd (upd (fun _ => 0) 0 0) 1 0) 2 0) 3 0))), ((q 14), .inl (cI, 8, .inl (upd (upd (upd (upd f1 0 0) 1 0) 2 0) 3 0))), ((q 46), .inl (cI, 40, .inl (upd (upd (upd (upd (upd (upd (upd (upd (upd (upd (upd (upd (upd (upd (upd (upd (upd (upd (upd (upd (upd (upd (upd (upd (upd (upd (upd (upd (upd (upd (upd (upd (upd (upd (upd (upd (upd (upd (upd (upd (fun _ => 0) 0 0) 1 0) 2 0) 3 0) 4 0) 5 0) 6 0) 7 0) 8 0) 9 0) 10 0) 11 0) 12 0) 13 0) 14 0) 15 0) 16 0) 17 0) 18 0) 19 0) 20 0) 21 0) 22 0) 23 0) 24 0) 25 0) 26 0) 27 0) 28 0) 29 0) 30 0) 31 0) 32 0) 33 0) 34 0) 35 0) 36 0) 37 0) 38 0) 39 0))), ((q 15), .inl (cI, 80, .inl (upd (upd (upd (upd (upd (upd (upd (upd (upd (upd (upd (upd (upd (upd (upd (upd (upd (upd (upd (upd f2 0 0) 1 0) 2 0) 3 0) 4 0) 5 0) 6 0) 7 0) 8 0) 9 0) 10 0) 11 0) 12 0) 13 0) 14 0) 15 0) 16 0) 17 0) 18 0) 19 0))), ((q 0), .inr (12, (mo q)))] := hD
  refine lv_iinc (v := 20) (lv' := [(1, .int 20), (0, .ref (q 0))]) hx hb dX12_back_89 hl (k := 0) rfl (by decide +kernel) (by decide) rfl (fun ls hl => ?_)
  refine lv_goto (tgt := 63) hx hb dX12_back_92 (by decide) ?_
  refine lv_iload_n hx hb dX12_back_63 rfl (lv_at hl 0 rfl) ?_
  refine lv_bipush (v := 40) hx hb dX12_back_64 (by decide +kernel) ?_
  refine lv_icmp_ge (tgt := 95) hx hb dX12_back_66 (by decide) (fun c => absurd c (by decide +kernel)) (fun _ => ?_)
  refine lv_aload_n hx hb dX12_back_69 rfl (lv_at hl 1 rfl) ?_
  refine va_get (D := (dC, dI)) (ci := 12) (v := .ref (q 15)) (C := RX12) (T := TX12) (N := 85) hx hb hts hiX12 hown hK hP 6 rfl rfl 26 (by decide) (hts _ (List.mem_of_getElem? (i := 11) rfl)) (fun _ h9 => h9) rfl dX12_back_70 ?_
  refine lv_bipush (v := 40) hx hb dX12_back_73 (by decide +kernel) ?_
  refine lv_aload_n hx hb dX12_back_75 rfl (lv_at hl 1 rfl) ?_
  refine va_get (D := (dC, dI)) (ci := 12) (v := .int 0) (C := RX12) (T := TX12) (N := 85) hx hb hts hiX12 hown hK hP 6 rfl rfl 12 (by decide) (hts _ (List.mem_of_getElem? (i := 2) rfl)) (fun _ h9 => h9) rfl dX12_back_76 ?_
  refine lv_imul hx hb dX12_back_79 ?_
  refine tp_i (y := 0) (by decide +kernel) ?_
  refine lv_iload_n hx hb dX12_back_80 rfl (lv_at hl 0 rfl) ?_
  refine lv_iadd hx hb dX12_back_81 ?_
  refine tp_i (y := 20) (by decide +kernel) ?_
  refine lv_aload_n hx hb dX12_back_82 rfl (lv_at hl 1 rfl) ?_
  refine va_get (D := (dC, dI)) (ci := 12) (v := .ref (q 46)) (C := RX12) (T := TX12) (N := 85) hx hb hts hiX12 hown hK hP 6 rfl rfl 63 (by decide) (hts _ (List.mem_of_getElem? (i := 12) rfl)) (fun _ h9 => h9) rfl dX12_back_83 ?_
  refine lv_iload_n hx hb dX12_back_86 rfl (lv_at hl 0 rfl) ?_
  refine va_iald hx hb hK hP 4 1 rfl rfl (vpc _ _ (by decide +kernel)) dX12_back_87 ?_
  refine tp_i (y := 0) rfl ?_
  refine va_iast hx hb hK hP hD hS 5 1 rfl rfl (vpc _ _ (by decide +kernel)) dX12_back_88 (fun H locs hP hD hS => ?_)
  have hP : va_P (dC, dI) vwCl [((q 44), .inl (cI, 3, .inl (upd (upd (upd (fun _ => 0) 0 0) 1 0) 2 0))), ((q 18), .inl (cI, 6, .inl (upd (upd (upd f0 0 0) 1 0) 2 0))), ((q 45), .inl (cI, 4, .inl (upd (upd (upd (upd (fun _ => 0) 0 0) 1 0) 2 0) 3 0))), ((q 14), .inl (cI, 8, .inl (upd (upd (upd (upd f1 0 0) 1 0) 2 0) 3 0))), ((q 46), .inl (cI, 40, .inl (upd (upd (upd (upd (upd (upd (upd (upd (upd (upd (upd (upd (upd (upd (upd (upd (upd (upd (upd (upd (upd (upd (upd (upd (upd (upd (upd (upd (upd (upd (upd (upd (upd (upd (upd (upd (upd (upd (upd (upd (fun _ => 0) 0 0) 1 0) 2 0) 3 0) 4 0) 5 0) 6 0) 7 0) 8 0) 9 0) 10 0) 11 0) 12 0) 13 0) 14 0) 15 0) 16 0) 17 0) 18 0) 19 0) 20 0) 21 0) 22 0) 23 0) 24 0) 25 0) 26 0) 27 0) 28 0) 29 0) 30 0) 31 0) 32 0) 33 0) 34 0) 35 0) 36 0) 37 0) 38 0) 39 0))), ((q 15), .inl (cI, 80, .inl (upd (upd (upd (upd (upd (upd (upd (upd (upd (upd (upd (upd (upd (upd (upd (upd (upd (upd (upd (upd (upd f2 0 0) 1 0) 2 0) 3 0) 4 0) 5 0) 6 0) 7 0) 8 0) 9 0) 10 0) 11 0) 12 0) 13 0) 14 0) 15 0) 16 0) 17 0) 18 0) 19 0) 20 0))), ((q 0), .inr (12, (mo q)))] H := hP
  have hD : va_D A [((q 44), .inl (cI, 3, .inl (upd (upd (upd (fun _ => 0) 0 0) 1 0) 2 0))), ((q 18), .inl (cI, 6, .inl (upd (upd (upd f0 0 0) 1 0) 2 0))), ((q 45), .inl (cI, 4, .inl (upd (upd (upd (upd (fun _ => 0) 0 0) 1 0) 2 0) 3 0))), ((q 14), .inl (cI, 8, .inl (upd (upd (upd (upd f1 0 0) 1 0) 2 0) 3 0))), ((q 46), .inl (cI, 40, .inl (upd (upd (upd (upd (upd (upd (upd (upd (upd (upd (upd (upd (upd (upd (upd (upd (upd (upd (upd (upd (upd (upd (upd (upd (upd (upd (upd (upd (upd (upd (upd (upd (upd (upd (upd (upd (upd (upd (upd (upd (fun _ => 0) 0 0) 1 0) 2 0) 3 0) 4 0) 5 0) 6 0) 7 0) 8 0) 9 0) 10 0) 11 0) 12 0) 13 0) 14 0) 15 0) 16 0) 17 0) 18 0) 19 0) 20 0) 21 0) 22 0) 23 0) 24 0) 25 0) 26 0) 27 0) 28 0) 29 0) 30 0) 31 0) 32 0) 33 0) 34 0) 35 0) 36 0) 37 0) 38 0) 39 0))), ((q 15), .inl (cI, 80, .inl (upd (upd (upd (upd (upd (upd (upd (upd (upd (upd (upd (upd (upd (upd (upd (upd (upd (upd (upd (upd (upd f2 0 0) 1 0) 2 0) 3 0) 4 0) 5 0) 6 0) 7 0) 8 0) 9 0) 10 0) 11 0) 12 0) 13 0) 14 0) 15 0) 16 0) 17 0) 18 0) 19 0) 20 0))), ((q 0), .inr (12, (mo q)))] := hD
  refine lv_iinc (v := 21) (lv' := [(1, .int 21), (0, .ref (q 0))]) hx hb dX12_back_89 hl (k := 0) rfl (by decide +kernel) (by decide) rfl (fun ls hl => ?_)
  refine lv_goto (tgt := 63) hx hb dX12_back_92 (by decide) ?_
  refine lv_iload_n hx hb dX12_back_63 rfl (lv_at hl 0 rfl) ?_
  refine lv_bipush (v := 40) hx hb dX12_back_64 (by decide +kernel) ?_
  refine lv_icmp_ge (tgt := 95) hx hb dX12_back_66 (by decide) (fun c => absurd c (by decide +kernel)) (fun _ => ?_)
  refine lv_aload_n hx hb dX12_back_69 rfl (lv_at hl 1 rfl) ?_
  refine va_get (D := (dC, dI)) (ci := 12) (v := .ref (q 15)) (C := RX12) (T := TX12) (N := 85) hx hb hts hiX12 hown hK hP 6 rfl rfl 26 (by decide) (hts _ (List.mem_of_getElem? (i := 11) rfl)) (fun _ h9 => h9) rfl dX12_back_70 ?_
  refine lv_bipush (v := 40) hx hb dX12_back_73 (by decide +kernel) ?_
  refine lv_aload_n hx hb dX12_back_75 rfl (lv_at hl 1 rfl) ?_
  refine va_get (D := (dC, dI)) (ci := 12) (v := .int 0) (C := RX12) (T := TX12) (N := 85) hx hb hts hiX12 hown hK hP 6 rfl rfl 12 (by decide) (hts _ (List.mem_of_getElem? (i := 2) rfl)) (fun _ h9 => h9) rfl dX12_back_76 ?_
  refine lv_imul hx hb dX12_back_79 ?_
  refine tp_i (y := 0) (by decide +kernel) ?_
  refine lv_iload_n hx hb dX12_back_80 rfl (lv_at hl 0 rfl) ?_
  refine lv_iadd hx hb dX12_back_81 ?_
  refine tp_i (y := 21) (by decide +kernel) ?_
  refine lv_aload_n hx hb dX12_back_82 rfl (lv_at hl 1 rfl) ?_
  refine va_get (D := (dC, dI)) (ci := 12) (v := .ref (q 46)) (C := RX12) (T := TX12) (N := 85) hx hb hts hiX12 hown hK hP 6 rfl rfl 63 (by decide) (hts _ (List.mem_of_getElem? (i := 12) rfl)) (fun _ h9 => h9) rfl dX12_back_83 ?_
  refine lv_iload_n hx hb dX12_back_86 rfl (lv_at hl 0 rfl) ?_
  refine va_iald hx hb hK hP 4 1 rfl rfl (vpc _ _ (by decide +kernel)) dX12_back_87 ?_
  refine tp_i (y := 0) rfl ?_
  refine va_iast hx hb hK hP hD hS 5 1 rfl rfl (vpc _ _ (by decide +kernel)) dX12_back_88 (fun H locs hP hD hS => ?_)
  have hP : va_P (dC, dI) vwCl [((q 44), .inl (cI, 3, .inl (upd (upd (upd (fun _ => 0) 0 0) 1 0) 2 0))), ((q 18), .inl (cI, 6, .inl (upd (upd (upd f0 0 0) 1 0) 2 0))), ((q 45), .inl (cI, 4, .inl (upd (upd (upd (upd (fun _ => 0) 0 0) 1 0) 2 0) 3 0))), ((q 14), .inl (cI, 8, .inl (upd (upd (upd (upd f1 0 0) 1 0) 2 0) 3 0))), ((q 46), .inl (cI, 40, .inl (upd (upd (upd (upd (upd (upd (upd (upd (upd (upd (upd (upd (upd (upd (upd (upd (upd (upd (upd (upd (upd (upd (upd (upd (upd (upd (upd (upd (upd (upd (upd (upd (upd (upd (upd (upd (upd (upd (upd (upd (fun _ => 0) 0 0) 1 0) 2 0) 3 0) 4 0) 5 0) 6 0) 7 0) 8 0) 9 0) 10 0) 11 0) 12 0) 13 0) 14 0) 15 0) 16 0) 17 0) 18 0) 19 0) 20 0) 21 0) 22 0) 23 0) 24 0) 25 0) 26 0) 27 0) 28 0) 29 0) 30 0) 31 0) 32 0) 33 0) 34 0) 35 0) 36 0) 37 0) 38 0) 39 0))), ((q 15), .inl (cI, 80, .inl (upd (upd (upd (upd (upd (upd (upd (upd (upd (upd (upd (upd (upd (upd (upd (upd (upd (upd (upd (upd (upd (upd f2 0 0) 1 0) 2 0) 3 0) 4 0) 5 0) 6 0) 7 0) 8 0) 9 0) 10 0) 11 0) 12 0) 13 0) 14 0) 15 0) 16 0) 17 0) 18 0) 19 0) 20 0) 21 0))), ((q 0), .inr (12, (mo q)))] H := hP
  have hD : va_D A [((q 44), .inl (cI, 3, .inl (upd (upd (upd (fun _ => 0) 0 0) 1 0) 2 0))), ((q 18), .inl (cI, 6, .inl (upd (upd (upd f0 0 0) 1 0) 2 0))), ((q 45), .inl (cI, 4, .inl (upd (upd (upd (upd (fun _ => 0) 0 0) 1 0) 2 0) 3 0))), ((q 14), .inl (cI, 8, .inl (upd (upd (upd (upd f1 0 0) 1 0) 2 0) 3 0))), ((q 46), .inl (cI, 40, .inl (upd (upd (upd (upd (upd (upd (upd (upd (upd (upd (upd (upd (upd (upd (upd (upd (upd (upd (upd (upd (upd (upd (upd (upd (upd (upd (upd (upd (upd (upd (upd (upd (upd (upd (upd (upd (upd (upd (upd (upd (fun _ => 0) 0 0) 1 0) 2 0) 3 0) 4 0) 5 0) 6 0) 7 0) 8 0) 9 0) 10 0) 11 0) 12 0) 13 0) 14 0) 15 0) 16 0) 17 0) 18 0) 19 0) 20 0) 21 0) 22 0) 23 0) 24 0) 25 0) 26 0) 27 0) 28 0) 29 0) 30 0) 31 0) 32 0) 33 0) 34 0) 35 0) 36 0) 37 0) 38 0) 39 0))), ((q 15), .inl (cI, 80, .inl (upd (upd (upd (upd (upd (upd (upd (upd (upd (upd (upd (upd (upd (upd (upd (upd (upd (upd (upd (upd (upd (upd f2 0 0) 1 0) 2 0) 3 0) 4 0) 5 0) 6 0) 7 0) 8 0) 9 0) 10 0) 11 0) 12 0) 13 0) 14 0) 15 0) 16 0) 17 0) 18 0) 19 0) 20 0) 21 0))), ((q 0), .inr (12, (mo q)))] := hD
  refine lv_iinc (v := 22) (lv' := [(1, .int 22), (0, .ref (q 0))]) hx hb dX12_back_89 hl (k := 0) rfl (by decide +kernel) (by decide) rfl (fun ls hl => ?_)
  refine lv_goto (tgt := 63) hx hb dX12_back_92 (by decide) ?_
  refine lv_iload_n hx hb dX12_back_63 rfl (lv_at hl 0 rfl) ?_
  refine lv_bipush (v := 40) hx hb dX12_back_64 (by decide +kernel) ?_
  refine lv_icmp_ge (tgt := 95) hx hb dX12_back_66 (by decide) (fun c => absurd c (by decide +kernel)) (fun _ => ?_)
  refine lv_aload_n hx hb dX12_back_69 rfl (lv_at hl 1 rfl) ?_
  refine va_get (D := (dC, dI)) (ci := 12) (v := .ref (q 15)) (C := RX12) (T := TX12) (N := 85) hx hb hts hiX12 hown hK hP 6 rfl rfl 26 (by decide) (hts _ (List.mem_of_getElem? (i := 11) rfl)) (fun _ h9 => h9) rfl dX12_back_70 ?_
  refine lv_bipush (v := 40) hx hb dX12_back_73 (by decide +kernel) ?_
  refine lv_aload_n hx hb dX12_back_75 rfl (lv_at hl 1 rfl) ?_
  refine va_get (D := (dC, dI)) (ci := 12) (v := .int 0) (C := RX12) (T := TX12) (N := 85) hx hb hts hiX12 hown hK hP 6 rfl rfl 12 (by decide) (hts _ (List.mem_of_getElem? (i := 2) rfl)) (fun _ h9 => h9) rfl dX12_back_76 ?_
  refine lv_imul hx hb dX12_back_79 ?_
  refine tp_i (y := 0) (by decide +kernel) ?_
  refine lv_iload_n hx hb dX12_back_80 rfl (lv_at hl 0 rfl) ?_
  refine lv_iadd hx hb dX12_back_81 ?_
  refine tp_i (y := 22) (by decide +kernel) ?_
  refine lv_aload_n hx hb dX12_back_82 rfl (lv_at hl 1 rfl) ?_
  refine va_get (D := (dC, dI)) (ci := 12) (v := .ref (q 46)) (C := RX12) (T := TX12) (N := 85) hx hb hts hiX12 hown hK hP 6 rfl rfl 63 (by decide) (hts _ (List.mem_of_getElem? (i := 12) rfl)) (fun _ h9 => h9) rfl dX12_back_83 ?_
  refine lv_iload_n hx hb dX12_back_86 rfl (lv_at hl 0 rfl) ?_
  refine va_iald hx hb hK hP 4 1 rfl rfl (vpc _ _ (by decide +kernel)) dX12_back_87 ?_
  refine tp_i (y := 0) rfl ?_
  refine va_iast hx hb hK hP hD hS 5 1 rfl rfl (vpc _ _ (by decide +kernel)) dX12_back_88 (fun H locs hP hD hS => ?_)
  have hP : va_P (dC, dI) vwCl [((q 44), .inl (cI, 3, .inl (upd (upd (upd (fun _ => 0) 0 0) 1 0) 2 0))), ((q 18), .inl (cI, 6, .inl (upd (upd (upd f0 0 0) 1 0) 2 0))), ((q 45), .inl (cI, 4, .inl (upd (upd (upd (upd (fun _ => 0) 0 0) 1 0) 2 0) 3 0))), ((q 14), .inl (cI, 8, .inl (upd (upd (upd (upd f1 0 0) 1 0) 2 0) 3 0))), ((q 46), .inl (cI, 40, .inl (upd (upd (upd (upd (upd (upd (upd (upd (upd (upd (upd (upd (upd (upd (upd (upd (upd (upd (upd (upd (upd (upd (upd (upd (upd (upd (upd (upd (upd (upd (upd (upd (upd (upd (upd (upd (upd (upd (upd (upd (fun _ => 0) 0 0) 1 0) 2 0) 3 0) 4 0) 5 0) 6 0) 7 0) 8 0) 9 0) 10 0) 11 0) 12 0) 13 0) 14 0) 15 0) 16 0) 17 0) 18 0) 19 0) 20 0) 21 0) 22 0) 23 0) 24 0) 25 0) 26 0) 27 0) 28 0) 29 0) 30 0) 31 0) 32 0) 33 0) 34 0) 35 0) 36 0) 37 0) 38 0) 39 0))), ((q 15), .inl (cI, 80, .inl (upd (upd (upd (upd (upd (upd (upd (upd (upd (upd (upd (upd (upd (upd (upd (upd (upd (upd (upd (upd (upd (upd (upd f2 0 0) 1 0) 2 0) 3 0) 4 0) 5 0) 6 0) 7 0) 8 0) 9 0) 10 0) 11 0) 12 0) 13 0) 14 0) 15 0) 16 0) 17 0) 18 0) 19 0) 20 0) 21 0) 22 0))), ((q 0), .inr (12, (mo q)))] H := hP
  have hD : va_D A [((q 44), .inl (cI, 3, .inl (upd (upd (upd (fun _ => 0) 0 0) 1 0) 2 0))), ((q 18), .inl (cI, 6, .inl (upd (upd (upd f0 0 0) 1 0) 2 0))), ((q 45), .inl (cI, 4, .inl (upd (upd (upd (upd (fun _ => 0) 0 0) 1 0) 2 0) 3 0))), ((q 14), .inl (cI, 8, .inl (upd (upd (upd (upd f1 0 0) 1 0) 2 0) 3 0))), ((q 46), .inl (cI, 40, .inl (upd (upd (upd (upd (upd (upd (upd (upd (upd (upd (upd (upd (upd (upd (upd (upd (upd (upd (upd (upd (upd (upd (upd (upd (upd (upd (upd (upd (upd (upd (upd (upd (upd (upd (upd (upd (upd (upd (upd (upd (fun _ => 0) 0 0) 1 0) 2 0) 3 0) 4 0) 5 0) 6 0) 7 0) 8 0) 9 0) 10 0) 11 0) 12 0) 13 0) 14 0) 15 0) 16 0) 17 0) 18 0) 19 0) 20 0) 21 0) 22 0) 23 0) 24 0) 25 0) 26 0) 27 0) 28 0) 29 0) 30 0) 31 0) 32 0) 33 0) 34 0) 35 0) 36 0) 37 0) 38 0) 39 0))), ((q 15), .inl (cI, 80, .inl (upd (upd (upd (upd (upd (upd (upd (upd (upd (upd (upd (upd (upd (upd (upd (upd (upd (upd (upd (upd (upd (upd (upd f2 0 0) 1 0) 2 0) 3 0) 4 0) 5 0) 6 0) 7 0) 8 0) 9 0) 10 0) 11 0) 12 0) 13 0) 14 0) 15 0) 16 0) 17 0) 18 0) 19 0) 20 0) 21 0) 22 0))), ((q 0), .inr (12, (mo q)))] := hD
  refine lv_iinc (v := 23) (lv' := [(1, .int 23), (0, .ref (q 0))]) hx hb dX12_back_89 hl (k := 0) rfl (by decide +kernel) (by decide) rfl (fun ls hl => ?_)
  refine lv_goto (tgt := 63) hx hb dX12_back_92 (by decide) ?_
  refine lv_iload_n hx hb dX12_back_63 rfl (lv_at hl 0 rfl) ?_
  refine lv_bipush (v := 40) hx hb dX12_back_64 (by decide +kernel) ?_
  refine lv_icmp_ge (tgt := 95) hx hb dX12_back_66 (by decide) (fun c => absurd c (by decide +kernel)) (fun _ => ?_)
  refine lv_aload_n hx hb dX12_back_69 rfl (lv_at hl 1 rfl) ?_
  refine va_get (D := (dC, dI)) (ci := 12) (v := .ref (q 15)) (C := RX12) (T := TX12) (N := 85) hx hb hts hiX12 hown hK hP 6 rfl rfl 26 (by decide) (hts _ (List.mem_of_getElem? (i := 11) rfl)) (fun _ h9 => h9) rfl dX12_back_70 ?_
  refine lv_bipush (v := 40) hx hb dX12_back_73 (by decide +kernel) ?_
  refine lv_aload_n hx hb dX12_back_75 rfl (lv_at hl 1 rfl) ?_
  refine va_get (D := (dC, dI)) (ci := 12) (v := .int 0) (C := RX12) (T := TX12) (N := 85) hx hb hts hiX12 hown hK hP 6 rfl rfl 12 (by decide) (hts _ (List.mem_of_getElem? (i := 2) rfl)) (fun _ h9 => h9) rfl dX12_back_76 ?_
  refine lv_imul hx hb dX12_back_79 ?_
  refine tp_i (y := 0) (by decide +kernel) ?_
  refine lv_iload_n hx hb dX12_back_80 rfl (lv_at hl 0 rfl) ?_
  refine lv_iadd hx hb dX12_back_81 ?_
  refine tp_i (y := 23) (by decide +kernel) ?_
  refine lv_aload_n hx hb dX12_back_82 rfl (lv_at hl 1 rfl) ?_
  refine va_get (D := (dC, dI)) (ci := 12) (v := .ref (q 46)) (C := RX12) (T := TX12) (N := 85) hx hb hts hiX12 hown hK hP 6 rfl rfl 63 (by decide) (hts _ (List.mem_of_getElem? (i := 12) rfl)) (fun _ h9 => h9) rfl dX12_back_83 ?_
  refine lv_iload_n hx hb dX12_back_86 rfl (lv_at hl 0 rfl) ?_
  refine va_iald hx hb hK hP 4 1 rfl rfl (vpc _ _ (by decide +kernel)) dX12_back_87 ?_
  refine tp_i (y := 0) rfl ?_
  refine va_iast hx hb hK hP hD hS 5 1 rfl rfl (vpc _ _ (by decide +kernel)) dX12_back_88 (fun H locs hP hD hS => ?_)
  have hP : va_P (dC, dI) vwCl [((q 44), .inl (cI, 3, .inl (upd (upd (upd (fun _ => 0) 0 0) 1 0) 2 0))), ((q 18), .inl (cI, 6, .inl (upd (upd (upd f0 0 0) 1 0) 2 0))), ((q 45), .inl (cI, 4, .inl (upd (upd (upd (upd (fun _ => 0) 0 0) 1 0) 2 0) 3 0))), ((q 14), .inl (cI, 8, .inl (upd (upd (upd (upd f1 0 0) 1 0) 2 0) 3 0))), ((q 46), .inl (cI, 40, .inl (upd (upd (upd (upd (upd (upd (upd (upd (upd (upd (upd (upd (upd (upd (upd (upd (upd (upd (upd (upd (upd (upd (upd (upd (upd (upd (upd (upd (upd (upd (upd (upd (upd (upd (upd (upd (upd (upd (upd (upd (fun _ => 0) 0 0) 1 0) 2 0) 3 0) 4 0) 5 0) 6 0) 7 0) 8 0) 9 0) 10 0) 11 0) 12 0) 13 0) 14 0) 15 0) 16 0) 17 0) 18 0) 19 0) 20 0) 21 0) 22 0) 23 0) 24 0) 25 0) 26 0) 27 0) 28 0) 29 0) 30 0) 31 0) 32 0) 33 0) 34 0) 35 0) 36 0) 37 0) 38 0) 39 0))), ((q 15), .inl (cI, 80, .inl (upd (upd (upd (upd (upd (upd (upd (upd (upd (upd (upd (upd (upd (upd (upd (upd (upd (upd (upd (upd (upd (upd (upd (upd f2 0 0) 1 0) 2 0) 3 0) 4 0) 5 0) 6 0) 7 0) 8 0) 9 0) 10 0) 11 0) 12 0) 13 0) 14 0) 15 0) 16 0) 17 0) 18 0) 19 0) 20 0) 21 0) 22 0) 23 0))), ((q 0), .inr (12, (mo q)))] H := hP
  have hD : va_D A [((q 44), .inl (cI, 3, .inl (upd (upd (upd (fun _ => 0) 0 0) 1 0) 2 0))), ((q 18), .inl (cI, 6, .inl (upd (upd (upd f0 0 0) 1 0) 2 0))), ((q 45), .inl (cI, 4, .inl (upd (upd (upd (upd (fun _ => 0) 0 0) 1 0) 2 0) 3 0))), ((q 14), .inl (cI, 8, .inl (upd (upd (upd (upd f1 0 0) 1 0) 2 0) 3 0))), ((q 46), .inl (cI, 40, .inl (upd (upd (upd (upd (upd (upd (upd (upd (upd (upd (upd (upd (upd (upd (upd (upd (upd (upd (upd (upd (upd (upd (upd (upd (upd (upd (upd (upd (upd (upd (upd (upd (upd (upd (upd (upd (upd (upd (upd (upd (fun _ => 0) 0 0) 1 0) 2 0) 3 0) 4 0) 5 0) 6 0) 7 0) 8 0) 9 0) 10 0) 11 0) 12 0) 13 0) 14 0) 15 0) 16 0) 17 0) 18 0) 19 0) 20 0) 21 0) 22 0) 23 0) 24 0) 25 0) 26 0) 27 0) 28 0) 29 0) 30 0) 31 0) 32 0) 33 0) 34 0) 35 0) 36 0) 37 0) 38 0) 39 0))), ((q 15), .inl (cI, 80, .inl (upd (upd (upd (upd (upd (upd (upd (upd (upd (upd (upd (upd (upd (upd (upd (upd (upd (upd (upd (upd (upd (upd (upd (upd f2 0 0) 1 0) 2 0) 3 0) 4 0) 5 0) 6 0) 7 0) 8 0) 9 0) 10 0) 11 0) 12 0) 13 0) 14 0) 15 0) 16 0) 17 0) 18 0) 19 0) 20 0) 21 0) 22 0) 23 0))), ((q 0), .inr (12, (mo q)))] := hD
  refine lv_iinc (v := 24) (lv' := [(1, .int 24), (0, .ref (q 0))]) hx hb dX12_back_89 hl (k := 0) rfl (by decide +kernel) (by decide) rfl (fun ls hl => ?_)
  refine lv_goto (tgt := 63) hx hb dX12_back_92 (by decide) ?_
  refine lv_iload_n hx hb dX12_back_63 rfl (lv_at hl 0 rfl) ?_
  refine lv_bipush (v := 40) hx hb dX12_back_64 (by decide +kernel) ?_
  refine lv_icmp_ge (tgt := 95) hx hb dX12_back_66 (by decide) (fun c => absurd c (by decide +kernel)) (fun _ => ?_)
  refine lv_aload_n hx hb dX12_back_69 rfl (lv_at hl 1 rfl) ?_
  refine va_get (D := (dC, dI)) (ci := 12) (v := .ref (q 15)) (C := RX12) (T := TX12) (N := 85) hx hb hts hiX12 hown hK hP 6 rfl rfl 26 (by decide) (hts _ (List.mem_of_getElem? (i := 11) rfl)) (fun _ h9 => h9) rfl dX12_back_70 ?_
  refine lv_bipush (v := 40) hx hb dX12_back_73 (by decide +kernel) ?_
  refine lv_aload_n hx hb dX12_back_75 rfl (lv_at hl 1 rfl) ?_
  refine va_get (D := (dC, dI)) (ci := 12) (v := .int 0) (C := RX12) (T := TX12) (N := 85) hx hb hts hiX12 hown hK hP 6 rfl rfl 12 (by decide) (hts _ (List.mem_of_getElem? (i := 2) rfl)) (fun _ h9 => h9) rfl dX12_back_76 ?_
  refine lv_imul hx hb dX12_back_79 ?_
  refine tp_i (y := 0) (by decide +kernel) ?_
  refine lv_iload_n hx hb dX12_back_80 rfl (lv_at hl 0 rfl) ?_
  refine lv_iadd hx hb dX12_back_81 ?_
  refine tp_i (y := 24) (by decide +kernel) ?_
  refine lv_aload_n hx hb dX12_back_82 rfl (lv_at hl 1 rfl) ?_
  refine va_get (D := (dC, dI)) (ci := 12) (v := .ref (q 46)) (C := RX12) (T := TX12) (N := 85) hx hb hts hiX12 hown hK hP 6 rfl rfl 63 (by decide) (hts _ (List.mem_of_getElem? (i := 12) rfl)) (fun _ h9 => h9) rfl dX12_back_83 ?_
  refine lv_iload_n hx hb dX12_back_86 rfl (lv_at hl 0 rfl) ?_
  refine va_iald hx hb hK hP 4 1 rfl rfl (vpc _ _ (by decide +kernel)) dX12_back_87 ?_
  refine tp_i (y := 0) rfl ?_
  refine va_iast hx hb hK hP hD hS 5 1 rfl rfl (vpc _ _ (by decide +kernel)) dX12_back_88 (fun H locs hP hD hS => ?_)
  have hP : va_P (dC, dI) vwCl [((q 44), .inl (cI, 3, .inl (upd (upd (upd (fun _ => 0) 0 0) 1 0) 2 0))), ((q 18), .inl (cI, 6, .inl (upd (upd (upd f0 0 0) 1 0) 2 0))), ((q 45), .inl (cI, 4, .inl (upd (upd (upd (upd (fun _ => 0) 0 0) 1 0) 2 0) 3 0))), ((q 14), .inl (cI, 8, .inl (upd (upd (upd (upd f1 0 0) 1 0) 2 0) 3 0))), ((q 46), .inl (cI, 40, .inl (upd (upd (upd (upd (upd (upd (upd (upd (upd (upd (upd (upd (upd (upd (upd (upd (upd (upd (upd (upd (upd (upd (upd (upd (upd (upd (upd (upd (upd (upd (upd (upd (upd (upd (upd (upd (upd (upd (upd (upd (fun _ => 0) 0 0) 1 0) 2 0) 3 0) 4 0) 5 0) 6 0) 7 0) 8 0) 9 0) 10 0) 11 0) 12 0) 13 0) 14 0) 15 0) 16 0) 17 0) 18 0) 19 0) 20 0) 21 0) 22 0) 23 0) 24 0) 25 0) 26 0) 27 0) 28 0) 29 0) 30 0) 31 0) 32 0) 33 0) 34 0) 35 0) 36 0) 37 0) 38 0) 39 0))), ((q 15), .inl (cI, 80, .inl (upd (upd (upd (upd (upd (upd (upd (upd (upd (upd (upd (upd (upd (upd (upd (upd (upd (upd (upd (upd (upd (upd (upd (upd (upd f2 0 0) 1 0) 2 0) 3 0) 4 0) 5 0) 6 0) 7 0) 8 0) 9 0) 10 0) 11 0) 12 0) 13 0) 14 0) 15 0) 16 0) 17 0) 18 0) 19 0) 20 0) 21 0) 22 0) 23 0) 24 0))), ((q 0), .inr (12, (mo q)))] H := hP
  have hD : va_D A [((q 44), .inl (cI, 3, .inl (upd (upd (upd (fun _ => 0) 0 0) 1 0) 2 0))), ((q 18), .inl (cI, 6, .inl (upd (upd (upd f0 0 0) 1 0) 2 0))), ((q 45), .inl (cI, 4, .inl (upd (upd (upd (upd (fun _ => 0) 0 0) 1 0) 2 0) 3 0))), ((q 14), .inl (cI, 8, .inl (upd (upd (upd (upd f1 0 0) 1 0) 2 0) 3 0))), ((q 46), .inl (cI, 40, .inl (upd (upd (upd (upd (upd (upd (upd (upd (upd (upd (upd (upd (upd (upd (upd (upd (upd (upd (upd (upd (upd (upd (upd (upd (upd (upd (upd (upd (upd (upd (upd (upd (upd (upd (upd (upd (upd (upd (upd (upd (fun _ => 0) 0 0) 1 0) 2 0) 3 0) 4 0) 5 0) 6 0) 7 0) 8 0) 9 0) 10 0) 11 0) 12 0) 13 0) 14 0) 15 0) 16 0) 17 0) 18 0) 19 0) 20 0) 21 0) 22 0) 23 0) 24 0) 25 0) 26 0) 27 0) 28 0) 29 0) 30 0) 31 0) 32 0) 33 0) 34 0) 35 0) 36 0) 37 0) 38 0) 39 0))), ((q 15), .inl (cI, 80, .inl (upd (upd (upd (upd (upd (upd (upd (upd (upd (upd (upd (upd (upd (upd (upd (upd (upd (upd (upd (upd (upd (upd (upd (upd (upd f2 0 0) 1 0) 2 0) 3 0) 4 0) 5 0) 6 0) 7 0) 8 0) 9 0) 10 0) 11 0) 12 0) 13 0) 14 0) 15 0) 16 0) 17 0) 18 0) 19 0) 20 0) 21 0) 22 0) 23 0) 24 0))), ((q 0), .inr (12, (mo q)))] := hD
  refine lv_iinc (v := 25) (lv' := [(1, .int 25), (0, .ref (q 0))]) hx hb dX12_back_89 hl (k := 0) rfl (by decide +kernel) (by decide) rfl (fun ls hl => ?_)
  refine lv_goto (tgt := 63) hx hb dX12_back_92 (by decide) ?_
  refine lv_iload_n hx hb dX12_back_63 rfl (lv_at hl 0 rfl) ?_
  refine lv_bipush (v := 40) hx hb dX12_back_64 (by decide +kernel) ?_
  refine lv_icmp_ge (tgt := 95) hx hb dX12_back_66 (by decide) (fun c => absurd c (by decide +kernel)) (fun _ => ?_)
  refine lv_aload_n hx hb dX12_back_69 rfl (lv_at hl 1 rfl) ?_
  refine va_get (D := (dC, dI)) (ci := 12) (v := .ref (q 15)) (C := RX12) (T := TX12) (N := 85) hx hb hts hiX12 hown hK hP 6 rfl rfl 26 (by decide) (hts _ (List.mem_of_getElem? (i := 11) rfl)) (fun _ h9 => h9) rfl dX12_back_70 ?_
  refine lv_bipush (v := 40) hx hb dX12_back_73 (by decide +kernel) ?_
  refine lv_aload_n hx hb dX12_back_75 rfl (lv_at hl 1 rfl) ?_
  refine va_get (D := (dC, dI)) (ci := 12) (v := .int 0) (C := RX12) (T := TX12) (N := 85) hx hb hts hiX12 hown hK hP 6 rfl rfl 12 (by decide) (hts _ (List.mem_of_getElem? (i := 2) rfl)) (fun _ h9 => h9) rfl dX12_back_76 ?_
  refine lv_imul hx hb dX12_back_79 ?_
  refine tp_i (y := 0) (by decide +kernel) ?_
  refine lv_iload_n hx hb dX12_back_80 rfl (lv_at hl 0 rfl) ?_
  refine lv_iadd hx hb dX12_back_81 ?_
  refine tp_i (y := 25) (by decide +kernel) ?_
  refine lv_aload_n hx hb dX12_back_82 rfl (lv_at hl 1 rfl) ?_
  refine va_get (D := (dC, dI)) (ci := 12) (v := .ref (q 46)) (C := RX12) (T := TX12) (N := 85) hx hb hts hiX12 hown hK hP 6 rfl rfl 63 (by decide) (hts _ (List.mem_of_getElem? (i := 12) rfl)) (fun _ h9 => h9) rfl dX12_back_83 ?_
  refine lv_iload_n hx hb dX12_back_86 rfl (lv_at hl 0 rfl) ?_
  refine va_iald hx hb hK hP 4 1 rfl rfl (vpc _ _ (by decide +kernel)) dX12_back_87 ?_
  refine tp_i (y := 0) rfl ?_
  refine va_iast hx hb hK hP hD hS 5 1 rfl rfl (vpc _ _ (by decide +kernel)) dX12_back_88 (fun H locs hP hD hS => ?_)
  have hP : va_P (dC, dI) vwCl [((q 44), .inl (cI, 3, .inl (upd (upd (upd (fun _ => 0) 0 0) 1 0) 2 0))), ((q 18), .inl (cI, 6, .inl (upd (upd (upd f0 0 0) 1 0) 2 0))), ((q 45), .inl (cI, 4, .inl (upd (upd (upd (upd (fun _ => 0) 0 0) 1 0) 2 0) 3 0))), ((q 14), .inl (cI, 8, .inl (upd (upd (upd (upd f1 0 0) 1 0) 2 0) 3 0))), ((q 46), .inl (cI, 40, .inl (upd (upd (upd (upd (upd (upd (upd (upd (upd (upd (upd (upd (upd (upd (upd (upd (upd (upd (upd (upd (upd (upd (upd (upd (upd (upd (upd (upd (upd (upd (upd (upd (upd (upd (upd (upd (upd (upd (upd (upd (fun _ => 0) 0 0) 1 0) 2 0) 3 0) 4 0) 5 0) 6 0) 7 0) 8 0) 9 0) 10 0) 11 0) 12 0) 13 0) 14 0) 15 0) 16 0) 17 0) 18 0) 19 0) 20 0) 21 0) 22 0) 23 0) 24 0) 25 0) 26 0) 27 0) 28 0) 29 0) 30 0) 31 0) 32 0) 33 0) 34 0) 35 0) 36 0) 37 0) 38 0) 39 0))), ((q 15), .inl (cI, 80, .inl (upd (upd (upd (upd (upd (upd (upd (upd (upd (upd (upd (upd (upd (upd (upd (upd (upd (upd (upd (upd (upd (upd (upd (upd (upd (upd f2 0 0) 1 0) 2 0) 3 0) 4 0) 5 0) 6 0) 7 0) 8 0) 9 0) 10 0) 11 0) 12 0) 13 0) 14 0) 15 0) 16 0) 17 0) 18 0) 19 0) 20 0) 21 0) 22 0) 23 0) 24 0) 25 0))), ((q 0), .inr (12, (mo q)))] H := hP
  have hD : va_D A [((q 44), .inl (cI, 3, .inl (upd (upd (upd (fun _ => 0) 0 0) 1 0) 2 0))), ((q 18), .inl (cI, 6, .inl (upd (upd (upd f0 0 0) 1 0) 2 0))), ((q 45), .inl (cI, 4, .inl (upd (upd (upd (upd (fun _ => 0) 0 0) 1 0) 2 0) 3 0))), ((q 14), .inl (cI, 8, .inl (upd (upd (upd (upd f1 0 0) 1 0) 2 0) 3 0))), ((q 46), .inl (cI, 40, .inl (upd (upd (upd (upd (upd (upd (upd (upd (upd (upd (upd (upd (upd (upd (upd (upd (upd (upd (upd (upd (upd (upd (upd (upd (upd (upd (upd (upd (upd (upd (upd (upd (upd (upd (upd (upd (upd (upd (upd (upd (fun _ => 0) 0 0) 1 0) 2 0) 3 0) 4 0) 5 0) 6 0) 7 0) 8 0) 9 0) 10 0) 11 0) 12 0) 13 0) 14 0) 15 0) 16 0) 17 0) 18 0) 19 0) 20 0) 21 0) 22 0) 23 0) 24 0) 25 0) 26 0) 27 0) 28 0) 29 0) 30 0) 31 0) 32 0) 33 0) 34 0) 35 0) 36 0) 37 0) 38 0) 39 0))), ((q 15), .inl (cI, 80, .inl (upd (upd (upd (upd (upd (upd (upd (upd (upd (upd (upd (upd (upd (upd (upd (upd (upd (upd (upd (upd (upd (upd (upd (upd (upd (upd f2 0 0) 1 0) 2 0) 3 0) 4 0) 5 0) 6 0) 7 0) 8 0) 9 0) 10 0) 11 0) 12 0) 13 0) 14 0) 15 0) 16 0) 17 0) 18 0) 19 0) 20 0) 21 0) 22 0) 23 0) 24 0) 25 0))), ((q 0), .inr (12, (mo q)))] := hD
  refine lv_iinc (v := 26) (lv' := [(1, .int 26), (0, .ref (q 0))]) hx hb dX12_back_89 hl (k := 0) rfl (by decide +kernel) (by decide) rfl (fun ls hl => ?_)
  refine lv_goto (tgt := 63) hx hb dX12_back_92 (by decide) ?_
  refine lv_iload_n hx hb dX12_back_63 rfl (lv_at hl 0 rfl) ?_
  refine lv_bipush (v := 40) hx hb dX12_back_64 (by decide +kernel) ?_
  refine lv_icmp_ge (tgt := 95) hx hb dX12_back_66 (by decide) (fun c => absurd c (by decide +kernel)) (fun _ => ?_)
  refine lv_aload_n hx hb dX12_back_69 rfl (lv_at hl 1 rfl) ?_
  refine va_get (D := (dC, dI)) (ci := 12) (v := .ref (q 15)) (C := RX12) (T := TX12) (N := 85) hx hb hts hiX12 hown hK hP 6 rfl rfl 26 (by decide) (hts _ (List.mem_of_getElem? (i := 11) rfl)) (fun _ h9 => h9) rfl dX12_back_70 ?_
  refine lv_bipush (v := 40) hx hb dX12_back_73 (by decide +kernel) ?_
  refine lv_aload_n hx hb dX12_back_75 rfl (lv_at hl 1 rfl) ?_
  refine va_get (D := (dC, dI)) (ci := 12) (v := .int 0) (C := RX12) (T := TX12) (N := 85) hx hb hts hiX12 hown hK hP 6 rfl rfl 12 (by decide) (hts _ (List.mem_of_getElem? (i := 2) rfl)) (fun _ h9 => h9) rfl dX12_back_76 ?_
  refine lv_imul hx hb dX12_back_79 ?_
  refine tp_i (y := 0) (by decide +kernel) ?_
  refine lv_iload_n hx hb dX12_back_80 rfl (lv_at hl 0 rfl) ?_
  refine lv_iadd hx hb dX12_back_81 ?_
  refine tp_i (y := 26) (by decide +kernel) ?_
  refine lv_aload_n hx hb dX12_back_82 rfl (lv_at hl 1 rfl) ?_
  refine va_get (D := (dC, dI)) (ci := 12) (v := .ref (q 46)) (C := RX12) (T := TX12) (N := 85) hx hb hts hiX12 hown hK hP 6 rfl rfl 63 (by decide) (hts _ (List.mem_of_getElem? (i := 12) rfl)) (fun _ h9 => h9) rfl dX12_back_83 ?_
  refine lv_iload_n hx hb dX12_back_86 rfl (lv_at hl 0 rfl) ?_
  refine va_iald hx hb hK hP 4 1 rfl rfl (vpc _ _ (by decide +kernel)) dX12_back_87 ?_
  refine tp_i (y := 0) rfl ?_
  refine va_iast hx hb hK hP hD hS 5 1 rfl rfl (vpc _ _ (by decide +kernel)) dX12_back_88 (fun H locs hP hD hS => ?_)
  have hP : va_P (dC, dI) vwCl [((q 44), .inl (cI, 3, .inl (upd (upd (upd (fun _ => 0) 0 0) 1 0) 2 0))), ((q 18), .inl (cI, 6, .inl (upd (upd (upd f0 0 0) 1 0) 2 0))), ((q 45), .inl (cI, 4, .inl (upd (upd (upd (upd (fun _ => 0) 0 0) 1 0) 2 0) 3 0))), ((q 14), .inl (cI, 8, .inl (upd (upd (upd (upd f1 0 0) 1 0) 2 0) 3 0))), ((q 46), .inl (cI, 40, .inl (upd (upd (upd (upd (upd (upd (upd (upd (upd (upd (upd (upd (upd (upd (upd (upd (upd (upd (upd (upd (upd (upd (upd (upd (upd (upd (upd (upd (upd (upd (upd (upd (upd (upd (upd (upd (upd (upd (upd (upd (fun _ => 0) 0 0) 1 0) 2 0) 3 0) 4 0) 5 0) 6 0) 7 0) 8 0) 9 0) 10 0) 11 0) 12 0) 13 0) 14 0) 15 0) 16 0) 17 0) 18 0) 19 0) 20 0) 21 0) 22 0) 23 0) 24 0) 25 0) 26 0) 27 0) 28 0) 29 0) 30 0) 31 0) 32 0) 33 0) 34 0) 35 0) 36 0) 37 0) 38 0) 39 0))), ((q 15), .inl (cI, 80, .inl (upd (upd (upd (upd (upd (upd (upd (upd (upd (upd (upd (upd (upd (upd (upd (upd (upd (upd (upd (upd (upd (upd (upd (upd (upd (upd (upd f2 0 0) 1 0) 2 0) 3 0) 4 0) 5 0) 6 0) 7 0) 8 0) 9 0) 10 0) 11 0) 12 0) 13 0) 14 0) 15 0) 16 0) 17 0) 18 0) 19 0) 20 0) 21 0) 22 0) 23 0) 24 0) 25 0) 26 0))), ((q 0), .inr (12, (mo q)))] H := hP
  have hD : va_D A [((q 44), .inl (cI, 3, .inl (upd (upd (upd (fun _ => 0) 0 0) 1 0) 2 0))), ((q 18), .inl (cI, 6, .inl (upd (upd (upd f0 0 0) 1 0) 2 0))), ((q 45), .inl (cI, 4, .inl (upd (upd (upd (upd (fun _ => 0) 0 0) 1 0) 2 0) 3 0))), ((q 14), .inl (cI, 8, .inl (upd (upd (upd (upd f1 0 0) 1 0) 2 0) 3 0))), ((q 46), .inl (cI, 40, .inl (upd (upd (upd (upd (upd (upd (upd (upd (upd (upd (upd (upd (upd (upd (upd (upd (upd (upd (upd (upd (upd (upd (upd (upd (upd (upd (upd (upd (upd (upd (upd (upd (upd (upd (upd (upd (upd (upd (upd (upd (fun _ => 0) 0 0) 1 0) 2 0) 3 0) 4 0) 5 0) 6 0) 7 0) 8 0) 9 0) 10 0) 11 0) 12 0) 13 0) 14 0) 15 0) 16 0) 17 0) 18 0) 19 0) 20 0) 21 0) 22 0) 23 0) 24 0) 25 0) 26 0) 27 0) 28 0) 29 0) 30 0) 31 0) 32 0) 33 0) 34 0) 35 0) 36 0) 37 0) 38 0) 39 0))), ((q 15), .inl (cI, 80, .inl (upd (upd (upd (upd (upd (upd (upd (upd (upd (upd (upd (upd (upd (upd (upd (upd (upd (upd (upd (upd (upd (upd (upd (upd (upd (upd (upd f2 0 0) 1 0) 2 0) 3 0) 4 0) 5 0) 6 0) 7 0) 8 0) 9 0) 10 0) 11 0) 12 0) 13 0) 14 0) 15 0) 16 0) 17 0) 18 0) 19 0) 20 0) 21 0) 22 0) 23 0) 24 0) 25 0) 26 0))), ((q 0), .inr (12, (mo q)))] := hD
  refine lv_iinc (v := 27) (lv' := [(1, .int 27), (0, .ref (q 0))]) hx hb dX12_back_89 hl (k := 0) rfl (by decide +kernel) (by decide) rfl (fun ls hl => ?_)
  refine lv_goto (tgt := 63) hx hb dX12_back_92 (by decide) ?_
  refine lv_iload_n hx hb dX12_back_63 rfl (lv_at hl 0 rfl) ?_
  refine lv_bipush (v := 40) hx hb dX12_back_64 (by decide +kernel) ?_
  refine lv_icmp_ge (tgt := 95) hx hb dX12_back_66 (by decide) (fun c => absurd c (by decide +kernel)) (fun _ => ?_)
  refine lv_aload_n hx hb dX12_back_69 rfl (lv_at hl 1 rfl) ?_
  refine va_get (D := (dC, dI)) (ci := 12) (v := .ref (q 15)) (C := RX12) (T := TX12) (N := 85) hx hb hts hiX12 hown hK hP 6 rfl rfl 26 (by decide) (hts _ (List.mem_of_getElem? (i := 11) rfl)) (fun _ h9 => h9) rfl dX12_back_70 ?_
  refine lv_bipush (v := 40) hx hb dX12_back_73 (by decide +kernel) ?_
  refine lv_aload_n hx hb dX12_back_75 rfl (lv_at hl 1 rfl) ?_
  refine va_get (D := (dC, dI)) (ci := 12) (v := .int 0) (C := RX12) (T := TX12) (N := 85) hx hb hts hiX12 hown hK hP 6 rfl rfl 12 (by decide) (hts _ (List.mem_of_getElem? (i := 2) rfl)) (fun _ h9 => h9) rfl dX12_back_76 ?_
  refine lv_imul hx hb dX12_back_79 ?_
  refine tp_i (y := 0) (by decide +kernel) ?_
  refine lv_iload_n hx hb dX12_back_80 rfl (lv_at hl 0 rfl) ?_
  refine lv_iadd hx hb dX12_back_81 ?_
  refine tp_i (y := 27) (by decide +kernel) ?_
  refine lv_aload_n hx hb dX12_back_82 rfl (lv_at hl 1 rfl) ?_
  refine va_get (D := (dC, dI)) (ci := 12) (v := .ref (q 46)) (C := RX12) (T := TX12) (N := 85) hx hb hts hiX12 hown hK hP 6 rfl rfl 63 (by decide) (hts _ (List.mem_of_getElem? (i := 12) rfl)) (fun _ h9 => h9) rfl dX12_back_83 ?_
  refine lv_iload_n hx hb dX12_back_86 rfl (lv_at hl 0 rfl) ?_
  refine va_iald hx hb hK hP 4 1 rfl rfl (vpc _ _ (by decide +kernel)) dX12_back_87 ?_
  refine tp_i (y := 0) rfl ?_
  refine va_iast hx hb hK hP hD hS 5 1 rfl rfl (vpc _ _ (by decide +kernel)) dX12_back_88 (fun H locs hP hD hS => ?_)
  have hP : va_P (dC, dI) vwCl [((q 44), .inl (cI, 3, .inl (upd (upd (upd (fun _ => 0) 0 0) 1 0) 2 0))), ((q 18), .inl (cI, 6, .inl (upd (upd (upd f0 0 0) 1 0) 2 0))), ((q 45), .inl (cI, 4, .inl (upd (upd (upd (upd (fun _ => 0) 0 0) 1 0) 2 0) 3 0))), ((q 14), .inl (cI, 8, .inl (upd (upd (upd (upd f1 0 0) 1 0) 2 0) 3 0))), ((q 46), .inl (cI, 40, .inl (upd (upd (upd (upd (upd (upd (upd (upd (upd (upd (upd (upd (upd (upd (upd (upd (upd (upd (upd (upd (upd (upd (upd (upd (upd (upd (upd (upd (upd (upd (upd (upd (upd (upd (upd (upd (upd (upd (upd (upd (fun _ => 0) 0 0) 1 0) 2 0) 3 0) 4 0) 5 0) 6 0) 7 0) 8 0) 9 0) 10 0) 11 0) 12 0) 13 0) 14 0) 15 0) 16 0) 17 0) 18 0) 19 0) 20 0) 21 0) 22 0) 23 0) 24 0) 25 0) 26 0) 27 0) 28 0) 29 0) 30 0) 31 0) 32 0) 33 0) 34 0) 35 0) 36 0) 37 0) 38 0) 39 0))), ((q 15), .inl (cI, 80, .inl (upd (upd (upd (upd (upd (upd (upd (upd (upd (upd (upd (upd (upd (upd (upd (upd (upd (upd (upd (upd (upd (upd (upd (upd (upd (upd (upd (upd f2 0 0) 1 0) 2 0) 3 0) 4 0) 5 0) 6 0) 7 0) 8 0) 9 0) 10 0) 11 0) 12 0) 13 0) 14 0) 15 0) 16 0) 17 0) 18 0) 19 0) 20 0) 21 0) 22 0) 23 0) 24 0) 25 0) 26 0) 27 0))), ((q 0), .inr (12, (mo q)))] H := hP
  have hD : va_D A [((q 44), .inl (cI, 3, .inl (upd (upd (upd (fun _ => 0) 0 0) 1 0) 2 0))), ((q 18), .inl (cI, 6, .inl (upd (upd (upd f0 0 0) 1 0) 2 0))), ((q 45), .inl (cI, 4, .inl (upd (upd (upd (upd (fun _ => 0) 0 0) 1 0) 2 0) 3 0))), ((q 14), .inl (cI, 8, .inl (upd (upd (upd (upd f1 0 0) 1 0) 2 0) 3 0))), ((q 46), .inl (cI, 40, .inl (upd (upd (upd (upd (upd (upd (upd (upd (upd (upd (upd (upd (upd (upd (upd (upd (upd (upd (upd (upd (upd (upd (upd (upd (upd (upd (upd (upd (upd (upd (upd (upd (upd (upd (upd (upd (upd (upd (upd (upd (fun _ => 0) 0 0) 1 0) 2 0) 3 0) 4 0) 5 0) 6 0) 7 0) 8 0) 9 0) 10 0) 11 0) 12 0) 13 0) 14 0) 15 0) 16 0) 17 0) 18 0) 19 0) 20 0) 21 0) 22 0) 23 0) 24 0) 25 0) 26 0) 27 0) 28 0) 29 0) 30 0) 31 0) 32 0) 33 0) 34 0) 35 0) 36 0) 37 0) 38 0) 39 0))), ((q 15), .inl (cI, 80, .inl (upd (upd (upd (upd (upd (upd (upd (upd (upd (upd (upd (upd (upd (upd (upd (upd (upd (upd (upd (upd (upd (upd (upd (upd (upd (upd (upd (upd f2 0 0) 1 0) 2 0) 3 0) 4 0) 5 0) 6 0) 7 0) 8 0) 9 0) 10 0) 11 0) 12 0) 13 0) 14 0) 15 0) 16 0) 17 0) 18 0) 19 0) 20 0) 21 0) 22 0) 23 0) 24 0) 25 0) 26 0) 27 0))), ((q 0), .inr (12, (mo q)))] := hD
  refine lv_iinc (v := 28) (lv' := [(1, .int 28), (0, .ref (q 0))]) hx hb dX12_back_89 hl (k := 0) rfl (by decide +kernel) (by decide) rfl (fun ls hl => ?_)
  refine lv_goto (tgt := 63) hx hb dX12_back_92 (by decide) ?_
  refine lv_iload_n hx hb dX12_back_63 rfl (lv_at hl 0 rfl) ?_
  refine lv_bipush (v := 40) hx hb dX12_back_64 (by decide +kernel) ?_
  refine lv_icmp_ge (tgt := 95) hx hb dX12_back_66 (by decide) (fun c => absurd c (by decide +kernel)) (fun _ => ?_)
  refine lv_aload_n hx hb dX12_back_69 rfl (lv_at hl 1 rfl) ?_
  refine va_get (D := (dC, dI)) (ci := 12) (v := .ref (q 15)) (C := RX12) (T := TX12) (N := 85) hx hb hts hiX12 hown hK hP 6 rfl rfl 26 (by decide) (hts _ (List.mem_of_getElem? (i := 11) rfl)) (fun _ h9 => h9) rfl dX12_back_70 ?_
  refine lv_bipush (v := 40) hx hb dX12_back_73 (by decide +kernel) ?_
  refine lv_aload_n hx hb dX12_back_75 rfl (lv_at hl 1 rfl) ?_
  refine va_get (D := (dC, dI)) (ci := 12) (v := .int 0) (C := RX12) (T := TX12) (N := 85) hx hb hts hiX12 hown hK hP 6 rfl rfl 12 (by decide) (hts _ (List.mem_of_getElem? (i := 2) rfl)) (fun _ h9 => h9) rfl dX12_back_76 ?_
  refine lv_imul hx hb dX12_back_79 ?_
  refine tp_i (y := 0) (by decide +kernel) ?_
  refine lv_iload_n hx hb dX12_back_80 rfl (lv_at hl 0 rfl) ?_
  refine lv_iadd hx hb dX12_back_81 ?_
  refine tp_i (y := 28) (by decide +kernel) ?_
  refine lv_aload_n hx hb dX12_back_82 rfl (lv_at hl 1 rfl) ?_
  refine va_get (D := (dC, dI)) (ci := 12) (v := .ref (q 46)) (C := RX12) (T := TX12) (N := 85) hx hb hts hiX12 hown hK hP 6 rfl rfl 63 (by decide) (hts _ (List.mem_of_getElem? (i := 12) rfl)) (fun _ h9 => h9) rfl dX12_back_83 ?_
  refine lv_iload_n hx hb dX12_back_86 rfl (lv_at hl 0 rfl) ?_
  refine va_iald hx hb hK hP 4 1 rfl rfl (vpc _ _ (by decide +kernel)) dX12_back_87 ?_
  refine tp_i (y := 0) rfl ?_
  refine va_iast hx hb hK hP hD hS 5 1 rfl rfl (vpc _ _ (by decide +kernel)) dX12_back_88 (fun H locs hP hD hS => ?_)
  have hP : va_P (dC, dI) vwCl [((q 44), .inl (cI, 3, .inl (upd (upd (upd (fun _ => 0) 0 0) 1 0) 2 0))), ((q 18), .inl (cI, 6, .inl (upd (upd (upd f0 0 0) 1 0) 2 0))), ((q 45), .inl (cI, 4, .inl (upd (upd (upd (upd (fun _ => 0) 0 0) 1 0) 2 0) 3 0))), ((q 14), .inl (cI, 8, .inl (upd (upd (upd (upd f1 0 0) 1 0) 2 0) 3 0))), ((q 46), .inl (cI, 40, .inl (upd (upd (upd (upd (upd (upd (upd (upd (upd (upd (upd (upd (upd (upd (upd (upd (upd (upd (upd (upd (upd (upd (upd (upd (upd (upd (upd (upd (upd (upd (upd (upd (upd (upd (upd (upd (upd (upd (upd (upd (fun _ => 0) 0 0) 1 0) 2 0) 3 0) 4 0) 5 0) 6 0) 7 0) 8 0) 9 0) 10 0) 11 0) 12 0) 13 0) 14 0) 15 0) 16 0) 17 0) 18 0) 19 0) 20 0) 21 0) 22 0) 23 0) 24 0) 25 0) 26 0) 27 0) 28 0) 29 0) 30 0) 31 0) 32 0) 33 0) 34 0) 35 0) 36 0) 37 0) 38 0) 39 0))), ((q 15), .inl (cI, 80, .inl (upd (upd (upd (upd (upd (upd (upd (upd (upd (upd (upd (upd (upd (upd (upd (upd (upd (upd (upd (upd (upd (upd (upd (upd (upd (upd (upd (upd (upd f2 0 0) 1 0) 2 0) 3 0) 4 0) 5 0) 6 0) 7 0) 8 0) 9 0) 10 0) 11 0) 12 0) 13 0) 14 0) 15 0) 16 0) 17 0) 18 0) 19 0) 20 0) 21 0) 22 0) 23 0) 24 0) 25 0) 26 0) 27 0) 28 0))), ((q 0), .inr (12, (mo q)))] H := hP
  have hD : va_D A [((q 44), .inl (cI, 3, .inl (upd (upd (upd (fun _ => 0) 0 0) 1 0) 2 0))), ((q 18), .inl (cI, 6, .inl (upd (upd (upd f0 0 0) 1 0) 2 0))), ((q 45), .inl (cI, 4, .inl (upd (upd (upd (upd (fun _ => 0) 0 0) 1 0) 2 0) 3 0))), ((q 14), .inl (cI, 8, .inl (upd (upd (upd (upd f1 0 0) 1 0) 2 0) 3 0))), ((q 46), .inl (cI, 40, .inl (upd (upd (upd (upd (upd (upd (upd (upd (upd (upd (upd (upd (upd (upd (upd (upd (upd (upd (upd (upd (upd (upd (upd (upd (upd (upd (upd (upd (upd (upd (upd (upd (upd (upd (upd (upd (upd (upd (upd (upd (fun _ => 0) 0 0) 1 0) 2 0) 3 0) 4 0) 5 0) 6 0) 7 0) 8 0) 9 0) 10 0) 11 0) 12 0) 13 0) 14 0) 15 0) 16 0) 17 0) 18 0) 19 0) 20 0) 21 0) 22 0) 23 0) 24 0) 25 0) 26 0) 27 0) 28 0) 29 0) 30 0) 31 0) 32 0) 33 0) 34 0) 35 0) 36 0) 37 0) 38 0) 39 0))), ((q 15), .inl (cI, 80, .inl (upd (upd (upd (upd (upd (upd (upd (upd (upd (upd (upd (upd (upd (upd (upd (upd (upd (upd (upd (upd (upd (upd (upd (upd (upd (upd (upd (upd (upd f2 0 0) 1 0) 2 0) 3 0) 4 0) 5 0) 6 0) 7 0) 8 0) 9 0) 10 0) 11 0) 12 0) 13 0) 14 0) 15 0) 16 0) 17 0) 18 0) 19 0) 20 0) 21 0) 22 0) 23 0) 24 0) 25 0) 26 0) 27 0) 28 0))), ((q 0), .inr (12, (mo q)))] := hD
  refine lv_iinc (v := 29) (lv' := [(1, .int 29), (0, .ref (q 0))]) hx hb dX12_back_89 hl (k := 0) rfl (by decide +kernel) (by decide) rfl (fun ls hl => ?_)
  refine lv_goto (tgt := 63) hx hb dX12_back_92 (by decide) ?_
  refine lv_iload_n hx hb dX12_back_63 rfl (lv_at hl 0 rfl) ?_
  refine lv_bipush (v := 40) hx hb dX12_back_64 (by decide +kernel) ?_
  refine lv_icmp_ge (tgt := 95) hx hb dX12_back_66 (by decide) (fun c => absurd c (by decide +kernel)) (fun _ => ?_)
  refine lv_aload_n hx hb dX12_back_69 rfl (lv_at hl 1 rfl) ?_
  refine va_get (D := (dC, dI)) (ci := 12) (v := .ref (q 15)) (C := RX12) (T := TX12) (N := 85) hx hb hts hiX12 hown hK hP 6 rfl rfl 26 (by decide) (hts _ (List.mem_of_getElem? (i := 11) rfl)) (fun _ h9 => h9) rfl dX12_back_70 ?_
  refine lv_bipush (v := 40) hx hb dX12_back_73 (by decide +kernel) ?_
  refine lv_aload_n hx hb dX12_back_75 rfl (lv_at hl 1 rfl) ?_
  refine va_get (D := (dC, dI)) (ci := 12) (v := .int 0) (C := RX12) (T := TX12) (N := 85) hx hb hts hiX12 hown hK hP 6 rfl rfl 12 (by decide) (hts _ (List.mem_of_getElem? (i := 2) rfl)) (fun _ h9 => h9) rfl dX12_back_76 ?_
  refine lv_imul hx hb dX12_back_79 ?_
  refine tp_i (y := 0) (by decide +kernel) ?_
  refine lv_iload_n hx hb dX12_back_80 rfl (lv_at hl 0 rfl) ?_
  refine lv_iadd hx hb dX12_back_81 ?_
  refine tp_i (y := 29) (by decide +kernel) ?_
  refine lv_aload_n hx hb dX12_back_82 rfl (lv_at hl 1 rfl) ?_
  refine va_get (D := (dC, dI)) (ci := 12) (v := .ref (q 46)) (C := RX12) (T := TX12) (N := 85) hx hb hts hiX12 hown hK hP 6 rfl rfl 63 (by decide) (hts _ (List.mem_of_getElem? (i := 12) rfl)) (fun _ h9 => h9) rfl dX12_back_83 ?_
  refine lv_iload_n hx hb dX12_back_86 rfl (lv_at hl 0 rfl) ?_
  refine va_iald hx hb hK hP 4 1 rfl rfl (vpc _ _ (by decide +kernel)) dX12_back_87 ?_
  refine tp_i (y := 0) rfl ?_
  refine va_iast hx hb hK hP hD hS 5 1 rfl rfl (vpc _ _ (by decide +kernel)) dX12_back_88 (fun H locs hP hD hS => ?_)
  have hP : va_P (dC, dI) vwCl [((q 44), .inl (cI, 3, .inl (upd (upd (upd (fun _ => 0) 0 0) 1 0) 2 0))), ((q 18), .inl (cI, 6, .inl (upd (upd (upd f0 0 0) 1 0) 2 0))), ((q 45), .inl (cI, 4, .inl (upd (upd (upd (upd (fun _ => 0) 0 0) 1 0) 2 0) 3 0))), ((q 14), .inl (cI, 8, .inl (upd (upd (upd (upd f1 0 0) 1 0) 2 0) 3 0))), ((q 46), .inl (cI, 40, .inl (upd (upd (upd (upd (upd (upd (upd (upd (upd (upd (upd (upd (upd (upd (upd (upd (upd (upd (upd (upd (upd (upd (upd (upd (upd (upd (upd (upd (upd (upd (upd (upd (upd (upd (upd (upd (upd (upd (upd (upd (fun _ => 0) 0 0) 1 0) 2 0) 3 0) 4 0) 5 0) 6 0) 7 0) 8 0) 9 0) 10 0) 11 0) 12 0) 13 0) 14 0) 15 0) 16 0) 17 0) 18 0) 19 0) 20 0) 21 0) 22 0) 23 0) 24 0) 25 0) 26 0) 27 0) 28 0) 29 0) 30 0) 31 0) 32 0) 33 0) 34 0) 35 0) 36 0) 37 0) 38 0) 39 0))), ((q 15), .inl (cI, 80, .inl (upd (upd (upd (upd (upd (upd (upd (upd (upd (upd (upd (upd (upd (upd (upd (upd (upd (upd (upd (upd (upd (upd (upd (upd (upd (upd (upd (upd (upd (upd f2 0 0) 1 0) 2 0) 3 0) 4 0) 5 0) 6 0) 7 0) 8 0) 9 0) 10 0) 11 0) 12 0) 13 0) 14 0) 15 0) 16 0) 17 0) 18 0) 19 0) 20 0) 21 0) 22 0) 23 0) 24 0) 25 0) 26 0) 27 0) 28 0) 29 0))), ((q 0), .inr (12, (mo q)))] H := hP
  have hD : va_D A [((q 44), .inl (cI, 3, .inl (upd (upd (upd (fun _ => 0) 0 0) 1 0) 2 0))), ((q 18), .inl (cI, 6, .inl (upd (upd (upd f0 0 0) 1 0) 2 0))), ((q 45), .inl (cI, 4, .inl (upd (upd (upd (upd (fun _ => 0) 0 0) 1 0) 2 0) 3 0))), ((q 14), .inl (cI, 8, .inl (upd (upd (upd (upd f1 0 0) 1 0) 2 0) 3 0))), ((q 46), .inl (cI, 40, .inl (upd (upd (upd (upd (upd (upd (upd (upd (upd (upd (upd (upd (upd (upd (upd (upd (upd (upd (upd (upd (upd (upd (upd (upd (upd (upd (upd (upd (upd (upd (upd (upd (upd (upd (upd (upd (upd (upd (upd (upd (fun _ => 0) 0 0) 1 0) 2 0) 3 0) 4 0) 5 0) 6 0) 7 0) 8 0) 9 0) 10 0) 11 0) 12 0) 13 0) 14 0) 15 0) 16 0) 17 0) 18 0) 19 0) 20 0) 21 0) 22 0) 23 0) 24 0) 25 0) 26 0) 27 0) 28 0) 29 0) 30 0) 31 0) 32 0) 33 0) 34 0) 35 0) 36 0) 37 0) 38 0) 39 0))), ((q 15), .inl (cI, 80, .inl (upd (upd (upd (upd (upd (upd (upd (upd (upd (upd (upd (upd (upd (upd (upd (upd (upd (upd (upd (upd (upd (upd (upd (upd (upd (upd (upd (upd (upd (upd f2 0 0) 1 0) 2 0) 3 0) 4 0) 5 0) 6 0) 7 0) 8 0) 9 0) 10 0) 11 0) 12 0) 13 0) 14 0) 15 0) 16 0) 17 0) 18 0) 19 0) 20 0) 21 0) 22 0) 23 0) 24 0) 25 0) 26 0) 27 0) 28 0) 29 0))), ((q 0), .inr (12, (mo q)))] := hD
  refine lv_iinc (v := 30) (lv' := [(1, .int 30), (0, .ref (q 0))]) hx hb dX12_back_89 hl (k := 0) rfl (by decide +kernel) (by decide) rfl (fun ls hl => ?_)
  refine lv_goto (tgt := 63) hx hb dX12_back_92 (by decide) ?_
  refine lv_iload_n hx hb dX12_back_63 rfl (lv_at hl 0 rfl) ?_
  refine lv_bipush (v := 40) hx hb dX12_back_64 (by decide +kernel) ?_
  refine lv_icmp_ge (tgt := 95) hx hb dX12_back_66 (by decide) (fun c => absurd c (by decide +kernel)) (fun _ => ?_)
  refine lv_aload_n hx hb dX12_back_69 rfl (lv_at hl 1 rfl) ?_
  refine va_get (D := (dC, dI)) (ci := 12) (v := .ref (q 15)) (C := RX12) (T := TX12) (N := 85) hx hb hts hiX12 hown hK hP 6 rfl rfl 26 (by decide) (hts _ (List.mem_of_getElem? (i := 11) rfl)) (fun _ h9 => h9) rfl dX12_back_70 ?_
  refine lv_bipush (v := 40) hx hb dX12_back_73 (by decide +kernel) ?_
  refine lv_aload_n hx hb dX12_back_75 rfl (lv_at hl 1 rfl) ?_
  refine va_get (D := (dC, dI)) (ci := 12) (v := .int 0) (C := RX12) (T := TX12) (N := 85) hx hb hts hiX12 hown hK hP 6 rfl rfl 12 (by decide) (hts _ (List.mem_of_getElem? (i := 2) rfl)) (fun _ h9 => h9) rfl dX12_back_76 ?_
  refine lv_imul hx hb dX12_back_79 ?_
  refine tp_i (y := 0) (by decide +kernel) ?_
  refine lv_iload_n hx hb dX12_back_80 rfl (lv_at hl 0 rfl) ?_
  refine lv_iadd hx hb dX12_back_81 ?_
  refine tp_i (y := 30) (by decide +kernel) ?_
  refine lv_aload_n hx hb dX12_back_82 rfl (lv_at hl 1 rfl) ?_
  refine va_get (D := (dC, dI)) (ci := 12) (v := .ref (q 46)) (C := RX12) (T := TX12) (N := 85) hx hb hts hiX12 hown hK hP 6 rfl rfl 63 (by decide) (hts _ (List.mem_of_getElem? (i := 12) rfl)) (fun _ h9 => h9) rfl dX12_back_83 ?_
  refine lv_iload_n hx hb dX12_back_86 rfl (lv_at hl 0 rfl) ?_
  refine va_iald hx hb hK hP 4 1 rfl rfl (vpc _ _ (by decide +kernel)) dX12_back_87 ?_
  refine tp_i (y := 0) rfl ?_
  refine va_iast hx hb hK hP hD hS 5 1 rfl rfl (vpc _ _ (by decide +kernel)) dX12_back_88 (fun H locs hP hD hS => ?_)
  have hP : va_P (dC, dI) vwCl [((q 44), .inl (cI, 3, .inl (upd (upd (upd (fun _ => 0) 0 0) 1 0) 2 0))), ((q 18), .inl (cI, 6, .inl (upd (upd (upd f0 0 0) 1 0) 2 0))), ((q 45), .inl (cI, 4, .inl (upd (upd (upd (upd (fun _ => 0) 0 0) 1 0) 2 0) 3 0))), ((q 14), .inl (cI, 8, .inl (upd (upd (upd (upd f1 0 0) 1 0) 2 0) 3 0))), ((q 46), .inl (cI, 40, .inl (upd (upd (upd (upd (upd (upd (upd (upd (upd (upd (upd (upd (upd (upd (upd (upd (upd (upd (upd (upd (upd (upd (upd (upd (upd (upd (upd (upd (upd (upd (upd (upd (upd (upd (upd (upd (upd (upd (upd (upd (fun _ => 0) 0 0) 1 0) 2 0) 3 0) 4 0) 5 0) 6 0) 7 0) 8 0) 9 0) 10 0) 11 0) 12 0) 13 0) 14 0) 15 0) 16 0) 17 0) 18 0) 19 0) 20 0) 21 0) 22 0) 23 0) 24 0) 25 0) 26 0) 27 0) 28 0) 29 0) 30 0) 31 0) 32 0) 33 0) 34 0) 35 0) 36 0) 37 0) 38 0) 39 0))), ((q 15), .inl (cI, 80, .inl (upd (upd (upd (upd (upd (upd (upd (upd (upd (upd (upd (upd (upd (upd (upd (upd (upd (upd (upd (upd (upd (upd (upd (upd (upd (upd (upd (upd (upd (upd (upd f2 0 0) 1 0) 2 0) 3 0) 4 0) 5 0) 6 0) 7 0) 8 0) 9 0) 10 0) 11 0) 12 0) 13 0) 14 0) 15 0) 16 0) 17 0) 18 0) 19 0) 20 0) 21 0) 22 0) 23 0) 24 0) 25 0) 26 0) 27 0) 28 0) 29 0) 30 0))), ((q 0), .inr (12, (mo q)))] H := hP
  have hD : va_D A [((q 44), .inl (cI, 3, .inl (upd (upd (upd (fun _ => 0) 0 0) 1 0) 2 0))), ((q 18), .inl (cI, 6, .inl (upd (upd (upd f0 0 0) 1 0) 2 0))), ((q 45), .inl (cI, 4, .inl (upd (upd (upd (upd (fun _ => 0) 0 0) 1 0) 2 0) 3 0))), ((q 14), .inl (cI, 8, .inl (upd (upd (upd (upd f1 0 0) 1 0) 2 0) 3 0))), ((q 46), .inl (cI, 40, .inl (upd (upd (upd (upd (upd (upd (upd (upd (upd (upd (upd (upd (upd (upd (upd (upd (upd (upd (upd (upd (upd (upd (upd (upd (upd (upd (upd (upd (upd (upd (upd (upd (upd (upd (upd (upd (upd (upd (upd (upd (fun _ => 0) 0 0) 1 0) 2 0) 3 0) 4 0) 5 0) 6 0) 7 0) 8 0) 9 0) 10 0) 11 0) 12 0) 13 0) 14 0) 15 0) 16 0) 17 0) 18 0) 19 0) 20 0) 21 0) 22 0) 23 0) 24 0) 25 0) 26 0) 27 0) 28 0) 29 0) 30 0) 31 0) 32 0) 33 0) 34 0) 35 0) 36 0) 37 0) 38 0) 39 0))), ((q 15), .inl (cI, 80, .inl (upd (upd (upd (upd (upd (upd (upd (upd (upd (upd (upd (upd (upd (upd (upd (upd (upd (upd (upd (upd (upd (upd (upd (upd (upd (upd (upd (upd (upd (upd (upd f2 0 0) 1 0) 2 0) 3 0) 4 0) 5 0) 6 0) 7 0) 8 0) 9 0) 10 0) 11 0) 12 0) 13 0) 14 0) 15 0) 16 0) 17 0) 18 0) 19 0) 20 0) 21 0) 22 0) 23 0) 24 0) 25 0) 26 0) 27 0) 28 0) 29 0) 30 0))), ((q 0), .inr (12, (mo q)))] := hD
  refine lv_iinc (v := 31) (lv' := [(1, .int 31), (0, .ref (q 0))]) hx hb dX12_back_89 hl (k := 0) rfl (by decide +kernel) (by decide) rfl (fun ls hl => ?_)
  refine lv_goto (tgt := 63) hx hb dX12_back_92 (by decide) ?_
  refine lv_iload_n hx hb dX12_back_63 rfl (lv_at hl 0 rfl) ?_
  refine lv_bipush (v := 40) hx hb dX12_back_64 (by decide +kernel) ?_
  refine lv_icmp_ge (tgt := 95) hx hb dX12_back_66 (by decide) (fun c => absurd c (by decide +kernel)) (fun _ => ?_)
  refine lv_aload_n hx hb dX12_back_69 rfl (lv_at hl 1 rfl) ?_
  refine va_get (D := (dC, dI)) (ci := 12) (v := .ref (q 15)) (C := RX12) (T := TX12) (N := 85) hx hb hts hiX12 hown hK hP 6 rfl rfl 26 (by decide) (hts _ (List.mem_of_getElem? (i := 11) rfl)) (fun _ h9 => h9) rfl dX12_back_70 ?_
  refine lv_bipush (v := 40) hx hb dX12_back_73 (by decide +kernel) ?_
  refine lv_aload_n hx hb dX12_back_75 rfl (lv_at hl 1 rfl) ?_
  refine va_get (D := (dC, dI)) (ci := 12) (v := .int 0) (C := RX12) (T := TX12) (N := 85) hx hb hts hiX12 hown hK hP 6 rfl rfl 12 (by decide) (hts _ (List.mem_of_getElem? (i := 2) rfl)) (fun _ h9 => h9) rfl dX12_back_76 ?_
  refine lv_imul hx hb dX12_back_79 ?_
  refine tp_i (y := 0) (by decide +kernel) ?_
  refine lv_iload_n hx hb dX12_back_80 rfl (lv_at hl 0 rfl) ?_
  refine lv_iadd hx hb dX12_back_81 ?_
  refine tp_i (y := 31) (by decide +kernel) ?_
  refine lv_aload_n hx hb dX12_back_82 rfl (lv_at hl 1 rfl) ?_
  refine va_get (D := (dC, dI)) (ci := 12) (v := .ref (q 46)) (C := RX12) (T := TX12) (N := 85) hx hb hts hiX12 hown hK hP 6 rfl rfl 63 (by decide) (hts _ (List.mem_of_getElem? (i := 12) rfl)) (fun _ h9 => h9) rfl dX12_back_83 ?_
  refine lv_iload_n hx hb dX12_back_86 rfl (lv_at hl 0 rfl) ?_
  refine va_iald hx hb hK hP 4 1 rfl rfl (vpc _ _ (by decide +kernel)) dX12_back_87 ?_
  refine tp_i (y := 0) rfl ?_
  refine va_iast hx hb hK hP hD hS 5 1 rfl rfl (vpc _ _ (by decide +kernel)) dX12_back_88 (fun H locs hP hD hS => ?_)
  have hP : va_P (dC, dI) vwCl [((q 44), .inl (cI, 3, .inl (upd (upd (upd (fun _ => 0) 0 0) 1 0) 2 0))), ((q 18), .inl (cI, 6, .inl (upd (upd (upd f0 0 0) 1 0) 2 0))), ((q 45), .inl (cI, 4, .inl (upd (upd (upd (upd (fun _ => 0) 0 0) 1 0) 2 0) 3 0))), ((q 14), .inl (cI, 8, .inl (upd (upd (upd (upd f1 0 0) 1 0) 2 0) 3 0))), ((q 46), .inl (cI, 40, .inl (upd (upd (upd (upd (upd (upd (upd (upd (upd (upd (upd (upd (upd (upd (upd (upd (upd (upd (upd (upd (upd (upd (upd (upd (upd (upd (upd (upd (upd (upd (upd (upd (upd (upd (upd (upd (upd (upd (upd (upd (fun _ => 0) 0 0) 1 0) 2 0) 3 0) 4 0) 5 0) 6 0) 7 0) 8 0) 9 0) 10 0) 11 0) 12 0) 13 0) 14 0) 15 0) 16 0) 17 0) 18 0) 19 0) 20 0) 21 0) 22 0) 23 0) 24 0) 25 0) 26 0) 27 0) 28 0) 29 0) 30 0) 31 0) 32 0) 33 0) 34 0) 35 0) 36 0) 37 0) 38 0) 39 0))), ((q 15), .inl (cI, 80, .inl (upd (upd (upd (upd (upd (upd (upd (upd (upd (upd (upd (upd (upd (upd (upd (upd (upd (upd (upd (upd (upd (upd (upd (upd (upd (upd (upd (upd (upd (upd (upd (upd f2 0 0) 1 0) 2 0) 3 0) 4 0) 5 0) 6 0) 7 0) 8 0) 9 0) 10 0) 11 0) 12 0) 13 0) 14 0) 15 0) 16 0) 17 0) 18 0) 19 0) 20 0) 21 0) 22 0) 23 0) 24 0) 25 0) 26 0) 27 0) 28 0) 29 0) 30 0) 31 0))), ((q 0), .inr (12, (mo q)))] H := hP
  have hD : va_D A [((q 44), .inl (cI, 3, .inl (upd (upd (upd (fun _ => 0) 0 0) 1 0) 2 0))), ((q 18), .inl (cI, 6, .inl (upd (upd (upd f0 0 0) 1 0) 2 0))), ((q 45), .inl (cI, 4, .inl (upd (upd (upd (upd (fun _ => 0) 0 0) 1 0) 2 0) 3 0))), ((q 14), .inl (cI, 8, .inl (upd (upd (upd (upd f1 0 0) 1 0) 2 0) 3 0))), ((q 46), .inl (cI, 40, .inl (upd (upd (upd (upd (upd (upd (upd (upd (upd (upd (upd (upd (upd (upd (upd (upd (upd (upd (upd (upd (upd (upd (upd (upd (upd (upd (upd (upd (upd (upd (upd (upd (upd (upd (upd (upd (upd (upd (upd (upd (fun _ => 0) 0 0) 1 0) 2 0) 3 0) 4 0) 5 0) 6 0) 7 0) 8 0) 9 0) 10 0) 11 0) 12 0) 13 0) 14 0) 15 0) 16 0) 17 0) 18 0) 19 0) 20 0) 21 0) 22 0) 23 0) 24 0) 25 0) 26 0) 27 0) 28 0) 29 0) 30 0) 31 0) 32 0) 33 0) 34 0) 35 0) 36 0) 37 0) 38 0) 39 0))), ((q 15), .inl (cI, 80, .inl (upd (upd (upd (upd (upd (upd (upd (upd (upd (upd (upd (upd (upd (upd (upd (upd (upd (upd (upd (upd (upd (upd (upd (upd (upd (upd (upd (upd (upd (upd (upd (upd f2 0 0) 1 0) 2 0) 3 0) 4 0) 5 0) 6 0) 7 0) 8 0) 9 0) 10 0) 11 0) 12 0) 13 0) 14 0) 15 0) 16 0) 17 0) 18 0) 19 0) 20 0) 21 0) 22 0) 23 0) 24 0) 25 0) 26 0) 27 0) 28 0) 29 0) 30 0) 31 0))), ((q 0), .inr (12, (mo q)))] := hD
  refine lv_iinc (v := 32) (lv' := [(1, .int 32), (0, .ref (q 0))]) hx hb dX12_back_89 hl (k := 0) rfl (by decide +kernel) (by decide) rfl (fun ls hl => ?_)
  refine lv_goto (tgt := 63) hx hb dX12_back_92 (by decide) ?_
  refine lv_iload_n hx hb dX12_back_63 rfl (lv_at hl 0 rfl) ?_
  refine lv_bipush (v := 40) hx hb dX12_back_64 (by decide +kernel) ?_
  refine lv_icmp_ge (tgt := 95) hx hb dX12_back_66 (by decide) (fun c => absurd c (by decide +kernel)) (fun _ => ?_)
  refine lv_aload_n hx hb dX12_back_69 rfl (lv_at hl 1 rfl) ?_
  refine va_get (D := (dC, dI)) (ci := 12) (v := .ref (q 15)) (C := RX12) (T := TX12) (N := 85) hx hb hts hiX12 hown hK hP 6 rfl rfl 26 (by decide) (hts _ (List.mem_of_getElem? (i := 11) rfl)) (fun _ h9 => h9) rfl dX12_back_70 ?_
  refine lv_bipush (v := 40) hx hb dX12_back_73 (by decide +kernel) ?_
  refine lv_aload_n hx hb dX12_back_75 rfl (lv_at hl 1 rfl) ?_
  refine va_get (D := (dC, dI)) (ci := 12) (v := .int 0) (C := RX12) (T := TX12) (N := 85) hx hb hts hiX12 hown hK hP 6 rfl rfl 12 (by decide) (hts _ (List.mem_of_getElem? (i := 2) rfl)) (fun _ h9 => h9) rfl dX12_back_76 ?_
  refine lv_imul hx hb dX12_back_79 ?_
  refine tp_i (y := 0) (by decide +kernel) ?_
  refine lv_iload_n hx hb dX12_back_80 rfl (lv_at hl 0 rfl) ?_
  refine lv_iadd hx hb dX12_back_81 ?_
  refine tp_i (y := 32) (by decide +kernel) ?_
  refine lv_aload_n hx hb dX12_back_82 rfl (lv_at hl 1 rfl) ?_
  refine va_get (D := (dC, dI)) (ci := 12) (v := .ref (q 46)) (C := RX12) (T := TX12) (N := 85) hx hb hts hiX12 hown hK hP 6 rfl rfl 63 (by decide) (hts _ (List.mem_of_getElem? (i := 12) rfl)) (fun _ h9 => h9) rfl dX12_back_83 ?_
  refine lv_iload_n hx hb dX12_back_86 rfl (lv_at hl 0 rfl) ?_
  refine va_iald hx hb hK hP 4 1 rfl rfl (vpc _ _ (by decide +kernel)) dX12_back_87 ?_
  refine tp_i (y := 0) rfl ?_
  refine va_iast hx hb hK hP hD hS 5 1 rfl rfl (vpc _ _ (by decide +kernel)) dX12_back_88 (fun H locs hP hD hS => ?_)
  have hP : va_P (dC, dI) vwCl [((q 44), .inl (cI, 3, .inl (upd (upd (upd (fun _ => 0) 0 0) 1 0) 2 0))), ((q 18), .inl (cI, 6, .inl (upd (upd (upd f0 0 0) 1 0) 2 0))), ((q 45), .inl (cI, 4, .inl (upd (upd (upd (upd (fun _ => 0) 0 0) 1 0) 2 0) 3 0))), ((q 14), .inl (cI, 8, .inl (upd (upd (upd (upd f1 0 0) 1 0) 2 0) 3 0))), ((q 46), .inl (cI, 40, .inl (upd (upd (upd (upd (upd (upd (upd (upd (upd (upd (upd (upd (upd (upd (upd (upd (upd (upd (upd (upd (upd (upd (upd (upd (upd (upd (upd (upd (upd (upd (upd (upd (upd (upd (upd (upd (upd (upd (upd (upd (fun _ => 0) 0 0) 1 0) 2 0) 3 0) 4 0) 5 0) 6 0) 7 0) 8 0) 9 0) 10 0) 11 0) 12 0) 13 0) 14 0) 15 0) 16 0) 17 0) 18 0) 19 0) 20 0) 21 0) 22 0) 23 0) 24 0) 25 0) 26 0) 27 0) 28 0) 29 0) 30 0) 31 0) 32 0) 33 0) 34 0) 35 0) 36 0) 37 0) 38 0) 39 0))), ((q 15), .inl (cI, 80, .inl (upd (upd (upd (upd (upd (upd (upd (upd (upd (upd (upd (upd (upd (upd (upd (upd (upd (upd (upd (upd (upd (upd (upd (upd (upd (upd (upd (upd (upd (upd (upd (upd (upd f2 0 0) 1 0) 2 0) 3 0) 4 0) 5 0) 6 0) 7 0) 8 0) 9 0) 10 0) 11 0) 12 0) 13 0) 14 0) 15 0) 16 0) 17 0) 18 0) 19 0) 20 0) 21 0) 22 0) 23 0) 24 0) 25 0) 26 0) 27 0) 28 0) 29 0) 30 0) 31 0) 32 0))), ((q 0), .inr (12, (mo q)))] H := hP
  have hD : va_D A [((q 44), .inl (cI, 3, .inl (upd (upd (upd (fun _ => 0) 0 0) 1 0) 2 0))), ((q 18), .inl (cI, 6, .inl (upd (upd (upd f0 0 0) 1 0) 2 0))), ((q 45), .inl (cI, 4, .inl (upd (upd (upd (upd (fun _ => 0) 0 0) 1 0) 2 0) 3 0))), ((q 14), .inl (cI, 8, .inl (upd (upd (upd (upd f1 0 0) 1 0) 2 0) 3 0))), ((q 46), .inl (cI, 40, .inl (upd (upd (upd (upd (upd (upd (upd (upd (upd (upd (upd (upd (upd (upd (upd (upd (upd (upd (upd (upd (upd (upd (upd (upd (upd (upd (upd (upd (upd (upd (upd (upd (upd (upd (upd (upd (upd (upd (upd (upd (fun _ => 0) 0 0) 1 0) 2 0) 3 0) 4 0) 5 0) 6 0) 7 0) 8 0) 9 0) 10 0) 11 0) 12 0) 13 0) 14 0) 15 0) 16 0) 17 0) 18 0) 19 0) 20 0) 21 0) 22 0) 23 0) 24 0) 25 0) 26 0) 27 0) 28 0) 29 0) 30 0) 31 0) 32 0) 33 0) 34 0) 35 0) 36 0) 37 0) 38 0) 39 0))), ((q 15), .inl (cI, 80, .inl (upd (upd (upd (upd (upd (upd (upd (upd (upd (upd (upd (upd (upd (upd (upd (upd (upd (upd (upd (upd (upd (upd (upd (upd (upd (upd (upd (upd (upd (upd (upd (upd (upd f2 0 0) 1 0) 2 0) 3 0) 4 0) 5 0) 6 0) 7 0) 8 0) 9 0) 10 0) 11 0) 12 0) 13 0) 14 0) 15 0) 16 0) 17 0) 18 0) 19 0) 20 0) 21 0) 22 0) 23 0) 24 0) 25 0) 26 0) 27 0) 28 0) 29 0) 30 0) 31 0) 32 0))), ((q 0), .inr (12, (mo q)))] := hD
  refine lv_iinc (v := 33) (lv' := [(1, .int 33), (0, .ref (q 0))]) hx hb dX12_back_89 hl (k := 0) rfl (by decide +kernel) (by decide) rfl (fun ls hl => ?_)
  refine lv_goto (tgt := 63) hx hb dX12_back_92 (by decide) ?_
  refine lv_iload_n hx hb dX12_back_63 rfl (lv_at hl 0 rfl) ?_
  refine lv_bipush (v := 40) hx hb dX12_back_64 (by decide +kernel) ?_
  refine lv_icmp_ge (tgt := 95) hx hb dX12_back_66 (by decide) (fun c => absurd c (by decide +kernel)) (fun _ => ?_)
  refine lv_aload_n hx hb dX12_back_69 rfl (lv_at hl 1 rfl) ?_
  refine va_get (D := (dC, dI)) (ci := 12) (v := .ref (q 15)) (C := RX12) (T := TX12) (N := 85) hx hb hts hiX12 hown hK hP 6 rfl rfl 26 (by decide) (hts _ (List.mem_of_getElem? (i := 11) rfl)) (fun _ h9 => h9) rfl dX12_back_70 ?_
  refine lv_bipush (v := 40) hx hb dX12_back_73 (by decide +kernel) ?_
  refine lv_aload_n hx hb dX12_back_75 rfl (lv_at hl 1 rfl) ?_
  refine va_get (D := (dC, dI)) (ci := 12) (v := .int 0) (C := RX12) (T := TX12) (N := 85) hx hb hts hiX12 hown hK hP 6 rfl rfl 12 (by decide) (hts _ (List.mem_of_getElem? (i := 2) rfl)) (fun _ h9 => h9) rfl dX12_back_76 ?_
  refine lv_imul hx hb dX12_back_79 ?_
  refine tp_i (y := 0) (by decide +kernel) ?_
  refine lv_iload_n hx hb dX12_back_80 rfl (lv_at hl 0 rfl) ?_
  refine lv_iadd hx hb dX12_back_81 ?_
  refine tp_i (y := 33) (by decide +kernel) ?_
  refine lv_aload_n hx hb dX12_back_82 rfl (lv_at hl 1 rfl) ?_
  refine va_get (D := (dC, dI)) (ci := 12) (v := .ref (q 46)) (C := RX12) (T := TX12) (N := 85) hx hb hts hiX12 hown hK hP 6 rfl rfl 63 (by decide) (hts _ (List.mem_of_getElem? (i := 12) rfl)) (fun _ h9 => h9) rfl dX12_back_83 ?_
  refine lv_iload_n hx hb dX12_back_86 rfl (lv_at hl 0 rfl) ?_
  refine va_iald hx hb hK hP 4 1 rfl rfl (vpc _ _ (by decide +kernel)) dX12_back_87 ?_
  refine tp_i (y := 0) rfl ?_
  refine va_iast hx hb hK hP hD hS 5 1 rfl rfl (vpc _ _ (by decide +kernel)) dX12_back_88 (fun H locs hP hD hS => ?_)
  have hP : va_P (dC, dI) vwCl [((q 44), .inl (cI, 3, .inl (upd (upd (upd (fun _ => 0) 0 0) 1 0) 2 0))), ((q 18), .inl (cI, 6, .inl (upd (upd (upd f0 0 0) 1 0) 2 0))), ((q 45), .inl (cI, 4, .inl (upd (upd (upd (upd (fun _ => 0) 0 0) 1 0) 2 0) 3 0))), ((q 14), .inl (cI, 8, .inl (upd (upd (upd (upd f1 0 0) 1 0) 2 0) 3 0))), ((q 46), .inl (cI, 40, .inl (upd (upd (upd (upd (upd (upd (upd (upd (upd (upd (upd (upd (upd (upd (upd (upd (upd (upd (upd (upd (upd (upd (upd (upd (upd (upd (upd (upd (upd (upd (upd (upd (upd (upd (upd (upd (upd (upd (upd (upd (fun _ => 0) 0 0) 1 0) 2 0) 3 0) 4 0) 5 0) 6 0) 7 0) 8 0) 9 0) 10 0) 11 0) 12 0) 13 0) 14 0) 15 0) 16 0) 17 0) 18 0) 19 0) 20 0) 21 0) 22 0) 23 0) 24 0) 25 0) 26 0) 27 0) 28 0) 29 0) 30 0) 31 0) 32 0) 33 0) 34 0) 35 0) 36 0) 37 0) 38 0) 39 0))), ((q 15), .inl (cI, 80, .inl (upd (upd (upd (upd (upd (upd (upd (upd (upd (upd (upd (upd (upd (upd (upd (upd (upd (upd (upd (upd (upd (upd (upd (upd (upd (upd (upd (upd (upd (upd (upd (upd (upd (upd f2 0 0) 1 0) 2 0) 3 0) 4 0) 5 0) 6 0) 7 0) 8 0) 9 0) 10 0) 11 0) 12 0) 13 0) 14 0) 15 0) 16 0) 17 0) 18 0) 19 0) 20 0) 21 0) 22 0) 23 0) 24 0) 25 0) 26 0) 27 0) 28 0) 29 0) 30 0) 31 0) 32 0) 33 0))), ((q 0), .inr (12, (mo q)))] H := hP
  have hD : va_D A [((q 44), .inl (cI, 3, .inl (upd (upd (upd (fun _ => 0) 0 0) 1 0) 2 0))), ((q 18), .inl (cI, 6, .inl (upd (upd (upd f0 0 0) 1 0) 2 0))), ((q 45), .inl (cI, 4, .inl (upd (upd (upd (upd (fun _ => 0) 0 0) 1 0) 2 0) 3 0))), ((q 14), .inl (cI, 8, .inl (upd (upd (upd (upd f1 0 0) 1 0) 2 0) 3 0))), ((q 46), .inl (cI, 40, .inl (upd (upd (upd (upd (upd (upd (upd (upd (upd (upd (upd (upd (upd (upd (upd (upd (upd (upd (upd (upd (upd (upd (upd (upd (upd (upd (upd (upd (upd (upd (upd (upd (upd (upd (upd (upd (upd (upd (upd (upd (fun _ => 0) 0 0) 1 0) 2 0) 3 0) 4 0) 5 0) 6 0) 7 0) 8 0) 9 0) 10 0) 11 0) 12 0) 13 0) 14 0) 15 0) 16 0) 17 0) 18 0) 19 0) 20 0) 21 0) 22 0) 23 0) 24 0) 25 0) 26 0) 27 0) 28 0) 29 0) 30 0) 31 0) 32 0) 33 0) 34 0) 35 0) 36 0) 37 0) 38 0) 39 0))), ((q 15), .inl (cI, 80, .inl (upd (upd (upd (upd (upd (upd (upd (upd (upd (upd (upd (upd (upd (upd (upd (upd (upd (upd (upd (upd (upd (upd (upd (upd (upd (upd (upd (upd (upd (upd (upd (upd (upd (upd f2 0 0) 1 0) 2 0) 3 0) 4 0) 5 0) 6 0) 7 0) 8 0) 9 0) 10 0) 11 0) 12 0) 13 0) 14 0) 15 0) 16 0) 17 0) 18 0) 19 0) 20 0) 21 0) 22 0) 23 0) 24 0) 25 0) 26 0) 27 0) 28 0) 29 0) 30 0) 31 0) 32 0) 33 0))), ((q 0), .inr (12, (mo q)))] := hD
  refine lv_iinc (v := 34) (lv' := [(1, .int 34), (0, .ref (q 0))]) hx hb dX12_back_89 hl (k := 0) rfl (by decide +kernel) (by decide) rfl (fun ls hl => ?_)
  refine lv_goto (tgt := 63) hx hb dX12_back_92 (by decide) ?_
  refine lv_iload_n hx hb dX12_back_63 rfl (lv_at hl 0 rfl) ?_
  refine lv_bipush (v := 40) hx hb dX12_back_64 (by decide +kernel) ?_
  refine lv_icmp_ge (tgt := 95) hx hb dX12_back_66 (by decide) (fun c => absurd c (by decide +kernel)) (fun _ => ?_)
  refine lv_aload_n hx hb dX12_back_69 rfl (lv_at hl 1 rfl) ?_
  refine va_get (D := (dC, dI)) (ci := 12) (v := .ref (q 15)) (C := RX12) (T := TX12) (N := 85) hx hb hts hiX12 hown hK hP 6 rfl rfl 26 (by decide) (hts _ (List.mem_of_getElem? (i := 11) rfl)) (fun _ h9 => h9) rfl dX12_back_70 ?_
  refine lv_bipush (v := 40) hx hb dX12_back_73 (by decide +kernel) ?_
  refine lv_aload_n hx hb dX12_back_75 rfl (lv_at hl 1 rfl) ?_
  refine va_get (D := (dC, dI)) (ci := 12) (v := .int 0) (C := RX12) (T := TX12) (N := 85) hx hb hts hiX12 hown hK hP 6 rfl rfl 12 (by decide) (hts _ (List.mem_of_getElem? (i := 2) rfl)) (fun _ h9 => h9) rfl dX12_back_76 ?_
  refine lv_imul hx hb dX12_back_79 ?_
  refine tp_i (y := 0) (by decide +kernel) ?_
  refine lv_iload_n hx hb dX12_back_80 rfl (lv_at hl 0 rfl) ?_
  refine lv_iadd hx hb dX12_back_81 ?_
  refine tp_i (y := 34) (by decide +kernel) ?_
  refine lv_aload_n hx hb dX12_back_82 rfl (lv_at hl 1 rfl) ?_
  refine va_get (D := (dC, dI)) (ci := 12) (v := .ref (q 46)) (C := RX12) (T := TX12) (N := 85) hx hb hts hiX12 hown hK hP 6 rfl rfl 63 (by decide) (hts _ (List.mem_of_getElem? (i := 12) rfl)) (fun _ h9 => h9) rfl dX12_back_83 ?_
  refine lv_iload_n hx hb dX12_back_86 rfl (lv_at hl 0 rfl) ?_
  refine va_iald hx hb hK hP 4 1 rfl rfl (vpc _ _ (by decide +kernel)) dX12_back_87 ?_
  refine tp_i (y := 0) rfl ?_
  refine va_iast hx hb hK hP hD hS 5 1 rfl rfl (vpc _ _ (by decide +kernel)) dX12_back_88 (fun H locs hP hD hS => ?_)
  have hP : va_P (dC, dI) vwCl [((q 44), .inl (cI, 3, .inl (upd (upd (upd (fun _ => 0) 0 0) 1 0) 2 0))), ((q 18), .inl (cI, 6, .inl (upd (upd (upd f0 0 0) 1 0) 2 0))), ((q 45), .inl (cI, 4, .inl (upd (upd (upd (upd (fun _ => 0) 0 0) 1 0) 2 0) 3 0))), ((q 14), .inl (cI, 8, .inl (upd (upd (upd (upd f1 0 0) 1 0) 2 0) 3 0))), ((q 46), .inl (cI, 40, .inl (upd (upd (upd (upd (upd (upd (upd (upd (upd (upd (upd (upd (upd (upd (upd (upd (upd (upd (upd (upd (upd (upd (upd (upd (upd (upd (upd (upd (upd (upd (upd (upd (upd (upd (upd (upd (upd (upd (upd (upd (fun _ => 0) 0 0) 1 0) 2 0) 3 0) 4 0) 5 0) 6 0) 7 0) 8 0) 9 0) 10 0) 11 0) 12 0) 13 0) 14 0) 15 0) 16 0) 17 0) 18 0) 19 0) 20 0) 21 0) 22 0) 23 0) 24 0) 25 0) 26 0) 27 0) 28 0) 29 0) 30 0) 31 0) 32 0) 33 0) 34 0) 35 0) 36 0) 37 0) 38 0) 39 0))), ((q 15), .inl (cI, 80, .inl (upd (upd (upd (upd (upd (upd (upd (upd (upd (upd (upd (upd (upd (upd (upd (upd (upd (upd (upd (upd (upd (upd (upd (upd (upd (upd (upd (upd (upd (upd (upd (upd (upd (upd (upd f2 0 0) 1 0) 2 0) 3 0) 4 0) 5 0) 6 0) 7 0) 8 0) 9 0) 10 0) 11 0) 12 0) 13 0) 14 0) 15 0) 16 0) 17 0) 18 0) 19 0) 20 0) 21 0) 22 0) 23 0) 24 0) 25 0) 26 0) 27 0) 28 0) 29 0) 30 0) 31 0) 32 0) 33 0) 34 0))), ((q 0), .inr (12, (mo q)))] H := hP
  have hD : va_D A [((q 44), .inl (cI, 3, .inl (upd (upd (upd (fun _ => 0) 0 0) 1 0) 2 0))), ((q 18), .inl (cI, 6, .inl (upd (upd (upd f0 0 0) 1 0) 2 0))), ((q 45), .inl (cI, 4, .inl (upd (upd (upd (upd (fun _ => 0) 0 0) 1 0) 2 0) 3 0))), ((q 14), .inl (cI, 8, .inl (upd (upd (upd (upd f1 0 0) 1 0) 2 0) 3 0))), ((q 46), .inl (cI, 40, .inl (upd (upd (upd (upd (upd (upd (upd (upd (upd (upd (upd (upd (upd (upd (upd (upd (upd (upd (upd (upd (upd (upd (upd (upd (upd (upd (upd (upd (upd (upd (upd (upd (upd (upd (upd (upd (upd (upd (upd (upd (fun _ => 0) 0 0) 1 0) 2 0) 3 0) 4 0) 5 0) 6 0) 7 0) 8 0) 9 0) 10 0) 11 0) 12 0) 13 0) 14 0) 15 0) 16 0) 17 0) 18 0) 19 0) 20 0) 21 0) 22 0) 23 0) 24 0) 25 0) 26 0) 27 0) 28 0) 29 0) 30 0) 31 0) 32 0) 33 0) 34 0) 35 0) 36 0) 37 0) 38 0) 39 0))), ((q 15), .inl (cI, 80, .inl (upd (upd (upd (upd (upd (upd (upd (upd (upd (upd (upd (upd (upd (upd (upd (upd (upd (upd (upd (upd (upd (upd (upd (upd (upd (upd (upd (upd (upd (upd (upd (upd (upd (upd (upd f2 0 0) 1 0) 2 0) 3 0) 4 0) 5 0) 6 0) 7 0) 8 0) 9 0) 10 0) 11 0) 12 0) 13 0) 14 0) 15 0) 16 0) 17 0) 18 0) 19 0) 20 0) 21 0) 22 0) 23 0) 24 0) 25 0) 26 0) 27 0) 28 0) 29 0) 30 0) 31 0) 32 0) 33 0) 34 0))), ((q 0), .inr (12, (mo q)))] := hD
  refine lv_iinc (v := 35) (lv' := [(1, .int 35), (0, .ref (q 0))]) hx hb dX12_back_89 hl (k := 0) rfl (by decide +kernel) (by decide) rfl (fun ls hl => ?_)
  refine lv_goto (tgt := 63) hx hb dX12_back_92 (by decide) ?_
  refine lv_iload_n hx hb dX12_back_63 rfl (lv_at hl 0 rfl) ?_
  refine lv_bipush (v := 40) hx hb dX12_back_64 (by decide +kernel) ?_
  refine lv_icmp_ge (tgt := 95) hx hb dX12_back_66 (by decide) (fun c => absurd c (by decide +kernel)) (fun _ => ?_)
  refine lv_aload_n hx hb dX12_back_69 rfl (lv_at hl 1 rfl) ?_
  refine va_get (D := (dC, dI)) (ci := 12) (v := .ref (q 15)) (C := RX12) (T := TX12) (N := 85) hx hb hts hiX12 hown hK hP 6 rfl rfl 26 (by decide) (hts _ (List.mem_of_getElem? (i := 11) rfl)) (fun _ h9 => h9) rfl dX12_back_70 ?_
  refine lv_bipush (v := 40) hx hb dX12_back_73 (by decide +kernel) ?_
  refine lv_aload_n hx hb dX12_back_75 rfl (lv_at hl 1 rfl) ?_
  refine va_get (D := (dC, dI)) (ci := 12) (v := .int 0) (C := RX12) (T := TX12) (N := 85) hx hb hts hiX12 hown hK hP 6 rfl rfl 12 (by decide) (hts _ (List.mem_of_getElem? (i := 2) rfl)) (fun _ h9 => h9) rfl dX12_back_76 ?_
  refine lv_imul hx hb dX12_back_79 ?_
  refine tp_i (y := 0) (by decide +kernel) ?_
  refine lv_iload_n hx hb dX12_back_80 rfl (lv_at hl 0 rfl) ?_
  refine lv_iadd hx hb dX12_back_81 ?_
  refine tp_i (y := 35) (by decide +kernel) ?_
  refine lv_aload_n hx hb dX12_back_82 rfl (lv_at hl 1 rfl) ?_
  refine va_get (D := (dC, dI)) (ci := 12) (v := .ref (q 46)) (C := RX12) (T := TX12) (N := 85) hx hb hts hiX12 hown hK hP 6 rfl rfl 63 (by decide) (hts _ (List.mem_of_getElem? (i := 12) rfl)) (fun _ h9 => h9) rfl dX12_back_83 ?_
  refine lv_iload_n hx hb dX12_back_86 rfl (lv_at hl 0 rfl) ?_
  refine va_iald hx hb hK hP 4 1 rfl rfl (vpc _ _ (by decide +kernel)) dX12_back_87 ?_
  refine tp_i (y := 0) rfl ?_
  refine va_iast hx hb hK hP hD hS 5 1 rfl rfl (vpc _ _ (by decide +kernel)) dX12_back_88 (fun H locs hP hD hS => ?_)
  have hP : va_P (dC, dI) vwCl [((q 44), .inl (cI, 3, .inl (upd (upd (upd (fun _ => 0) 0 0) 1 0) 2 0))), ((q 18), .inl (cI, 6, .inl (upd (upd (upd f0 0 0) 1 0) 2 0))), ((q 45), .inl (cI, 4, .inl (upd (upd (upd (upd (fun _ => 0) 0 0) 1 0) 2 0) 3 0))), ((q 14), .inl (cI, 8, .inl (upd (upd (upd (upd f1 0 0) 1 0) 2 0) 3 0))), ((q 46), .inl (cI, 40, .inl (upd (upd (upd (upd (upd (upd (upd (upd (upd (upd (upd (upd (upd (upd (upd (upd (upd (upd (upd (upd (upd (upd (upd (upd (upd (upd (upd (upd (upd (upd (upd (upd (upd (upd (upd (upd (upd (upd (upd (upd (fun _ => 0) 0 0) 1 0) 2 0) 3 0) 4 0) 5 0) 6 0) 7 0) 8 0) 9 0) 10 0) 11 0) 12 0) 13 0) 14 0) 15 0) 16 0) 17 0) 18 0) 19 0) 20 0) 21 0) 22 0) 23 0) 24 0) 25 0) 26 0) 27 0) 28 0) 29 0) 30 0) 31 0) 32 0) 33 0) 34 0) 35 0) 36 0) 37 0) 38 0) 39 0))), ((q 15), .inl (cI, 80, .inl (upd (upd (upd (upd (upd (upd (upd (upd (upd (upd (upd (upd (upd (upd (upd (upd (upd (upd (upd (upd (upd (upd (upd (upd (upd (upd (upd (upd (upd (upd (upd (upd (upd (upd (upd (upd f2 0 0) 1 0) 2 0) 3 0) 4 0) 5 0) 6 0) 7 0) 8 0) 9 0) 10 0) 11 0) 12 0) 13 0) 14 0) 15 0) 16 0) 17 0) 18 0) 19 0) 20 0) 21 0) 22 0) 23 0) 24 0) 25 0) 26 0) 27 0) 28 0) 29 0) 30 0) 31 0) 32 0) 33 0) 34 0) 35 0))), ((q 0), .inr (12, (mo q)))] H := hP
  have hD : va_D A [((q 44), .inl (cI, 3, .inl (upd (upd (upd (fun _ => 0) 0 0) 1 0) 2 0))), ((q 18), .inl (cI, 6, .inl (upd (upd (upd f0 0 0) 1 0) 2 0))), ((q 45), .inl (cI, 4, .inl (upd (upd (upd (upd (fun _ => 0) 0 0) 1 0) 2 0) 3 0))), ((q 14), .inl (cI, 8, .inl (upd (upd (upd (upd f1 0 0) 1 0) 2 0) 3 0))), ((q 46), .inl (cI, 40, .inl (upd (upd (upd (upd (upd (upd (upd (upd (upd (upd (upd (upd (upd (upd (upd (upd (upd (upd (upd (upd (upd (upd (upd (upd (upd (upd (upd (upd (upd (upd (upd (upd (upd (upd (upd (upd (upd (upd (upd (upd (fun _ => 0) 0 0) 1 0) 2 0) 3 0) 4 0) 5 0) 6 0) 7 0) 8 0) 9 0) 10 0) 11 0) 12 0) 13 0) 14 0) 15 0) 16 0) 17 0) 18 0) 19 0) 20 0) 21 0) 22 0) 23 0) 24 0) 25 0) 26 0) 27 0) 28 0) 29 0) 30 0) 31 0) 32 0) 33 0) 34 0) 35 0) 36 0) 37 0) 38 0) 39 0))), ((q 15), .inl (cI, 80, .inl (upd (upd (upd (upd (upd (upd (upd (upd (upd (upd (upd (upd (upd (upd (upd (upd (upd (upd (upd (upd (upd (upd (upd (upd (upd (upd (upd (upd (upd (upd (upd (upd (upd (upd (upd (upd f2 0 0) 1 0) 2 0) 3 0) 4 0) 5 0) 6 0) 7 0) 8 0) 9 0) 10 0) 11 0) 12 0) 13 0) 14 0) 15 0) 16 0) 17 0) 18 0) 19 0) 20 0) 21 0) 22 0) 23 0) 24 0) 25 0) 26 0) 27 0) 28 0) 29 0) 30 0) 31 0) 32 0) 33 0) 34 0) 35 0))), ((q 0), .inr (12, (mo q)))] := hD
  refine lv_iinc (v := 36) (lv' := [(1, .int 36), (0, .ref (q 0))]) hx hb dX12_back_89 hl (k := 0) rfl (by decide +kernel) (by decide) rfl (fun ls hl => ?_)
  refine lv_goto (tgt := 63) hx hb dX12_back_92 (by decide) ?_
  refine lv_iload_n hx hb dX12_back_63 rfl (lv_at hl 0 rfl) ?_
  refine lv_bipush (v := 40) hx hb dX12_back_64 (by decide +kernel) ?_
  refine lv_icmp_ge (tgt := 95) hx hb dX12_back_66 (by decide) (fun c => absurd c (by decide +kernel)) (fun _ => ?_)
  refine lv_aload_n hx hb dX12_back_69 rfl (lv_at hl 1 rfl) ?_
  refine va_get (D := (dC, dI)) (ci := 12) (v := .ref (q 15)) (C := RX12) (T := TX12) (N := 85) hx hb hts hiX12 hown hK hP 6 rfl rfl 26 (by decide) (hts _ (List.mem_of_getElem? (i := 11) rfl)) (fun _ h9 => h9) rfl dX12_back_70 ?_
  refine lv_bipush (v := 40) hx hb dX12_back_73 (by decide +kernel) ?_
  refine lv_aload_n hx hb dX12_back_75 rfl (lv_at hl 1 rfl) ?_
  refine va_get (D := (dC, dI)) (ci := 12) (v := .int 0) (C := RX12) (T := TX12) (N := 85) hx hb hts hiX12 hown hK hP 6 rfl rfl 12 (by decide) (hts _ (List.mem_of_getElem? (i := 2) rfl)) (fun _ h9 => h9) rfl dX12_back_76 ?_
  refine lv_imul hx hb dX12_back_79 ?_
  refine tp_i (y := 0) (by decide +kernel) ?_
  refine lv_iload_n hx hb dX12_back_80 rfl (lv_at hl 0 rfl) ?_
  refine lv_iadd hx hb dX12_back_81 ?_
  refine tp_i (y := 36) (by decide +kernel) ?_
  refine lv_aload_n hx hb dX12_back_82 rfl (lv_at hl 1 rfl) ?_
  refine va_get (D := (dC, dI)) (ci := 12) (v := .ref (q 46)) (C := RX12) (T := TX12) (N := 85) hx hb hts hiX12 hown hK hP 6 rfl rfl 63 (by decide) (hts _ (List.mem_of_getElem? (i := 12) rfl)) (fun _ h9 => h9) rfl dX12_back_83 ?_
  refine lv_iload_n hx hb dX12_back_86 rfl (lv_at hl 0 rfl) ?_
  refine va_iald hx hb hK hP 4 1 rfl rfl (vpc _ _ (by decide +kernel)) dX12_back_87 ?_
  refine tp_i (y := 0) rfl ?_
  refine va_iast hx hb hK hP hD hS 5 1 rfl rfl (vpc _ _ (by decide +kernel)) dX12_back_88 (fun H locs hP hD hS => ?_)
  have hP : va_P (dC, dI) vwCl [((q 44), .inl (cI, 3, .inl (upd (upd (upd (fun _ => 0) 0 0) 1 0) 2 0))), ((q 18), .inl (cI, 6, .inl (upd (upd (upd f0 0 0) 1 0) 2 0))), ((q 45), .inl (cI, 4, .inl (upd (upd (upd (upd (fun _ => 0) 0 0) 1 0) 2 0) 3 0))), ((q 14), .inl (cI, 8, .inl (upd (upd (upd (upd f1 0 0) 1 0) 2 0) 3 0))), ((q 46), .inl (cI, 40, .inl (upd (upd (upd (upd (upd (upd (upd (upd (upd (upd (upd (upd (upd (upd (upd (upd (upd (upd (upd (upd (upd (upd (upd (upd (upd (upd (upd (upd (upd (upd (upd (upd (upd (upd (upd (upd (upd (upd (upd (upd (fun _ => 0) 0 0) 1 0) 2 0) 3 0) 4 0) 5 0) 6 0) 7 0) 8 0) 9 0) 10 0) 11 0) 12 0) 13 0) 14 0) 15 0) 16 0) 17 0) 18 0) 19 0) 20 0) 21 0) 22 0) 23 0) 24 0) 25 0) 26 0) 27 0) 28 0) 29 0) 30 0) 31 0) 32 0) 33 0) 34 0) 35 0) 36 0) 37 0) 38 0) 39 0))), ((q 15), .inl (cI, 80, .inl (upd (upd (upd (upd (upd (upd (upd (upd (upd (upd (upd (upd (upd (upd (upd (upd (upd (upd (upd (upd (upd (upd (upd (upd (upd (upd (upd (upd (upd (upd (upd (upd (upd (upd (upd (upd (upd f2 0 0) 1 0) 2 0) 3 0) 4 0) 5 0) 6 0) 7 0) 8 0) 9 0) 10 0) 11 0) 12 0) 13 0) 14 0) 15 0) 16 0) 17 0) 18 0) 19 0) 20 0) 21 0) 22 0) 23 0) 24 0) 25 0) 26 0) 27 0) 28 0) 29 0) 30 0) 31 0) 32 0) 33 0) 34 0) 35 0) 36 0))), ((q 0), .inr (12, (mo q)))] H := hP
  have hD : va_D A [((q 44), .inl (cI, 3, .inl (upd (upd (upd (fun _ => 0) 0 0) 1 0) 2 0))), ((q 18), .inl (cI, 6, .inl (upd (upd (upd f0 0 0) 1 0) 2 0))), ((q 45), .inl (cI, 4, .inl (upd (upd (upd (upd (fun _ => 0) 0 0) 1 0) 2 0) 3 0))), ((q 14), .inl (cI, 8, .inl (upd (upd (upd (upd f1 0 0) 1 0) 2 0) 3 0))), ((q 46), .inl (cI, 40, .inl (upd (upd (upd (upd (upd (upd (upd (upd (upd (upd (upd (upd (upd (upd (upd (upd (upd (upd (upd (upd (upd (upd (upd (upd (upd (upd (upd (upd (upd (upd (upd (upd (upd (upd (upd (upd (upd (upd (upd (upd (fun _ => 0) 0 0) 1 0) 2 0) 3 0) 4 0) 5 0) 6 0) 7 0) 8 0) 9 0) 10 0) 11 0) 12 0) 13 0) 14 0) 15 0) 16 0) 17 0) 18 0) 19 0) 20 0) 21 0) 22 0) 23 0) 24 0) 25 0) 26 0) 27 0) 28 0) 29 0) 30 0) 31 0) 32 0) 33 0) 34 0) 35 0) 36 0) 37 0) 38 0) 39 0))), ((q 15), .inl (cI, 80, .inl (upd (upd (upd (upd (upd (upd (upd (upd (upd (upd (upd (upd (upd (upd (upd (upd (upd (upd (upd (upd (upd (upd (upd (upd (upd (upd (upd (upd (upd (upd (upd (upd (upd (upd (upd (upd (upd f2 0 0) 1 0) 2 0) 3 0) 4 0) 5 0) 6 0) 7 0) 8 0) 9 0) 10 0) 11 0) 12 0) 13 0) 14 0) 15 0) 16 0) 17 0) 18 0) 19 0) 20 0) 21 0) 22 0) 23 0) 24 0) 25 0) 26 0) 27 0) 28 0) 29 0) 30 0) 31 0) 32 0) 33 0) 34 0) 35 0) 36 0))), ((q 0), .inr (12, (mo q)))] := hD
  refine lv_iinc (v := 37) (lv' := [(1, .int 37), (0, .ref (q 0))]) hx hb dX12_back_89 hl (k := 0) rfl (by decide +kernel) (by decide) rfl (fun ls hl => ?_)
  refine lv_goto (tgt := 63) hx hb dX12_back_92 (by decide) ?_
  refine lv_iload_n hx hb dX12_back_63 rfl (lv_at hl 0 rfl) ?_
  refine lv_bipush (v := 40) hx hb dX12_back_64 (by decide +kernel) ?_
  refine lv_icmp_ge (tgt := 95) hx hb dX12_back_66 (by decide) (fun c => absurd c (by decide +kernel)) (fun _ => ?_)
  refine lv_aload_n hx hb dX12_back_69 rfl (lv_at hl 1 rfl) ?_
  refine va_get (D := (dC, dI)) (ci := 12) (v := .ref (q 15)) (C := RX12) (T := TX12) (N := 85) hx hb hts hiX12 hown hK hP 6 rfl rfl 26 (by decide) (hts _ (List.mem_of_getElem? (i := 11) rfl)) (fun _ h9 => h9) rfl dX12_back_70 ?_
  refine lv_bipush (v := 40) hx hb dX12_back_73 (by decide +kernel) ?_
  refine lv_aload_n hx hb dX12_back_75 rfl (lv_at hl 1 rfl) ?_
  refine va_get (D := (dC, dI)) (ci := 12) (v := .int 0) (C := RX12) (T := TX12) (N := 85) hx hb hts hiX12 hown hK hP 6 rfl rfl 12 (by decide) (hts _ (List.mem_of_getElem? (i := 2) rfl)) (fun _ h9 => h9) rfl dX12_back_76 ?_
  refine lv_imul hx hb dX12_back_79 ?_
  refine tp_i (y := 0) (by decide +kernel) ?_
  refine lv_iload_n hx hb dX12_back_80 rfl (lv_at hl 0 rfl) ?_
  refine lv_iadd hx hb dX12_back_81 ?_
  refine tp_i (y := 37) (by decide +kernel) ?_
  refine lv_aload_n hx hb dX12_back_82 rfl (lv_at hl 1 rfl) ?_
  refine va_get (D := (dC, dI)) (ci := 12) (v := .ref (q 46)) (C := RX12) (T := TX12) (N := 85) hx hb hts hiX12 hown hK hP 6 rfl rfl 63 (by decide) (hts _ (List.mem_of_getElem? (i := 12) rfl)) (fun _ h9 => h9) rfl dX12_back_83 ?_
  refine lv_iload_n hx hb dX12_back_86 rfl (lv_at hl 0 rfl) ?_
  refine va_iald hx hb hK hP 4 1 rfl rfl (vpc _ _ (by decide +kernel)) dX12_back_87 ?_
  refine tp_i (y := 0) rfl ?_
  refine va_iast hx hb hK hP hD hS 5 1 rfl rfl (vpc _ _ (by decide +kernel)) dX12_back_88 (fun H locs hP hD hS => ?_)
  have hP : va_P (dC, dI) vwCl [((q 44), .inl (cI, 3, .inl (upd (upd (upd (fun _ => 0) 0 0) 1 0) 2 0))), ((q 18), .inl (cI, 6, .inl (upd (upd (upd f0 0 0) 1 0) 2 0))), ((q 45), .inl (cI, 4, .inl (upd (upd (upd (upd (fun _ => 0) 0 0) 1 0) 2 0) 3 0))), ((q 14), .inl (cI, 8, .inl (upd (upd (upd (upd f1 0 0) 1 0) 2 0) 3 0))), ((q 46), .inl (cI, 40, .inl (upd (upd (upd (upd (upd (upd (upd (upd (upd (upd (upd (upd (upd (upd (upd (upd (upd (upd (upd (upd (upd (upd (upd (upd (upd (upd (upd (upd (upd (upd (upd (upd (upd (upd (upd (upd (upd (upd (upd (upd (fun _ => 0) 0 0) 1 0) 2 0) 3 0) 4 0) 5 0) 6 0) 7 0) 8 0) 9 0) 10 0) 11 0) 12 0) 13 0) 14 0) 15 0) 16 0) 17 0) 18 0) 19 0) 20 0) 21 0) 22 0) 23 0) 24 0) 25 0) 26 0) 27 0) 28 0) 29 0) 30 0) 31 0) 32 0) 33 0) 34 0) 35 0) 36 0) 37 0) 38 0) 39 0))), ((q 15), .inl (cI, 80, .inl (upd (upd (upd (upd (upd (upd (upd (upd (upd (upd (upd (upd (upd (upd (upd (upd (upd (upd (upd (upd (upd (upd (upd (upd (upd (upd (upd (upd (upd (upd (upd (upd (upd (upd (upd (upd (upd (upd f2 0 0) 1 0) 2 0) 3 0) 4 0) 5 0) 6 0) 7 0) 8 0) 9 0) 10 0) 11 0) 12 0) 13 0) 14 0) 15 0) 16 0) 17 0) 18 0) 19 0) 20 0) 21 0) 22 0) 23 0) 24 0) 25 0) 26 0) 27 0) 28 0) 29 0) 30 0) 31 0) 32 0) 33 0) 34 0) 35 0) 36 0) 37 0))), ((q 0), .inr (12, (mo q)))] H := hP
  have hD : va_D A [((q 44), .inl (cI, 3, .inl (upd (upd (upd (fun _ => 0) 0 0) 1 0) 2 0))), ((q 18), .inl (cI, 6, .inl (upd (upd (upd f0 0 0) 1 0) 2 0))), ((q 45), .inl (cI, 4, .inl (upd (upd (upd (upd (fun _ => 0) 0 0) 1 0) 2 0) 3 0))), ((q 14), .inl (cI, 8, .inl (upd (upd (upd (upd f1 0 0) 1 0) 2 0) 3 0))), ((q 46), .inl (cI, 40, .inl (upd (upd (upd (upd (upd (upd (upd (upd (upd (upd (upd (upd (upd (upd (upd (upd (upd (upd (upd (upd (upd (upd (upd (upd (upd (upd (upd (upd (upd (upd (upd (upd (upd (upd (upd (upd (upd (upd (upd (upd (fun _ => 0) 0 0) 1 0) 2 0) 3 0) 4 0) 5 0) 6 0) 7 0) 8 0) 9 0) 10 0) 11 0) 12 0) 13 0) 14 0) 15 0) 16 0) 17 0) 18 0) 19 0) 20 0) 21 0) 22 0) 23 0) 24 0) 25 0) 26 0) 27 0) 28 0) 29 0) 30 0) 31 0) 32 0) 33 0) 34 0) 35 0) 36 0) 37 0) 38 0) 39 0))), ((q 15), .inl (cI, 80, .inl (upd (upd (upd (upd (upd (upd (upd (upd (upd (upd (upd (upd (upd (upd (upd (upd (upd (upd (upd (upd (upd (upd (upd (upd (upd (upd (upd (upd (upd (upd (upd (upd (upd (upd (upd (upd (upd (upd f2 0 0) 1 0) 2 0) 3 0) 4 0) 5 0) 6 0) 7 0) 8 0) 9 0) 10 0) 11 0) 12 0) 13 0) 14 0) 15 0) 16 0) 17 0) 18 0) 19 0) 20 0) 21 0) 22 0) 23 0) 24 0) 25 0) 26 0) 27 0) 28 0) 29 0) 30 0) 31 0) 32 0) 33 0) 34 0) 35 0) 36 0) 37 0))), ((q 0), .inr (12, (mo q)))] := hD
  refine lv_iinc (v := 38) (lv' := [(1, .int 38), (0, .ref (q 0))]) hx hb dX12_back_89 hl (k := 0) rfl (by decide +kernel) (by decide) rfl (fun ls hl => ?_)
  refine lv_goto (tgt := 63) hx hb dX12_back_92 (by decide) ?_
  refine lv_iload_n hx hb dX12_back_63 rfl (lv_at hl 0 rfl) ?_
  refine lv_bipush (v := 40) hx hb dX12_back_64 (by decide +kernel) ?_
  refine lv_icmp_ge (tgt := 95) hx hb dX12_back_66 (by decide) (fun c => absurd c (by decide +kernel)) (fun _ => ?_)
  refine lv_aload_n hx hb dX12_back_69 rfl (lv_at hl 1 rfl) ?_
  refine va_get (D := (dC, dI)) (ci := 12) (v := .ref (q 15)) (C := RX12) (T := TX12) (N := 85) hx hb hts hiX12 hown hK hP 6 rfl rfl 26 (by decide) (hts _ (List.mem_of_getElem? (i := 11) rfl)) (fun _ h9 => h9) rfl dX12_back_70 ?_
  refine lv_bipush (v := 40) hx hb dX12_back_73 (by decide +kernel) ?_
  refine lv_aload_n hx hb dX12_back_75 rfl (lv_at hl 1 rfl) ?_
  refine va_get (D := (dC, dI)) (ci := 12) (v := .int 0) (C := RX12) (T := TX12) (N := 85) hx hb hts hiX12 hown hK hP 6 rfl rfl 12 (by decide) (hts _ (List.mem_of_getElem? (i := 2) rfl)) (fun _ h9 => h9) rfl dX12_back_76 ?_
  refine lv_imul hx hb dX12_back_79 ?_
  refine tp_i (y := 0) (by decide +kernel) ?_
  refine lv_iload_n hx hb dX12_back_80 rfl (lv_at hl 0 rfl) ?_
  refine lv_iadd hx hb dX12_back_81 ?_
  refine tp_i (y := 38) (by decide +kernel) ?_
  refine lv_aload_n hx hb dX12_back_82 rfl (lv_at hl 1 rfl) ?_
  refine va_get (D := (dC, dI)) (ci := 12) (v := .ref (q 46)) (C := RX12) (T := TX12) (N := 85) hx hb hts hiX12 hown hK hP 6 rfl rfl 63 (by decide) (hts _ (List.mem_of_getElem? (i := 12) rfl)) (fun _ h9 => h9) rfl dX12_back_83 ?_
  refine lv_iload_n hx hb dX12_back_86 rfl (lv_at hl 0 rfl) ?_
  refine va_iald hx hb hK hP 4 1 rfl rfl (vpc _ _ (by decide +kernel)) dX12_back_87 ?_
  refine tp_i (y := 0) rfl ?_
  refine va_iast hx hb hK hP hD hS 5 1 rfl rfl (vpc _ _ (by decide +kernel)) dX12_back_88 (fun H locs hP hD hS => ?_)
  have hP : va_P (dC, dI) vwCl [((q 44), .inl (cI, 3, .inl (upd (upd (upd (fun _ => 0) 0 0) 1 0) 2 0))), ((q 18), .inl (cI, 6, .inl (upd (upd (upd f0 0 0) 1 0) 2 0))), ((q 45), .inl (cI, 4, .inl (upd (upd (upd (upd (fun _ => 0) 0 0) 1 0) 2 0) 3 0))), ((q 14), .inl (cI, 8, .inl (upd (upd (upd (upd f1 0 0) 1 0) 2 0) 3 0))), ((q 46), .inl (cI, 40, .inl (upd (upd (upd (upd (upd (upd (upd (upd (upd (upd (upd (upd (upd (upd (upd (upd (upd (upd (upd (upd (upd (upd (upd (upd (upd (upd (upd (upd (upd (upd (upd (upd (upd (upd (upd (upd (upd (upd (upd (upd (fun _ => 0) 0 0) 1 0) 2 0) 3 0) 4 0) 5 0) 6 0) 7 0) 8 0) 9 0) 10 0) 11 0) 12 0) 13 0) 14 0) 15 0) 16 0) 17 0) 18 0) 19 0) 20 0) 21 0) 22 0) 23 0) 24 0) 25 0) 26 0) 27 0) 28 0) 29 0) 30 0) 31 0) 32 0) 33 0) 34 0) 35 0) 36 0) 37 0) 38 0) 39 0))), ((q 15), .inl (cI, 80, .inl (upd (upd (upd (upd (upd (upd (upd (upd (upd (upd (upd (upd (upd (upd (upd (upd (upd (upd (upd (upd (upd (upd (upd (upd (upd (upd (upd (upd (upd (upd (upd (upd (upd (upd (upd (upd (upd (upd (upd f2 0 0) 1 0) 2 0) 3 0) 4 0) 5 0) 6 0) 7 0) 8 0) 9 0) 10 0) 11 0) 12 0) 13 0) 14 0) 15 0) 16 0) 17 0) 18 0) 19 0) 20 0) 21 0) 22 0) 23 0) 24 0) 25 0) 26 0) 27 0) 28 0) 29 0) 30 0) 31 0) 32 0) 33 0) 34 0) 35 0) 36 0) 37 0) 38 0))), ((q 0), .inr (12, (mo q)))] H := hP
  have hD : va_D A [((q 44), .inl (cI, 3, .inl (upd (upd (upd (fun _ => 0) 0 0) 1 0) 2 0))), ((q 18), .inl (cI, 6, .inl (upd (upd (upd f0 0 0) 1 0) 2 0))), ((q 45), .inl (cI, 4, .inl (upd (upd (upd (upd (fun _ => 0) 0 0) 1 0) 2 0) 3 0))), ((q 14), .inl (cI, 8, .inl (upd (upd (upd (upd f1 0 0) 1 0) 2 0) 3 0))), ((q 46), .inl (cI, 40, .inl (upd (upd (upd (upd (upd (upd (upd (upd (upd (upd (upd (upd (upd (upd (upd (upd (upd (upd (upd (upd (upd (upd (upd (upd (upd (upd (upd (upd (upd (upd (upd (upd (upd (upd (upd (upd (upd (upd (upd (upd (fun _ => 0) 0 0) 1 0) 2 0) 3 0) 4 0) 5 0) 6 0) 7 0) 8 0) 9 0) 10 0) 11 0) 12 0) 13 0) 14 0) 15 0) 16 0) 17 0) 18 0) 19 0) 20 0) 21 0) 22 0) 23 0) 24 0) 25 0) 26 0) 27 0) 28 0) 29 0) 30 0) 31 0) 32 0) 33 0) 34 0) 35 0) 36 0) 37 0) 38 0) 39 0))), ((q 15), .inl (cI, 80, .inl (upd (upd (upd (upd (upd (upd (upd (upd (upd (upd (upd (upd (upd (upd (upd (upd (upd (upd (upd (upd (upd (upd (upd (upd (upd (upd (upd (upd (upd (upd (upd (upd (upd (upd (upd (upd (upd (upd (upd f2 0 0) 1 0) 2 0) 3 0) 4 0) 5 0) 6 0) 7 0) 8 0) 9 0) 10 0) 11 0) 12 0) 13 0) 14 0) 15 0) 16 0) 17 0) 18 0) 19 0) 20 0) 21 0) 22 0) 23 0) 24 0) 25 0) 26 0) 27 0) 28 0) 29 0) 30 0) 31 0) 32 0) 33 0) 34 0) 35 0) 36 0) 37 0) 38 0))), ((q 0), .inr (12, (mo q)))] := hD
  refine lv_iinc (v := 39) (lv' := [(1, .int 39), (0, .ref (q 0))]) hx hb dX12_back_89 hl (k := 0) rfl (by decide +kernel) (by decide) rfl (fun ls hl => ?_)
  refine lv_goto (tgt := 63) hx hb dX12_back_92 (by decide) ?_
  refine lv_iload_n hx hb dX12_back_63 rfl (lv_at hl 0 rfl) ?_
  refine lv_bipush (v := 40) hx hb dX12_back_64 (by decide +kernel) ?_
  refine lv_icmp_ge (tgt := 95) hx hb dX12_back_66 (by decide) (fun c => absurd c (by decide +kernel)) (fun _ => ?_)
  refine lv_aload_n hx hb dX12_back_69 rfl (lv_at hl 1 rfl) ?_
  refine va_get (D := (dC, dI)) (ci := 12) (v := .ref (q 15)) (C := RX12) (T := TX12) (N := 85) hx hb hts hiX12 hown hK hP 6 rfl rfl 26 (by decide) (hts _ (List.mem_of_getElem? (i := 11) rfl)) (fun _ h9 => h9) rfl dX12_back_70 ?_
  refine lv_bipush (v := 40) hx hb dX12_back_73 (by decide +kernel) ?_
  refine lv_aload_n hx hb dX12_back_75 rfl (lv_at hl 1 rfl) ?_
  refine va_get (D := (dC, dI)) (ci := 12) (v := .int 0) (C := RX12) (T := TX12) (N := 85) hx hb hts hiX12 hown hK hP 6 rfl rfl 12 (by decide) (hts _ (List.mem_of_getElem? (i := 2) rfl)) (fun _ h9 => h9) rfl dX12_back_76 ?_
  refine lv_imul hx hb dX12_back_79 ?_
  refine tp_i (y := 0) (by decide +kernel) ?_
  refine lv_iload_n hx hb dX12_back_80 rfl (lv_at hl 0 rfl) ?_
  refine lv_iadd hx hb dX12_back_81 ?_
  refine tp_i (y := 39) (by decide +kernel) ?_
  refine lv_aload_n hx hb dX12_back_82 rfl (lv_at hl 1 rfl) ?_
  refine va_get (D := (dC, dI)) (ci := 12) (v := .ref (q 46)) (C := RX12) (T := TX12) (N := 85) hx hb hts hiX12 hown hK hP 6 rfl rfl 63 (by decide) (hts _ (List.mem_of_getElem? (i := 12) rfl)) (fun _ h9 => h9) rfl dX12_back_83 ?_
  refine lv_iload_n hx hb dX12_back_86 rfl (lv_at hl 0 rfl) ?_
  refine va_iald hx hb hK hP 4 1 rfl rfl (vpc _ _ (by decide +kernel)) dX12_back_87 ?_
  refine tp_i (y := 0) rfl ?_
  refine va_iast hx hb hK hP hD hS 5 1 rfl rfl (vpc _ _ (by decide +kernel)) dX12_back_88 (fun H locs hP hD hS => ?_)
  have hP : va_P (dC, dI) vwCl [((q 44), .inl (cI, 3, .inl (upd (upd (upd (fun _ => 0) 0 0) 1 0) 2 0))), ((q 18), .inl (cI, 6, .inl (upd (upd (upd f0 0 0) 1 0) 2 0))), ((q 45), .inl (cI, 4, .inl (upd (upd (upd (upd (fun _ => 0) 0 0) 1 0) 2 0) 3 0))), ((q 14), .inl (cI, 8, .inl (upd (upd (upd (upd f1 0 0) 1 0) 2 0) 3 0))), ((q 46), .inl (cI, 40, .inl (upd (upd (upd (upd (upd (upd (upd (upd (upd (upd (upd (upd (upd (upd (upd (upd (upd (upd (upd (upd (upd (upd (upd (upd (upd (upd (upd (upd (upd (upd (upd (upd (upd (upd (upd (upd (upd (upd (upd (upd (fun _ => 0) 0 0) 1 0) 2 0) 3 0) 4 0) 5 0) 6 0) 7 0) 8 0) 9 0) 10 0) 11 0) 12 0) 13 0) 14 0) 15 0) 16 0) 17 0) 18 0) 19 0) 20 0) 21 0) 22 0) 23 0) 24 0) 25 0) 26 0) 27 0) 28 0) 29 0) 30 0) 31 0) 32 0) 33 0) 34 0) 35 0) 36 0) 37 0) 38 0) 39 0))), ((q 15), .inl (cI, 80, .inl (upd (upd (upd (upd (upd (upd (upd (upd (upd (upd (upd (upd (upd (upd (upd (upd (upd (upd (upd (upd (upd (upd (upd (upd (upd (upd (upd (upd (upd (upd (upd (upd (upd (upd (upd (upd (upd (upd (upd (upd f2 0 0) 1 0) 2 0) 3 0) 4 0) 5 0) 6 0) 7 0) 8 0) 9 0) 10 0) 11 0) 12 0) 13 0) 14 0) 15 0) 16 0) 17 0) 18 0) 19 0) 20 0) 21 0) 22 0) 23 0) 24 0) 25 0) 26 0) 27 0) 28 0) 29 0) 30 0) 31 0) 32 0) 33 0) 34 0) 35 0) 36 0) 37 0) 38 0) 39 0))), ((q 0), .inr (12, (mo q)))] H := hP
  have hD : va_D A [((q 44), .inl (cI, 3, .inl (upd (upd (upd (fun _ => 0) 0 0) 1 0) 2 0))), ((q 18), .inl (cI, 6, .inl (upd (upd (upd f0 0 0) 1 0) 2 0))), ((q 45), .inl (cI, 4, .inl (upd (upd (upd (upd (fun _ => 0) 0 0) 1 0) 2 0) 3 0))), ((q 14), .inl (cI, 8, .inl (upd (upd (upd (upd f1 0 0) 1 0) 2 0) 3 0))), ((q 46), .inl (cI, 40, .inl (upd (upd (upd (upd (upd (upd (upd (upd (upd (upd (upd (upd (upd (upd (upd (upd (upd (upd (upd (upd (upd (upd (upd (upd (upd (upd (upd (upd (upd (upd (upd (upd (upd (upd (upd (upd (upd (upd (upd (upd (fun _ => 0) 0 0) 1 0) 2 0) 3 0) 4 0) 5 0) 6 0) 7 0) 8 0) 9 0) 10 0) 11 0) 12 0) 13 0) 14 0) 15 0) 16 0) 17 0) 18 0) 19 0) 20 0) 21 0) 22 0) 23 0) 24 0) 25 0) 26 0) 27 0) 28 0) 29 0) 30 0) 31 0) 32 0) 33 0) 34 0) 35 0) 36 0) 37 0) 38 0) 39 0))), ((q 15), .inl (cI, 80, .inl (upd (upd (upd (upd (upd (upd (upd (upd (upd (upd (upd (upd (upd (upd (upd (upd (upd (upd (upd (upd (upd (upd (upd (upd (upd (upd (upd (upd (upd (upd (upd (upd (upd (upd (upd (upd (upd (upd (upd (upd f2 0 0) 1 0) 2 0) 3 0) 4 0) 5 0) 6 0) 7 0) 8 0) 9 0) 10 0) 11 0) 12 0) 13 0) 14 0) 15 0) 16 0) 17 0) 18 0) 19 0) 20 0) 21 0) 22 0) 23 0) 24 0) 25 0) 26 0) 27 0) 28 0) 29 0) 30 0) 31 0) 32 0) 33 0) 34 0) 35 0) 36 0) 37 0) 38 0) 39 0))), ((q 0), .inr (12, (mo q)))] := hD
  refine lv_iinc (v := 40) (lv' := [(1, .int 40), (0, .ref (q 0))]) hx hb dX12_back_89 hl (k := 0) rfl (by decide +kernel) (by decide) rfl (fun ls hl => ?_)
  refine lv_goto (tgt := 63) hx hb dX12_back_92 (by decide) ?_
  refine lv_iload_n hx hb dX12_back_63 rfl (lv_at hl 0 rfl) ?_
  refine lv_bipush (v := 40) hx hb dX12_back_64 (by decide +kernel) ?_
  refine lv_icmp_ge (tgt := 95) hx hb dX12_back_66 (by decide) (fun _ => ?_) (fun c => absurd c (by decide +kernel))
  have hP9 := hP.sub (ws' := [((q 0), .inr (12, (mo q))), ((q 44), .inl (cI, 3, .inl (upd (upd (upd (fun _ => 0) 0 0) 1 0) 2 0))), ((q 18), .inl (cI, 6, .inl (upd (upd (upd f0 0 0) 1 0) 2 0))), ((q 45), .inl (cI, 4, .inl (upd (upd (upd (upd (fun _ => 0) 0 0) 1 0) 2 0) 3 0))), ((q 14), .inl (cI, 8, .inl (upd (upd (upd (upd f1 0 0) 1 0) 2 0) 3 0))), ((q 46), .inl (cI, 40, .inl (upd (upd (upd (upd (upd (upd (upd (upd (upd (upd (upd (upd (upd (upd (upd (upd (upd (upd (upd (upd (upd (upd (upd (upd (upd (upd (upd (upd (upd (upd (upd (upd (upd (upd (upd (upd (upd (upd (upd (upd (fun _ => 0) 0 0) 1 0) 2 0) 3 0) 4 0) 5 0) 6 0) 7 0) 8 0) 9 0) 10 0) 11 0) 12 0) 13 0) 14 0) 15 0) 16 0) 17 0) 18 0) 19 0) 20 0) 21 0) 22 0) 23 0) 24 0) 25 0) 26 0) 27 0) 28 0) 29 0) 30 0) 31 0) 32 0) 33 0) 34 0) 35 0) 36 0) 37 0) 38 0) 39 0))), ((q 15), .inl (cI, 80, .inl (upd (upd (upd (upd (upd (upd (upd (upd (upd (upd (upd (upd (upd (upd (upd (upd (upd (upd (upd (upd (upd (upd (upd (upd (upd (upd (upd (upd (upd (upd (upd (upd (upd (upd (upd (upd (upd (upd (upd (upd f2 0 0) 1 0) 2 0) 3 0) 4 0) 5 0) 6 0) 7 0) 8 0) 9 0) 10 0) 11 0) 12 0) 13 0) 14 0) 15 0) 16 0) 17 0) 18 0) 19 0) 20 0) 21 0) 22 0) 23 0) 24 0) 25 0) 26 0) 27 0) 28 0) 29 0) 30 0) 31 0) 32 0) 33 0) 34 0) 35 0) 36 0) 37 0) 38 0) 39 0)))]) [6, 0, 1, 2, 3, 4, 5] rfl
  have hD9 := hD.sub (ws' := [((q 0), .inr (12, (mo q))), ((q 44), .inl (cI, 3, .inl (upd (upd (upd (fun _ => 0) 0 0) 1 0) 2 0))), ((q 18), .inl (cI, 6, .inl (upd (upd (upd f0 0 0) 1 0) 2 0))), ((q 45), .inl (cI, 4, .inl (upd (upd (upd (upd (fun _ => 0) 0 0) 1 0) 2 0) 3 0))), ((q 14), .inl (cI, 8, .inl (upd (upd (upd (upd f1 0 0) 1 0) 2 0) 3 0))), ((q 46), .inl (cI, 40, .inl (upd (upd (upd (upd (upd (upd (upd (upd (upd (upd (upd (upd (upd (upd (upd (upd (upd (upd (upd (upd (upd (upd (upd (upd (upd (upd (upd (upd (upd (upd (upd (upd (upd (upd (upd (upd (upd (upd (upd (upd (fun _ => 0) 0 0) 1 0) 2 0) 3 0) 4 0) 5 0) 6 0) 7 0) 8 0) 9 0) 10 0) 11 0) 12 0) 13 0) 14 0) 15 0) 16 0) 17 0) 18 0) 19 0) 20 0) 21 0) 22 0) 23 0) 24 0) 25 0) 26 0) 27 0) 28 0) 29 0) 30 0) 31 0) 32 0) 33 0) 34 0) 35 0) 36 0) 37 0) 38 0) 39 0))), ((q 15), .inl (cI, 80, .inl (upd (upd (upd (upd (upd (upd (upd (upd (upd (upd (upd (upd (upd (upd (upd (upd (upd (upd (upd (upd (upd (upd (upd (upd (upd (upd (upd (upd (upd (upd (upd (upd (upd (upd (upd (upd (upd (upd (upd (upd f2 0 0) 1 0) 2 0) 3 0) 4 0) 5 0) 6 0) 7 0) 8 0) 9 0) 10 0) 11 0) 12 0) 13 0) 14 0) 15 0) 16 0) 17 0) 18 0) 19 0) 20 0) 21 0) 22 0) 23 0) 24 0) 25 0) 26 0) 27 0) 28 0) 29 0) 30 0) 31 0) 32 0) 33 0) 34 0) 35 0) 36 0) 37 0) 38 0) 39 0)))]) [6, 0, 1, 2, 3, 4, 5] (by decide) rfl
  exact W.vret hx hb hr (fun t ht hW => ⟨⟨(), rfl, trivial, by rw [ht]; exact hP9, va_K.moved hW.alike hK, hD9⟩, hS.F ht⟩) hS.2.2 dX12_back_95
def ws_p_X12_row : List Cond := .code yX12_row cX12_row 5 (some .int) :: ([.fieldLink RX12 13 "StackKeysModel" "taped" "I", .methodLink RX12 558 yX12_notes, .instanceMethod yX12_notes, .selects RX12 yX12_notes yX12_notes, .initialized RX12, .code yX12_notes cX12_notes 2 none, .fieldLink RX12 198 "StackKeysModel" "wasAt" "[I", .fieldLink RX12 101 "StackKeysModel" "personAt" "[I", .fieldLink RX12 48 "StackKeysModel" "bank" "I", .fieldLink RX12 201 "StackKeysModel" "wasMany" "[I", .fieldLink RX12 89 "StackKeysModel" "rowMany" "[I", .methodLink RX12 484 yX12_key4, .instanceMethod yX12_key4, .selects RX12 yX12_key4 yX12_key4, .code yX12_key4 cX12_key4 2 (some .int), .fieldLink RX12 204 "StackKeysModel" "wasRow" "[I", .fieldLink RX12 92 "StackKeysModel" "rowOf" "[I", .methodLink RX12 564 yX12_back, .instanceMethod yX12_back, .selects RX12 yX12_back yX12_back, .code yX12_back cX12_back 2 none] ++ wsX120)
set_option maxRecDepth 20000 in
theorem g_p_X12_row_0 : GoodIn ws_p_X12_row (wsV RX12 558 RX12 yX12_notes ws_k_X12_notes_122) := goodIn_r _ [2, 3, 4, 5, 6, 7, 8, 9, 10, 11, 12, 13, 14, 5, 15, 16, 17, 22, 23, 24, 25, 26, 27, 28, 29, 30, 31, 32, 33, 34, 35, 36, 37, 38, 39, 40, 41, 42, 43, 44, 45, 46, 47, 48, 49, 50, 51, 52, 53, 54, 55, 56, 57, 58, 59, 60, 61, 62, 63, 64, 65, 66, 67, 68, 69, 70, 71, 72, 73, 74, 75, 76, 77, 78, 79, 80, 81, 82, 83, 84, 85, 86, 87, 88, 89, 90, 91, 92, 93, 94, 95, 96, 97, 98, 99, 100, 101, 102, 103, 104, 105, 106] (by decide +kernel) (by decide +kernel)
set_option maxRecDepth 20000 in
theorem g_p_X12_row_1 : GoodIn ws_p_X12_row (wsV RX12 564 RX12 yX12_back ws_k_X12_back_123) := goodIn_r _ [18, 19, 20, 5, 21, 8, 9, 7, 11, 12, 13, 14, 5, 15, 10, 17, 16, 22, 23, 24, 25, 26, 27, 28, 29, 30, 31, 32, 33, 34, 35, 36, 37, 38, 39, 40, 41, 42, 43, 44, 45, 46, 47, 48, 49, 50, 51, 52, 53, 54, 55, 56, 57, 58, 59, 60, 61, 62, 63, 64, 65, 66, 67, 68, 69, 70, 71, 72, 73, 74, 75, 76, 77, 78, 79, 80, 81, 82, 83, 84, 85, 86, 87, 88, 89, 90, 91, 92, 93, 94, 95, 96, 97, 98, 99, 100, 101, 102, 103, 104, 105, 106] (by decide +kernel) (by decide +kernel)
set_option maxHeartbeats 4000000 in
set_option maxRecDepth 100000 in
theorem p_X12_row (l : Launch) (dC : Nat → ClassId) (dI : Nat → Nat → Nat) (cB cI cJ cZ cQ : ClassId) (sz : Nat) (q : Nat → Nat) : Met l yX12_row ws_p_X12_row ({ frames := 2, cells := 0, slots := 0, locals := 42 }) (va_Pc [.ref (q 0)] (fun U => U.heap.size = sz ∧ va_P (dC, dI) vwCl [((q 0), .inr (12, (mo q))), ((q 18), .inl (cI, 6, .inl (fun _ => 0))), ((q 44), .inl (cI, 3, .inl (fun _ => 0))), ((q 14), .inl (cI, 8, .inl (fun _ => 0))), ((q 45), .inl (cI, 4, .inl (fun _ => 0))), ((q 15), .inl (cI, 80, .inl (fun _ => 0))), ((q 46), .inl (cI, 40, .inl (fun _ => 0)))] U.heap ∧ va_K (dC, dI) vwCl (tyA cB cI cJ cZ cQ) U ∧ va_D (fun _ => True) [((q 0), .inr (12, (mo q))), ((q 18), .inl (cI, 6, .inl (fun _ => 0))), ((q 44), .inl (cI, 3, .inl (fun _ => 0))), ((q 14), .inl (cI, 8, .inl (fun _ => 0))), ((q 45), .inl (cI, 4, .inl (fun _ => 0))), ((q 15), .inl (cI, 80, .inl (fun _ => 0))), ((q 46), .inl (cI, 40, .inl (fun _ => 0)))])) (va_Qi (fun (r : Int32) (_ : Unit) => r = (-1)) (fun (_ : Unit) _ => True) (va_A [((q 0), .inr (12, (mo q))), ((q 18), .inl (cI, 6, .inl (fun _ => 0))), ((q 44), .inl (cI, 3, .inl (fun _ => 0))), ((q 14), .inl (cI, 8, .inl (fun _ => 0))), ((q 45), .inl (cI, 4, .inl (fun _ => 0))), ((q 15), .inl (cI, 80, .inl (fun _ => 0))), ((q 46), .inl (cI, 40, .inl (fun _ => 0)))] sz)) 0 0 (va_A [((q 0), .inr (12, (mo q))), ((q 18), .inl (cI, 6, .inl (fun _ => 0))), ((q 44), .inl (cI, 3, .inl (fun _ => 0))), ((q 14), .inl (cI, 8, .inl (fun _ => 0))), ((q 45), .inl (cI, 4, .inl (fun _ => 0))), ((q 15), .inl (cI, 80, .inl (fun _ => 0))), ((q 46), .inl (cI, 40, .inl (fun _ => 0)))] sz) := by
  refine Met.ofW (cc := cX12_row) (maxL := 5) (ret := (some .int)) (by decide +kernel) rfl ?_
  intro p e s m args below meth c s₁ B hml hv
  obtain ⟨rfl, hsz, hP, hK, hD0⟩ := hv
  have hx := B.exec
  have hb := B.bytes
  have hr := B.returns
  have hts := atoms_spec (ws := ws_p_X12_row) B.pre
  have hown : s.vm.findClass RX12 = some m.cls := findClass_of_methodNamed B.named
  have hiX12 : ∀ w ∈ u_ws RX12 TX12 85, w ∈ ws_p_X12_row := fun w h => List.mem_cons_of_mem _ (List.mem_append_right _ h)
  subst hsz
  have hD := hD0.self (sz := s.heap.size)
  generalize hAe : va_A [((q 0), .inr (12, (mo q))), ((q 18), .inl (cI, 6, .inl (fun _ => 0))), ((q 44), .inl (cI, 3, .inl (fun _ => 0))), ((q 14), .inl (cI, 8, .inl (fun _ => 0))), ((q 45), .inl (cI, 4, .inl (fun _ => 0))), ((q 15), .inl (cI, 80, .inl (fun _ => 0))), ((q 46), .inl (cI, 40, .inl (fun _ => 0)))] s.heap.size = A at hD ⊢
  have hA : ∀ b : Nat, s.heap.size ≤ b → A b := fun b h => by rw [← hAe]; exact Or.inr h
  clear hD0 hAe
  have hS : va_S A s.heap s.heap [] := va_S.rf
  have hl := lv_entry ([.ref (q 0)]) (n := 5) (Nat.le_of_ble_eq_true rfl)
  rw [lg_entry_eq]
  generalize (lg_sl ([.ref (q 0)]) ++ List.replicate (5 - (lg_sl ([.ref (q 0)])).length) Slot.unset).toArray = ls at hl ⊢
  have hl : lv_has ls 5 [(0, .ref (q 0))] := hl
  obtain ⟨H, hHe⟩ : ∃ H : Heap, H = s.heap := ⟨_, rfl⟩
  rw [← hHe] at hP
  have hS : va_S A s.heap H [] := by rw [hHe]; exact hS
  rw [← hHe]
  refine lv_aload_n hx hb dX12_row_0 rfl (lv_at hl 0 rfl) ?_
  refine va_get (D := (dC, dI)) (ci := 12) (v := .int 0) (C := RX12) (T := TX12) (N := 85) hx hb hts hiX12 hown hK hP 0 rfl rfl 1 (by decide) (hts _ (List.mem_of_getElem? (i := 1) rfl)) (fun _ h9 => h9) rfl dX12_row_1 ?_
  refine lv_istore_n (lv' := [(1, .int 0), (0, .ref (q 0))]) hx hb dX12_row_4 rfl hl (by decide) rfl (fun ls hl => ?_)
  refine lv_aload_n hx hb dX12_row_5 rfl (lv_at hl 1 rfl) ?_
  refine lv_iconst (v := 0) hx hb dX12_row_6 (by decide +kernel) ?_
  refine va_put (D := (dC, dI)) (ci := 12) (v := .int 0) (ty := .int) (C := RX12) (T := TX12) (N := 85) hx hb hts hiX12 tyX12 tyX12_ok nmX12 hown hK hP hD hS 0 rfl rfl 1 (by decide) (hts _ (List.mem_of_getElem? (i := 1) rfl)) (fun _ h9 => h9) rfl (by decide +kernel) rfl rfl (Nat.le_of_ble_eq_true rfl) dX12_row_7 (fun H locs hP hD hS => ?_)
  have hP : va_P (dC, dI) vwCl [((q 0), .inr (12, (mo q))), ((q 18), .inl (cI, 6, .inl (fun _ => 0))), ((q 44), .inl (cI, 3, .inl (fun _ => 0))), ((q 14), .inl (cI, 8, .inl (fun _ => 0))), ((q 45), .inl (cI, 4, .inl (fun _ => 0))), ((q 15), .inl (cI, 80, .inl (fun _ => 0))), ((q 46), .inl (cI, 40, .inl (fun _ => 0)))] H := hP
  have hD : va_D A [((q 0), .inr (12, (mo q))), ((q 18), .inl (cI, 6, .inl (fun _ => 0))), ((q 44), .inl (cI, 3, .inl (fun _ => 0))), ((q 14), .inl (cI, 8, .inl (fun _ => 0))), ((q 45), .inl (cI, 4, .inl (fun _ => 0))), ((q 15), .inl (cI, 80, .inl (fun _ => 0))), ((q 46), .inl (cI, 40, .inl (fun _ => 0)))] := hD
  refine lv_aload_n hx hb dX12_row_10 rfl (lv_at hl 1 rfl) ?_
  have hPc := hP.sub (ws' := [((q 0), .inr (12, (mo q))), ((q 18), .inl (cI, 6, .inl (fun _ => 0))), ((q 44), .inl (cI, 3, .inl (fun _ => 0))), ((q 14), .inl (cI, 8, .inl (fun _ => 0))), ((q 45), .inl (cI, 4, .inl (fun _ => 0))), ((q 15), .inl (cI, 80, .inl (fun _ => 0))), ((q 46), .inl (cI, 40, .inl (fun _ => 0)))]) [0, 1, 2, 3, 4, 5, 6] rfl
  have hDc := hD.sub (ws' := [((q 0), .inr (12, (mo q))), ((q 18), .inl (cI, 6, .inl (fun _ => 0))), ((q 44), .inl (cI, 3, .inl (fun _ => 0))), ((q 14), .inl (cI, 8, .inl (fun _ => 0))), ((q 45), .inl (cI, 4, .inl (fun _ => 0))), ((q 15), .inl (cI, 80, .inl (fun _ => 0))), ((q 46), .inl (cI, 40, .inl (fun _ => 0)))]) [0, 1, 2, 3, 4, 5, 6] (by decide) rfl
  have hFc := va_free (wc := [((q 0), .inr (12, (mo q))), ((q 18), .inl (cI, 6, .inl (fun _ => 0))), ((q 44), .inl (cI, 3, .inl (fun _ => 0))), ((q 14), .inl (cI, 8, .inl (fun _ => 0))), ((q 45), .inl (cI, 4, .inl (fun _ => 0))), ((q 15), .inl (cI, 80, .inl (fun _ => 0))), ((q 46), .inl (cI, 40, .inl (fun _ => 0)))]) hD hS hA [0, 1, 2, 3, 4, 5, 6] rfl
  refine va_callv (va_runV (As := []) (rest := []) ⟨hx, hb, hml, hown, hts⟩ (k_X12_notes_122 l dC dI cB cI cJ cZ cQ H.size q (fun _ => 0) (fun _ => 0) (fun _ => 0)) (cwV 0 hts g_p_X12_row_0 rfl rfl rfl (by decide +kernel) ⟨Nat.le_of_ble_eq_true rfl, Nat.le_of_ble_eq_true rfl⟩) ⟨fun a U g mk Z => by obtain ⟨q0, q1, qP, qK, qD⟩ := Z; exact ⟨q0, q1, qP, va_K.moved (u := U) (U := U.calling g mk a) (Vm.Alike.refl U.vm) qK, qD⟩, va_recv hK hPc (ci := 12) (q0 := 0) rfl rfl, fun U hU hW => ⟨rfl, by rw [hU], by rw [hU]; exact hPc, va_K.moved hW.alike hK, hDc.weaken (fun _ _ _ _ => trivial)⟩⟩ rfl rfl hl.1 rfl (lv_room (Nat.le_of_ble_eq_true rfl)) dX12_row_11 ⟨Nat.le_of_ble_eq_true rfl, Nat.le_of_ble_eq_true rfl⟩) hS (fun b _ h => hFc b h) hFc (fun u1 t H1 locs ht hvm hw hB hz1 hk1 hS => ?_)
  obtain ⟨hP1, hK1, hD1⟩ := hB
  rw [ht] at hP1
  obtain ⟨hP, hD⟩ := va_join (wr := []) (w1 := [((q 0), .inr (12, (mo q))), ((q 18), .inl (cI, 6, .inl (fun _ => 0))), ((q 44), .inl (cI, 3, .inl (upd (upd (upd (fun _ => 0) 0 0) 1 0) 2 0))), ((q 14), .inl (cI, 8, .inl (fun _ => 0))), ((q 45), .inl (cI, 4, .inl (upd (upd (upd (upd (fun _ => 0) 0 0) 1 0) 2 0) 3 0))), ((q 15), .inl (cI, 80, .inl (fun _ => 0))), ((q 46), .inl (cI, 40, .inl (upd (upd (upd (upd (upd (upd (upd (upd (upd (upd (upd (upd (upd (upd (upd (upd (upd (upd (upd (upd (upd (upd (upd (upd (upd (upd (upd (upd (upd (upd (upd (upd (upd (upd (upd (upd (upd (upd (upd (upd (fun _ => 0) 0 0) 1 0) 2 0) 3 0) 4 0) 5 0) 6 0) 7 0) 8 0) 9 0) 10 0) 11 0) 12 0) 13 0) 14 0) 15 0) 16 0) 17 0) 18 0) 19 0) 20 0) 21 0) 22 0) 23 0) 24 0) 25 0) 26 0) 27 0) 28 0) 29 0) 30 0) 31 0) 32 0) 33 0) 34 0) 35 0) 36 0) 37 0) 38 0) 39 0)))]) hP hD [0, 1, 2, 3, 4, 5, 6] [] rfl rfl (by decide) (by decide) hk1 hFc hP1 hD1
  clear hP1 hK1 hD1 hk1 hz1 hvm hPc hDc hFc
  generalize H1 = H at hP hS ⊢
  have hP : va_P (dC, dI) vwCl [((q 0), .inr (12, (mo q))), ((q 18), .inl (cI, 6, .inl (fun _ => 0))), ((q 44), .inl (cI, 3, .inl (upd (upd (upd (fun _ => 0) 0 0) 1 0) 2 0))), ((q 14), .inl (cI, 8, .inl (fun _ => 0))), ((q 45), .inl (cI, 4, .inl (upd (upd (upd (upd (fun _ => 0) 0 0) 1 0) 2 0) 3 0))), ((q 15), .inl (cI, 80, .inl (fun _ => 0))), ((q 46), .inl (cI, 40, .inl (upd (upd (upd (upd (upd (upd (upd (upd (upd (upd (upd (upd (upd (upd (upd (upd (upd (upd (upd (upd (upd (upd (upd (upd (upd (upd (upd (upd (upd (upd (upd (upd (upd (upd (upd (upd (upd (upd (upd (upd (fun _ => 0) 0 0) 1 0) 2 0) 3 0) 4 0) 5 0) 6 0) 7 0) 8 0) 9 0) 10 0) 11 0) 12 0) 13 0) 14 0) 15 0) 16 0) 17 0) 18 0) 19 0) 20 0) 21 0) 22 0) 23 0) 24 0) 25 0) 26 0) 27 0) 28 0) 29 0) 30 0) 31 0) 32 0) 33 0) 34 0) 35 0) 36 0) 37 0) 38 0) 39 0)))] H := hP
  have hD : va_D A [((q 0), .inr (12, (mo q))), ((q 18), .inl (cI, 6, .inl (fun _ => 0))), ((q 44), .inl (cI, 3, .inl (upd (upd (upd (fun _ => 0) 0 0) 1 0) 2 0))), ((q 14), .inl (cI, 8, .inl (fun _ => 0))), ((q 45), .inl (cI, 4, .inl (upd (upd (upd (upd (fun _ => 0) 0 0) 1 0) 2 0) 3 0))), ((q 15), .inl (cI, 80, .inl (fun _ => 0))), ((q 46), .inl (cI, 40, .inl (upd (upd (upd (upd (upd (upd (upd (upd (upd (upd (upd (upd (upd (upd (upd (upd (upd (upd (upd (upd (upd (upd (upd (upd (upd (upd (upd (upd (upd (upd (upd (upd (upd (upd (upd (upd (upd (upd (upd (upd (fun _ => 0) 0 0) 1 0) 2 0) 3 0) 4 0) 5 0) 6 0) 7 0) 8 0) 9 0) 10 0) 11 0) 12 0) 13 0) 14 0) 15 0) 16 0) 17 0) 18 0) 19 0) 20 0) 21 0) 22 0) 23 0) 24 0) 25 0) 26 0) 27 0) 28 0) 29 0) 30 0) 31 0) 32 0) 33 0) 34 0) 35 0) 36 0) 37 0) 38 0) 39 0)))] := hD
  refine lv_iconst (v := (-1)) hx hb dX12_row_14 (by decide +kernel) ?_
  refine lv_istore_n (lv' := [(2, .int (-1)), (1, .int 0), (0, .ref (q 0))]) hx hb dX12_row_15 rfl hl (by decide) rfl (fun ls hl => ?_)
  refine lv_iconst (v := 0) hx hb dX12_row_16 (by decide +kernel) ?_
  refine lv_istore_n (lv' := [(3, .int 0), (2, .int (-1)), (1, .int 0), (0, .ref (q 0))]) hx hb dX12_row_17 rfl hl (by decide) rfl (fun ls hl => ?_)
  refine lv_iload_n hx hb dX12_row_18 rfl (lv_at hl 0 rfl) ?_
  refine lv_iload_n hx hb dX12_row_19 rfl (lv_at hl 2 rfl) ?_
  refine lv_icmp_ge (tgt := 87) hx hb dX12_row_20 (by decide) (fun _ => ?_) (fun c => absurd c (by decide +kernel))
  refine lv_aload_n hx hb dX12_row_87 rfl (lv_at hl 3 rfl) ?_
  have hPc := hP.sub (ws' := [((q 0), .inr (12, (mo q))), ((q 44), .inl (cI, 3, .inl (upd (upd (upd (fun _ => 0) 0 0) 1 0) 2 0))), ((q 18), .inl (cI, 6, .inl (fun _ => 0))), ((q 45), .inl (cI, 4, .inl (upd (upd (upd (upd (fun _ => 0) 0 0) 1 0) 2 0) 3 0))), ((q 14), .inl (cI, 8, .inl (fun _ => 0))), ((q 46), .inl (cI, 40, .inl (upd (upd (upd (upd (upd (upd (upd (upd (upd (upd (upd (upd (upd (upd (upd (upd (upd (upd (upd (upd (upd (upd (upd (upd (upd (upd (upd (upd (upd (upd (upd (upd (upd (upd (upd (upd (upd (upd (upd (upd (fun _ => 0) 0 0) 1 0) 2 0) 3 0) 4 0) 5 0) 6 0) 7 0) 8 0) 9 0) 10 0) 11 0) 12 0) 13 0) 14 0) 15 0) 16 0) 17 0) 18 0) 19 0) 20 0) 21 0) 22 0) 23 0) 24 0) 25 0) 26 0) 27 0) 28 0) 29 0) 30 0) 31 0) 32 0) 33 0) 34 0) 35 0) 36 0) 37 0) 38 0) 39 0))), ((q 15), .inl (cI, 80, .inl (fun _ => 0)))]) [0, 2, 1, 4, 3, 6, 5] rfl
  have hDc := hD.sub (ws' := [((q 0), .inr (12, (mo q))), ((q 44), .inl (cI, 3, .inl (upd (upd (upd (fun _ => 0) 0 0) 1 0) 2 0))), ((q 18), .inl (cI, 6, .inl (fun _ => 0))), ((q 45), .inl (cI, 4, .inl (upd (upd (upd (upd (fun _ => 0) 0 0) 1 0) 2 0) 3 0))), ((q 14), .inl (cI, 8, .inl (fun _ => 0))), ((q 46), .inl (cI, 40, .inl (upd (upd (upd (upd (upd (upd (upd (upd (upd (upd (upd (upd (upd (upd (upd (upd (upd (upd (upd (upd (upd (upd (upd (upd (upd (upd (upd (upd (upd (upd (upd (upd (upd (upd (upd (upd (upd (upd (upd (upd (fun _ => 0) 0 0) 1 0) 2 0) 3 0) 4 0) 5 0) 6 0) 7 0) 8 0) 9 0) 10 0) 11 0) 12 0) 13 0) 14 0) 15 0) 16 0) 17 0) 18 0) 19 0) 20 0) 21 0) 22 0) 23 0) 24 0) 25 0) 26 0) 27 0) 28 0) 29 0) 30 0) 31 0) 32 0) 33 0) 34 0) 35 0) 36 0) 37 0) 38 0) 39 0))), ((q 15), .inl (cI, 80, .inl (fun _ => 0)))]) [0, 2, 1, 4, 3, 6, 5] (by decide) rfl
  have hFc := va_free (wc := [((q 0), .inr (12, (mo q))), ((q 44), .inl (cI, 3, .inl (upd (upd (upd (fun _ => 0) 0 0) 1 0) 2 0))), ((q 18), .inl (cI, 6, .inl (fun _ => 0))), ((q 45), .inl (cI, 4, .inl (upd (upd (upd (upd (fun _ => 0) 0 0) 1 0) 2 0) 3 0))), ((q 14), .inl (cI, 8, .inl (fun _ => 0))), ((q 46), .inl (cI, 40, .inl (upd (upd (upd (upd (upd (upd (upd (upd (upd (upd (upd (upd (upd (upd (upd (upd (upd (upd (upd (upd (upd (upd (upd (upd (upd (upd (upd (upd (upd (upd (upd (upd (upd (upd (upd (upd (upd (upd (upd (upd (fun _ => 0) 0 0) 1 0) 2 0) 3 0) 4 0) 5 0) 6 0) 7 0) 8 0) 9 0) 10 0) 11 0) 12 0) 13 0) 14 0) 15 0) 16 0) 17 0) 18 0) 19 0) 20 0) 21 0) 22 0) 23 0) 24 0) 25 0) 26 0) 27 0) 28 0) 29 0) 30 0) 31 0) 32 0) 33 0) 34 0) 35 0) 36 0) 37 0) 38 0) 39 0))), ((q 15), .inl (cI, 80, .inl (fun _ => 0)))]) hD hS hA [0, 2, 1, 4, 3, 6, 5] rfl
  refine va_callv (va_runV (As := []) (rest := []) ⟨hx, hb, hml, hown, hts⟩ (k_X12_back_123 l dC dI cB cI cJ cZ cQ H.size q (fun _ => 0) (fun _ => 0) (fun _ => 0)) (cwV 0 hts g_p_X12_row_1 rfl rfl rfl (by decide +kernel) ⟨Nat.le_of_ble_eq_true rfl, Nat.le_of_ble_eq_true rfl⟩) ⟨fun a U g mk Z => by obtain ⟨q0, q1, qP, qK, qD⟩ := Z; exact ⟨q0, q1, qP, va_K.moved (u := U) (U := U.calling g mk a) (Vm.Alike.refl U.vm) qK, qD⟩, va_recv hK hPc (ci := 12) (q0 := 0) rfl rfl, fun U hU hW => ⟨rfl, by rw [hU], by rw [hU]; exact hPc, va_K.moved hW.alike hK, hDc.weaken (fun _ _ _ _ => trivial)⟩⟩ rfl rfl hl.1 rfl (lv_room (Nat.le_of_ble_eq_true rfl)) dX12_row_88 ⟨Nat.le_of_ble_eq_true rfl, Nat.le_of_ble_eq_true rfl⟩) hS (fun b _ h => hFc b h) hFc (fun u3 t H1 locs ht hvm hw hB hz1 hk1 hS => ?_)
  obtain ⟨hP1, hK1, hD1⟩ := hB
  rw [ht] at hP1
  obtain ⟨hP, hD⟩ := va_join (wr := []) (w1 := [((q 0), .inr (12, (mo q))), ((q 44), .inl (cI, 3, .inl (upd (upd (upd (fun _ => 0) 0 0) 1 0) 2 0))), ((q 18), .inl (cI, 6, .inl (upd (upd (upd (fun _ => 0) 0 0) 1 0) 2 0))), ((q 45), .inl (cI, 4, .inl (upd (upd (upd (upd (fun _ => 0) 0 0) 1 0) 2 0) 3 0))), ((q 14), .inl (cI, 8, .inl (upd (upd (upd (upd (fun _ => 0) 0 0) 1 0) 2 0) 3 0))), ((q 46), .inl (cI, 40, .inl (upd (upd (upd (upd (upd (upd (upd (upd (upd (upd (upd (upd (upd (upd (upd (upd (upd (upd (upd (upd (upd (upd (upd (upd (upd (upd (upd (upd (upd (upd (upd (upd (upd (upd (upd (upd (upd (upd (upd (upd (fun _ => 0) 0 0) 1 0) 2 0) 3 0) 4 0) 5 0) 6 0) 7 0) 8 0) 9 0) 10 0) 11 0) 12 0) 13 0) 14 0) 15 0) 16 0) 17 0) 18 0) 19 0) 20 0) 21 0) 22 0) 23 0) 24 0) 25 0) 26 0) 27 0) 28 0) 29 0) 30 0) 31 0) 32 0) 33 0) 34 0) 35 0) 36 0) 37 0) 38 0) 39 0))), ((q 15), .inl (cI, 80, .inl (upd (upd (upd (upd (upd (upd (upd (upd (upd (upd (upd (upd (upd (upd (upd (upd (upd (upd (upd (upd (upd (upd (upd (upd (upd (upd (upd (upd (upd (upd (upd (upd (upd (upd (upd (upd (upd (upd (upd (upd (fun _ => 0) 0 0) 1 0) 2 0) 3 0) 4 0) 5 0) 6 0) 7 0) 8 0) 9 0) 10 0) 11 0) 12 0) 13 0) 14 0) 15 0) 16 0) 17 0) 18 0) 19 0) 20 0) 21 0) 22 0) 23 0) 24 0) 25 0) 26 0) 27 0) 28 0) 29 0) 30 0) 31 0) 32 0) 33 0) 34 0) 35 0) 36 0) 37 0) 38 0) 39 0)))]) hP hD [0, 2, 1, 4, 3, 6, 5] [] rfl rfl (by decide) (by decide) hk1 hFc hP1 hD1
  clear hP1 hK1 hD1 hk1 hz1 hvm hPc hDc hFc
  generalize H1 = H at hP hS ⊢
  have hP : va_P (dC, dI) vwCl [((q 0), .inr (12, (mo q))), ((q 44), .inl (cI, 3, .inl (upd (upd (upd (fun _ => 0) 0 0) 1 0) 2 0))), ((q 18), .inl (cI, 6, .inl (upd (upd (upd (fun _ => 0) 0 0) 1 0) 2 0))), ((q 45), .inl (cI, 4, .inl (upd (upd (upd (upd (fun _ => 0) 0 0) 1 0) 2 0) 3 0))), ((q 14), .inl (cI, 8, .inl (upd (upd (upd (upd (fun _ => 0) 0 0) 1 0) 2 0) 3 0))), ((q 46), .inl (cI, 40, .inl (upd (upd (upd (upd (upd (upd (upd (upd (upd (upd (upd (upd (upd (upd (upd (upd (upd (upd (upd (upd (upd (upd (upd (upd (upd (upd (upd (upd (upd (upd (upd (upd (upd (upd (upd (upd (upd (upd (upd (upd (fun _ => 0) 0 0) 1 0) 2 0) 3 0) 4 0) 5 0) 6 0) 7 0) 8 0) 9 0) 10 0) 11 0) 12 0) 13 0) 14 0) 15 0) 16 0) 17 0) 18 0) 19 0) 20 0) 21 0) 22 0) 23 0) 24 0) 25 0) 26 0) 27 0) 28 0) 29 0) 30 0) 31 0) 32 0) 33 0) 34 0) 35 0) 36 0) 37 0) 38 0) 39 0))), ((q 15), .inl (cI, 80, .inl (upd (upd (upd (upd (upd (upd (upd (upd (upd (upd (upd (upd (upd (upd (upd (upd (upd (upd (upd (upd (upd (upd (upd (upd (upd (upd (upd (upd (upd (upd (upd (upd (upd (upd (upd (upd (upd (upd (upd (upd (fun _ => 0) 0 0) 1 0) 2 0) 3 0) 4 0) 5 0) 6 0) 7 0) 8 0) 9 0) 10 0) 11 0) 12 0) 13 0) 14 0) 15 0) 16 0) 17 0) 18 0) 19 0) 20 0) 21 0) 22 0) 23 0) 24 0) 25 0) 26 0) 27 0) 28 0) 29 0) 30 0) 31 0) 32 0) 33 0) 34 0) 35 0) 36 0) 37 0) 38 0) 39 0)))] H := hP
  have hD : va_D A [((q 0), .inr (12, (mo q))), ((q 44), .inl (cI, 3, .inl (upd (upd (upd (fun _ => 0) 0 0) 1 0) 2 0))), ((q 18), .inl (cI, 6, .inl (upd (upd (upd (fun _ => 0) 0 0) 1 0) 2 0))), ((q 45), .inl (cI, 4, .inl (upd (upd (upd (upd (fun _ => 0) 0 0) 1 0) 2 0) 3 0))), ((q 14), .inl (cI, 8, .inl (upd (upd (upd (upd (fun _ => 0) 0 0) 1 0) 2 0) 3 0))), ((q 46), .inl (cI, 40, .inl (upd (upd (upd (upd (upd (upd (upd (upd (upd (upd (upd (upd (upd (upd (upd (upd (upd (upd (upd (upd (upd (upd (upd (upd (upd (upd (upd (upd (upd (upd (upd (upd (upd (upd (upd (upd (upd (upd (upd (upd (fun _ => 0) 0 0) 1 0) 2 0) 3 0) 4 0) 5 0) 6 0) 7 0) 8 0) 9 0) 10 0) 11 0) 12 0) 13 0) 14 0) 15 0) 16 0) 17 0) 18 0) 19 0) 20 0) 21 0) 22 0) 23 0) 24 0) 25 0) 26 0) 27 0) 28 0) 29 0) 30 0) 31 0) 32 0) 33 0) 34 0) 35 0) 36 0) 37 0) 38 0) 39 0))), ((q 15), .inl (cI, 80, .inl (upd (upd (upd (upd (upd (upd (upd (upd (upd (upd (upd (upd (upd (upd (upd (upd (upd (upd (upd (upd (upd (upd (upd (upd (upd (upd (upd (upd (upd (upd (upd (upd (upd (upd (upd (upd (upd (upd (upd (upd (fun _ => 0) 0 0) 1 0) 2 0) 3 0) 4 0) 5 0) 6 0) 7 0) 8 0) 9 0) 10 0) 11 0) 12 0) 13 0) 14 0) 15 0) 16 0) 17 0) 18 0) 19 0) 20 0) 21 0) 22 0) 23 0) 24 0) 25 0) 26 0) 27 0) 28 0) 29 0) 30 0) 31 0) 32 0) 33 0) 34 0) 35 0) 36 0) 37 0) 38 0) 39 0)))] := hD
  refine lv_iload_n hx hb dX12_row_91 rfl (lv_at hl 1 rfl) ?_
  exact W.iret (v := (-1)) hx hb hr (fun t ht hW => ⟨⟨(-1), (), rfl, rfl, trivial⟩, hS.F ht⟩) hS.2.2 dX12_row_92
