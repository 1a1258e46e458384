def ws_k_X12_isRow_139 : List Cond := .code yX12_isRow cX12_isRow 6 (some .boolean) :: ([.fieldLink RX12 250 "StackKeysModel" "foundMany" "I"] ++ wsX120)
set_option maxHeartbeats 4000000 in
set_option maxRecDepth 100000 in
theorem k_X12_isRow_139 (l : Launch) (dC : Nat → ClassId) (dI : Nat → Nat → Nat) (cB cI cJ cZ cQ : ClassId) (sz : Nat) (q : Nat → Nat) : Met l yX12_isRow ws_k_X12_isRow_139 ({ frames := 0, cells := 0, slots := 0, locals := 0 }) (va_Pc [.ref (q 0), .int 0, .int 0] (fun U => U.heap.size = sz ∧ va_P (dC, dI) vwCl [((q 0), .inr (12, (mo q)))] U.heap ∧ va_K (dC, dI) vwCl (tyA cB cI cJ cZ cQ) U ∧ va_D (fun _ => True) [((q 0), .inr (12, (mo q)))])) (va_Qi (fun (r : Int32) (_ : Unit) => r = 1) (fun (u : Unit) t => va_P (dC, dI) vwCl [((q 0), .inr (12, (mo q)))] t.heap ∧ va_K (dC, dI) vwCl (tyA cB cI cJ cZ cQ) t ∧ va_D (va_A [((q 0), .inr (12, (mo q)))] sz) [((q 0), .inr (12, (mo q)))]) (va_A [((q 0), .inr (12, (mo q)))] sz)) 0 0 (va_A [((q 0), .inr (12, (mo q)))] sz) := by
  refine Met.ofW (cc := cX12_isRow) (maxL := 6) (ret := (some .boolean)) (by decide +kernel) rfl ?_
  intro p e s m args below meth c s₁ B hml hv
  obtain ⟨rfl, hsz, hP, hK, hD0⟩ := hv
  have hx := B.exec
  have hb := B.bytes
  have hr := B.returns
  have hts := atoms_spec (ws := ws_k_X12_isRow_139) B.pre
  have hown : s.vm.findClass RX12 = some m.cls := findClass_of_methodNamed B.named
  have hiX12 : ∀ w ∈ u_ws RX12 TX12 85, w ∈ ws_k_X12_isRow_139 := fun w h => List.mem_cons_of_mem _ (List.mem_append_right _ h)
  subst hsz
  have hD := hD0.self (sz := s.heap.size)
  generalize hAe : va_A [((q 0), .inr (12, (mo q)))] s.heap.size = A at hD ⊢
  have hA : ∀ b : Nat, s.heap.size ≤ b → A b := fun b h => by rw [← hAe]; exact Or.inr h
  clear hD0 hAe
  have hS : va_S A s.heap s.heap [] := va_S.rf
  have hl := lv_entry ([.ref (q 0), .int 0, .int 0]) (n := 6) (Nat.le_of_ble_eq_true rfl)
  rw [lg_entry_eq]
  generalize (lg_sl ([.ref (q 0), .int 0, .int 0]) ++ List.replicate (6 - (lg_sl ([.ref (q 0), .int 0, .int 0])).length) Slot.unset).toArray = ls at hl ⊢
  have hl : lv_has ls 6 [(0, .ref (q 0)), (1, .int 0), (2, .int 0)] := hl
  obtain ⟨H, hHe⟩ : ∃ H : Heap, H = s.heap := ⟨_, rfl⟩
  rw [← hHe] at hP
  have hS : va_S A s.heap H [] := by rw [hHe]; exact hS
  rw [← hHe]
  refine lv_aload_n hx hb dX12_isRow_0 rfl (lv_at hl 0 rfl) ?_
  refine lv_iload_n hx hb dX12_isRow_1 rfl (lv_at hl 1 rfl) ?_
  refine va_put (D := (dC, dI)) (ci := 12) (v := .int 0) (ty := .int) (C := RX12) (T := TX12) (N := 85) hx hb hts hiX12 tyX12 tyX12_ok nmX12 hown hK hP hD hS 0 rfl rfl 78 (by decide) (hts _ (List.mem_of_getElem? (i := 1) rfl)) (fun _ h9 => h9) rfl (by decide +kernel) rfl rfl (Nat.le_of_ble_eq_true rfl) dX12_isRow_2 (fun H locs hP hD hS => ?_)
  have hP : va_P (dC, dI) vwCl [((q 0), .inr (12, (mo q)))] H := hP
  have hD : va_D A [((q 0), .inr (12, (mo q)))] := hD
  refine lv_iload_n hx hb dX12_isRow_5 rfl (lv_at hl 2 rfl) ?_
  refine lv_istore_n (lv' := [(3, .int 0), (0, .ref (q 0)), (1, .int 0), (2, .int 0)]) hx hb dX12_isRow_6 rfl hl (by decide) rfl (fun ls hl => ?_)
  refine lv_iload_n hx hb dX12_isRow_7 rfl (lv_at hl 2 rfl) ?_
  refine lv_iconst (v := 1) hx hb dX12_isRow_8 (by decide +kernel) ?_
  refine lv_isub hx hb dX12_isRow_9 ?_
  refine tp_i (y := (-1)) (by decide +kernel) ?_
  refine lv_istore (lv' := [(4, .int (-1)), (3, .int 0), (0, .ref (q 0)), (1, .int 0), (2, .int 0)]) hx hb dX12_isRow_10 hl (by decide) rfl (fun ls hl => ?_)
  refine lv_iload hx hb dX12_isRow_12 (lv_at hl 0 rfl) ?_
  refine lv_if_lt (tgt := 39) hx hb dX12_isRow_14 (by decide) (fun _ => ?_) (fun c => absurd c (by decide +kernel))
  refine lv_iconst (v := 0) hx hb dX12_isRow_39 (by decide +kernel) ?_
  refine lv_istore (lv' := [(4, .int 0), (3, .int 0), (0, .ref (q 0)), (1, .int 0), (2, .int 0)]) hx hb dX12_isRow_40 hl (by decide) rfl (fun ls hl => ?_)
  refine lv_iload hx hb dX12_isRow_42 (lv_at hl 0 rfl) ?_
  refine lv_iload_n hx hb dX12_isRow_44 rfl (lv_at hl 3 rfl) ?_
  refine lv_icmp_ge (tgt := 124) hx hb dX12_isRow_45 (by decide) (fun _ => ?_) (fun c => absurd c (by decide +kernel))
  refine lv_iconst (v := 1) hx hb dX12_isRow_124 (by decide +kernel) ?_
  have hP9 := hP.sub (ws' := [((q 0), .inr (12, (mo q)))]) [0] rfl
  have hD9 := hD.sub (ws' := [((q 0), .inr (12, (mo q)))]) [0] (by decide) rfl
  exact W.zret (v := 1) hx hb hr (by decide +kernel) (fun t ht hW => ⟨⟨1, (), rfl, rfl, by rw [ht]; exact hP9, va_K.moved hW.alike hK, hD9⟩, hS.F ht⟩) hS.2.2 dX12_isRow_125
def ws_k_X12_agrees_140 : List Cond := .code yX12_agrees cX12_agrees 3 (some .boolean) :: ([.fieldLink RX12 250 "StackKeysModel" "foundMany" "I", .fieldLink RX12 256 "StackKeysModel" "left" "I", .fieldLink RX12 241 "StackKeysModel" "trials" "I"] ++ wsX120)
set_option maxHeartbeats 4000000 in
set_option maxRecDepth 100000 in
theorem k_X12_agrees_140 (l : Launch) (dC : Nat → ClassId) (dI : Nat → Nat → Nat) (cB cI cJ cZ cQ : ClassId) (sz : Nat) (q : Nat → Nat) : Met l yX12_agrees ws_k_X12_agrees_140 ({ frames := 0, cells := 0, slots := 0, locals := 0 }) (va_Pc [.ref (q 0)] (fun U => U.heap.size = sz ∧ va_P (dC, dI) vwCl [((q 0), .inr (12, (mo q)))] U.heap ∧ va_K (dC, dI) vwCl (tyA cB cI cJ cZ cQ) U ∧ va_D (fun _ => True) [((q 0), .inr (12, (mo q)))])) (va_Qi (fun (r : Int32) (_ : Unit) => r = 1) (fun (u : Unit) t => va_P (dC, dI) vwCl [((q 0), .inr (12, (mo q)))] t.heap ∧ va_K (dC, dI) vwCl (tyA cB cI cJ cZ cQ) t ∧ va_D (va_A [((q 0), .inr (12, (mo q)))] sz) [((q 0), .inr (12, (mo q)))]) (va_A [((q 0), .inr (12, (mo q)))] sz)) 0 0 (va_A [((q 0), .inr (12, (mo q)))] sz) := by
  refine Met.ofW (cc := cX12_agrees) (maxL := 3) (ret := (some .boolean)) (by decide +kernel) rfl ?_
  intro p e s m args below meth c s₁ B hml hv
  obtain ⟨rfl, hsz, hP, hK, hD0⟩ := hv
  have hx := B.exec
  have hb := B.bytes
  have hr := B.returns
  have hts := atoms_spec (ws := ws_k_X12_agrees_140) B.pre
  have hown : s.vm.findClass RX12 = some m.cls := findClass_of_methodNamed B.named
  have hiX12 : ∀ w ∈ u_ws RX12 TX12 85, w ∈ ws_k_X12_agrees_140 := fun w h => List.mem_cons_of_mem _ (List.mem_append_right _ h)
  subst hsz
  have hD := hD0.self (sz := s.heap.size)
  generalize hAe : va_A [((q 0), .inr (12, (mo q)))] s.heap.size = A at hD ⊢
  have hA : ∀ b : Nat, s.heap.size ≤ b → A b := fun b h => by rw [← hAe]; exact Or.inr h
  clear hD0 hAe
  have hS : va_S A s.heap s.heap [] := va_S.rf
  have hl := lv_entry ([.ref (q 0)]) (n := 3) (Nat.le_of_ble_eq_true rfl)
  rw [lg_entry_eq]
  generalize (lg_sl ([.ref (q 0)]) ++ List.replicate (3 - (lg_sl ([.ref (q 0)])).length) Slot.unset).toArray = ls at hl ⊢
  have hl : lv_has ls 3 [(0, .ref (q 0))] := hl
  obtain ⟨H, hHe⟩ : ∃ H : Heap, H = s.heap := ⟨_, rfl⟩
  rw [← hHe] at hP
  have hS : va_S A s.heap H [] := by rw [hHe]; exact hS
  rw [← hHe]
  refine lv_aload_n hx hb dX12_agrees_0 rfl (lv_at hl 0 rfl) ?_
  refine lv_aload_n hx hb dX12_agrees_1 rfl (lv_at hl 0 rfl) ?_
  refine va_get (D := (dC, dI)) (ci := 12) (v := .int 0) (C := RX12) (T := TX12) (N := 85) hx hb hts hiX12 hown hK hP 0 rfl rfl 78 (by decide) (hts _ (List.mem_of_getElem? (i := 1) rfl)) (fun _ h9 => h9) rfl dX12_agrees_2 ?_
  refine va_put (D := (dC, dI)) (ci := 12) (v := .int 0) (ty := .int) (C := RX12) (T := TX12) (N := 85) hx hb hts hiX12 tyX12 tyX12_ok nmX12 hown hK hP hD hS 0 rfl rfl 80 (by decide) (hts _ (List.mem_of_getElem? (i := 2) rfl)) (fun _ h9 => h9) rfl (by decide +kernel) rfl rfl (Nat.le_of_ble_eq_true rfl) dX12_agrees_5 (fun H locs hP hD hS => ?_)
  have hP : va_P (dC, dI) vwCl [((q 0), .inr (12, (mo q)))] H := hP
  have hD : va_D A [((q 0), .inr (12, (mo q)))] := hD
  refine lv_iconst (v := 0) hx hb dX12_agrees_8 (by decide +kernel) ?_
  refine lv_istore_n (lv' := [(1, .int 0), (0, .ref (q 0))]) hx hb dX12_agrees_9 rfl hl (by decide) rfl (fun ls hl => ?_)
  refine lv_iload_n hx hb dX12_agrees_10 rfl (lv_at hl 0 rfl) ?_
  refine lv_aload_n hx hb dX12_agrees_11 rfl (lv_at hl 1 rfl) ?_
  refine va_get (D := (dC, dI)) (ci := 12) (v := .int 0) (C := RX12) (T := TX12) (N := 85) hx hb hts hiX12 hown hK hP 0 rfl rfl 75 (by decide) (hts _ (List.mem_of_getElem? (i := 3) rfl)) (fun _ h9 => h9) rfl dX12_agrees_12 ?_
  refine lv_icmp_ge (tgt := 87) hx hb dX12_agrees_15 (by decide) (fun _ => ?_) (fun c => absurd c (by decide +kernel))
  refine lv_iconst (v := 1) hx hb dX12_agrees_87 (by decide +kernel) ?_
  have hP9 := hP.sub (ws' := [((q 0), .inr (12, (mo q)))]) [0] rfl
  have hD9 := hD.sub (ws' := [((q 0), .inr (12, (mo q)))]) [0] (by decide) rfl
  exact W.zret (v := 1) hx hb hr (by decide +kernel) (fun t ht hW => ⟨⟨1, (), rfl, rfl, by rw [ht]; exact hP9, va_K.moved hW.alike hK, hD9⟩, hS.F ht⟩) hS.2.2 dX12_agrees_88
def ws_k_X12_isDoor_141 : List Cond := .code yX12_isDoor cX12_isDoor 2 (some .boolean) :: ([.fieldLink RX12 58 "StackKeysModel" "doors" "[I", .fieldLink RX12 48 "StackKeysModel" "bank" "I", .methodLink RX12 352 yX12_is, .static yX12_is, .initialized RX12, .code yX12_is cX12_is 3 (some .boolean)] ++ wsX120)
set_option maxRecDepth 20000 in
theorem g_k_X12_isDoor_141_0 : GoodIn ws_k_X12_isDoor_141 (va_wsS RX12 352 yX12_is ws_k_X12_is_100) := goodIn_r _ [3, 4, 5, 6] (by decide +kernel) (by decide +kernel)
set_option maxHeartbeats 4000000 in
set_option maxRecDepth 100000 in
theorem k_X12_isDoor_141 (l : Launch) (dC : Nat → ClassId) (dI : Nat → Nat → Nat) (cB cI cJ cZ cQ : ClassId) (sz : Nat) (q : Nat → Nat) (x0 : Int32) : Met l yX12_isDoor ws_k_X12_isDoor_141 ({ frames := 1, cells := 0, slots := 0, locals := 22 }) (va_Pc [.ref (q 0), .int x0] (fun U => U.heap.size = sz ∧ va_P (dC, dI) vwCl [((q 0), .inr (12, ((mo q).set 78 (.int 3)))), ((q 4), .inl (cI, 2, .inl (fun _ => 0)))] U.heap ∧ va_K (dC, dI) vwCl (tyA cB cI cJ cZ cQ) U ∧ va_D (fun _ => True) [((q 0), .inr (12, ((mo q).set 78 (.int 3)))), ((q 4), .inl (cI, 2, .inl (fun _ => 0)))])) (va_Qi (fun (r : Int32) (_ : Unit) => r = 0) (fun (u : Unit) t => va_P (dC, dI) vwCl [((q 0), .inr (12, ((mo q).set 78 (.int 3)))), ((q 4), .inl (cI, 2, .inl (fun _ => 0)))] t.heap ∧ va_K (dC, dI) vwCl (tyA cB cI cJ cZ cQ) t ∧ va_D (va_A [((q 0), .inr (12, ((mo q).set 78 (.int 3)))), ((q 4), .inl (cI, 2, .inl (fun _ => 0)))] sz) [((q 0), .inr (12, ((mo q).set 78 (.int 3)))), ((q 4), .inl (cI, 2, .inl (fun _ => 0)))]) (va_A [((q 0), .inr (12, ((mo q).set 78 (.int 3)))), ((q 4), .inl (cI, 2, .inl (fun _ => 0)))] sz)) 0 0 (va_A [((q 0), .inr (12, ((mo q).set 78 (.int 3)))), ((q 4), .inl (cI, 2, .inl (fun _ => 0)))] sz) := by
  refine Met.ofW (cc := cX12_isDoor) (maxL := 2) (ret := (some .boolean)) (by decide +kernel) rfl ?_
  intro p e s m args below meth c s₁ B hml hv
  obtain ⟨rfl, hsz, hP, hK, hD0⟩ := hv
  have hx := B.exec
  have hb := B.bytes
  have hr := B.returns
  have hts := atoms_spec (ws := ws_k_X12_isDoor_141) B.pre
  have hown : s.vm.findClass RX12 = some m.cls := findClass_of_methodNamed B.named
  have hiX12 : ∀ w ∈ u_ws RX12 TX12 85, w ∈ ws_k_X12_isDoor_141 := fun w h => List.mem_cons_of_mem _ (List.mem_append_right _ h)
  subst hsz
  have hD := hD0.self (sz := s.heap.size)
  generalize hAe : va_A [((q 0), .inr (12, ((mo q).set 78 (.int 3)))), ((q 4), .inl (cI, 2, .inl (fun _ => 0)))] s.heap.size = A at hD ⊢
  have hA : ∀ b : Nat, s.heap.size ≤ b → A b := fun b h => by rw [← hAe]; exact Or.inr h
  clear hD0 hAe
  have hS : va_S A s.heap s.heap [] := va_S.rf
  have hl := lv_entry ([.ref (q 0), .int x0]) (n := 2) (Nat.le_of_ble_eq_true rfl)
  rw [lg_entry_eq]
  generalize (lg_sl ([.ref (q 0), .int x0]) ++ List.replicate (2 - (lg_sl ([.ref (q 0), .int x0])).length) Slot.unset).toArray = ls at hl ⊢
  have hl : lv_has ls 2 [(0, .ref (q 0)), (1, .int x0)] := hl
  obtain ⟨H, hHe⟩ : ∃ H : Heap, H = s.heap := ⟨_, rfl⟩
  rw [← hHe] at hP
  have hS : va_S A s.heap H [] := by rw [hHe]; exact hS
  rw [← hHe]
  refine lv_iload_n hx hb dX12_isDoor_0 rfl (lv_at hl 1 rfl) ?_
  refine lv_iconst (v := 0) hx hb dX12_isDoor_1 (by decide +kernel) ?_
  refine lv_aload_n hx hb dX12_isDoor_2 rfl (lv_at hl 0 rfl) ?_
  refine va_get (D := (dC, dI)) (ci := 12) (v := .ref (q 4)) (C := RX12) (T := TX12) (N := 85) hx hb hts hiX12 hown hK hP 0 rfl rfl 15 (by decide) (hts _ (List.mem_of_getElem? (i := 1) rfl)) (fun _ h9 => h9) rfl dX12_isDoor_3 ?_
  refine lv_aload_n hx hb dX12_isDoor_6 rfl (lv_at hl 0 rfl) ?_
  refine va_get (D := (dC, dI)) (ci := 12) (v := .int 0) (C := RX12) (T := TX12) (N := 85) hx hb hts hiX12 hown hK hP 0 rfl rfl 12 (by decide) (hts _ (List.mem_of_getElem? (i := 2) rfl)) (fun _ h9 => h9) rfl dX12_isDoor_7 ?_
  refine va_iald hx hb hK hP 1 1 rfl rfl (vpc _ _ (by decide +kernel)) dX12_isDoor_10 ?_
  refine tp_i (y := 0) rfl ?_
  refine lv_iconst (v := 1) hx hb dX12_isDoor_11 (by decide +kernel) ?_
  refine lv_isub hx hb dX12_isDoor_12 ?_
  refine tp_i (y := (-1)) (by decide +kernel) ?_
  have hPc := hP.sub (ws' := []) [] rfl
  have hDc := hD.sub (ws' := []) [] (by decide) rfl
  have hFc := va_free (wc := []) hD hS hA [] rfl
  refine va_calli (va_runS (As := [.int x0, .int 0, .int (-1)]) (rest := []) ⟨hx, hb, hml, hown, hts⟩ (k_X12_is_100 l dC dI cB cI cJ cZ cQ H.size x0) (va_cwS 3 hts g_k_X12_isDoor_141_0 rfl rfl rfl (by decide +kernel) ⟨Nat.le_of_ble_eq_true rfl, Nat.le_of_ble_eq_true rfl⟩) ⟨fun a U g mk Z => by obtain ⟨q0, q1, qP, qK, qD⟩ := Z; exact ⟨q0, q1, qP, va_K.moved (u := U) (U := U.calling g mk a) (Vm.Alike.refl U.vm) qK, qD⟩, fun U hU hW => ⟨rfl, by rw [hU], by rw [hU]; exact hPc, va_K.moved hW.alike hK, hDc.weaken (fun _ _ _ _ => trivial)⟩⟩ rfl rfl hl.1 rfl (lv_room (Nat.le_of_ble_eq_true rfl)) dX12_isDoor_13 ⟨Nat.le_of_ble_eq_true rfl, Nat.le_of_ble_eq_true rfl⟩) hS (fun b _ h => hFc b h) hFc (fun r2 u1 t H1 locs ht hvm hw hB hz1 hk1 hS => ?_)
  obtain ⟨hP1, hK1, hD1⟩ := hB
  rw [ht] at hP1
  obtain ⟨hP, hD⟩ := va_join (wr := [((q 0), .inr (12, ((mo q).set 78 (.int 3)))), ((q 4), .inl (cI, 2, .inl (fun _ => 0)))]) (w1 := []) hP hD [] [0, 1] rfl rfl (by decide) (by decide) hk1 hFc hP1 hD1
  clear hP1 hK1 hD1 hk1 hz1 hvm hPc hDc hFc
  generalize H1 = H at hP hS ⊢
  have hP : va_P (dC, dI) vwCl [((q 0), .inr (12, ((mo q).set 78 (.int 3)))), ((q 4), .inl (cI, 2, .inl (fun _ => 0)))] H := hP
  have hD : va_D A [((q 0), .inr (12, ((mo q).set 78 (.int 3)))), ((q 4), .inl (cI, 2, .inl (fun _ => 0)))] := hD
  subst hw
  have hP9 := hP.sub (ws' := [((q 0), .inr (12, ((mo q).set 78 (.int 3)))), ((q 4), .inl (cI, 2, .inl (fun _ => 0)))]) [0, 1] rfl
  have hD9 := hD.sub (ws' := [((q 0), .inr (12, ((mo q).set 78 (.int 3)))), ((q 4), .inl (cI, 2, .inl (fun _ => 0)))]) [0, 1] (by decide) rfl
  exact W.zret (v := 0) hx hb hr (by decide +kernel) (fun t ht hW => ⟨⟨0, (), rfl, rfl, by rw [ht]; exact hP9, va_K.moved hW.alike hK, hD9⟩, hS.F ht⟩) hS.2.2 dX12_isDoor_16
def ws_k_X12_isRow_142 : List Cond := .code yX12_isRow cX12_isRow 6 (some .boolean) :: ([.fieldLink RX12 250 "StackKeysModel" "foundMany" "I", .fieldLink RX12 253 "StackKeysModel" "found" "[I", .methodLink RX12 507 yX12_isDoor, .instanceMethod yX12_isDoor, .selects RX12 yX12_isDoor yX12_isDoor, .initialized RX12, .code yX12_isDoor cX12_isDoor 2 (some .boolean), .fieldLink RX12 58 "StackKeysModel" "doors" "[I", .fieldLink RX12 48 "StackKeysModel" "bank" "I", .methodLink RX12 352 yX12_is, .static yX12_is, .code yX12_is cX12_is 3 (some .boolean)] ++ wsX120)
set_option maxRecDepth 20000 in
theorem g_k_X12_isRow_142_0 : GoodIn ws_k_X12_isRow_142 (wsV RX12 507 RX12 yX12_isDoor ws_k_X12_isDoor_141) := goodIn_r _ [3, 4, 5, 6, 7, 8, 9, 10, 11, 6, 12, 13, 14, 15, 16, 17, 18, 19, 20, 21, 22, 23, 24, 25, 26, 27, 28, 29, 30, 31, 32, 33, 34, 35, 36, 37, 38, 39, 40, 41, 42, 43, 44, 45, 46, 47, 48, 49, 50, 51, 52, 53, 54, 55, 56, 57, 58, 59, 60, 61, 62, 63, 64, 65, 66, 67, 68, 69, 70, 71, 72, 73, 74, 75, 76, 77, 78, 79, 80, 81, 82, 83, 84, 85, 86, 87, 88, 89, 90, 91, 92, 93, 94, 95, 96, 97] (by decide +kernel) (by decide +kernel)
set_option maxHeartbeats 4000000 in
set_option maxRecDepth 100000 in
theorem k_X12_isRow_142 (l : Launch) (dC : Nat → ClassId) (dI : Nat → Nat → Nat) (cB cI cJ cZ cQ : ClassId) (sz : Nat) (q : Nat → Nat) (x0 x1 : Int32) (f0 : Nat → Int32) : Met l yX12_isRow ws_k_X12_isRow_142 ({ frames := 2, cells := 0, slots := 0, locals := 43 }) (va_Pc [.ref (q 0), .int 3, .int x0] (fun U => U.heap.size = sz ∧ va_P (dC, dI) vwCl [((q 0), .inr (12, ((mo q).set 78 (.int x1)))), ((q 54), .inl (cI, 3, .inl f0)), ((q 4), .inl (cI, 2, .inl (fun _ => 0)))] U.heap ∧ va_K (dC, dI) vwCl (tyA cB cI cJ cZ cQ) U ∧ va_D (fun _ => True) [((q 0), .inr (12, ((mo q).set 78 (.int x1)))), ((q 54), .inl (cI, 3, .inl f0)), ((q 4), .inl (cI, 2, .inl (fun _ => 0)))])) (va_Qi (fun (r : Int32) (_ : Unit) => r = 0) (fun (u : Unit) t => va_P (dC, dI) vwCl [((q 0), .inr (12, ((mo q).set 78 (.int 3)))), ((q 54), .inl (cI, 3, .inl (upd (upd (upd f0 2 (x0 - x0 / 10 * 10)) 1 ((x0 / 10) - (x0 / 10) / 10 * 10)) 0 (((x0 / 10) / 10) - ((x0 / 10) / 10) / 10 * 10)))), ((q 4), .inl (cI, 2, .inl (fun _ => 0)))] t.heap ∧ va_K (dC, dI) vwCl (tyA cB cI cJ cZ cQ) t ∧ va_D (va_A [((q 0), .inr (12, ((mo q).set 78 (.int x1)))), ((q 54), .inl (cI, 3, .inl f0)), ((q 4), .inl (cI, 2, .inl (fun _ => 0)))] sz) [((q 0), .inr (12, ((mo q).set 78 (.int 3)))), ((q 54), .inl (cI, 3, .inl (upd (upd (upd f0 2 (x0 - x0 / 10 * 10)) 1 ((x0 / 10) - (x0 / 10) / 10 * 10)) 0 (((x0 / 10) / 10) - ((x0 / 10) / 10) / 10 * 10)))), ((q 4), .inl (cI, 2, .inl (fun _ => 0)))]) (va_A [((q 0), .inr (12, ((mo q).set 78 (.int x1)))), ((q 54), .inl (cI, 3, .inl f0)), ((q 4), .inl (cI, 2, .inl (fun _ => 0)))] sz)) 0 0 (va_A [((q 0), .inr (12, ((mo q).set 78 (.int x1)))), ((q 54), .inl (cI, 3, .inl f0)), ((q 4), .inl (cI, 2, .inl (fun _ => 0)))] sz) := by
  refine Met.ofW (cc := cX12_isRow) (maxL := 6) (ret := (some .boolean)) (by decide +kernel) rfl ?_
  intro p e s m args below meth c s₁ B hml hv
  obtain ⟨rfl, hsz, hP, hK, hD0⟩ := hv
  have hx := B.exec
  have hb := B.bytes
  have hr := B.returns
  have hts := atoms_spec (ws := ws_k_X12_isRow_142) B.pre
  have hown : s.vm.findClass RX12 = some m.cls := findClass_of_methodNamed B.named
  have hiX12 : ∀ w ∈ u_ws RX12 TX12 85, w ∈ ws_k_X12_isRow_142 := fun w h => List.mem_cons_of_mem _ (List.mem_append_right _ h)
  subst hsz
  have hD := hD0.self (sz := s.heap.size)
  generalize hAe : va_A [((q 0), .inr (12, ((mo q).set 78 (.int x1)))), ((q 54), .inl (cI, 3, .inl f0)), ((q 4), .inl (cI, 2, .inl (fun _ => 0)))] s.heap.size = A at hD ⊢
  have hA : ∀ b : Nat, s.heap.size ≤ b → A b := fun b h => by rw [← hAe]; exact Or.inr h
  clear hD0 hAe
  have hS : va_S A s.heap s.heap [] := va_S.rf
  have hl := lv_entry ([.ref (q 0), .int 3, .int x0]) (n := 6) (Nat.le_of_ble_eq_true rfl)
  rw [lg_entry_eq]
  generalize (lg_sl ([.ref (q 0), .int 3, .int x0]) ++ List.replicate (6 - (lg_sl ([.ref (q 0), .int 3, .int x0])).length) Slot.unset).toArray = ls at hl ⊢
  have hl : lv_has ls 6 [(0, .ref (q 0)), (1, .int 3), (2, .int x0)] := hl
  obtain ⟨H, hHe⟩ : ∃ H : Heap, H = s.heap := ⟨_, rfl⟩
  rw [← hHe] at hP
  have hS : va_S A s.heap H [] := by rw [hHe]; exact hS
  rw [← hHe]
  refine lv_aload_n hx hb dX12_isRow_0 rfl (lv_at hl 0 rfl) ?_
  refine lv_iload_n hx hb dX12_isRow_1 rfl (lv_at hl 1 rfl) ?_
  refine va_put (D := (dC, dI)) (ci := 12) (v := .int 3) (ty := .int) (C := RX12) (T := TX12) (N := 85) hx hb hts hiX12 tyX12 tyX12_ok nmX12 hown hK hP hD hS 0 rfl rfl 78 (by decide) (hts _ (List.mem_of_getElem? (i := 1) rfl)) (fun _ h9 => h9) rfl (by decide +kernel) rfl rfl (Nat.le_of_ble_eq_true rfl) dX12_isRow_2 (fun H locs hP hD hS => ?_)
  have hP : va_P (dC, dI) vwCl [((q 0), .inr (12, ((mo q).set 78 (.int 3)))), ((q 54), .inl (cI, 3, .inl f0)), ((q 4), .inl (cI, 2, .inl (fun _ => 0)))] H := hP
  have hD : va_D A [((q 0), .inr (12, ((mo q).set 78 (.int 3)))), ((q 54), .inl (cI, 3, .inl f0)), ((q 4), .inl (cI, 2, .inl (fun _ => 0)))] := hD
  refine lv_iload_n hx hb dX12_isRow_5 rfl (lv_at hl 2 rfl) ?_
  refine lv_istore_n (lv' := [(3, .int x0), (0, .ref (q 0)), (1, .int 3), (2, .int x0)]) hx hb dX12_isRow_6 rfl hl (by decide) rfl (fun ls hl => ?_)
  refine lv_iload_n hx hb dX12_isRow_7 rfl (lv_at hl 2 rfl) ?_
  refine lv_iconst (v := 1) hx hb dX12_isRow_8 (by decide +kernel) ?_
  refine lv_isub hx hb dX12_isRow_9 ?_
  refine tp_i (y := 2) (by decide +kernel) ?_
  refine lv_istore (lv' := [(4, .int 2), (3, .int x0), (0, .ref (q 0)), (1, .int 3), (2, .int x0)]) hx hb dX12_isRow_10 hl (by decide) rfl (fun ls hl => ?_)
  refine lv_iload hx hb dX12_isRow_12 (lv_at hl 0 rfl) ?_
  refine lv_if_lt (tgt := 39) hx hb dX12_isRow_14 (by decide) (fun c => absurd c (by decide +kernel)) (fun _ => ?_)
  refine lv_aload_n hx hb dX12_isRow_17 rfl (lv_at hl 2 rfl) ?_
  refine va_get (D := (dC, dI)) (ci := 12) (v := .ref (q 54)) (C := RX12) (T := TX12) (N := 85) hx hb hts hiX12 hown hK hP 0 rfl rfl 79 (by decide) (hts _ (List.mem_of_getElem? (i := 2) rfl)) (fun _ h9 => h9) rfl dX12_isRow_18 ?_
  refine lv_iload hx hb dX12_isRow_21 (lv_at hl 0 rfl) ?_
  refine lv_iload_n hx hb dX12_isRow_23 rfl (lv_at hl 1 rfl) ?_
  refine lv_bipush (v := 10) hx hb dX12_isRow_24 (by decide +kernel) ?_
  refine lv_irem hx hb dX12_isRow_26 (by decide +kernel) ?_
  refine va_iast hx hb hK hP hD hS 1 1 rfl rfl (vpc _ _ (by decide +kernel)) dX12_isRow_27 (fun H locs hP hD hS => ?_)
  have hP : va_P (dC, dI) vwCl [((q 0), .inr (12, ((mo q).set 78 (.int 3)))), ((q 54), .inl (cI, 3, .inl (upd f0 2 (x0 - x0 / 10 * 10)))), ((q 4), .inl (cI, 2, .inl (fun _ => 0)))] H := hP
  have hD : va_D A [((q 0), .inr (12, ((mo q).set 78 (.int 3)))), ((q 54), .inl (cI, 3, .inl (upd f0 2 (x0 - x0 / 10 * 10)))), ((q 4), .inl (cI, 2, .inl (fun _ => 0)))] := hD
  refine lv_iload_n hx hb dX12_isRow_28 rfl (lv_at hl 1 rfl) ?_
  refine lv_bipush (v := 10) hx hb dX12_isRow_29 (by decide +kernel) ?_
  refine lv_idiv hx hb dX12_isRow_31 (by decide +kernel) ?_
  refine lv_istore_n (lv' := [(3, .int (x0 / 10)), (4, .int 2), (0, .ref (q 0)), (1, .int 3), (2, .int x0)]) hx hb dX12_isRow_32 rfl hl (by decide) rfl (fun ls hl => ?_)
  refine lv_iinc (v := 1) (lv' := [(4, .int 1), (3, .int (x0 / 10)), (0, .ref (q 0)), (1, .int 3), (2, .int x0)]) hx hb dX12_isRow_33 hl (k := 1) rfl (by decide +kernel) (by decide) rfl (fun ls hl => ?_)
  refine lv_goto (tgt := 12) hx hb dX12_isRow_36 (by decide) ?_
  refine lv_iload hx hb dX12_isRow_12 (lv_at hl 0 rfl) ?_
  refine lv_if_lt (tgt := 39) hx hb dX12_isRow_14 (by decide) (fun c => absurd c (by decide +kernel)) (fun _ => ?_)
  refine lv_aload_n hx hb dX12_isRow_17 rfl (lv_at hl 2 rfl) ?_
  refine va_get (D := (dC, dI)) (ci := 12) (v := .ref (q 54)) (C := RX12) (T := TX12) (N := 85) hx hb hts hiX12 hown hK hP 0 rfl rfl 79 (by decide) (hts _ (List.mem_of_getElem? (i := 2) rfl)) (fun _ h9 => h9) rfl dX12_isRow_18 ?_
  refine lv_iload hx hb dX12_isRow_21 (lv_at hl 0 rfl) ?_
  refine lv_iload_n hx hb dX12_isRow_23 rfl (lv_at hl 1 rfl) ?_
  refine lv_bipush (v := 10) hx hb dX12_isRow_24 (by decide +kernel) ?_
  refine lv_irem hx hb dX12_isRow_26 (by decide +kernel) ?_
  refine va_iast hx hb hK hP hD hS 1 1 rfl rfl (vpc _ _ (by decide +kernel)) dX12_isRow_27 (fun H locs hP hD hS => ?_)
  have hP : va_P (dC, dI) vwCl [((q 0), .inr (12, ((mo q).set 78 (.int 3)))), ((q 54), .inl (cI, 3, .inl (upd (upd f0 2 (x0 - x0 / 10 * 10)) 1 ((x0 / 10) - (x0 / 10) / 10 * 10)))), ((q 4), .inl (cI, 2, .inl (fun _ => 0)))] H := hP
  have hD : va_D A [((q 0), .inr (12, ((mo q).set 78 (.int 3)))), ((q 54), .inl (cI, 3, .inl (upd (upd f0 2 (x0 - x0 / 10 * 10)) 1 ((x0 / 10) - (x0 / 10) / 10 * 10)))), ((q 4), .inl (cI, 2, .inl (fun _ => 0)))] := hD
  refine lv_iload_n hx hb dX12_isRow_28 rfl (lv_at hl 1 rfl) ?_
  refine lv_bipush (v := 10) hx hb dX12_isRow_29 (by decide +kernel) ?_
  refine lv_idiv hx hb dX12_isRow_31 (by decide +kernel) ?_
  refine lv_istore_n (lv' := [(3, .int ((x0 / 10) / 10)), (4, .int 1), (0, .ref (q 0)), (1, .int 3), (2, .int x0)]) hx hb dX12_isRow_32 rfl hl (by decide) rfl (fun ls hl => ?_)
  refine lv_iinc (v := 0) (lv' := [(4, .int 0), (3, .int ((x0 / 10) / 10)), (0, .ref (q 0)), (1, .int 3), (2, .int x0)]) hx hb dX12_isRow_33 hl (k := 1) rfl (by decide +kernel) (by decide) rfl (fun ls hl => ?_)
  refine lv_goto (tgt := 12) hx hb dX12_isRow_36 (by decide) ?_
  refine lv_iload hx hb dX12_isRow_12 (lv_at hl 0 rfl) ?_
  refine lv_if_lt (tgt := 39) hx hb dX12_isRow_14 (by decide) (fun c => absurd c (by decide +kernel)) (fun _ => ?_)
  refine lv_aload_n hx hb dX12_isRow_17 rfl (lv_at hl 2 rfl) ?_
  refine va_get (D := (dC, dI)) (ci := 12) (v := .ref (q 54)) (C := RX12) (T := TX12) (N := 85) hx hb hts hiX12 hown hK hP 0 rfl rfl 79 (by decide) (hts _ (List.mem_of_getElem? (i := 2) rfl)) (fun _ h9 => h9) rfl dX12_isRow_18 ?_
  refine lv_iload hx hb dX12_isRow_21 (lv_at hl 0 rfl) ?_
  refine lv_iload_n hx hb dX12_isRow_23 rfl (lv_at hl 1 rfl) ?_
  refine lv_bipush (v := 10) hx hb dX12_isRow_24 (by decide +kernel) ?_
  refine lv_irem hx hb dX12_isRow_26 (by decide +kernel) ?_
  refine va_iast hx hb hK hP hD hS 1 1 rfl rfl (vpc _ _ (by decide +kernel)) dX12_isRow_27 (fun H locs hP hD hS => ?_)
  have hP : va_P (dC, dI) vwCl [((q 0), .inr (12, ((mo q).set 78 (.int 3)))), ((q 54), .inl (cI, 3, .inl (upd (upd (upd f0 2 (x0 - x0 / 10 * 10)) 1 ((x0 / 10) - (x0 / 10) / 10 * 10)) 0 (((x0 / 10) / 10) - ((x0 / 10) / 10) / 10 * 10)))), ((q 4), .inl (cI, 2, .inl (fun _ => 0)))] H := hP
  have hD : va_D A [((q 0), .inr (12, ((mo q).set 78 (.int 3)))), ((q 54), .inl (cI, 3, .inl (upd (upd (upd f0 2 (x0 - x0 / 10 * 10)) 1 ((x0 / 10) - (x0 / 10) / 10 * 10)) 0 (((x0 / 10) / 10) - ((x0 / 10) / 10) / 10 * 10)))), ((q 4), .inl (cI, 2, .inl (fun _ => 0)))] := hD
  refine lv_iload_n hx hb dX12_isRow_28 rfl (lv_at hl 1 rfl) ?_
  refine lv_bipush (v := 10) hx hb dX12_isRow_29 (by decide +kernel) ?_
  refine lv_idiv hx hb dX12_isRow_31 (by decide +kernel) ?_
  refine lv_istore_n (lv' := [(3, .int (((x0 / 10) / 10) / 10)), (4, .int 0), (0, .ref (q 0)), (1, .int 3), (2, .int x0)]) hx hb dX12_isRow_32 rfl hl (by decide) rfl (fun ls hl => ?_)
  refine lv_iinc (v := (-1)) (lv' := [(4, .int (-1)), (3, .int (((x0 / 10) / 10) / 10)), (0, .ref (q 0)), (1, .int 3), (2, .int x0)]) hx hb dX12_isRow_33 hl (k := 1) rfl (by decide +kernel) (by decide) rfl (fun ls hl => ?_)
  refine lv_goto (tgt := 12) hx hb dX12_isRow_36 (by decide) ?_
  refine lv_iload hx hb dX12_isRow_12 (lv_at hl 0 rfl) ?_
  refine lv_if_lt (tgt := 39) hx hb dX12_isRow_14 (by decide) (fun _ => ?_) (fun c => absurd c (by decide +kernel))
  refine lv_iconst (v := 0) hx hb dX12_isRow_39 (by decide +kernel) ?_
  refine lv_istore (lv' := [(4, .int 0), (3, .int (((x0 / 10) / 10) / 10)), (0, .ref (q 0)), (1, .int 3), (2, .int x0)]) hx hb dX12_isRow_40 hl (by decide) rfl (fun ls hl => ?_)
  refine lv_iload hx hb dX12_isRow_42 (lv_at hl 0 rfl) ?_
  refine lv_iload_n hx hb dX12_isRow_44 rfl (lv_at hl 3 rfl) ?_
  refine lv_icmp_ge (tgt := 124) hx hb dX12_isRow_45 (by decide) (fun c => absurd c (by decide +kernel)) (fun _ => ?_)
  refine lv_aload_n hx hb dX12_isRow_48 rfl (lv_at hl 2 rfl) ?_
  refine lv_aload_n hx hb dX12_isRow_49 rfl (lv_at hl 2 rfl) ?_
  refine va_get (D := (dC, dI)) (ci := 12) (v := .ref (q 54)) (C := RX12) (T := TX12) (N := 85) hx hb hts hiX12 hown hK hP 0 rfl rfl 79 (by decide) (hts _ (List.mem_of_getElem? (i := 2) rfl)) (fun _ h9 => h9) rfl dX12_isRow_50 ?_
  refine lv_iload hx hb dX12_isRow_53 (lv_at hl 0 rfl) ?_
  refine va_iald hx hb hK hP 1 1 rfl rfl (vpc _ _ (by decide +kernel)) dX12_isRow_55 ?_
  refine tp_i (y := ((x0 / 10) / 10) - ((x0 / 10) / 10) / 10 * 10) rfl ?_
  have hPc := hP.sub (ws' := [((q 0), .inr (12, ((mo q).set 78 (.int 3)))), ((q 4), .inl (cI, 2, .inl (fun _ => 0)))]) [0, 2] rfl
  have hDc := hD.sub (ws' := [((q 0), .inr (12, ((mo q).set 78 (.int 3)))), ((q 4), .inl (cI, 2, .inl (fun _ => 0)))]) [0, 2] (by decide) rfl
  have hFc := va_free (wc := [((q 0), .inr (12, ((mo q).set 78 (.int 3)))), ((q 4), .inl (cI, 2, .inl (fun _ => 0)))]) hD hS hA [0, 2] rfl
  refine va_calli (va_runV (As := [.int (((x0 / 10) / 10) - ((x0 / 10) / 10) / 10 * 10)]) (rest := []) ⟨hx, hb, hml, hown, hts⟩ (k_X12_isDoor_141 l dC dI cB cI cJ cZ cQ H.size q (((x0 / 10) / 10) - ((x0 / 10) / 10) / 10 * 10)) (cwV 1 hts g_k_X12_isRow_142_0 rfl rfl rfl (by decide +kernel) ⟨Nat.le_of_ble_eq_true rfl, Nat.le_of_ble_eq_true rfl⟩) ⟨fun a U g mk Z => by obtain ⟨q0, q1, qP, qK, qD⟩ := Z; exact ⟨q0, q1, qP, va_K.moved (u := U) (U := U.calling g mk a) (Vm.Alike.refl U.vm) qK, qD⟩, va_recv hK hPc (ci := 12) (q0 := 0) rfl rfl, fun U hU hW => ⟨rfl, by rw [hU], by rw [hU]; exact hPc, va_K.moved hW.alike hK, hDc.weaken (fun _ _ _ _ => trivial)⟩⟩ rfl rfl hl.1 rfl (lv_room (Nat.le_of_ble_eq_true rfl)) dX12_isRow_56 ⟨Nat.le_of_ble_eq_true rfl, Nat.le_of_ble_eq_true rfl⟩) hS (fun b _ h => hFc b h) hFc (fun r2 u1 t H1 locs ht hvm hw hB hz1 hk1 hS => ?_)
  obtain ⟨hP1, hK1, hD1⟩ := hB
  rw [ht] at hP1
  obtain ⟨hP, hD⟩ := va_join (wr := [((q 54), .inl (cI, 3, .inl (upd (upd (upd f0 2 (x0 - x0 / 10 * 10)) 1 ((x0 / 10) - (x0 / 10) / 10 * 10)) 0 (((x0 / 10) / 10) - ((x0 / 10) / 10) / 10 * 10))))]) (w1 := [((q 0), .inr (12, ((mo q).set 78 (.int 3)))), ((q 4), .inl (cI, 2, .inl (fun _ => 0)))]) hP hD [0, 2] [1] rfl rfl (by decide) (by decide) hk1 hFc hP1 hD1
  clear hP1 hK1 hD1 hk1 hz1 hvm hPc hDc hFc
  generalize H1 = H at hP hS ⊢
  have hP : va_P (dC, dI) vwCl [((q 54), .inl (cI, 3, .inl (upd (upd (upd f0 2 (x0 - x0 / 10 * 10)) 1 ((x0 / 10) - (x0 / 10) / 10 * 10)) 0 (((x0 / 10) / 10) - ((x0 / 10) / 10) / 10 * 10)))), ((q 0), .inr (12, ((mo q).set 78 (.int 3)))), ((q 4), .inl (cI, 2, .inl (fun _ => 0)))] H := hP
  have hD : va_D A [((q 54), .inl (cI, 3, .inl (upd (upd (upd f0 2 (x0 - x0 / 10 * 10)) 1 ((x0 / 10) - (x0 / 10) / 10 * 10)) 0 (((x0 / 10) / 10) - ((x0 / 10) / 10) / 10 * 10)))), ((q 0), .inr (12, ((mo q).set 78 (.int 3)))), ((q 4), .inl (cI, 2, .inl (fun _ => 0)))] := hD
  subst hw
  refine lv_if_eq (tgt := 81) hx hb dX12_isRow_59 (by decide) (fun _ => ?_) (fun c => absurd c (by decide +kernel))
  refine lv_iconst (v := 0) hx hb dX12_isRow_81 (by decide +kernel) ?_
  have hP9 := hP.sub (ws' := [((q 0), .inr (12, ((mo q).set 78 (.int 3)))), ((q 54), .inl (cI, 3, .inl (upd (upd (upd f0 2 (x0 - x0 / 10 * 10)) 1 ((x0 / 10) - (x0 / 10) / 10 * 10)) 0 (((x0 / 10) / 10) - ((x0 / 10) / 10) / 10 * 10)))), ((q 4), .inl (cI, 2, .inl (fun _ => 0)))]) [1, 0, 2] rfl
  have hD9 := hD.sub (ws' := [((q 0), .inr (12, ((mo q).set 78 (.int 3)))), ((q 54), .inl (cI, 3, .inl (upd (upd (upd f0 2 (x0 - x0 / 10 * 10)) 1 ((x0 / 10) - (x0 / 10) / 10 * 10)) 0 (((x0 / 10) / 10) - ((x0 / 10) / 10) / 10 * 10)))), ((q 4), .inl (cI, 2, .inl (fun _ => 0)))]) [1, 0, 2] (by decide) rfl
  exact W.zret (v := 0) hx hb hr (by decide +kernel) (fun t ht hW => ⟨⟨0, (), rfl, rfl, by rw [ht]; exact hP9, va_K.moved hW.alike hK, hD9⟩, hS.F ht⟩) hS.2.2 dX12_isRow_82
def ws_k_X12_isDoor_143 : List Cond := .code yX12_isDoor cX12_isDoor 2 (some .boolean) :: ([.fieldLink RX12 58 "StackKeysModel" "doors" "[I", .fieldLink RX12 48 "StackKeysModel" "bank" "I", .methodLink RX12 352 yX12_is, .static yX12_is, .initialized RX12, .code yX12_is cX12_is 3 (some .boolean)] ++ wsX120)
set_option maxRecDepth 20000 in
theorem g_k_X12_isDoor_143_0 : GoodIn ws_k_X12_isDoor_143 (va_wsS RX12 352 yX12_is ws_k_X12_is_100) := goodIn_r _ [3, 4, 5, 6] (by decide +kernel) (by decide +kernel)
set_option maxHeartbeats 4000000 in
set_option maxRecDepth 100000 in
theorem k_X12_isDoor_143 (l : Launch) (dC : Nat → ClassId) (dI : Nat → Nat → Nat) (cB cI cJ cZ cQ : ClassId) (sz : Nat) (q : Nat → Nat) (x0 : Int32) : Met l yX12_isDoor ws_k_X12_isDoor_143 ({ frames := 1, cells := 0, slots := 0, locals := 22 }) (va_Pc [.ref (q 0), .int x0] (fun U => U.heap.size = sz ∧ va_P (dC, dI) vwCl [((q 0), .inr (12, ((mo q).set 78 (.int 2)))), ((q 4), .inl (cI, 2, .inl (fun _ => 0)))] U.heap ∧ va_K (dC, dI) vwCl (tyA cB cI cJ cZ cQ) U ∧ va_D (fun _ => True) [((q 0), .inr (12, ((mo q).set 78 (.int 2)))), ((q 4), .inl (cI, 2, .inl (fun _ => 0)))])) (va_Qi (fun (r : Int32) (_ : Unit) => r = 0) (fun (u : Unit) t => va_P (dC, dI) vwCl [((q 0), .inr (12, ((mo q).set 78 (.int 2)))), ((q 4), .inl (cI, 2, .inl (fun _ => 0)))] t.heap ∧ va_K (dC, dI) vwCl (tyA cB cI cJ cZ cQ) t ∧ va_D (va_A [((q 0), .inr (12, ((mo q).set 78 (.int 2)))), ((q 4), .inl (cI, 2, .inl (fun _ => 0)))] sz) [((q 0), .inr (12, ((mo q).set 78 (.int 2)))), ((q 4), .inl (cI, 2, .inl (fun _ => 0)))]) (va_A [((q 0), .inr (12, ((mo q).set 78 (.int 2)))), ((q 4), .inl (cI, 2, .inl (fun _ => 0)))] sz)) 0 0 (va_A [((q 0), .inr (12, ((mo q).set 78 (.int 2)))), ((q 4), .inl (cI, 2, .inl (fun _ => 0)))] sz) := by
  refine Met.ofW (cc := cX12_isDoor) (maxL := 2) (ret := (some .boolean)) (by decide +kernel) rfl ?_
  intro p e s m args below meth c s₁ B hml hv
  obtain ⟨rfl, hsz, hP, hK, hD0⟩ := hv
  have hx := B.exec
  have hb := B.bytes
  have hr := B.returns
  have hts := atoms_spec (ws := ws_k_X12_isDoor_143) B.pre
  have hown : s.vm.findClass RX12 = some m.cls := findClass_of_methodNamed B.named
  have hiX12 : ∀ w ∈ u_ws RX12 TX12 85, w ∈ ws_k_X12_isDoor_143 := fun w h => List.mem_cons_of_mem _ (List.mem_append_right _ h)
  subst hsz
  have hD := hD0.self (sz := s.heap.size)
  generalize hAe : va_A [((q 0), .inr (12, ((mo q).set 78 (.int 2)))), ((q 4), .inl (cI, 2, .inl (fun _ => 0)))] s.heap.size = A at hD ⊢
  have hA : ∀ b : Nat, s.heap.size ≤ b → A b := fun b h => by rw [← hAe]; exact Or.inr h
  clear hD0 hAe
  have hS : va_S A s.heap s.heap [] := va_S.rf
  have hl := lv_entry ([.ref (q 0), .int x0]) (n := 2) (Nat.le_of_ble_eq_true rfl)
  rw [lg_entry_eq]
  generalize (lg_sl ([.ref (q 0), .int x0]) ++ List.replicate (2 - (lg_sl ([.ref (q 0), .int x0])).length) Slot.unset).toArray = ls at hl ⊢
  have hl : lv_has ls 2 [(0, .ref (q 0)), (1, .int x0)] := hl
  obtain ⟨H, hHe⟩ : ∃ H : Heap, H = s.heap := ⟨_, rfl⟩
  rw [← hHe] at hP
  have hS : va_S A s.heap H [] := by rw [hHe]; exact hS
  rw [← hHe]
  refine lv_iload_n hx hb dX12_isDoor_0 rfl (lv_at hl 1 rfl) ?_
  refine lv_iconst (v := 0) hx hb dX12_isDoor_1 (by decide +kernel) ?_
  refine lv_aload_n hx hb dX12_isDoor_2 rfl (lv_at hl 0 rfl) ?_
  refine va_get (D := (dC, dI)) (ci := 12) (v := .ref (q 4)) (C := RX12) (T := TX12) (N := 85) hx hb hts hiX12 hown hK hP 0 rfl rfl 15 (by decide) (hts _ (List.mem_of_getElem? (i := 1) rfl)) (fun _ h9 => h9) rfl dX12_isDoor_3 ?_
  refine lv_aload_n hx hb dX12_isDoor_6 rfl (lv_at hl 0 rfl) ?_
  refine va_get (D := (dC, dI)) (ci := 12) (v := .int 0) (C := RX12) (T := TX12) (N := 85) hx hb hts hiX12 hown hK hP 0 rfl rfl 12 (by decide) (hts _ (List.mem_of_getElem? (i := 2) rfl)) (fun _ h9 => h9) rfl dX12_isDoor_7 ?_
  refine va_iald hx hb hK hP 1 1 rfl rfl (vpc _ _ (by decide +kernel)) dX12_isDoor_10 ?_
  refine tp_i (y := 0) rfl ?_
  refine lv_iconst (v := 1) hx hb dX12_isDoor_11 (by decide +kernel) ?_
  refine lv_isub hx hb dX12_isDoor_12 ?_
  refine tp_i (y := (-1)) (by decide +kernel) ?_
  have hPc := hP.sub (ws' := []) [] rfl
  have hDc := hD.sub (ws' := []) [] (by decide) rfl
  have hFc := va_free (wc := []) hD hS hA [] rfl
  refine va_calli (va_runS (As := [.int x0, .int 0, .int (-1)]) (rest := []) ⟨hx, hb, hml, hown, hts⟩ (k_X12_is_100 l dC dI cB cI cJ cZ cQ H.size x0) (va_cwS 3 hts g_k_X12_isDoor_143_0 rfl rfl rfl (by decide +kernel) ⟨Nat.le_of_ble_eq_true rfl, Nat.le_of_ble_eq_true rfl⟩) ⟨fun a U g mk Z => by obtain ⟨q0, q1, qP, qK, qD⟩ := Z; exact ⟨q0, q1, qP, va_K.moved (u := U) (U := U.calling g mk a) (Vm.Alike.refl U.vm) qK, qD⟩, fun U hU hW => ⟨rfl, by rw [hU], by rw [hU]; exact hPc, va_K.moved hW.alike hK, hDc.weaken (fun _ _ _ _ => trivial)⟩⟩ rfl rfl hl.1 rfl (lv_room (Nat.le_of_ble_eq_true rfl)) dX12_isDoor_13 ⟨Nat.le_of_ble_eq_true rfl, Nat.le_of_ble_eq_true rfl⟩) hS (fun b _ h => hFc b h) hFc (fun r2 u1 t H1 locs ht hvm hw hB hz1 hk1 hS => ?_)
  obtain ⟨hP1, hK1, hD1⟩ := hB
  rw [ht] at hP1
  obtain ⟨hP, hD⟩ := va_join (wr := [((q 0), .inr (12, ((mo q).set 78 (.int 2)))), ((q 4), .inl (cI, 2, .inl (fun _ => 0)))]) (w1 := []) hP hD [] [0, 1] rfl rfl (by decide) (by decide) hk1 hFc hP1 hD1
  clear hP1 hK1 hD1 hk1 hz1 hvm hPc hDc hFc
  generalize H1 = H at hP hS ⊢
  have hP : va_P (dC, dI) vwCl [((q 0), .inr (12, ((mo q).set 78 (.int 2)))), ((q 4), .inl (cI, 2, .inl (fun _ => 0)))] H := hP
  have hD : va_D A [((q 0), .inr (12, ((mo q).set 78 (.int 2)))), ((q 4), .inl (cI, 2, .inl (fun _ => 0)))] := hD
  subst hw
  have hP9 := hP.sub (ws' := [((q 0), .inr (12, ((mo q).set 78 (.int 2)))), ((q 4), .inl (cI, 2, .inl (fun _ => 0)))]) [0, 1] rfl
  have hD9 := hD.sub (ws' := [((q 0), .inr (12, ((mo q).set 78 (.int 2)))), ((q 4), .inl (cI, 2, .inl (fun _ => 0)))]) [0, 1] (by decide) rfl
  exact W.zret (v := 0) hx hb hr (by decide +kernel) (fun t ht hW => ⟨⟨0, (), rfl, rfl, by rw [ht]; exact hP9, va_K.moved hW.alike hK, hD9⟩, hS.F ht⟩) hS.2.2 dX12_isDoor_16
def ws_k_X12_isRow_144 : List Cond := .code yX12_isRow cX12_isRow 6 (some .boolean) :: ([.fieldLink RX12 250 "StackKeysModel" "foundMany" "I", .fieldLink RX12 253 "StackKeysModel" "found" "[I", .methodLink RX12 507 yX12_isDoor, .instanceMethod yX12_isDoor, .selects RX12 yX12_isDoor yX12_isDoor, .initialized RX12, .code yX12_isDoor cX12_isDoor 2 (some .boolean), .fieldLink RX12 58 "StackKeysModel" "doors" "[I", .fieldLink RX12 48 "StackKeysModel" "bank" "I", .methodLink RX12 352 yX12_is, .static yX12_is, .code yX12_is cX12_is 3 (some .boolean)] ++ wsX120)
set_option maxRecDepth 20000 in
theorem g_k_X12_isRow_144_0 : GoodIn ws_k_X12_isRow_144 (wsV RX12 507 RX12 yX12_isDoor ws_k_X12_isDoor_143) := goodIn_r _ [3, 4, 5, 6, 7, 8, 9, 10, 11, 6, 12, 13, 14, 15, 16, 17, 18, 19, 20, 21, 22, 23, 24, 25, 26, 27, 28, 29, 30, 31, 32, 33, 34, 35, 36, 37, 38, 39, 40, 41, 42, 43, 44, 45, 46, 47, 48, 49, 50, 51, 52, 53, 54, 55, 56, 57, 58, 59, 60, 61, 62, 63, 64, 65, 66, 67, 68, 69, 70, 71, 72, 73, 74, 75, 76, 77, 78, 79, 80, 81, 82, 83, 84, 85, 86, 87, 88, 89, 90, 91, 92, 93, 94, 95, 96, 97] (by decide +kernel) (by decide +kernel)
set_option maxHeartbeats 4000000 in
set_option maxRecDepth 100000 in
theorem k_X12_isRow_144 (l : Launch) (dC : Nat → ClassId) (dI : Nat → Nat → Nat) (cB cI cJ cZ cQ : ClassId) (sz : Nat) (q : Nat → Nat) (x0 x1 : Int32) (f0 : Nat → Int32) : Met l yX12_isRow ws_k_X12_isRow_144 ({ frames := 2, cells := 0, slots := 0, locals := 43 }) (va_Pc [.ref (q 0), .int 2, .int x0] (fun U => U.heap.size = sz ∧ va_P (dC, dI) vwCl [((q 0), .inr (12, ((mo q).set 78 (.int x1)))), ((q 54), .inl (cI, 3, .inl f0)), ((q 4), .inl (cI, 2, .inl (fun _ => 0)))] U.heap ∧ va_K (dC, dI) vwCl (tyA cB cI cJ cZ cQ) U ∧ va_D (fun _ => True) [((q 0), .inr (12, ((mo q).set 78 (.int x1)))), ((q 54), .inl (cI, 3, .inl f0)), ((q 4), .inl (cI, 2, .inl (fun _ => 0)))])) (va_Qi (fun (r : Int32) (_ : Unit) => r = 0) (fun (u : Unit) t => va_P (dC, dI) vwCl [((q 0), .inr (12, ((mo q).set 78 (.int 2)))), ((q 54), .inl (cI, 3, .inl (upd (upd f0 1 (x0 - x0 / 10 * 10)) 0 ((x0 / 10) - (x0 / 10) / 10 * 10)))), ((q 4), .inl (cI, 2, .inl (fun _ => 0)))] t.heap ∧ va_K (dC, dI) vwCl (tyA cB cI cJ cZ cQ) t ∧ va_D (va_A [((q 0), .inr (12, ((mo q).set 78 (.int x1)))), ((q 54), .inl (cI, 3, .inl f0)), ((q 4), .inl (cI, 2, .inl (fun _ => 0)))] sz) [((q 0), .inr (12, ((mo q).set 78 (.int 2)))), ((q 54), .inl (cI, 3, .inl (upd (upd f0 1 (x0 - x0 / 10 * 10)) 0 ((x0 / 10) - (x0 / 10) / 10 * 10)))), ((q 4), .inl (cI, 2, .inl (fun _ => 0)))]) (va_A [((q 0), .inr (12, ((mo q).set 78 (.int x1)))), ((q 54), .inl (cI, 3, .inl f0)), ((q 4), .inl (cI, 2, .inl (fun _ => 0)))] sz)) 0 0 (va_A [((q 0), .inr (12, ((mo q).set 78 (.int x1)))), ((q 54), .inl (cI, 3, .inl f0)), ((q 4), .inl (cI, 2, .inl (fun _ => 0)))] sz) := by
  refine Met.ofW (cc := cX12_isRow) (maxL := 6) (ret := (some .boolean)) (by decide +kernel) rfl ?_
  intro p e s m args below meth c s₁ B hml hv
  obtain ⟨rfl, hsz, hP, hK, hD0⟩ := hv
  have hx := B.exec
  have hb := B.bytes
  have hr := B.returns
  have hts := atoms_spec (ws := ws_k_X12_isRow_144) B.pre
  have hown : s.vm.findClass RX12 = some m.cls := findClass_of_methodNamed B.named
  have hiX12 : ∀ w ∈ u_ws RX12 TX12 85, w ∈ ws_k_X12_isRow_144 := fun w h => List.mem_cons_of_mem _ (List.mem_append_right _ h)
  subst hsz
  have hD := hD0.self (sz := s.heap.size)
  generalize hAe : va_A [((q 0), .inr (12, ((mo q).set 78 (.int x1)))), ((q 54), .inl (cI, 3, .inl f0)), ((q 4), .inl (cI, 2, .inl (fun _ => 0)))] s.heap.size = A at hD ⊢
  have hA : ∀ b : Nat, s.heap.size ≤ b → A b := fun b h => by rw [← hAe]; exact Or.inr h
  clear hD0 hAe
  have hS : va_S A s.heap s.heap [] := va_S.rf
  have hl := lv_entry ([.ref (q 0), .int 2, .int x0]) (n := 6) (Nat.le_of_ble_eq_true rfl)
  rw [lg_entry_eq]
  generalize (lg_sl ([.ref (q 0), .int 2, .int x0]) ++ List.replicate (6 - (lg_sl ([.ref (q 0), .int 2, .int x0])).length) Slot.unset).toArray = ls at hl ⊢
  have hl : lv_has ls 6 [(0, .ref (q 0)), (1, .int 2), (2, .int x0)] := hl
  obtain ⟨H, hHe⟩ : ∃ H : Heap, H = s.heap := ⟨_, rfl⟩
  rw [← hHe] at hP
  have hS : va_S A s.heap H [] := by rw [hHe]; exact hS
  rw [← hHe]
  refine lv_aload_n hx hb dX12_isRow_0 rfl (lv_at hl 0 rfl) ?_
  refine lv_iload_n hx hb dX12_isRow_1 rfl (lv_at hl 1 rfl) ?_
  refine va_put (D := (dC, dI)) (ci := 12) (v := .int 2) (ty := .int) (C := RX12) (T := TX12) (N := 85) hx hb hts hiX12 tyX12 tyX12_ok nmX12 hown hK hP hD hS 0 rfl rfl 78 (by decide) (hts _ (List.mem_of_getElem? (i := 1) rfl)) (fun _ h9 => h9) rfl (by decide +kernel) rfl rfl (Nat.le_of_ble_eq_true rfl) dX12_isRow_2 (fun H locs hP hD hS => ?_)
  have hP : va_P (dC, dI) vwCl [((q 0), .inr (12, ((mo q).set 78 (.int 2)))), ((q 54), .inl (cI, 3, .inl f0)), ((q 4), .inl (cI, 2, .inl (fun _ => 0)))] H := hP
  have hD : va_D A [((q 0), .inr (12, ((mo q).set 78 (.int 2)))), ((q 54), .inl (cI, 3, .inl f0)), ((q 4), .inl (cI, 2, .inl (fun _ => 0)))] := hD
  refine lv_iload_n hx hb dX12_isRow_5 rfl (lv_at hl 2 rfl) ?_
  refine lv_istore_n (lv' := [(3, .int x0), (0, .ref (q 0)), (1, .int 2), (2, .int x0)]) hx hb dX12_isRow_6 rfl hl (by decide) rfl (fun ls hl => ?_)
  refine lv_iload_n hx hb dX12_isRow_7 rfl (lv_at hl 2 rfl) ?_
  refine lv_iconst (v := 1) hx hb dX12_isRow_8 (by decide +kernel) ?_
  refine lv_isub hx hb dX12_isRow_9 ?_
  refine tp_i (y := 1) (by decide +kernel) ?_
  refine lv_istore (lv' := [(4, .int 1), (3, .int x0), (0, .ref (q 0)), (1, .int 2), (2, .int x0)]) hx hb dX12_isRow_10 hl (by decide) rfl (fun ls hl => ?_)
  refine lv_iload hx hb dX12_isRow_12 (lv_at hl 0 rfl) ?_
  refine lv_if_lt (tgt := 39) hx hb dX12_isRow_14 (by decide) (fun c => absurd c (by decide +kernel)) (fun _ => ?_)
  refine lv_aload_n hx hb dX12_isRow_17 rfl (lv_at hl 2 rfl) ?_
  refine va_get (D := (dC, dI)) (ci := 12) (v := .ref (q 54)) (C := RX12) (T := TX12) (N := 85) hx hb hts hiX12 hown hK hP 0 rfl rfl 79 (by decide) (hts _ (List.mem_of_getElem? (i := 2) rfl)) (fun _ h9 => h9) rfl dX12_isRow_18 ?_
  refine lv_iload hx hb dX12_isRow_21 (lv_at hl 0 rfl) ?_
  refine lv_iload_n hx hb dX12_isRow_23 rfl (lv_at hl 1 rfl) ?_
  refine lv_bipush (v := 10) hx hb dX12_isRow_24 (by decide +kernel) ?_
  refine lv_irem hx hb dX12_isRow_26 (by decide +kernel) ?_
  refine va_iast hx hb hK hP hD hS 1 1 rfl rfl (vpc _ _ (by decide +kernel)) dX12_isRow_27 (fun H locs hP hD hS => ?_)
  have hP : va_P (dC, dI) vwCl [((q 0), .inr (12, ((mo q).set 78 (.int 2)))), ((q 54), .inl (cI, 3, .inl (upd f0 1 (x0 - x0 / 10 * 10)))), ((q 4), .inl (cI, 2, .inl (fun _ => 0)))] H := hP
  have hD : va_D A [((q 0), .inr (12, ((mo q).set 78 (.int 2)))), ((q 54), .inl (cI, 3, .inl (upd f0 1 (x0 - x0 / 10 * 10)))), ((q 4), .inl (cI, 2, .inl (fun _ => 0)))] := hD
  refine lv_iload_n hx hb dX12_isRow_28 rfl (lv_at hl 1 rfl) ?_
  refine lv_bipush (v := 10) hx hb dX12_isRow_29 (by decide +kernel) ?_
  refine lv_idiv hx hb dX12_isRow_31 (by decide +kernel) ?_
  refine lv_istore_n (lv' := [(3, .int (x0 / 10)), (4, .int 1), (0, .ref (q 0)), (1, .int 2), (2, .int x0)]) hx hb dX12_isRow_32 rfl hl (by decide) rfl (fun ls hl => ?_)
  refine lv_iinc (v := 0) (lv' := [(4, .int 0), (3, .int (x0 / 10)), (0, .ref (q 0)), (1, .int 2), (2, .int x0)]) hx hb dX12_isRow_33 hl (k := 1) rfl (by decide +kernel) (by decide) rfl (fun ls hl => ?_)
  refine lv_goto (tgt := 12) hx hb dX12_isRow_36 (by decide) ?_
  refine lv_iload hx hb dX12_isRow_12 (lv_at hl 0 rfl) ?_
  refine lv_if_lt (tgt := 39) hx hb dX12_isRow_14 (by decide) (fun c => absurd c (by decide +kernel)) (fun _ => ?_)
  refine lv_aload_n hx hb dX12_isRow_17 rfl (lv_at hl 2 rfl) ?_
  refine va_get (D := (dC, dI)) (ci := 12) (v := .ref (q 54)) (C := RX12) (T := TX12) (N := 85) hx hb hts hiX12 hown hK hP 0 rfl rfl 79 (by decide) (hts _ (List.mem_of_getElem? (i := 2) rfl)) (fun _ h9 => h9) rfl dX12_isRow_18 ?_
  refine lv_iload hx hb dX12_isRow_21 (lv_at hl 0 rfl) ?_
  refine lv_iload_n hx hb dX12_isRow_23 rfl (lv_at hl 1 rfl) ?_
  refine lv_bipush (v := 10) hx hb dX12_isRow_24 (by decide +kernel) ?_
  refine lv_irem hx hb dX12_isRow_26 (by decide +kernel) ?_
  refine va_iast hx hb hK hP hD hS 1 1 rfl rfl (vpc _ _ (by decide +kernel)) dX12_isRow_27 (fun H locs hP hD hS => ?_)
  have hP : va_P (dC, dI) vwCl [((q 0), .inr (12, ((mo q).set 78 (.int 2)))), ((q 54), .inl (cI, 3, .inl (upd (upd f0 1 (x0 - x0 / 10 * 10)) 0 ((x0 / 10) - (x0 / 10) / 10 * 10)))), ((q 4), .inl (cI, 2, .inl (fun _ => 0)))] H := hP
  have hD : va_D A [((q 0), .inr (12, ((mo q).set 78 (.int 2)))), ((q 54), .inl (cI, 3, .inl (upd (upd f0 1 (x0 - x0 / 10 * 10)) 0 ((x0 / 10) - (x0 / 10) / 10 * 10)))), ((q 4), .inl (cI, 2, .inl (fun _ => 0)))] := hD
  refine lv_iload_n hx hb dX12_isRow_28 rfl (lv_at hl 1 rfl) ?_
  refine lv_bipush (v := 10) hx hb dX12_isRow_29 (by decide +kernel) ?_
  refine lv_idiv hx hb dX12_isRow_31 (by decide +kernel) ?_
  refine lv_istore_n (lv' := [(3, .int ((x0 / 10) / 10)), (4, .int 0), (0, .ref (q 0)), (1, .int 2), (2, .int x0)]) hx hb dX12_isRow_32 rfl hl (by decide) rfl (fun ls hl => ?_)
  refine lv_iinc (v := (-1)) (lv' := [(4, .int (-1)), (3, .int ((x0 / 10) / 10)), (0, .ref (q 0)), (1, .int 2), (2, .int x0)]) hx hb dX12_isRow_33 hl (k := 1) rfl (by decide +kernel) (by decide) rfl (fun ls hl => ?_)
  refine lv_goto (tgt := 12) hx hb dX12_isRow_36 (by decide) ?_
  refine lv_iload hx hb dX12_isRow_12 (lv_at hl 0 rfl) ?_
  refine lv_if_lt (tgt := 39) hx hb dX12_isRow_14 (by decide) (fun _ => ?_) (fun c => absurd c (by decide +kernel))
  refine lv_iconst (v := 0) hx hb dX12_isRow_39 (by decide +kernel) ?_
  refine lv_istore (lv' := [(4, .int 0), (3, .int ((x0 / 10) / 10)), (0, .ref (q 0)), (1, .int 2), (2, .int x0)]) hx hb dX12_isRow_40 hl (by decide) rfl (fun ls hl => ?_)
  refine lv_iload hx hb dX12_isRow_42 (lv_at hl 0 rfl) ?_
  refine lv_iload_n hx hb dX12_isRow_44 rfl (lv_at hl 3 rfl) ?_
  refine lv_icmp_ge (tgt := 124) hx hb dX12_isRow_45 (by decide) (fun c => absurd c (by decide +kernel)) (fun _ => ?_)
  refine lv_aload_n hx hb dX12_isRow_48 rfl (lv_at hl 2 rfl) ?_
  refine lv_aload_n hx hb dX12_isRow_49 rfl (lv_at hl 2 rfl) ?_
  refine va_get (D := (dC, dI)) (ci := 12) (v := .ref (q 54)) (C := RX12) (T := TX12) (N := 85) hx hb hts hiX12 hown hK hP 0 rfl rfl 79 (by decide) (hts _ (List.mem_of_getElem? (i := 2) rfl)) (fun _ h9 => h9) rfl dX12_isRow_50 ?_
  refine lv_iload hx hb dX12_isRow_53 (lv_at hl 0 rfl) ?_
  refine va_iald hx hb hK hP 1 1 rfl rfl (vpc _ _ (by decide +kernel)) dX12_isRow_55 ?_
  refine tp_i (y := (x0 / 10) - (x0 / 10) / 10 * 10) rfl ?_
  have hPc := hP.sub (ws' := [((q 0), .inr (12, ((mo q).set 78 (.int 2)))), ((q 4), .inl (cI, 2, .inl (fun _ => 0)))]) [0, 2] rfl
  have hDc := hD.sub (ws' := [((q 0), .inr (12, ((mo q).set 78 (.int 2)))), ((q 4), .inl (cI, 2, .inl (fun _ => 0)))]) [0, 2] (by decide) rfl
  have hFc := va_free (wc := [((q 0), .inr (12, ((mo q).set 78 (.int 2)))), ((q 4), .inl (cI, 2, .inl (fun _ => 0)))]) hD hS hA [0, 2] rfl
  refine va_calli (va_runV (As := [.int ((x0 / 10) - (x0 / 10) / 10 * 10)]) (rest := []) ⟨hx, hb, hml, hown, hts⟩ (k_X12_isDoor_143 l dC dI cB cI cJ cZ cQ H.size q ((x0 / 10) - (x0 / 10) / 10 * 10)) (cwV 1 hts g_k_X12_isRow_144_0 rfl rfl rfl (by decide +kernel) ⟨Nat.le_of_ble_eq_true rfl, Nat.le_of_ble_eq_true rfl⟩) ⟨fun a U g mk Z => by obtain ⟨q0, q1, qP, qK, qD⟩ := Z; exact ⟨q0, q1, qP, va_K.moved (u := U) (U := U.calling g mk a) (Vm.Alike.refl U.vm) qK, qD⟩, va_recv hK hPc (ci := 12) (q0 := 0) rfl rfl, fun U hU hW => ⟨rfl, by rw [hU], by rw [hU]; exact hPc, va_K.moved hW.alike hK, hDc.weaken (fun _ _ _ _ => trivial)⟩⟩ rfl rfl hl.1 rfl (lv_room (Nat.le_of_ble_eq_true rfl)) dX12_isRow_56 ⟨Nat.le_of_ble_eq_true rfl, Nat.le_of_ble_eq_true rfl⟩) hS (fun b _ h => hFc b h) hFc (fun r2 u1 t H1 locs ht hvm hw hB hz1 hk1 hS => ?_)
  obtain ⟨hP1, hK1, hD1⟩ := hB
  rw [ht] at hP1
  obtain ⟨hP, hD⟩ := va_join (wr := [((q 54), .inl (cI, 3, .inl (upd (upd f0 1 (x0 - x0 / 10 * 10)) 0 ((x0 / 10) - (x0 / 10) / 10 * 10))))]) (w1 := [((q 0), .inr (12, ((mo q).set 78 (.int 2)))), ((q 4), .inl (cI, 2, .inl (fun _ => 0)))]) hP hD [0, 2] [1] rfl rfl (by decide) (by decide) hk1 hFc hP1 hD1
  clear hP1 hK1 hD1 hk1 hz1 hvm hPc hDc hFc
  generalize H1 = H at hP hS ⊢
  have hP : va_P (dC, dI) vwCl [((q 54), .inl (cI, 3, .inl (upd (upd f0 1 (x0 - x0 / 10 * 10)) 0 ((x0 / 10) - (x0 / 10) / 10 * 10)))), ((q 0), .inr (12, ((mo q).set 78 (.int 2)))), ((q 4), .inl (cI, 2, .inl (fun _ => 0)))] H := hP
  have hD : va_D A [((q 54), .inl (cI, 3, .inl (upd (upd f0 1 (x0 - x0 / 10 * 10)) 0 ((x0 / 10) - (x0 / 10) / 10 * 10)))), ((q 0), .inr (12, ((mo q).set 78 (.int 2)))), ((q 4), .inl (cI, 2, .inl (fun _ => 0)))] := hD
  subst hw
  refine lv_if_eq (tgt := 81) hx hb dX12_isRow_59 (by decide) (fun _ => ?_) (fun c => absurd c (by decide +kernel))
  refine lv_iconst (v := 0) hx hb dX12_isRow_81 (by decide +kernel) ?_
  have hP9 := hP.sub (ws' := [((q 0), .inr (12, ((mo q).set 78 (.int 2)))), ((q 54), .inl (cI, 3, .inl (upd (upd f0 1 (x0 - x0 / 10 * 10)) 0 ((x0 / 10) - (x0 / 10) / 10 * 10)))), ((q 4), .inl (cI, 2, .inl (fun _ => 0)))]) [1, 0, 2] rfl
  have hD9 := hD.sub (ws' := [((q 0), .inr (12, ((mo q).set 78 (.int 2)))), ((q 54), .inl (cI, 3, .inl (upd (upd f0 1 (x0 - x0 / 10 * 10)) 0 ((x0 / 10) - (x0 / 10) / 10 * 10)))), ((q 4), .inl (cI, 2, .inl (fun _ => 0)))]) [1, 0, 2] (by decide) rfl
  exact W.zret (v := 0) hx hb hr (by decide +kernel) (fun t ht hW => ⟨⟨0, (), rfl, rfl, by rw [ht]; exact hP9, va_K.moved hW.alike hK, hD9⟩, hS.F ht⟩) hS.2.2 dX12_isRow_82
def ws_k_X12_isDoor_145 : List Cond := .code yX12_isDoor cX12_isDoor 2 (some .boolean) :: ([.fieldLink RX12 58 "StackKeysModel" "doors" "[I", .fieldLink RX12 48 "StackKeysModel" "bank" "I", .methodLink RX12 352 yX12_is, .static yX12_is, .initialized RX12, .code yX12_is cX12_is 3 (some .boolean)] ++ wsX120)
set_option maxRecDepth 20000 in
theorem g_k_X12_isDoor_145_0 : GoodIn ws_k_X12_isDoor_145 (va_wsS RX12 352 yX12_is ws_k_X12_is_100) := goodIn_r _ [3, 4, 5, 6] (by decide +kernel) (by decide +kernel)
set_option maxHeartbeats 4000000 in
set_option maxRecDepth 100000 in
theorem k_X12_isDoor_145 (l : Launch) (dC : Nat → ClassId) (dI : Nat → Nat → Nat) (cB cI cJ cZ cQ : ClassId) (sz : Nat) (q : Nat → Nat) (x0 : Int32) : Met l yX12_isDoor ws_k_X12_isDoor_145 ({ frames := 1, cells := 0, slots := 0, locals := 22 }) (va_Pc [.ref (q 0), .int x0] (fun U => U.heap.size = sz ∧ va_P (dC, dI) vwCl [((q 0), .inr (12, ((mo q).set 78 (.int 1)))), ((q 4), .inl (cI, 2, .inl (fun _ => 0)))] U.heap ∧ va_K (dC, dI) vwCl (tyA cB cI cJ cZ cQ) U ∧ va_D (fun _ => True) [((q 0), .inr (12, ((mo q).set 78 (.int 1)))), ((q 4), .inl (cI, 2, .inl (fun _ => 0)))])) (va_Qi (fun (r : Int32) (_ : Unit) => r = 0) (fun (u : Unit) t => va_P (dC, dI) vwCl [((q 0), .inr (12, ((mo q).set 78 (.int 1)))), ((q 4), .inl (cI, 2, .inl (fun _ => 0)))] t.heap ∧ va_K (dC, dI) vwCl (tyA cB cI cJ cZ cQ) t ∧ va_D (va_A [((q 0), .inr (12, ((mo q).set 78 (.int 1)))), ((q 4), .inl (cI, 2, .inl (fun _ => 0)))] sz) [((q 0), .inr (12, ((mo q).set 78 (.int 1)))), ((q 4), .inl (cI, 2, .inl (fun _ => 0)))]) (va_A [((q 0), .inr (12, ((mo q).set 78 (.int 1)))), ((q 4), .inl (cI, 2, .inl (fun _ => 0)))] sz)) 0 0 (va_A [((q 0), .inr (12, ((mo q).set 78 (.int 1)))), ((q 4), .inl (cI, 2, .inl (fun _ => 0)))] sz) := by
  refine Met.ofW (cc := cX12_isDoor) (maxL := 2) (ret := (some .boolean)) (by decide +kernel) rfl ?_
  intro p e s m args below meth c s₁ B hml hv
  obtain ⟨rfl, hsz, hP, hK, hD0⟩ := hv
  have hx := B.exec
  have hb := B.bytes
  have hr := B.returns
  have hts := atoms_spec (ws := ws_k_X12_isDoor_145) B.pre
  have hown : s.vm.findClass RX12 = some m.cls := findClass_of_methodNamed B.named
  have hiX12 : ∀ w ∈ u_ws RX12 TX12 85, w ∈ ws_k_X12_isDoor_145 := fun w h => List.mem_cons_of_mem _ (List.mem_append_right _ h)
  subst hsz
  have hD := hD0.self (sz := s.heap.size)
  generalize hAe : va_A [((q 0), .inr (12, ((mo q).set 78 (.int 1)))), ((q 4), .inl (cI, 2, .inl (fun _ => 0)))] s.heap.size = A at hD ⊢
  have hA : ∀ b : Nat, s.heap.size ≤ b → A b := fun b h => by rw [← hAe]; exact Or.inr h
  clear hD0 hAe
  have hS : va_S A s.heap s.heap [] := va_S.rf
  have hl := lv_entry ([.ref (q 0), .int x0]) (n := 2) (Nat.le_of_ble_eq_true rfl)
  rw [lg_entry_eq]
  generalize (lg_sl ([.ref (q 0), .int x0]) ++ List.replicate (2 - (lg_sl ([.ref (q 0), .int x0])).length) Slot.unset).toArray = ls at hl ⊢
  have hl : lv_has ls 2 [(0, .ref (q 0)), (1, .int x0)] := hl
  obtain ⟨H, hHe⟩ : ∃ H : Heap, H = s.heap := ⟨_, rfl⟩
  rw [← hHe] at hP
  have hS : va_S A s.heap H [] := by rw [hHe]; exact hS
  rw [← hHe]
  refine lv_iload_n hx hb dX12_isDoor_0 rfl (lv_at hl 1 rfl) ?_
  refine lv_iconst (v := 0) hx hb dX12_isDoor_1 (by decide +kernel) ?_
  refine lv_aload_n hx hb dX12_isDoor_2 rfl (lv_at hl 0 rfl) ?_
  refine va_get (D := (dC, dI)) (ci := 12) (v := .ref (q 4)) (C := RX12) (T := TX12) (N := 85) hx hb hts hiX12 hown hK hP 0 rfl rfl 15 (by decide) (hts _ (List.mem_of_getElem? (i := 1) rfl)) (fun _ h9 => h9) rfl dX12_isDoor_3 ?_
  refine lv_aload_n hx hb dX12_isDoor_6 rfl (lv_at hl 0 rfl) ?_
  refine va_get (D := (dC, dI)) (ci := 12) (v := .int 0) (C := RX12) (T := TX12) (N := 85) hx hb hts hiX12 hown hK hP 0 rfl rfl 12 (by decide) (hts _ (List.mem_of_getElem? (i := 2) rfl)) (fun _ h9 => h9) rfl dX12_isDoor_7 ?_
  refine va_iald hx hb hK hP 1 1 rfl rfl (vpc _ _ (by decide +kernel)) dX12_isDoor_10 ?_
  refine tp_i (y := 0) rfl ?_
  refine lv_iconst (v := 1) hx hb dX12_isDoor_11 (by decide +kernel) ?_
  refine lv_isub hx hb dX12_isDoor_12 ?_
  refine tp_i (y := (-1)) (by decide +kernel) ?_
  have hPc := hP.sub (ws' := []) [] rfl
  have hDc := hD.sub (ws' := []) [] (by decide) rfl
  have hFc := va_free (wc := []) hD hS hA [] rfl
  refine va_calli (va_runS (As := [.int x0, .int 0, .int (-1)]) (rest := []) ⟨hx, hb, hml, hown, hts⟩ (k_X12_is_100 l dC dI cB cI cJ cZ cQ H.size x0) (va_cwS 3 hts g_k_X12_isDoor_145_0 rfl rfl rfl (by decide +kernel) ⟨Nat.le_of_ble_eq_true rfl, Nat.le_of_ble_eq_true rfl⟩) ⟨fun a U g mk Z => by obtain ⟨q0, q1, qP, qK, qD⟩ := Z; exact ⟨q0, q1, qP, va_K.moved (u := U) (U := U.calling g mk a) (Vm.Alike.refl U.vm) qK, qD⟩, fun U hU hW => ⟨rfl, by rw [hU], by rw [hU]; exact hPc, va_K.moved hW.alike hK, hDc.weaken (fun _ _ _ _ => trivial)⟩⟩ rfl rfl hl.1 rfl (lv_room (Nat.le_of_ble_eq_true rfl)) dX12_isDoor_13 ⟨Nat.le_of_ble_eq_true rfl, Nat.le_of_ble_eq_true rfl⟩) hS (fun b _ h => hFc b h) hFc (fun r2 u1 t H1 locs ht hvm hw hB hz1 hk1 hS => ?_)
  obtain ⟨hP1, hK1, hD1⟩ := hB
  rw [ht] at hP1
  obtain ⟨hP, hD⟩ := va_join (wr := [((q 0), .inr (12, ((mo q).set 78 (.int 1)))), ((q 4), .inl (cI, 2, .inl (fun _ => 0)))]) (w1 := []) hP hD [] [0, 1] rfl rfl (by decide) (by decide) hk1 hFc hP1 hD1
  clear hP1 hK1 hD1 hk1 hz1 hvm hPc hDc hFc
  generalize H1 = H at hP hS ⊢
  have hP : va_P (dC, dI) vwCl [((q 0), .inr (12, ((mo q).set 78 (.int 1)))), ((q 4), .inl (cI, 2, .inl (fun _ => 0)))] H := hP
  have hD : va_D A [((q 0), .inr (12, ((mo q).set 78 (.int 1)))), ((q 4), .inl (cI, 2, .inl (fun _ => 0)))] := hD
  subst hw
  have hP9 := hP.sub (ws' := [((q 0), .inr (12, ((mo q).set 78 (.int 1)))), ((q 4), .inl (cI, 2, .inl (fun _ => 0)))]) [0, 1] rfl
  have hD9 := hD.sub (ws' := [((q 0), .inr (12, ((mo q).set 78 (.int 1)))), ((q 4), .inl (cI, 2, .inl (fun _ => 0)))]) [0, 1] (by decide) rfl
  exact W.zret (v := 0) hx hb hr (by decide +kernel) (fun t ht hW => ⟨⟨0, (), rfl, rfl, by rw [ht]; exact hP9, va_K.moved hW.alike hK, hD9⟩, hS.F ht⟩) hS.2.2 dX12_isDoor_16
def ws_k_X12_isRow_146 : List Cond := .code yX12_isRow cX12_isRow 6 (some .boolean) :: ([.fieldLink RX12 250 "StackKeysModel" "foundMany" "I", .fieldLink RX12 253 "StackKeysModel" "found" "[I", .methodLink RX12 507 yX12_isDoor, .instanceMethod yX12_isDoor, .selects RX12 yX12_isDoor yX12_isDoor, .initialized RX12, .code yX12_isDoor cX12_isDoor 2 (some .boolean), .fieldLink RX12 58 "StackKeysModel" "doors" "[I", .fieldLink RX12 48 "StackKeysModel" "bank" "I", .methodLink RX12 352 yX12_is, .static yX12_is, .code yX12_is cX12_is 3 (some .boolean)] ++ wsX120)
set_option maxRecDepth 20000 in
theorem g_k_X12_isRow_146_0 : GoodIn ws_k_X12_isRow_146 (wsV RX12 507 RX12 yX12_isDoor ws_k_X12_isDoor_145) := goodIn_r _ [3, 4, 5, 6, 7, 8, 9, 10, 11, 6, 12, 13, 14, 15, 16, 17, 18, 19, 20, 21, 22, 23, 24, 25, 26, 27, 28, 29, 30, 31, 32, 33, 34, 35, 36, 37, 38, 39, 40, 41, 42, 43, 44, 45, 46, 47, 48, 49, 50, 51, 52, 53, 54, 55, 56, 57, 58, 59, 60, 61, 62, 63, 64, 65, 66, 67, 68, 69, 70, 71, 72, 73, 74, 75, 76, 77, 78, 79, 80, 81, 82, 83, 84, 85, 86, 87, 88, 89, 90, 91, 92, 93, 94, 95, 96, 97] (by decide +kernel) (by decide +kernel)
set_option maxHeartbeats 4000000 in
set_option maxRecDepth 100000 in
theorem k_X12_isRow_146 (l : Launch) (dC : Nat → ClassId) (dI : Nat → Nat → Nat) (cB cI cJ cZ cQ : ClassId) (sz : Nat) (q : Nat → Nat) (x0 x1 : Int32) (f0 : Nat → Int32) : Met l yX12_isRow ws_k_X12_isRow_146 ({ frames := 2, cells := 0, slots := 0, locals := 43 }) (va_Pc [.ref (q 0), .int 1, .int x0] (fun U => U.heap.size = sz ∧ va_P (dC, dI) vwCl [((q 0), .inr (12, ((mo q).set 78 (.int x1)))), ((q 54), .inl (cI, 3, .inl f0)), ((q 4), .inl (cI, 2, .inl (fun _ => 0)))] U.heap ∧ va_K (dC, dI) vwCl (tyA cB cI cJ cZ cQ) U ∧ va_D (fun _ => True) [((q 0), .inr (12, ((mo q).set 78 (.int x1)))), ((q 54), .inl (cI, 3, .inl f0)), ((q 4), .inl (cI, 2, .inl (fun _ => 0)))])) (va_Qi (fun (r : Int32) (_ : Unit) => r = 0) (fun (u : Unit) t => va_P (dC, dI) vwCl [((q 0), .inr (12, ((mo q).set 78 (.int 1)))), ((q 54), .inl (cI, 3, .inl (upd f0 0 (x0 - x0 / 10 * 10)))), ((q 4), .inl (cI, 2, .inl (fun _ => 0)))] t.heap ∧ va_K (dC, dI) vwCl (tyA cB cI cJ cZ cQ) t ∧ va_D (va_A [((q 0), .inr (12, ((mo q).set 78 (.int x1)))), ((q 54), .inl (cI, 3, .inl f0)), ((q 4), .inl (cI, 2, .inl (fun _ => 0)))] sz) [((q 0), .inr (12, ((mo q).set 78 (.int 1)))), ((q 54), .inl (cI, 3, .inl (upd f0 0 (x0 - x0 / 10 * 10)))), ((q 4), .inl (cI, 2, .inl (fun _ => 0)))]) (va_A [((q 0), .inr (12, ((mo q).set 78 (.int x1)))), ((q 54), .inl (cI, 3, .inl f0)), ((q 4), .inl (cI, 2, .inl (fun _ => 0)))] sz)) 0 0 (va_A [((q 0), .inr (12, ((mo q).set 78 (.int x1)))), ((q 54), .inl (cI, 3, .inl f0)), ((q 4), .inl (cI, 2, .inl (fun _ => 0)))] sz) := by
  refine Met.ofW (cc := cX12_isRow) (maxL := 6) (ret := (some .boolean)) (by decide +kernel) rfl ?_
  intro p e s m args below meth c s₁ B hml hv
  obtain ⟨rfl, hsz, hP, hK, hD0⟩ := hv
  have hx := B.exec
  have hb := B.bytes
  have hr := B.returns
  have hts := atoms_spec (ws := ws_k_X12_isRow_146) B.pre
  have hown : s.vm.findClass RX12 = some m.cls := findClass_of_methodNamed B.named
  have hiX12 : ∀ w ∈ u_ws RX12 TX12 85, w ∈ ws_k_X12_isRow_146 := fun w h => List.mem_cons_of_mem _ (List.mem_append_right _ h)
  subst hsz
  have hD := hD0.self (sz := s.heap.size)
  generalize hAe : va_A [((q 0), .inr (12, ((mo q).set 78 (.int x1)))), ((q 54), .inl (cI, 3, .inl f0)), ((q 4), .inl (cI, 2, .inl (fun _ => 0)))] s.heap.size = A at hD ⊢
  have hA : ∀ b : Nat, s.heap.size ≤ b → A b := fun b h => by rw [← hAe]; exact Or.inr h
  clear hD0 hAe
  have hS : va_S A s.heap s.heap [] := va_S.rf
  have hl := lv_entry ([.ref (q 0), .int 1, .int x0]) (n := 6) (Nat.le_of_ble_eq_true rfl)
  rw [lg_entry_eq]
  generalize (lg_sl ([.ref (q 0), .int 1, .int x0]) ++ List.replicate (6 - (lg_sl ([.ref (q 0), .int 1, .int x0])).length) Slot.unset).toArray = ls at hl ⊢
  have hl : lv_has ls 6 [(0, .ref (q 0)), (1, .int 1), (2, .int x0)] := hl
  obtain ⟨H, hHe⟩ : ∃ H : Heap, H = s.heap := ⟨_, rfl⟩
  rw [← hHe] at hP
  have hS : va_S A s.heap H [] := by rw [hHe]; exact hS
  rw [← hHe]
  refine lv_aload_n hx hb dX12_isRow_0 rfl (lv_at hl 0 rfl) ?_
  refine lv_iload_n hx hb dX12_isRow_1 rfl (lv_at hl 1 rfl) ?_
  refine va_put (D := (dC, dI)) (ci := 12) (v := .int 1) (ty := .int) (C := RX12) (T := TX12) (N := 85) hx hb hts hiX12 tyX12 tyX12_ok nmX12 hown hK hP hD hS 0 rfl rfl 78 (by decide) (hts _ (List.mem_of_getElem? (i := 1) rfl)) (fun _ h9 => h9) rfl (by decide +kernel) rfl rfl (Nat.le_of_ble_eq_true rfl) dX12_isRow_2 (fun H locs hP hD hS => ?_)
  have hP : va_P (dC, dI) vwCl [((q 0), .inr (12, ((mo q).set 78 (.int 1)))), ((q 54), .inl (cI, 3, .inl f0)), ((q 4), .inl (cI, 2, .inl (fun _ => 0)))] H := hP
  have hD : va_D A [((q 0), .inr (12, ((mo q).set 78 (.int 1)))), ((q 54), .inl (cI, 3, .inl f0)), ((q 4), .inl (cI, 2, .inl (fun _ => 0)))] := hD
  refine lv_iload_n hx hb dX12_isRow_5 rfl (lv_at hl 2 rfl) ?_
  refine lv_istore_n (lv' := [(3, .int x0), (0, .ref (q 0)), (1, .int 1), (2, .int x0)]) hx hb dX12_isRow_6 rfl hl (by decide) rfl (fun ls hl => ?_)
  refine lv_iload_n hx hb dX12_isRow_7 rfl (lv_at hl 2 rfl) ?_
  refine lv_iconst (v := 1) hx hb dX12_isRow_8 (by decide +kernel) ?_
  refine lv_isub hx hb dX12_isRow_9 ?_
  refine tp_i (y := 0) (by decide +kernel) ?_
  refine lv_istore (lv' := [(4, .int 0), (3, .int x0), (0, .ref (q 0)), (1, .int 1), (2, .int x0)]) hx hb dX12_isRow_10 hl (by decide) rfl (fun ls hl => ?_)
  refine lv_iload hx hb dX12_isRow_12 (lv_at hl 0 rfl) ?_
  refine lv_if_lt (tgt := 39) hx hb dX12_isRow_14 (by decide) (fun c => absurd c (by decide +kernel)) (fun _ => ?_)
  refine lv_aload_n hx hb dX12_isRow_17 rfl (lv_at hl 2 rfl) ?_
  refine va_get (D := (dC, dI)) (ci := 12) (v := .ref (q 54)) (C := RX12) (T := TX12) (N := 85) hx hb hts hiX12 hown hK hP 0 rfl rfl 79 (by decide) (hts _ (List.mem_of_getElem? (i := 2) rfl)) (fun _ h9 => h9) rfl dX12_isRow_18 ?_
  refine lv_iload hx hb dX12_isRow_21 (lv_at hl 0 rfl) ?_
  refine lv_iload_n hx hb dX12_isRow_23 rfl (lv_at hl 1 rfl) ?_
  refine lv_bipush (v := 10) hx hb dX12_isRow_24 (by decide +kernel) ?_
  refine lv_irem hx hb dX12_isRow_26 (by decide +kernel) ?_
  refine va_iast hx hb hK hP hD hS 1 1 rfl rfl (vpc _ _ (by decide +kernel)) dX12_isRow_27 (fun H locs hP hD hS => ?_)
  have hP : va_P (dC, dI) vwCl [((q 0), .inr (12, ((mo q).set 78 (.int 1)))), ((q 54), .inl (cI, 3, .inl (upd f0 0 (x0 - x0 / 10 * 10)))), ((q 4), .inl (cI, 2, .inl (fun _ => 0)))] H := hP
  have hD : va_D A [((q 0), .inr (12, ((mo q).set 78 (.int 1)))), ((q 54), .inl (cI, 3, .inl (upd f0 0 (x0 - x0 / 10 * 10)))), ((q 4), .inl (cI, 2, .inl (fun _ => 0)))] := hD
  refine lv_iload_n hx hb dX12_isRow_28 rfl (lv_at hl 1 rfl) ?_
  refine lv_bipush (v := 10) hx hb dX12_isRow_29 (by decide +kernel) ?_
  refine lv_idiv hx hb dX12_isRow_31 (by decide +kernel) ?_
  refine lv_istore_n (lv' := [(3, .int (x0 / 10)), (4, .int 0), (0, .ref (q 0)), (1, .int 1), (2, .int x0)]) hx hb dX12_isRow_32 rfl hl (by decide) rfl (fun ls hl => ?_)
  refine lv_iinc (v := (-1)) (lv' := [(4, .int (-1)), (3, .int (x0 / 10)), (0, .ref (q 0)), (1, .int 1), (2, .int x0)]) hx hb dX12_isRow_33 hl (k := 1) rfl (by decide +kernel) (by decide) rfl (fun ls hl => ?_)
  refine lv_goto (tgt := 12) hx hb dX12_isRow_36 (by decide) ?_
  refine lv_iload hx hb dX12_isRow_12 (lv_at hl 0 rfl) ?_
  refine lv_if_lt (tgt := 39) hx hb dX12_isRow_14 (by decide) (fun _ => ?_) (fun c => absurd c (by decide +kernel))
  refine lv_iconst (v := 0) hx hb dX12_isRow_39 (by decide +kernel) ?_
  refine lv_istore (lv' := [(4, .int 0), (3, .int (x0 / 10)), (0, .ref (q 0)), (1, .int 1), (2, .int x0)]) hx hb dX12_isRow_40 hl (by decide) rfl (fun ls hl => ?_)
  refine lv_iload hx hb dX12_isRow_42 (lv_at hl 0 rfl) ?_
  refine lv_iload_n hx hb dX12_isRow_44 rfl (lv_at hl 3 rfl) ?_
  refine lv_icmp_ge (tgt := 124) hx hb dX12_isRow_45 (by decide) (fun c => absurd c (by decide +kernel)) (fun _ => ?_)
  refine lv_aload_n hx hb dX12_isRow_48 rfl (lv_at hl 2 rfl) ?_
  refine lv_aload_n hx hb dX12_isRow_49 rfl (lv_at hl 2 rfl) ?_
  refine va_get (D := (dC, dI)) (ci := 12) (v := .ref (q 54)) (C := RX12) (T := TX12) (N := 85) hx hb hts hiX12 hown hK hP 0 rfl rfl 79 (by decide) (hts _ (List.mem_of_getElem? (i := 2) rfl)) (fun _ h9 => h9) rfl dX12_isRow_50 ?_
  refine lv_iload hx hb dX12_isRow_53 (lv_at hl 0 rfl) ?_
  refine va_iald hx hb hK hP 1 1 rfl rfl (vpc _ _ (by decide +kernel)) dX12_isRow_55 ?_
  refine tp_i (y := x0 - x0 / 10 * 10) rfl ?_
  have hPc := hP.sub (ws' := [((q 0), .inr (12, ((mo q).set 78 (.int 1)))), ((q 4), .inl (cI, 2, .inl (fun _ => 0)))]) [0, 2] rfl
  have hDc := hD.sub (ws' := [((q 0), .inr (12, ((mo q).set 78 (.int 1)))), ((q 4), .inl (cI, 2, .inl (fun _ => 0)))]) [0, 2] (by decide) rfl
  have hFc := va_free (wc := [((q 0), .inr (12, ((mo q).set 78 (.int 1)))), ((q 4), .inl (cI, 2, .inl (fun _ => 0)))]) hD hS hA [0, 2] rfl
  refine va_calli (va_runV (As := [.int (x0 - x0 / 10 * 10)]) (rest := []) ⟨hx, hb, hml, hown, hts⟩ (k_X12_isDoor_145 l dC dI cB cI cJ cZ cQ H.size q (x0 - x0 / 10 * 10)) (cwV 1 hts g_k_X12_isRow_146_0 rfl rfl rfl (by decide +kernel) ⟨Nat.le_of_ble_eq_true rfl, Nat.le_of_ble_eq_true rfl⟩) ⟨fun a U g mk Z => by obtain ⟨q0, q1, qP, qK, qD⟩ := Z; exact ⟨q0, q1, qP, va_K.moved (u := U) (U := U.calling g mk a) (Vm.Alike.refl U.vm) qK, qD⟩, va_recv hK hPc (ci := 12) (q0 := 0) rfl rfl, fun U hU hW => ⟨rfl, by rw [hU], by rw [hU]; exact hPc, va_K.moved hW.alike hK, hDc.weaken (fun _ _ _ _ => trivial)⟩⟩ rfl rfl hl.1 rfl (lv_room (Nat.le_of_ble_eq_true rfl)) dX12_isRow_56 ⟨Nat.le_of_ble_eq_true rfl, Nat.le_of_ble_eq_true rfl⟩) hS (fun b _ h => hFc b h) hFc (fun r2 u1 t H1 locs ht hvm hw hB hz1 hk1 hS => ?_)
  obtain ⟨hP1, hK1, hD1⟩ := hB
  rw [ht] at hP1
  obtain ⟨hP, hD⟩ := va_join (wr := [((q 54), .inl (cI, 3, .inl (upd f0 0 (x0 - x0 / 10 * 10))))]) (w1 := [((q 0), .inr (12, ((mo q).set 78 (.int 1)))), ((q 4), .inl (cI, 2, .inl (fun _ => 0)))]) hP hD [0, 2] [1] rfl rfl (by decide) (by decide) hk1 hFc hP1 hD1
  clear hP1 hK1 hD1 hk1 hz1 hvm hPc hDc hFc
  generalize H1 = H at hP hS ⊢
  have hP : va_P (dC, dI) vwCl [((q 54), .inl (cI, 3, .inl (upd f0 0 (x0 - x0 / 10 * 10)))), ((q 0), .inr (12, ((mo q).set 78 (.int 1)))), ((q 4), .inl (cI, 2, .inl (fun _ => 0)))] H := hP
  have hD : va_D A [((q 54), .inl (cI, 3, .inl (upd f0 0 (x0 - x0 / 10 * 10)))), ((q 0), .inr (12, ((mo q).set 78 (.int 1)))), ((q 4), .inl (cI, 2, .inl (fun _ => 0)))] := hD
  subst hw
  refine lv_if_eq (tgt := 81) hx hb dX12_isRow_59 (by decide) (fun _ => ?_) (fun c => absurd c (by decide +kernel))
  refine lv_iconst (v := 0) hx hb dX12_isRow_81 (by decide +kernel) ?_
  have hP9 := hP.sub (ws' := [((q 0), .inr (12, ((mo q).set 78 (.int 1)))), ((q 54), .inl (cI, 3, .inl (upd f0 0 (x0 - x0 / 10 * 10)))), ((q 4), .inl (cI, 2, .inl (fun _ => 0)))]) [1, 0, 2] rfl
  have hD9 := hD.sub (ws' := [((q 0), .inr (12, ((mo q).set 78 (.int 1)))), ((q 54), .inl (cI, 3, .inl (upd f0 0 (x0 - x0 / 10 * 10)))), ((q 4), .inl (cI, 2, .inl (fun _ => 0)))]) [1, 0, 2] (by decide) rfl
  exact W.zret (v := 0) hx hb hr (by decide +kernel) (fun t ht hW => ⟨⟨0, (), rfl, rfl, by rw [ht]; exact hP9, va_K.moved hW.alike hK, hD9⟩, hS.F ht⟩) hS.2.2 dX12_isRow_82
def ws_k_X12_fitting_147 : List Cond := .code yX12_fitting cX12_fitting 6 (some .int) :: ([.methodLink RX12 618 yX12_isRow, .instanceMethod yX12_isRow, .selects RX12 yX12_isRow yX12_isRow, .initialized RX12, .code yX12_isRow cX12_isRow 6 (some .boolean), .fieldLink RX12 250 "StackKeysModel" "foundMany" "I", .methodLink RX12 621 yX12_agrees, .instanceMethod yX12_agrees, .selects RX12 yX12_agrees yX12_agrees, .code yX12_agrees cX12_agrees 3 (some .boolean), .fieldLink RX12 256 "StackKeysModel" "left" "I", .fieldLink RX12 241 "StackKeysModel" "trials" "I", .fieldLink RX12 253 "StackKeysModel" "found" "[I", .methodLink RX12 507 yX12_isDoor, .instanceMethod yX12_isDoor, .selects RX12 yX12_isDoor yX12_isDoor, .code yX12_isDoor cX12_isDoor 2 (some .boolean), .fieldLink RX12 58 "StackKeysModel" "doors" "[I", .fieldLink RX12 48 "StackKeysModel" "bank" "I", .methodLink RX12 352 yX12_is, .static yX12_is, .code yX12_is cX12_is 3 (some .boolean)] ++ wsX120)
set_option maxRecDepth 20000 in
theorem g_k_X12_fitting_147_0 : GoodIn ws_k_X12_fitting_147 (wsV RX12 618 RX12 yX12_isRow ws_k_X12_isRow_139) := goodIn_r _ [1, 2, 3, 4, 5, 6, 23, 24, 25, 26, 27, 28, 29, 30, 31, 32, 33, 34, 35, 36, 37, 38, 39, 40, 41, 42, 43, 44, 45, 46, 47, 48, 49, 50, 51, 52, 53, 54, 55, 56, 57, 58, 59, 60, 61, 62, 63, 64, 65, 66, 67, 68, 69, 70, 71, 72, 73, 74, 75, 76, 77, 78, 79, 80, 81, 82, 83, 84, 85, 86, 87, 88, 89, 90, 91, 92, 93, 94, 95, 96, 97, 98, 99, 100, 101, 102, 103, 104, 105, 106, 107] (by decide +kernel) (by decide +kernel)
set_option maxRecDepth 20000 in
theorem g_k_X12_fitting_147_1 : GoodIn ws_k_X12_fitting_147 (wsV RX12 621 RX12 yX12_agrees ws_k_X12_agrees_140) := goodIn_r _ [7, 8, 9, 4, 10, 6, 11, 12, 23, 24, 25, 26, 27, 28, 29, 30, 31, 32, 33, 34, 35, 36, 37, 38, 39, 40, 41, 42, 43, 44, 45, 46, 47, 48, 49, 50, 51, 52, 53, 54, 55, 56, 57, 58, 59, 60, 61, 62, 63, 64, 65, 66, 67, 68, 69, 70, 71, 72, 73, 74, 75, 76, 77, 78, 79, 80, 81, 82, 83, 84, 85, 86, 87, 88, 89, 90, 91, 92, 93, 94, 95, 96, 97, 98, 99, 100, 101, 102, 103, 104, 105, 106, 107] (by decide +kernel) (by decide +kernel)
set_option maxRecDepth 20000 in
theorem g_k_X12_fitting_147_2 : GoodIn ws_k_X12_fitting_147 (wsV RX12 618 RX12 yX12_isRow ws_k_X12_isRow_142) := goodIn_r _ [1, 2, 3, 4, 5, 6, 13, 14, 15, 16, 4, 17, 18, 19, 20, 21, 22, 23, 24, 25, 26, 27, 28, 29, 30, 31, 32, 33, 34, 35, 36, 37, 38, 39, 40, 41, 42, 43, 44, 45, 46, 47, 48, 49, 50, 51, 52, 53, 54, 55, 56, 57, 58, 59, 60, 61, 62, 63, 64, 65, 66, 67, 68, 69, 70, 71, 72, 73, 74, 75, 76, 77, 78, 79, 80, 81, 82, 83, 84, 85, 86, 87, 88, 89, 90, 91, 92, 93, 94, 95, 96, 97, 98, 99, 100, 101, 102, 103, 104, 105, 106, 107] (by decide +kernel) (by decide +kernel)
set_option maxRecDepth 20000 in
theorem g_k_X12_fitting_147_3 : GoodIn ws_k_X12_fitting_147 (wsV RX12 618 RX12 yX12_isRow ws_k_X12_isRow_144) := goodIn_r _ [1, 2, 3, 4, 5, 6, 13, 14, 15, 16, 4, 17, 18, 19, 20, 21, 22, 23, 24, 25, 26, 27, 28, 29, 30, 31, 32, 33, 34, 35, 36, 37, 38, 39, 40, 41, 42, 43, 44, 45, 46, 47, 48, 49, 50, 51, 52, 53, 54, 55, 56, 57, 58, 59, 60, 61, 62, 63, 64, 65, 66, 67, 68, 69, 70, 71, 72, 73, 74, 75, 76, 77, 78, 79, 80, 81, 82, 83, 84, 85, 86, 87, 88, 89, 90, 91, 92, 93, 94, 95, 96, 97, 98, 99, 100, 101, 102, 103, 104, 105, 106, 107] (by decide +kernel) (by decide +kernel)
set_option maxRecDepth 20000 in
theorem g_k_X12_fitting_147_4 : GoodIn ws_k_X12_fitting_147 (wsV RX12 618 RX12 yX12_isRow ws_k_X12_isRow_146) := goodIn_r _ [1, 2, 3, 4, 5, 6, 13, 14, 15, 16, 4, 17, 18, 19, 20, 21, 22, 23, 24, 25, 26, 27, 28, 29, 30, 31, 32, 33, 34, 35, 36, 37, 38, 39, 40, 41, 42, 43, 44, 45, 46, 47, 48, 49, 50, 51, 52, 53, 54, 55, 56, 57, 58, 59, 60, 61, 62, 63, 64, 65, 66, 67, 68, 69, 70, 71, 72, 73, 74, 75, 76, 77, 78, 79, 80, 81, 82, 83, 84, 85, 86, 87, 88, 89, 90, 91, 92, 93, 94, 95, 96, 97, 98, 99, 100, 101, 102, 103, 104, 105, 106, 107] (by decide +kernel) (by decide +kernel)
set_option maxHeartbeats 4000000 in
set_option maxRecDepth 100000 in
theorem k_X12_fitting_147 (l : Launch) (dC : Nat → ClassId) (dI : Nat → Nat → Nat) (cB cI cJ cZ cQ : ClassId) (sz : Nat) (q : Nat → Nat) : Met l yX12_fitting ws_k_X12_fitting_147 ({ frames := 3, cells := 0, slots := 0, locals := 68 }) (va_Pc [.ref (q 0), .int (-1)] (fun U => U.heap.size = sz ∧ va_P (dC, dI) vwCl [((q 0), .inr (12, (mo q))), ((q 54), .inl (cI, 3, .inl (fun _ => 0))), ((q 4), .inl (cI, 2, .inl (fun _ => 0)))] U.heap ∧ va_K (dC, dI) vwCl (tyA cB cI cJ cZ cQ) U ∧ va_D (fun _ => True) [((q 0), .inr (12, (mo q))), ((q 54), .inl (cI, 3, .inl (fun _ => 0))), ((q 4), .inl (cI, 2, .inl (fun _ => 0)))])) (va_Qi (fun (r : Int32) (_ : Unit) => r = 1) (fun (_ : Unit) _ => True) (va_A [((q 0), .inr (12, (mo q))), ((q 54), .inl (cI, 3, .inl (fun _ => 0))), ((q 4), .inl (cI, 2, .inl (fun _ => 0)))] sz)) 0 0 (va_A [((q 0), .inr (12, (mo q))), ((q 54), .inl (cI, 3, .inl (fun _ => 0))), ((q 4), .inl (cI, 2, .inl (fun _ => 0)))] sz) := by
  refine Met.ofW (cc := cX12_fitting) (maxL := 6) (ret := (some .int)) (by decide +kernel) rfl ?_
  intro p e s m args below meth c s₁ B hml hv
  obtain ⟨rfl, hsz, hP, hK, hD0⟩ := hv
  have hx := B.exec
  have hb := B.bytes
  have hr := B.returns
  have hts := atoms_spec (ws := ws_k_X12_fitting_147) B.pre
  have hown : s.vm.findClass RX12 = some m.cls := findClass_of_methodNamed B.named
  have hiX12 : ∀ w ∈ u_ws RX12 TX12 85, w ∈ ws_k_X12_fitting_147 := fun w h => List.mem_cons_of_mem _ (List.mem_append_right _ h)
  subst hsz
  have hD := hD0.self (sz := s.heap.size)
  generalize hAe : va_A [((q 0), .inr (12, (mo q))), ((q 54), .inl (cI, 3, .inl (fun _ => 0))), ((q 4), .inl (cI, 2, .inl (fun _ => 0)))] s.heap.size = A at hD ⊢
  have hA : ∀ b : Nat, s.heap.size ≤ b → A b := fun b h => by rw [← hAe]; exact Or.inr h
  clear hD0 hAe
  have hS : va_S A s.heap s.heap [] := va_S.rf
  have hl := lv_entry ([.ref (q 0), .int (-1)]) (n := 6) (Nat.le_of_ble_eq_true rfl)
  rw [lg_entry_eq]
  generalize (lg_sl ([.ref (q 0), .int (-1)]) ++ List.replicate (6 - (lg_sl ([.ref (q 0), .int (-1)])).length) Slot.unset).toArray = ls at hl ⊢
  have hl : lv_has ls 6 [(0, .ref (q 0)), (1, .int (-1))] := hl
  obtain ⟨H, hHe⟩ : ∃ H : Heap, H = s.heap := ⟨_, rfl⟩
  rw [← hHe] at hP
  have hS : va_S A s.heap H [] := by rw [hHe]; exact hS
  rw [← hHe]
  refine lv_iconst (v := 0) hx hb dX12_fitting_0 (by decide +kernel) ?_
  refine lv_istore_n (lv' := [(2, .int 0), (0, .ref (q 0)), (1, .int (-1))]) hx hb dX12_fitting_1 rfl hl (by decide) rfl (fun ls hl => ?_)
  refine lv_iconst (v := 1) hx hb dX12_fitting_2 (by decide +kernel) ?_
  refine lv_istore_n (lv' := [(3, .int 1), (2, .int 0), (0, .ref (q 0)), (1, .int (-1))]) hx hb dX12_fitting_3 rfl hl (by decide) rfl (fun ls hl => ?_)
  refine lv_iconst (v := 0) hx hb dX12_fitting_4 (by decide +kernel) ?_
  refine lv_istore (lv' := [(4, .int 0), (3, .int 1), (2, .int 0), (0, .ref (q 0)), (1, .int (-1))]) hx hb dX12_fitting_5 hl (by decide) rfl (fun ls hl => ?_)
  refine lv_iload hx hb dX12_fitting_7 (lv_at hl 0 rfl) ?_
  refine lv_iconst (v := 3) hx hb dX12_fitting_9 (by decide +kernel) ?_
  refine lv_icmp_gt (tgt := 92) hx hb dX12_fitting_10 (by decide) (fun c => absurd c (by decide +kernel)) (fun _ => ?_)
  refine lv_iconst (v := 0) hx hb dX12_fitting_13 (by decide +kernel) ?_
  refine lv_istore (lv' := [(5, .int 0), (4, .int 0), (3, .int 1), (2, .int 0), (0, .ref (q 0)), (1, .int (-1))]) hx hb dX12_fitting_14 hl (by decide) rfl (fun ls hl => ?_)
  refine lv_iload hx hb dX12_fitting_16 (lv_at hl 0 rfl) ?_
  refine lv_iload_n hx hb dX12_fitting_18 rfl (lv_at hl 2 rfl) ?_
  refine lv_icmp_ge (tgt := 81) hx hb dX12_fitting_19 (by decide) (fun c => absurd c (by decide +kernel)) (fun _ => ?_)
  refine lv_iload_n hx hb dX12_fitting_22 rfl (lv_at hl 3 rfl) ?_
  refine lv_aload_n hx hb dX12_fitting_23 rfl (lv_at hl 4 rfl) ?_
  refine lv_iload hx hb dX12_fitting_24 (lv_at hl 1 rfl) ?_
  refine lv_iload hx hb dX12_fitting_26 (lv_at hl 0 rfl) ?_
  have hPc := hP.sub (ws' := [((q 0), .inr (12, (mo q)))]) [0] rfl
  have hDc := hD.sub (ws' := [((q 0), .inr (12, (mo q)))]) [0] (by decide) rfl
  have hFc := va_free (wc := [((q 0), .inr (12, (mo q)))]) hD hS hA [0] rfl
  refine va_calli (va_runV (As := [.int 0, .int 0]) (rest := [.int 0]) ⟨hx, hb, hml, hown, hts⟩ (k_X12_isRow_139 l dC dI cB cI cJ cZ cQ H.size q) (cwV 2 hts g_k_X12_fitting_147_0 rfl rfl rfl (by decide +kernel) ⟨Nat.le_of_ble_eq_true rfl, Nat.le_of_ble_eq_true rfl⟩) ⟨fun a U g mk Z => by obtain ⟨q0, q1, qP, qK, qD⟩ := Z; exact ⟨q0, q1, qP, va_K.moved (u := U) (U := U.calling g mk a) (Vm.Alike.refl U.vm) qK, qD⟩, va_recv hK hPc (ci := 12) (q0 := 0) rfl rfl, fun U hU hW => ⟨rfl, by rw [hU], by rw [hU]; exact hPc, va_K.moved hW.alike hK, hDc.weaken (fun _ _ _ _ => trivial)⟩⟩ rfl rfl hl.1 rfl (lv_room (Nat.le_of_ble_eq_true rfl)) dX12_fitting_28 ⟨Nat.le_of_ble_eq_true rfl, Nat.le_of_ble_eq_true rfl⟩) hS (fun b _ h => hFc b h) hFc (fun r2 u1 t H1 locs ht hvm hw hB hz1 hk1 hS => ?_)
  obtain ⟨hP1, hK1, hD1⟩ := hB
  rw [ht] at hP1
  obtain ⟨hP, hD⟩ := va_join (wr := [((q 54), .inl (cI, 3, .inl (fun _ => 0))), ((q 4), .inl (cI, 2, .inl (fun _ => 0)))]) (w1 := [((q 0), .inr (12, (mo q)))]) hP hD [0] [1, 2] rfl rfl (by decide) (by decide) hk1 hFc hP1 hD1
  clear hP1 hK1 hD1 hk1 hz1 hvm hPc hDc hFc
  generalize H1 = H at hP hS ⊢
  have hP : va_P (dC, dI) vwCl [((q 54), .inl (cI, 3, .inl (fun _ => 0))), ((q 4), .inl (cI, 2, .inl (fun _ => 0))), ((q 0), .inr (12, (mo q)))] H := hP
  have hD : va_D A [((q 54), .inl (cI, 3, .inl (fun _ => 0))), ((q 4), .inl (cI, 2, .inl (fun _ => 0))), ((q 0), .inr (12, (mo q)))] := hD
  subst hw
  refine lv_if_eq (tgt := 72) hx hb dX12_fitting_31 (by decide) (fun c => absurd c (by decide +kernel)) (fun _ => ?_)
  refine lv_aload_n hx hb dX12_fitting_34 rfl (lv_at hl 4 rfl) ?_
  have hPc := hP.sub (ws' := [((q 0), .inr (12, (mo q)))]) [2] rfl
  have hDc := hD.sub (ws' := [((q 0), .inr (12, (mo q)))]) [2] (by decide) rfl
  have hFc := va_free (wc := [((q 0), .inr (12, (mo q)))]) hD hS hA [2] rfl
  refine va_calli (va_runV (As := []) (rest := [.int 0]) ⟨hx, hb, hml, hown, hts⟩ (k_X12_agrees_140 l dC dI cB cI cJ cZ cQ H.size q) (cwV 0 hts g_k_X12_fitting_147_1 rfl rfl rfl (by decide +kernel) ⟨Nat.le_of_ble_eq_true rfl, Nat.le_of_ble_eq_true rfl⟩) ⟨fun a U g mk Z => by obtain ⟨q0, q1, qP, qK, qD⟩ := Z; exact ⟨q0, q1, qP, va_K.moved (u := U) (U := U.calling g mk a) (Vm.Alike.refl U.vm) qK, qD⟩, va_recv hK hPc (ci := 12) (q0 := 0) rfl rfl, fun U hU hW => ⟨rfl, by rw [hU], by rw [hU]; exact hPc, va_K.moved hW.alike hK, hDc.weaken (fun _ _ _ _ => trivial)⟩⟩ rfl rfl hl.1 rfl (lv_room (Nat.le_of_ble_eq_true rfl)) dX12_fitting_35 ⟨Nat.le_of_ble_eq_true rfl, Nat.le_of_ble_eq_true rfl⟩) hS (fun b _ h => hFc b h) hFc (fun r4 u3 t H1 locs ht hvm hw hB hz1 hk1 hS => ?_)
  obtain ⟨hP1, hK1, hD1⟩ := hB
  rw [ht] at hP1
  obtain ⟨hP, hD⟩ := va_join (wr := [((q 54), .inl (cI, 3, .inl (fun _ => 0))), ((q 4), .inl (cI, 2, .inl (fun _ => 0)))]) (w1 := [((q 0), .inr (12, (mo q)))]) hP hD [2] [0, 1] rfl rfl (by decide) (by decide) hk1 hFc hP1 hD1
  clear hP1 hK1 hD1 hk1 hz1 hvm hPc hDc hFc
  generalize H1 = H at hP hS ⊢
  have hP : va_P (dC, dI) vwCl [((q 54), .inl (cI, 3, .inl (fun _ => 0))), ((q 4), .inl (cI, 2, .inl (fun _ => 0))), ((q 0), .inr (12, (mo q)))] H := hP
  have hD : va_D A [((q 54), .inl (cI, 3, .inl (fun _ => 0))), ((q 4), .inl (cI, 2, .inl (fun _ => 0))), ((q 0), .inr (12, (mo q)))] := hD
  subst hw
  refine lv_if_eq (tgt := 72) hx hb dX12_fitting_38 (by decide) (fun c => absurd c (by decide +kernel)) (fun _ => ?_)
  refine lv_iload_n hx hb dX12_fitting_41 rfl (lv_at hl 5 rfl) ?_
  refine lv_iconst (v := (-1)) hx hb dX12_fitting_42 (by decide +kernel) ?_
  refine lv_icmp_eq (tgt := 68) hx hb dX12_fitting_43 (by decide) (fun _ => ?_) (fun c => absurd c (by decide +kernel))
  refine lv_iconst (v := 1) hx hb dX12_fitting_68 (by decide +kernel) ?_
  refine lv_goto (tgt := 73) hx hb dX12_fitting_69 (by decide) ?_
  refine lv_iadd hx hb dX12_fitting_73 ?_
  refine tp_i (y := 1) (by decide +kernel) ?_
  refine lv_istore_n (lv' := [(2, .int 1), (5, .int 0), (4, .int 0), (3, .int 1), (0, .ref (q 0)), (1, .int (-1))]) hx hb dX12_fitting_74 rfl hl (by decide) rfl (fun ls hl => ?_)
  refine lv_iinc (v := 1) (lv' := [(5, .int 1), (2, .int 1), (4, .int 0), (3, .int 1), (0, .ref (q 0)), (1, .int (-1))]) hx hb dX12_fitting_75 hl (k := 1) rfl (by decide +kernel) (by decide) rfl (fun ls hl => ?_)
  refine lv_goto (tgt := 16) hx hb dX12_fitting_78 (by decide) ?_
  refine lv_iload hx hb dX12_fitting_16 (lv_at hl 0 rfl) ?_
  refine lv_iload_n hx hb dX12_fitting_18 rfl (lv_at hl 3 rfl) ?_
  refine lv_icmp_ge (tgt := 81) hx hb dX12_fitting_19 (by decide) (fun _ => ?_) (fun c => absurd c (by decide +kernel))
  refine lv_iload_n hx hb dX12_fitting_81 rfl (lv_at hl 3 rfl) ?_
  refine lv_bipush (v := 10) hx hb dX12_fitting_82 (by decide +kernel) ?_
  refine lv_imul hx hb dX12_fitting_84 ?_
  refine tp_i (y := 10) (by decide +kernel) ?_
  refine lv_istore_n (lv' := [(3, .int 10), (5, .int 1), (2, .int 1), (4, .int 0), (0, .ref (q 0)), (1, .int (-1))]) hx hb dX12_fitting_85 rfl hl (by decide) rfl (fun ls hl => ?_)
  refine lv_iinc (v := 1) (lv' := [(4, .int 1), (3, .int 10), (5, .int 1), (2, .int 1), (0, .ref (q 0)), (1, .int (-1))]) hx hb dX12_fitting_86 hl (k := 3) rfl (by decide +kernel) (by decide) rfl (fun ls hl => ?_)
  refine lv_goto (tgt := 7) hx hb dX12_fitting_89 (by decide) ?_
  refine lv_iload hx hb dX12_fitting_7 (lv_at hl 0 rfl) ?_
  refine lv_iconst (v := 3) hx hb dX12_fitting_9 (by decide +kernel) ?_
  refine lv_icmp_gt (tgt := 92) hx hb dX12_fitting_10 (by decide) (fun c => absurd c (by decide +kernel)) (fun _ => ?_)
  refine lv_iconst (v := 0) hx hb dX12_fitting_13 (by decide +kernel) ?_
  refine lv_istore (lv' := [(5, .int 0), (4, .int 1), (3, .int 10), (2, .int 1), (0, .ref (q 0)), (1, .int (-1))]) hx hb dX12_fitting_14 hl (by decide) rfl (fun ls hl => ?_)
  refine (?key7 : ∀ (k6 : Nat) (v5 z8 : Int32) (f9 : Nat → Int32) (H : Heap) (locs : List Loc) (ls : Array Slot), v5.toInt + (k6 : Int) = 10 → 0 ≤ v5.toInt → va_P (dC, dI) vwCl [((q 54), .inl (cI, 3, .inl f9)), ((q 4), .inl (cI, 2, .inl (fun _ => 0))), ((q 0), .inr (12, ((mo q).set 78 (.int z8))))] H → va_D A [((q 54), .inl (cI, 3, .inl f9)), ((q 4), .inl (cI, 2, .inl (fun _ => 0))), ((q 0), .inr (12, ((mo q).set 78 (.int z8))))] → va_S A s.heap H locs → lv_has ls 6 [(5, .int v5), (4, .int 1), (3, .int 10), (2, .int 1), (0, .ref (q 0)), (1, .int (-1))] → W p l e _ s m _ below meth c H locs _ _ _ (F0 m 16 ls [])) 10 0 _ _ _ _ _ (by decide +kernel) (by decide +kernel) hP hD hS hl
  clear hP hD hS hl
  intro k6
  induction k6 with
  | zero =>
    intro v5 z8 f9 H locs ls hk h0 hP hD hS hl
    have hk : v5.toInt = 10 := by simpa using hk
    refine lv_iload hx hb dX12_fitting_16 (lv_at hl 0 rfl) ?_
    refine lv_iload_n hx hb dX12_fitting_18 rfl (lv_at hl 2 rfl) ?_
    refine lv_icmp_ge (tgt := 81) hx hb dX12_fitting_19 (by decide) (fun _ => ?_) (fun c10 => False.elim (by have c10i := mt (fa_le _ _).mpr c10; have c10k : (10 : Int32).toInt = 10 := (by decide +kernel); omega))
    refine lv_iload_n hx hb dX12_fitting_81 rfl (lv_at hl 2 rfl) ?_
    refine lv_bipush (v := 10) hx hb dX12_fitting_82 (by decide +kernel) ?_
    refine lv_imul hx hb dX12_fitting_84 ?_
    refine tp_i (y := 100) (by decide +kernel) ?_
    refine lv_istore_n (lv' := [(3, .int 100), (5, .int v5), (4, .int 1), (2, .int 1), (0, .ref (q 0)), (1, .int (-1))]) hx hb dX12_fitting_85 rfl hl (by decide) rfl (fun ls hl => ?_)
    refine lv_iinc (v := 2) (lv' := [(4, .int 2), (3, .int 100), (5, .int v5), (2, .int 1), (0, .ref (q 0)), (1, .int (-1))]) hx hb dX12_fitting_86 hl (k := 2) rfl (by decide +kernel) (by decide) rfl (fun ls hl => ?_)
    refine lv_goto (tgt := 7) hx hb dX12_fitting_89 (by decide) ?_
    refine lv_iload hx hb dX12_fitting_7 (lv_at hl 0 rfl) ?_
    refine lv_iconst (v := 3) hx hb dX12_fitting_9 (by decide +kernel) ?_
    refine lv_icmp_gt (tgt := 92) hx hb dX12_fitting_10 (by decide) (fun c => absurd c (by decide +kernel)) (fun _ => ?_)
    refine lv_iconst (v := 0) hx hb dX12_fitting_13 (by decide +kernel) ?_
    refine lv_istore (lv' := [(5, .int 0), (4, .int 2), (3, .int 100), (2, .int 1), (0, .ref (q 0)), (1, .int (-1))]) hx hb dX12_fitting_14 hl (by decide) rfl (fun ls hl => ?_)
    refine (?key13 : ∀ (k12 : Nat) (v11 z14 : Int32) (f15 : Nat → Int32) (H : Heap) (locs : List Loc) (ls : Array Slot), v11.toInt + (k12 : Int) = 100 → 0 ≤ v11.toInt → va_P (dC, dI) vwCl [((q 54), .inl (cI, 3, .inl f15)), ((q 4), .inl (cI, 2, .inl (fun _ => 0))), ((q 0), .inr (12, ((mo q).set 78 (.int z14))))] H → va_D A [((q 54), .inl (cI, 3, .inl f15)), ((q 4), .inl (cI, 2, .inl (fun _ => 0))), ((q 0), .inr (12, ((mo q).set 78 (.int z14))))] → va_S A s.heap H locs → lv_has ls 6 [(5, .int v11), (4, .int 2), (3, .int 100), (2, .int 1), (0, .ref (q 0)), (1, .int (-1))] → W p l e _ s m _ below meth c H locs _ _ _ (F0 m 16 ls [])) 100 0 _ _ _ _ _ (by decide +kernel) (by decide +kernel) hP hD hS hl
    clear hP hD hS hl
    intro k12
    induction k12 with
    | zero =>
      intro v11 z14 f15 H locs ls hk h0 hP hD hS hl
      have hk : v11.toInt = 100 := by simpa using hk
      refine lv_iload hx hb dX12_fitting_16 (lv_at hl 0 rfl) ?_
      refine lv_iload_n hx hb dX12_fitting_18 rfl (lv_at hl 2 rfl) ?_
      refine lv_icmp_ge (tgt := 81) hx hb dX12_fitting_19 (by decide) (fun _ => ?_) (fun c16 => False.elim (by have c16i := mt (fa_le _ _).mpr c16; have c16k : (100 : Int32).toInt = 100 := (by decide +kernel); omega))
      refine lv_iload_n hx hb dX12_fitting_81 rfl (lv_at hl 2 rfl) ?_
      refine lv_bipush (v := 10) hx hb dX12_fitting_82 (by decide +kernel) ?_
      refine lv_imul hx hb dX12_fitting_84 ?_
      refine tp_i (y := 1000) (by decide +kernel) ?_
      refine lv_istore_n (lv' := [(3, .int 1000), (5, .int v11), (4, .int 2), (2, .int 1), (0, .ref (q 0)), (1, .int (-1))]) hx hb dX12_fitting_85 rfl hl (by decide) rfl (fun ls hl => ?_)
      refine lv_iinc (v := 3) (lv' := [(4, .int 3), (3, .int 1000), (5, .int v11), (2, .int 1), (0, .ref (q 0)), (1, .int (-1))]) hx hb dX12_fitting_86 hl (k := 2) rfl (by decide +kernel) (by decide) rfl (fun ls hl => ?_)
      refine lv_goto (tgt := 7) hx hb dX12_fitting_89 (by decide) ?_
      refine lv_iload hx hb dX12_fitting_7 (lv_at hl 0 rfl) ?_
      refine lv_iconst (v := 3) hx hb dX12_fitting_9 (by decide +kernel) ?_
      refine lv_icmp_gt (tgt := 92) hx hb dX12_fitting_10 (by decide) (fun c => absurd c (by decide +kernel)) (fun _ => ?_)
      refine lv_iconst (v := 0) hx hb dX12_fitting_13 (by decide +kernel) ?_
      refine lv_istore (lv' := [(5, .int 0), (4, .int 3), (3, .int 1000), (2, .int 1), (0, .ref (q 0)), (1, .int (-1))]) hx hb dX12_fitting_14 hl (by decide) rfl (fun ls hl => ?_)
      refine (?key19 : ∀ (k18 : Nat) (v17 z20 : Int32) (f21 : Nat → Int32) (H : Heap) (locs : List Loc) (ls : Array Slot), v17.toInt + (k18 : Int) = 1000 → 0 ≤ v17.toInt → va_P (dC, dI) vwCl [((q 54), .inl (cI, 3, .inl f21)), ((q 4), .inl (cI, 2, .inl (fun _ => 0))), ((q 0), .inr (12, ((mo q).set 78 (.int z20))))] H → va_D A [((q 54), .inl (cI, 3, .inl f21)), ((q 4), .inl (cI, 2, .inl (fun _ => 0))), ((q 0), .inr (12, ((mo q).set 78 (.int z20))))] → va_S A s.heap H locs → lv_has ls 6 [(5, .int v17), (4, .int 3), (3, .int 1000), (2, .int 1), (0, .ref (q 0)), (1, .int (-1))] → W p l e _ s m _ below meth c H locs _ _ _ (F0 m 16 ls [])) 1000 0 _ _ _ _ _ (by decide +kernel) (by decide +kernel) hP hD hS hl
      clear hP hD hS hl
      intro k18
      induction k18 with
      | zero =>
        intro v17 z20 f21 H locs ls hk h0 hP hD hS hl
        have hk : v17.toInt = 1000 := by simpa using hk
        refine lv_iload hx hb dX12_fitting_16 (lv_at hl 0 rfl) ?_
        refine lv_iload_n hx hb dX12_fitting_18 rfl (lv_at hl 2 rfl) ?_
        refine lv_icmp_ge (tgt := 81) hx hb dX12_fitting_19 (by decide) (fun _ => ?_) (fun c22 => False.elim (by have c22i := mt (fa_le _ _).mpr c22; have c22k : (1000 : Int32).toInt = 1000 := (by decide +kernel); omega))
        refine lv_iload_n hx hb dX12_fitting_81 rfl (lv_at hl 2 rfl) ?_
        refine lv_bipush (v := 10) hx hb dX12_fitting_82 (by decide +kernel) ?_
        refine lv_imul hx hb dX12_fitting_84 ?_
        refine tp_i (y := 10000) (by decide +kernel) ?_
        refine lv_istore_n (lv' := [(3, .int 10000), (5, .int v17), (4, .int 3), (2, .int 1), (0, .ref (q 0)), (1, .int (-1))]) hx hb dX12_fitting_85 rfl hl (by decide) rfl (fun ls hl => ?_)
        refine lv_iinc (v := 4) (lv' := [(4, .int 4), (3, .int 10000), (5, .int v17), (2, .int 1), (0, .ref (q 0)), (1, .int (-1))]) hx hb dX12_fitting_86 hl (k := 2) rfl (by decide +kernel) (by decide) rfl (fun ls hl => ?_)
        refine lv_goto (tgt := 7) hx hb dX12_fitting_89 (by decide) ?_
        refine lv_iload hx hb dX12_fitting_7 (lv_at hl 0 rfl) ?_
        refine lv_iconst (v := 3) hx hb dX12_fitting_9 (by decide +kernel) ?_
        refine lv_icmp_gt (tgt := 92) hx hb dX12_fitting_10 (by decide) (fun _ => ?_) (fun c => absurd c (by decide +kernel))
        refine lv_iload_n hx hb dX12_fitting_92 rfl (lv_at hl 3 rfl) ?_
        exact W.iret (v := 1) hx hb hr (fun t ht hW => ⟨⟨1, (), rfl, rfl, trivial⟩, hS.F ht⟩) hS.2.2 dX12_fitting_93
      | succ k18 ih =>
        intro v17 z20 f21 H locs ls hk h0 hP hD hS hl
        have hk : v17.toInt + ((k18 : Int) + 1) = 1000 := by simpa using hk
        refine lv_iload hx hb dX12_fitting_16 (lv_at hl 0 rfl) ?_
        refine lv_iload_n hx hb dX12_fitting_18 rfl (lv_at hl 2 rfl) ?_
        refine lv_icmp_ge (tgt := 81) hx hb dX12_fitting_19 (by decide) (fun c23 => False.elim (by have c23i := (fa_le _ _).mp c23; have c23k : (1000 : Int32).toInt = 1000 := (by decide +kernel); omega)) (fun _ => ?_)
        refine lv_iload_n hx hb dX12_fitting_22 rfl (lv_at hl 3 rfl) ?_
        refine lv_aload_n hx hb dX12_fitting_23 rfl (lv_at hl 4 rfl) ?_
        refine lv_iload hx hb dX12_fitting_24 (lv_at hl 1 rfl) ?_
        refine lv_iload hx hb dX12_fitting_26 (lv_at hl 0 rfl) ?_
        have hPc := hP.sub (ws' := [((q 0), .inr (12, ((mo q).set 78 (.int z20)))), ((q 54), .inl (cI, 3, .inl f21)), ((q 4), .inl (cI, 2, .inl (fun _ => 0)))]) [2, 0, 1] rfl
        have hDc := hD.sub (ws' := [((q 0), .inr (12, ((mo q).set 78 (.int z20)))), ((q 54), .inl (cI, 3, .inl f21)), ((q 4), .inl (cI, 2, .inl (fun _ => 0)))]) [2, 0, 1] (by decide) rfl
        have hFc := va_free (wc := [((q 0), .inr (12, ((mo q).set 78 (.int z20)))), ((q 54), .inl (cI, 3, .inl f21)), ((q 4), .inl (cI, 2, .inl (fun _ => 0)))]) hD hS hA [2, 0, 1] rfl
        refine va_calli (va_runV (As := [.int 3, .int v17]) (rest := [.int 1]) ⟨hx, hb, hml, hown, hts⟩ (k_X12_isRow_142 l dC dI cB cI cJ cZ cQ H.size q v17 z20 f21) (cwV 2 hts g_k_X12_fitting_147_2 rfl rfl rfl (by decide +kernel) ⟨Nat.le_of_ble_eq_true rfl, Nat.le_of_ble_eq_true rfl⟩) ⟨fun a U g mk Z => by obtain ⟨q0, q1, qP, qK, qD⟩ := Z; exact ⟨q0, q1, qP, va_K.moved (u := U) (U := U.calling g mk a) (Vm.Alike.refl U.vm) qK, qD⟩, va_recv hK hPc (ci := 12) (q0 := 0) rfl rfl, fun U hU hW => ⟨rfl, by rw [hU], by rw [hU]; exact hPc, va_K.moved hW.alike hK, hDc.weaken (fun _ _ _ _ => trivial)⟩⟩ rfl rfl hl.1 rfl (lv_room (Nat.le_of_ble_eq_true rfl)) dX12_fitting_28 ⟨Nat.le_of_ble_eq_true rfl, Nat.le_of_ble_eq_true rfl⟩) hS (fun b _ h => hFc b h) hFc (fun r25 u24 t H1 locs ht hvm hw hB hz1 hk1 hS => ?_)
        obtain ⟨hP1, hK1, hD1⟩ := hB
        rw [ht] at hP1
        obtain ⟨hP, hD⟩ := va_join (wr := []) (w1 := [((q 0), .inr (12, ((mo q).set 78 (.int 3)))), ((q 54), .inl (cI, 3, .inl (upd (upd (upd f21 2 (v17 - v17 / 10 * 10)) 1 ((v17 / 10) - (v17 / 10) / 10 * 10)) 0 (((v17 / 10) / 10) - ((v17 / 10) / 10) / 10 * 10)))), ((q 4), .inl (cI, 2, .inl (fun _ => 0)))]) hP hD [2, 0, 1] [] rfl rfl (by decide) (by decide) hk1 hFc hP1 hD1
        clear hP1 hK1 hD1 hk1 hz1 hvm hPc hDc hFc
        generalize H1 = H at hP hS ⊢
        have hP : va_P (dC, dI) vwCl [((q 0), .inr (12, ((mo q).set 78 (.int 3)))), ((q 54), .inl (cI, 3, .inl (upd (upd (upd f21 2 (v17 - v17 / 10 * 10)) 1 ((v17 / 10) - (v17 / 10) / 10 * 10)) 0 (((v17 / 10) / 10) - ((v17 / 10) / 10) / 10 * 10)))), ((q 4), .inl (cI, 2, .inl (fun _ => 0)))] H := hP
        have hD : va_D A [((q 0), .inr (12, ((mo q).set 78 (.int 3)))), ((q 54), .inl (cI, 3, .inl (upd (upd (upd f21 2 (v17 - v17 / 10 * 10)) 1 ((v17 / 10) - (v17 / 10) / 10 * 10)) 0 (((v17 / 10) / 10) - ((v17 / 10) / 10) / 10 * 10)))), ((q 4), .inl (cI, 2, .inl (fun _ => 0)))] := hD
        subst hw
        refine lv_if_eq (tgt := 72) hx hb dX12_fitting_31 (by decide) (fun _ => ?_) (fun c => absurd c (by decide +kernel))
        refine lv_iconst (v := 0) hx hb dX12_fitting_72 (by decide +kernel) ?_
        refine lv_iadd hx hb dX12_fitting_73 ?_
        refine tp_i (y := 1) (by decide +kernel) ?_
        refine lv_istore_n (lv' := [(2, .int 1), (5, .int v17), (4, .int 3), (3, .int 1000), (0, .ref (q 0)), (1, .int (-1))]) hx hb dX12_fitting_74 rfl hl (by decide) rfl (fun ls hl => ?_)
        refine lv_iinc (v := v17 + 1) (lv' := [(5, .int (v17 + 1)), (2, .int 1), (4, .int 3), (3, .int 1000), (0, .ref (q 0)), (1, .int (-1))]) hx hb dX12_fitting_75 hl (k := 1) rfl rfl (by decide) rfl (fun ls hl => ?_)
        refine lv_goto (tgt := 16) hx hb dX12_fitting_78 (by decide) ?_
        have hP8 := hP.sub (ws' := [((q 54), .inl (cI, 3, .inl (upd (upd (upd f21 2 (v17 - v17 / 10 * 10)) 1 ((v17 / 10) - (v17 / 10) / 10 * 10)) 0 (((v17 / 10) / 10) - ((v17 / 10) / 10) / 10 * 10)))), ((q 4), .inl (cI, 2, .inl (fun _ => 0))), ((q 0), .inr (12, ((mo q).set 78 (.int 3))))]) [1, 2, 0] rfl
        have hD8 := hD.sub (ws' := [((q 54), .inl (cI, 3, .inl (upd (upd (upd f21 2 (v17 - v17 / 10 * 10)) 1 ((v17 / 10) - (v17 / 10) / 10 * 10)) 0 (((v17 / 10) / 10) - ((v17 / 10) / 10) / 10 * 10)))), ((q 4), .inl (cI, 2, .inl (fun _ => 0))), ((q 0), .inr (12, ((mo q).set 78 (.int 3))))]) [1, 2, 0] (by decide) rfl
        have hv8 : (v17 + 1).toInt = v17.toInt + 1 := inc_i (by omega)
        exact ih (v17 + 1) _ _ _ _ _ (by omega) (by omega) hP8 hD8 hS (lv_sub hl [0, 2, 3, 1, 4, 5] rfl)
    | succ k12 ih =>
      intro v11 z14 f15 H locs ls hk h0 hP hD hS hl
      have hk : v11.toInt + ((k12 : Int) + 1) = 100 := by simpa using hk
      refine lv_iload hx hb dX12_fitting_16 (lv_at hl 0 rfl) ?_
      refine lv_iload_n hx hb dX12_fitting_18 rfl (lv_at hl 2 rfl) ?_
      refine lv_icmp_ge (tgt := 81) hx hb dX12_fitting_19 (by decide) (fun c26 => False.elim (by have c26i := (fa_le _ _).mp c26; have c26k : (100 : Int32).toInt = 100 := (by decide +kernel); omega)) (fun _ => ?_)
      refine lv_iload_n hx hb dX12_fitting_22 rfl (lv_at hl 3 rfl) ?_
      refine lv_aload_n hx hb dX12_fitting_23 rfl (lv_at hl 4 rfl) ?_
      refine lv_iload hx hb dX12_fitting_24 (lv_at hl 1 rfl) ?_
      refine lv_iload hx hb dX12_fitting_26 (lv_at hl 0 rfl) ?_
      have hPc := hP.sub (ws' := [((q 0), .inr (12, ((mo q).set 78 (.int z14)))), ((q 54), .inl (cI, 3, .inl f15)), ((q 4), .inl (cI, 2, .inl (fun _ => 0)))]) [2, 0, 1] rfl
      have hDc := hD.sub (ws' := [((q 0), .inr (12, ((mo q).set 78 (.int z14)))), ((q 54), .inl (cI, 3, .inl f15)), ((q 4), .inl (cI, 2, .inl (fun _ => 0)))]) [2, 0, 1] (by decide) rfl
      have hFc := va_free (wc := [((q 0), .inr (12, ((mo q).set 78 (.int z14)))), ((q 54), .inl (cI, 3, .inl f15)), ((q 4), .inl (cI, 2, .inl (fun _ => 0)))]) hD hS hA [2, 0, 1] rfl
      refine va_calli (va_runV (As := [.int 2, .int v11]) (rest := [.int 1]) ⟨hx, hb, hml, hown, hts⟩ (k_X12_isRow_144 l dC dI cB cI cJ cZ cQ H.size q v11 z14 f15) (cwV 2 hts g_k_X12_fitting_147_3 rfl rfl rfl (by decide +kernel) ⟨Nat.le_of_ble_eq_true rfl, Nat.le_of_ble_eq_true rfl⟩) ⟨fun a U g mk Z => by obtain ⟨q0, q1, qP, qK, qD⟩ := Z; exact ⟨q0, q1, qP, va_K.moved (u := U) (U := U.calling g mk a) (Vm.Alike.refl U.vm) qK, qD⟩, va_recv hK hPc (ci := 12) (q0 := 0) rfl rfl, fun U hU hW => ⟨rfl, by rw [hU], by rw [hU]; exact hPc, va_K.moved hW.alike hK, hDc.weaken (fun _ _ _ _ => trivial)⟩⟩ rfl rfl hl.1 rfl (lv_room (Nat.le_of_ble_eq_true rfl)) dX12_fitting_28 ⟨Nat.le_of_ble_eq_true rfl, Nat.le_of_ble_eq_true rfl⟩) hS (fun b _ h => hFc b h) hFc (fun r28 u27 t H1 locs ht hvm hw hB hz1 hk1 hS => ?_)
      obtain ⟨hP1, hK1, hD1⟩ := hB
      rw [ht] at hP1
      obtain ⟨hP, hD⟩ := va_join (wr := []) (w1 := [((q 0), .inr (12, ((mo q).set 78 (.int 2)))), ((q 54), .inl (cI, 3, .inl (upd (upd f15 1 (v11 - v11 / 10 * 10)) 0 ((v11 / 10) - (v11 / 10) / 10 * 10)))), ((q 4), .inl (cI, 2, .inl (fun _ => 0)))]) hP hD [2, 0, 1] [] rfl rfl (by decide) (by decide) hk1 hFc hP1 hD1
      clear hP1 hK1 hD1 hk1 hz1 hvm hPc hDc hFc
      generalize H1 = H at hP hS ⊢
      have hP : va_P (dC, dI) vwCl [((q 0), .inr (12, ((mo q).set 78 (.int 2)))), ((q 54), .inl (cI, 3, .inl (upd (upd f15 1 (v11 - v11 / 10 * 10)) 0 ((v11 / 10) - (v11 / 10) / 10 * 10)))), ((q 4), .inl (cI, 2, .inl (fun _ => 0)))] H := hP
      have hD : va_D A [((q 0), .inr (12, ((mo q).set 78 (.int 2)))), ((q 54), .inl (cI, 3, .inl (upd (upd f15 1 (v11 - v11 / 10 * 10)) 0 ((v11 / 10) - (v11 / 10) / 10 * 10)))), ((q 4), .inl (cI, 2, .inl (fun _ => 0)))] := hD
      subst hw
      refine lv_if_eq (tgt := 72) hx hb dX12_fitting_31 (by decide) (fun _ => ?_) (fun c => absurd c (by decide +kernel))
      refine lv_iconst (v := 0) hx hb dX12_fitting_72 (by decide +kernel) ?_
      refine lv_iadd hx hb dX12_fitting_73 ?_
      refine tp_i (y := 1) (by decide +kernel) ?_
      refine lv_istore_n (lv' := [(2, .int 1), (5, .int v11), (4, .int 2), (3, .int 100), (0, .ref (q 0)), (1, .int (-1))]) hx hb dX12_fitting_74 rfl hl (by decide) rfl (fun ls hl => ?_)
      refine lv_iinc (v := v11 + 1) (lv' := [(5, .int (v11 + 1)), (2, .int 1), (4, .int 2), (3, .int 100), (0, .ref (q 0)), (1, .int (-1))]) hx hb dX12_fitting_75 hl (k := 1) rfl rfl (by decide) rfl (fun ls hl => ?_)
      refine lv_goto (tgt := 16) hx hb dX12_fitting_78 (by decide) ?_
      have hP8 := hP.sub (ws' := [((q 54), .inl (cI, 3, .inl (upd (upd f15 1 (v11 - v11 / 10 * 10)) 0 ((v11 / 10) - (v11 / 10) / 10 * 10)))), ((q 4), .inl (cI, 2, .inl (fun _ => 0))), ((q 0), .inr (12, ((mo q).set 78 (.int 2))))]) [1, 2, 0] rfl
      have hD8 := hD.sub (ws' := [((q 54), .inl (cI, 3, .inl (upd (upd f15 1 (v11 - v11 / 10 * 10)) 0 ((v11 / 10) - (v11 / 10) / 10 * 10)))), ((q 4), .inl (cI, 2, .inl (fun _ => 0))), ((q 0), .inr (12, ((mo q).set 78 (.int 2))))]) [1, 2, 0] (by decide) rfl
      have hv8 : (v11 + 1).toInt = v11.toInt + 1 := inc_i (by omega)
      exact ih (v11 + 1) _ _ _ _ _ (by omega) (by omega) hP8 hD8 hS (lv_sub hl [0, 2, 3, 1, 4, 5] rfl)
  | succ k6 ih =>
    intro v5 z8 f9 H locs ls hk h0 hP hD hS hl
    have hk : v5.toInt + ((k6 : Int) + 1) = 10 := by simpa using hk
    refine lv_iload hx hb dX12_fitting_16 (lv_at hl 0 rfl) ?_
    refine lv_iload_n hx hb dX12_fitting_18 rfl (lv_at hl 2 rfl) ?_
    refine lv_icmp_ge (tgt := 81) hx hb dX12_fitting_19 (by decide) (fun c29 => False.elim (by have c29i := (fa_le _ _).mp c29; have c29k : (10 : Int32).toInt = 10 := (by decide +kernel); omega)) (fun _ => ?_)
    refine lv_iload_n hx hb dX12_fitting_22 rfl (lv_at hl 3 rfl) ?_
    refine lv_aload_n hx hb dX12_fitting_23 rfl (lv_at hl 4 rfl) ?_
    refine lv_iload hx hb dX12_fitting_24 (lv_at hl 1 rfl) ?_
    refine lv_iload hx hb dX12_fitting_26 (lv_at hl 0 rfl) ?_
    have hPc := hP.sub (ws' := [((q 0), .inr (12, ((mo q).set 78 (.int z8)))), ((q 54), .inl (cI, 3, .inl f9)), ((q 4), .inl (cI, 2, .inl (fun _ => 0)))]) [2, 0, 1] rfl
    have hDc := hD.sub (ws' := [((q 0), .inr (12, ((mo q).set 78 (.int z8)))), ((q 54), .inl (cI, 3, .inl f9)), ((q 4), .inl (cI, 2, .inl (fun _ => 0)))]) [2, 0, 1] (by decide) rfl
    have hFc := va_free (wc := [((q 0), .inr (12, ((mo q).set 78 (.int z8)))), ((q 54), .inl (cI, 3, .inl f9)), ((q 4), .inl (cI, 2, .inl (fun _ => 0)))]) hD hS hA [2, 0, 1] rfl
    refine va_calli (va_runV (As := [.int 1, .int v5]) (rest := [.int 1]) ⟨hx, hb, hml, hown, hts⟩ (k_X12_isRow_146 l dC dI cB cI cJ cZ cQ H.size q v5 z8 f9) (cwV 2 hts g_k_X12_fitting_147_4 rfl rfl rfl (by decide +kernel) ⟨Nat.le_of_ble_eq_true rfl, Nat.le_of_ble_eq_true rfl⟩) ⟨fun a U g mk Z => by obtain ⟨q0, q1, qP, qK, qD⟩ := Z; exact ⟨q0, q1, qP, va_K.moved (u := U) (U := U.calling g mk a) (Vm.Alike.refl U.vm) qK, qD⟩, va_recv hK hPc (ci := 12) (q0 := 0) rfl rfl, fun U hU hW => ⟨rfl, by rw [hU], by rw [hU]; exact hPc, va_K.moved hW.alike hK, hDc.weaken (fun _ _ _ _ => trivial)⟩⟩ rfl rfl hl.1 rfl (lv_room (Nat.le_of_ble_eq_true rfl)) dX12_fitting_28 ⟨Nat.le_of_ble_eq_true rfl, Nat.le_of_ble_eq_true rfl⟩) hS (fun b _ h => hFc b h) hFc (fun r31 u30 t H1 locs ht hvm hw hB hz1 hk1 hS => ?_)
    obtain ⟨hP1, hK1, hD1⟩ := hB
    rw [ht] at hP1
    obtain ⟨hP, hD⟩ := va_join (wr := []) (w1 := [((q 0), .inr (12, ((mo q).set 78 (.int 1)))), ((q 54), .inl (cI, 3, .inl (upd f9 0 (v5 - v5 / 10 * 10)))), ((q 4), .inl (cI, 2, .inl (fun _ => 0)))]) hP hD [2, 0, 1] [] rfl rfl (by decide) (by decide) hk1 hFc hP1 hD1
    clear hP1 hK1 hD1 hk1 hz1 hvm hPc hDc hFc
    generalize H1 = H at hP hS ⊢
    have hP : va_P (dC, dI) vwCl [((q 0), .inr (12, ((mo q).set 78 (.int 1)))), ((q 54), .inl (cI, 3, .inl (upd f9 0 (v5 - v5 / 10 * 10)))), ((q 4), .inl (cI, 2, .inl (fun _ => 0)))] H := hP
    have hD : va_D A [((q 0), .inr (12, ((mo q).set 78 (.int 1)))), ((q 54), .inl (cI, 3, .inl (upd f9 0 (v5 - v5 / 10 * 10)))), ((q 4), .inl (cI, 2, .inl (fun _ => 0)))] := hD
    subst hw
    refine lv_if_eq (tgt := 72) hx hb dX12_fitting_31 (by decide) (fun _ => ?_) (fun c => absurd c (by decide +kernel))
    refine lv_iconst (v := 0) hx hb dX12_fitting_72 (by decide +kernel) ?_
    refine lv_iadd hx hb dX12_fitting_73 ?_
    refine tp_i (y := 1) (by decide +kernel) ?_
    refine lv_istore_n (lv' := [(2, .int 1), (5, .int v5), (4, .int 1), (3, .int 10), (0, .ref (q 0)), (1, .int (-1))]) hx hb dX12_fitting_74 rfl hl (by decide) rfl (fun ls hl => ?_)
    refine lv_iinc (v := v5 + 1) (lv' := [(5, .int (v5 + 1)), (2, .int 1), (4, .int 1), (3, .int 10), (0, .ref (q 0)), (1, .int (-1))]) hx hb dX12_fitting_75 hl (k := 1) rfl rfl (by decide) rfl (fun ls hl => ?_)
    refine lv_goto (tgt := 16) hx hb dX12_fitting_78 (by decide) ?_
    have hP8 := hP.sub (ws' := [((q 54), .inl (cI, 3, .inl (upd f9 0 (v5 - v5 / 10 * 10)))), ((q 4), .inl (cI, 2, .inl (fun _ => 0))), ((q 0), .inr (12, ((mo q).set 78 (.int 1))))]) [1, 2, 0] rfl
    have hD8 := hD.sub (ws' := [((q 54), .inl (cI, 3, .inl (upd f9 0 (v5 - v5 / 10 * 10)))), ((q 4), .inl (cI, 2, .inl (fun _ => 0))), ((q 0), .inr (12, ((mo q).set 78 (.int 1))))]) [1, 2, 0] (by decide) rfl
    have hv8 : (v5 + 1).toInt = v5.toInt + 1 := inc_i (by omega)
    exact ih (v5 + 1) _ _ _ _ _ (by omega) (by omega) hP8 hD8 hS (lv_sub hl [0, 2, 3, 1, 4, 5] rfl)
def ws_p_X12_fits : List Cond := .code yX12_fits cX12_fits 5 (some .int) :: ([.methodLink RX12 618 yX12_isRow, .instanceMethod yX12_isRow, .selects RX12 yX12_isRow yX12_isRow, .initialized RX12, .code yX12_isRow cX12_isRow 6 (some .boolean), .fieldLink RX12 250 "StackKeysModel" "foundMany" "I", .methodLink RX12 621 yX12_agrees, .instanceMethod yX12_agrees, .selects RX12 yX12_agrees yX12_agrees, .code yX12_agrees cX12_agrees 3 (some .boolean), .fieldLink RX12 256 "StackKeysModel" "left" "I", .fieldLink RX12 241 "StackKeysModel" "trials" "I", .methodLink RX12 352 yX12_is, .static yX12_is, .code yX12_is cX12_is 3 (some .boolean), .methodLink RX12 624 yX12_fitting, .instanceMethod yX12_fitting, .selects RX12 yX12_fitting yX12_fitting, .code yX12_fitting cX12_fitting 6 (some .int), .fieldLink RX12 253 "StackKeysModel" "found" "[I", .methodLink RX12 507 yX12_isDoor, .instanceMethod yX12_isDoor, .selects RX12 yX12_isDoor yX12_isDoor, .code yX12_isDoor cX12_isDoor 2 (some .boolean), .fieldLink RX12 58 "StackKeysModel" "doors" "[I", .fieldLink RX12 48 "StackKeysModel" "bank" "I"] ++ wsX120)
set_option maxRecDepth 20000 in
theorem g_p_X12_fits_0 : GoodIn ws_p_X12_fits (wsV RX12 618 RX12 yX12_isRow ws_k_X12_isRow_139) := goodIn_r _ [1, 2, 3, 4, 5, 6, 27, 28, 29, 30, 31, 32, 33, 34, 35, 36, 37, 38, 39, 40, 41, 42, 43, 44, 45, 46, 47, 48, 49, 50, 51, 52, 53, 54, 55, 56, 57, 58, 59, 60, 61, 62, 63, 64, 65, 66, 67, 68, 69, 70, 71, 72, 73, 74, 75, 76, 77, 78, 79, 80, 81, 82, 83, 84, 85, 86, 87, 88, 89, 90, 91, 92, 93, 94, 95, 96, 97, 98, 99, 100, 101, 102, 103, 104, 105, 106, 107, 108, 109, 110, 111] (by decide +kernel) (by decide +kernel)
set_option maxRecDepth 20000 in
theorem g_p_X12_fits_1 : GoodIn ws_p_X12_fits (wsV RX12 621 RX12 yX12_agrees ws_k_X12_agrees_140) := goodIn_r _ [7, 8, 9, 4, 10, 6, 11, 12, 27, 28, 29, 30, 31, 32, 33, 34, 35, 36, 37, 38, 39, 40, 41, 42, 43, 44, 45, 46, 47, 48, 49, 50, 51, 52, 53, 54, 55, 56, 57, 58, 59, 60, 61, 62, 63, 64, 65, 66, 67, 68, 69, 70, 71, 72, 73, 74, 75, 76, 77, 78, 79, 80, 81, 82, 83, 84, 85, 86, 87, 88, 89, 90, 91, 92, 93, 94, 95, 96, 97, 98, 99, 100, 101, 102, 103, 104, 105, 106, 107, 108, 109, 110, 111] (by decide +kernel) (by decide +kernel)
set_option maxRecDepth 20000 in
theorem g_p_X12_fits_2 : GoodIn ws_p_X12_fits (va_wsS RX12 352 yX12_is ws_k_X12_is_100) := goodIn_r _ [13, 14, 4, 15] (by decide +kernel) (by decide +kernel)
set_option maxRecDepth 20000 in
theorem g_p_X12_fits_3 : GoodIn ws_p_X12_fits (wsV RX12 624 RX12 yX12_fitting ws_k_X12_fitting_147) := goodIn_r _ [16, 17, 18, 4, 19, 1, 2, 3, 4, 5, 6, 7, 8, 9, 10, 11, 12, 20, 21, 22, 23, 24, 25, 26, 13, 14, 15, 27, 28, 29, 30, 31, 32, 33, 34, 35, 36, 37, 38, 39, 40, 41, 42, 43, 44, 45, 46, 47, 48, 49, 50, 51, 52, 53, 54, 55, 56, 57, 58, 59, 60, 61, 62, 63, 64, 65, 66, 67, 68, 69, 70, 71, 72, 73, 74, 75, 76, 77, 78, 79, 80, 81, 82, 83, 84, 85, 86, 87, 88, 89, 90, 91, 92, 93, 94, 95, 96, 97, 98, 99, 100, 101, 102, 103, 104, 105, 106, 107, 108, 109, 110, 111] (by decide +kernel) (by decide +kernel)
set_option maxHeartbeats 4000000 in
set_option maxRecDepth 100000 in
theorem p_X12_fits (l : Launch) (dC : Nat → ClassId) (dI : Nat → Nat → Nat) (cB cI cJ cZ cQ : ClassId) (sz : Nat) (q : Nat → Nat) (x0 : Int32) : Met l yX12_fits ws_p_X12_fits ({ frames := 4, cells := 0, slots := 0, locals := 93 }) (va_Pc [.ref (q 0), .int x0] (fun U => U.heap.size = sz ∧ va_P (dC, dI) vwCl [((q 0), .inr (12, (mo q))), ((q 54), .inl (cI, 3, .inl (fun _ => 0))), ((q 4), .inl (cI, 2, .inl (fun _ => 0)))] U.heap ∧ va_K (dC, dI) vwCl (tyA cB cI cJ cZ cQ) U ∧ va_D (fun _ => True) [((q 0), .inr (12, (mo q))), ((q 54), .inl (cI, 3, .inl (fun _ => 0))), ((q 4), .inl (cI, 2, .inl (fun _ => 0)))])) (va_Qi (fun (r : Int32) (_ : Unit) => (r = (-1) ∧ ((x0.toInt ≠ (-1)))) ∨ (r = 1 ∧ ((x0.toInt = (-1))))) (fun (_ : Unit) _ => True) (va_A [((q 0), .inr (12, (mo q))), ((q 54), .inl (cI, 3, .inl (fun _ => 0))), ((q 4), .inl (cI, 2, .inl (fun _ => 0)))] sz)) 0 0 (va_A [((q 0), .inr (12, (mo q))), ((q 54), .inl (cI, 3, .inl (fun _ => 0))), ((q 4), .inl (cI, 2, .inl (fun _ => 0)))] sz) := by
  refine Met.ofW (cc := cX12_fits) (maxL := 5) (ret := (some .int)) (by decide +kernel) rfl ?_
  intro p e s m args below meth c s₁ B hml hv
  obtain ⟨rfl, hsz, hP, hK, hD0⟩ := hv
  have hx := B.exec
  have hb := B.bytes
  have hr := B.returns
  have hts := atoms_spec (ws := ws_p_X12_fits) B.pre
  have hown : s.vm.findClass RX12 = some m.cls := findClass_of_methodNamed B.named
  have hiX12 : ∀ w ∈ u_ws RX12 TX12 85, w ∈ ws_p_X12_fits := fun w h => List.mem_cons_of_mem _ (List.mem_append_right _ h)
  subst hsz
  have hD := hD0.self (sz := s.heap.size)
  generalize hAe : va_A [((q 0), .inr (12, (mo q))), ((q 54), .inl (cI, 3, .inl (fun _ => 0))), ((q 4), .inl (cI, 2, .inl (fun _ => 0)))] s.heap.size = A at hD ⊢
  have hA : ∀ b : Nat, s.heap.size ≤ b → A b := fun b h => by rw [← hAe]; exact Or.inr h
  clear hD0 hAe
  have hS : va_S A s.heap s.heap [] := va_S.rf
  have hl := lv_entry ([.ref (q 0), .int x0]) (n := 5) (Nat.le_of_ble_eq_true rfl)
  rw [lg_entry_eq]
  generalize (lg_sl ([.ref (q 0), .int x0]) ++ List.replicate (5 - (lg_sl ([.ref (q 0), .int x0])).length) Slot.unset).toArray = ls at hl ⊢
  have hl : lv_has ls 5 [(0, .ref (q 0)), (1, .int x0)] := hl
  obtain ⟨H, hHe⟩ : ∃ H : Heap, H = s.heap := ⟨_, rfl⟩
  rw [← hHe] at hP
  have hS : va_S A s.heap H [] := by rw [hHe]; exact hS
  rw [← hHe]
  refine lv_iload_n hx hb dX12_fits_0 rfl (lv_at hl 1 rfl) ?_
  refine lv_iconst (v := (-1)) hx hb dX12_fits_1 (by decide +kernel) ?_
  refine lv_icmp_ne (tgt := 11) hx hb dX12_fits_2 (by decide) (fun c1 => ?_) (fun c1 => ?_)
  · have c1i := mt (fa_eq _ _).mpr c1
    have c1k : (-1 : Int32).toInt = -1 := (by decide +kernel)
    refine lv_iconst (v := 1) hx hb dX12_fits_11 (by decide +kernel) ?_
    refine lv_istore_n (lv' := [(2, .int 1), (0, .ref (q 0)), (1, .int x0)]) hx hb dX12_fits_12 rfl hl (by decide) rfl (fun ls hl => ?_)
    refine lv_iconst (v := 0) hx hb dX12_fits_13 (by decide +kernel) ?_
    refine lv_istore_n (lv' := [(3, .int 0), (2, .int 1), (0, .ref (q 0)), (1, .int x0)]) hx hb dX12_fits_14 rfl hl (by decide) rfl (fun ls hl => ?_)
    refine lv_iload_n hx hb dX12_fits_15 rfl (lv_at hl 0 rfl) ?_
    refine lv_iconst (v := 3) hx hb dX12_fits_16 (by decide +kernel) ?_
    refine lv_icmp_gt (tgt := 85) hx hb dX12_fits_17 (by decide) (fun c => absurd c (by decide +kernel)) (fun _ => ?_)
    refine lv_iconst (v := 0) hx hb dX12_fits_20 (by decide +kernel) ?_
    refine lv_istore (lv' := [(4, .int 0), (3, .int 0), (2, .int 1), (0, .ref (q 0)), (1, .int x0)]) hx hb dX12_fits_21 hl (by decide) rfl (fun ls hl => ?_)
    refine lv_iload hx hb dX12_fits_23 (lv_at hl 0 rfl) ?_
    refine lv_iload_n hx hb dX12_fits_25 rfl (lv_at hl 2 rfl) ?_
    refine lv_icmp_ge (tgt := 74) hx hb dX12_fits_26 (by decide) (fun c => absurd c (by decide +kernel)) (fun _ => ?_)
    refine lv_aload_n hx hb dX12_fits_29 rfl (lv_at hl 3 rfl) ?_
    refine lv_iload_n hx hb dX12_fits_30 rfl (lv_at hl 1 rfl) ?_
    refine lv_iload hx hb dX12_fits_31 (lv_at hl 0 rfl) ?_
    have hPc := hP.sub (ws' := [((q 0), .inr (12, (mo q)))]) [0] rfl
    have hDc := hD.sub (ws' := [((q 0), .inr (12, (mo q)))]) [0] (by decide) rfl
    have hFc := va_free (wc := [((q 0), .inr (12, (mo q)))]) hD hS hA [0] rfl
    refine va_calli (va_runV (As := [.int 0, .int 0]) (rest := []) ⟨hx, hb, hml, hown, hts⟩ (k_X12_isRow_139 l dC dI cB cI cJ cZ cQ H.size q) (cwV 2 hts g_p_X12_fits_0 rfl rfl rfl (by decide +kernel) ⟨Nat.le_of_ble_eq_true rfl, Nat.le_of_ble_eq_true rfl⟩) ⟨fun a U g mk Z => by obtain ⟨q0, q1, qP, qK, qD⟩ := Z; exact ⟨q0, q1, qP, va_K.moved (u := U) (U := U.calling g mk a) (Vm.Alike.refl U.vm) qK, qD⟩, va_recv hK hPc (ci := 12) (q0 := 0) rfl rfl, fun U hU hW => ⟨rfl, by rw [hU], by rw [hU]; exact hPc, va_K.moved hW.alike hK, hDc.weaken (fun _ _ _ _ => trivial)⟩⟩ rfl rfl hl.1 rfl (lv_room (Nat.le_of_ble_eq_true rfl)) dX12_fits_33 ⟨Nat.le_of_ble_eq_true rfl, Nat.le_of_ble_eq_true rfl⟩) hS (fun b _ h => hFc b h) hFc (fun r3 u2 t H1 locs ht hvm hw hB hz1 hk1 hS => ?_)
    obtain ⟨hP1, hK1, hD1⟩ := hB
    rw [ht] at hP1
    obtain ⟨hP, hD⟩ := va_join (wr := [((q 54), .inl (cI, 3, .inl (fun _ => 0))), ((q 4), .inl (cI, 2, .inl (fun _ => 0)))]) (w1 := [((q 0), .inr (12, (mo q)))]) hP hD [0] [1, 2] rfl rfl (by decide) (by decide) hk1 hFc hP1 hD1
    clear hP1 hK1 hD1 hk1 hz1 hvm hPc hDc hFc
    generalize H1 = H at hP hS ⊢
    have hP : va_P (dC, dI) vwCl [((q 54), .inl (cI, 3, .inl (fun _ => 0))), ((q 4), .inl (cI, 2, .inl (fun _ => 0))), ((q 0), .inr (12, (mo q)))] H := hP
    have hD : va_D A [((q 54), .inl (cI, 3, .inl (fun _ => 0))), ((q 4), .inl (cI, 2, .inl (fun _ => 0))), ((q 0), .inr (12, (mo q)))] := hD
    subst hw
    refine lv_if_eq (tgt := 68) hx hb dX12_fits_36 (by decide) (fun c => absurd c (by decide +kernel)) (fun _ => ?_)
    refine lv_aload_n hx hb dX12_fits_39 rfl (lv_at hl 3 rfl) ?_
    have hPc := hP.sub (ws' := [((q 0), .inr (12, (mo q)))]) [2] rfl
    have hDc := hD.sub (ws' := [((q 0), .inr (12, (mo q)))]) [2] (by decide) rfl
    have hFc := va_free (wc := [((q 0), .inr (12, (mo q)))]) hD hS hA [2] rfl
    refine va_calli (va_runV (As := []) (rest := []) ⟨hx, hb, hml, hown, hts⟩ (k_X12_agrees_140 l dC dI cB cI cJ cZ cQ H.size q) (cwV 0 hts g_p_X12_fits_1 rfl rfl rfl (by decide +kernel) ⟨Nat.le_of_ble_eq_true rfl, Nat.le_of_ble_eq_true rfl⟩) ⟨fun a U g mk Z => by obtain ⟨q0, q1, qP, qK, qD⟩ := Z; exact ⟨q0, q1, qP, va_K.moved (u := U) (U := U.calling g mk a) (Vm.Alike.refl U.vm) qK, qD⟩, va_recv hK hPc (ci := 12) (q0 := 0) rfl rfl, fun U hU hW => ⟨rfl, by rw [hU], by rw [hU]; exact hPc, va_K.moved hW.alike hK, hDc.weaken (fun _ _ _ _ => trivial)⟩⟩ rfl rfl hl.1 rfl (lv_room (Nat.le_of_ble_eq_true rfl)) dX12_fits_40 ⟨Nat.le_of_ble_eq_true rfl, Nat.le_of_ble_eq_true rfl⟩) hS (fun b _ h => hFc b h) hFc (fun r5 u4 t H1 locs ht hvm hw hB hz1 hk1 hS => ?_)
    obtain ⟨hP1, hK1, hD1⟩ := hB
    rw [ht] at hP1
    obtain ⟨hP, hD⟩ := va_join (wr := [((q 54), .inl (cI, 3, .inl (fun _ => 0))), ((q 4), .inl (cI, 2, .inl (fun _ => 0)))]) (w1 := [((q 0), .inr (12, (mo q)))]) hP hD [2] [0, 1] rfl rfl (by decide) (by decide) hk1 hFc hP1 hD1
    clear hP1 hK1 hD1 hk1 hz1 hvm hPc hDc hFc
    generalize H1 = H at hP hS ⊢
    have hP : va_P (dC, dI) vwCl [((q 54), .inl (cI, 3, .inl (fun _ => 0))), ((q 4), .inl (cI, 2, .inl (fun _ => 0))), ((q 0), .inr (12, (mo q)))] H := hP
    have hD : va_D A [((q 54), .inl (cI, 3, .inl (fun _ => 0))), ((q 4), .inl (cI, 2, .inl (fun _ => 0))), ((q 0), .inr (12, (mo q)))] := hD
    subst hw
    refine lv_if_eq (tgt := 68) hx hb dX12_fits_43 (by decide) (fun c => absurd c (by decide +kernel)) (fun _ => ?_)
    refine lv_iload_n hx hb dX12_fits_46 rfl (lv_at hl 4 rfl) ?_
    refine lv_iconst (v := 0) hx hb dX12_fits_47 (by decide +kernel) ?_
    refine lv_iload_n hx hb dX12_fits_48 rfl (lv_at hl 1 rfl) ?_
    refine lv_iconst (v := 1) hx hb dX12_fits_49 (by decide +kernel) ?_
    refine lv_isub hx hb dX12_fits_50 ?_
    refine tp_i (y := (-1)) (by decide +kernel) ?_
    have hPc := hP.sub (ws' := []) [] rfl
    have hDc := hD.sub (ws' := []) [] (by decide) rfl
    have hFc := va_free (wc := []) hD hS hA [] rfl
    refine va_calli (va_runS (As := [.int x0, .int 0, .int (-1)]) (rest := []) ⟨hx, hb, hml, hown, hts⟩ (k_X12_is_100 l dC dI cB cI cJ cZ cQ H.size x0) (va_cwS 3 hts g_p_X12_fits_2 rfl rfl rfl (by decide +kernel) ⟨Nat.le_of_ble_eq_true rfl, Nat.le_of_ble_eq_true rfl⟩) ⟨fun a U g mk Z => by obtain ⟨q0, q1, qP, qK, qD⟩ := Z; exact ⟨q0, q1, qP, va_K.moved (u := U) (U := U.calling g mk a) (Vm.Alike.refl U.vm) qK, qD⟩, fun U hU hW => ⟨rfl, by rw [hU], by rw [hU]; exact hPc, va_K.moved hW.alike hK, hDc.weaken (fun _ _ _ _ => trivial)⟩⟩ rfl rfl hl.1 rfl (lv_room (Nat.le_of_ble_eq_true rfl)) dX12_fits_51 ⟨Nat.le_of_ble_eq_true rfl, Nat.le_of_ble_eq_true rfl⟩) hS (fun b _ h => hFc b h) hFc (fun r7 u6 t H1 locs ht hvm hw hB hz1 hk1 hS => ?_)
    obtain ⟨hP1, hK1, hD1⟩ := hB
    rw [ht] at hP1
    obtain ⟨hP, hD⟩ := va_join (wr := [((q 54), .inl (cI, 3, .inl (fun _ => 0))), ((q 4), .inl (cI, 2, .inl (fun _ => 0))), ((q 0), .inr (12, (mo q)))]) (w1 := []) hP hD [] [0, 1, 2] rfl rfl (by decide) (by decide) hk1 hFc hP1 hD1
    clear hP1 hK1 hD1 hk1 hz1 hvm hPc hDc hFc
    generalize H1 = H at hP hS ⊢
    have hP : va_P (dC, dI) vwCl [((q 54), .inl (cI, 3, .inl (fun _ => 0))), ((q 4), .inl (cI, 2, .inl (fun _ => 0))), ((q 0), .inr (12, (mo q)))] H := hP
    have hD : va_D A [((q 54), .inl (cI, 3, .inl (fun _ => 0))), ((q 4), .inl (cI, 2, .inl (fun _ => 0))), ((q 0), .inr (12, (mo q)))] := hD
    subst hw
    refine lv_if_eq (tgt := 66) hx hb dX12_fits_54 (by decide) (fun _ => ?_) (fun c => absurd c (by decide +kernel))
    refine lv_iconst (v := (-1)) hx hb dX12_fits_66 (by decide +kernel) ?_
    exact W.iret (v := (-1)) hx hb hr (fun t ht hW => ⟨⟨(-1), (), rfl, Or.inl ⟨rfl, by omega⟩, trivial⟩, hS.F ht⟩) hS.2.2 dX12_fits_67
  · have c1i := (fa_eq _ _).mp c1
    have c1k : (-1 : Int32).toInt = -1 := (by decide +kernel)
    refine lv_aload_n hx hb dX12_fits_5 rfl (lv_at hl 0 rfl) ?_
    refine lv_iconst (v := (-1)) hx hb dX12_fits_6 (by decide +kernel) ?_
    have hPc := hP.sub (ws' := [((q 0), .inr (12, (mo q))), ((q 54), .inl (cI, 3, .inl (fun _ => 0))), ((q 4), .inl (cI, 2, .inl (fun _ => 0)))]) [0, 1, 2] rfl
    have hDc := hD.sub (ws' := [((q 0), .inr (12, (mo q))), ((q 54), .inl (cI, 3, .inl (fun _ => 0))), ((q 4), .inl (cI, 2, .inl (fun _ => 0)))]) [0, 1, 2] (by decide) rfl
    have hFc := va_free (wc := [((q 0), .inr (12, (mo q))), ((q 54), .inl (cI, 3, .inl (fun _ => 0))), ((q 4), .inl (cI, 2, .inl (fun _ => 0)))]) hD hS hA [0, 1, 2] rfl
    refine va_calli (va_runV (As := [.int (-1)]) (rest := []) ⟨hx, hb, hml, hown, hts⟩ (k_X12_fitting_147 l dC dI cB cI cJ cZ cQ H.size q) (cwV 1 hts g_p_X12_fits_3 rfl rfl rfl (by decide +kernel) ⟨Nat.le_of_ble_eq_true rfl, Nat.le_of_ble_eq_true rfl⟩) ⟨fun a U g mk Z => by obtain ⟨q0, q1, qP, qK, qD⟩ := Z; exact ⟨q0, q1, qP, va_K.moved (u := U) (U := U.calling g mk a) (Vm.Alike.refl U.vm) qK, qD⟩, va_recv hK hPc (ci := 12) (q0 := 0) rfl rfl, fun U hU hW => ⟨rfl, by rw [hU], by rw [hU]; exact hPc, va_K.moved hW.alike hK, hDc.weaken (fun _ _ _ _ => trivial)⟩⟩ rfl rfl hl.1 rfl (lv_room (Nat.le_of_ble_eq_true rfl)) dX12_fits_7 ⟨Nat.le_of_ble_eq_true rfl, Nat.le_of_ble_eq_true rfl⟩) hS (fun b _ h => hFc b h) hFc (fun r9 u8 t H1 locs ht hvm hw hB hz1 hk1 hS => ?_)
    obtain ⟨hP, hD⟩ := va_join (wr := []) (w1 := []) hP hD [0, 1, 2] [] rfl rfl (by decide) (by decide) hk1 hFc (fun k b h => by simp at h) ⟨fun i j p b h => by simp at h, fun k b h => by simp at h⟩
    clear hk1 hz1 hvm hPc hDc hFc
    generalize H1 = H at hP hS ⊢
    have hP : va_P (dC, dI) vwCl [] H := hP
    have hD : va_D A [] := hD
    subst hw
    exact W.iret (v := 1) hx hb hr (fun t ht hW => ⟨⟨1, (), rfl, Or.inr (⟨rfl, by omega⟩), trivial⟩, hS.F ht⟩) hS.2.2 dX12_fits_10
