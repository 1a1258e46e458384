def ws_k_X12_closedAll_96 : List Cond := .code yX12_closedAll cX12_closedAll 3 (some .int) :: ([.fieldLink RX12 58 "StackKeysModel" "doors" "[I", .fieldLink RX12 48 "StackKeysModel" "bank" "I"] ++ wsX120)
set_option maxHeartbeats 4000000 in
set_option maxRecDepth 100000 in
theorem k_X12_closedAll_96 (l : Launch) (dC : Nat → ClassId) (dI : Nat → Nat → Nat) (cB cI cJ cZ cQ : ClassId) (sz : Nat) (q : Nat → Nat) : Met l yX12_closedAll ws_k_X12_closedAll_96 ({ frames := 0, cells := 0, slots := 0, locals := 0 }) (va_Pc [.ref (q 0)] (fun U => U.heap.size = sz ∧ va_P (dC, dI) vwCl [((q 0), .inr (12, (mo q))), ((q 4), .inl (cI, 2, .inl (fun _ => 0)))] U.heap ∧ va_K (dC, dI) vwCl (tyA cB cI cJ cZ cQ) U ∧ va_D (fun _ => True) [((q 0), .inr (12, (mo q))), ((q 4), .inl (cI, 2, .inl (fun _ => 0)))])) (va_Qi (fun (r : Int32) (_ : Unit) => r = 0) (fun (u : Unit) t => va_P (dC, dI) vwCl [((q 0), .inr (12, (mo q))), ((q 4), .inl (cI, 2, .inl (fun _ => 0)))] t.heap ∧ va_K (dC, dI) vwCl (tyA cB cI cJ cZ cQ) t ∧ va_D (va_A [((q 0), .inr (12, (mo q))), ((q 4), .inl (cI, 2, .inl (fun _ => 0)))] sz) [((q 0), .inr (12, (mo q))), ((q 4), .inl (cI, 2, .inl (fun _ => 0)))]) (va_A [((q 0), .inr (12, (mo q))), ((q 4), .inl (cI, 2, .inl (fun _ => 0)))] sz)) 0 0 (va_A [((q 0), .inr (12, (mo q))), ((q 4), .inl (cI, 2, .inl (fun _ => 0)))] sz) := by
  refine Met.ofW (cc := cX12_closedAll) (maxL := 3) (ret := (some .int)) (by decide +kernel) rfl ?_
  intro p e s m args below meth c s₁ B hml hv
  obtain ⟨rfl, hsz, hP, hK, hD0⟩ := hv
  have hx := B.exec
  have hb := B.bytes
  have hr := B.returns
  have hts := atoms_spec (ws := ws_k_X12_closedAll_96) B.pre
  have hown : s.vm.findClass RX12 = some m.cls := findClass_of_methodNamed B.named
  have hiX12 : ∀ w ∈ u_ws RX12 TX12 85, w ∈ ws_k_X12_closedAll_96 := fun w h => List.mem_cons_of_mem _ (List.mem_append_right _ h)
  subst hsz
  have hD := hD0.self (sz := s.heap.size)
  generalize hAe : va_A [((q 0), .inr (12, (mo q))), ((q 4), .inl (cI, 2, .inl (fun _ => 0)))] s.heap.size = A at hD ⊢
  have hA : ∀ b : Nat, s.heap.size ≤ b → A b := fun b h => by rw [← hAe]; exact Or.inr h
  clear hD0 hAe
  have hS : va_S A s.heap s.heap [] := va_S.rf
  have hl := lv_entry ([.ref (q 0)]) (n := 3) (Nat.le_of_ble_eq_true rfl)
  rw [lg_entry_eq]
  generalize (lg_sl ([.ref (q 0)]) ++ List.replicate (3 - (lg_sl ([.ref (q 0)])).length) Slot.unset).toArray = ls at hl ⊢
  have hl : lv_has ls 3 [(0, .ref (q 0))] := hl
  obtain ⟨H, hHe⟩ : ∃ H : Heap, H = s.heap := ⟨_, rfl⟩
  rw [← hHe] at hP
  have hS : va_S A s.heap H [] := by rw [hHe]; exact hS
  rw [← hHe]
  refine lv_iconst (v := 0) hx hb dX12_closedAll_0 (by decide +kernel) ?_
  refine lv_istore_n (lv' := [(1, .int 0), (0, .ref (q 0))]) hx hb dX12_closedAll_1 rfl hl (by decide) rfl (fun ls hl => ?_)
  refine lv_iconst (v := 0) hx hb dX12_closedAll_2 (by decide +kernel) ?_
  refine lv_istore_n (lv' := [(2, .int 0), (1, .int 0), (0, .ref (q 0))]) hx hb dX12_closedAll_3 rfl hl (by decide) rfl (fun ls hl => ?_)
  refine lv_iload_n hx hb dX12_closedAll_4 rfl (lv_at hl 0 rfl) ?_
  refine lv_aload_n hx hb dX12_closedAll_5 rfl (lv_at hl 2 rfl) ?_
  refine va_get (D := (dC, dI)) (ci := 12) (v := .ref (q 4)) (C := RX12) (T := TX12) (N := 85) hx hb hts hiX12 hown hK hP 0 rfl rfl 15 (by decide) (hts _ (List.mem_of_getElem? (i := 1) rfl)) (fun _ h9 => h9) rfl dX12_closedAll_6 ?_
  refine lv_aload_n hx hb dX12_closedAll_9 rfl (lv_at hl 2 rfl) ?_
  refine va_get (D := (dC, dI)) (ci := 12) (v := .int 0) (C := RX12) (T := TX12) (N := 85) hx hb hts hiX12 hown hK hP 0 rfl rfl 12 (by decide) (hts _ (List.mem_of_getElem? (i := 2) rfl)) (fun _ h9 => h9) rfl dX12_closedAll_10 ?_
  refine va_iald hx hb hK hP 1 1 rfl rfl (vpc _ _ (by decide +kernel)) dX12_closedAll_13 ?_
  refine tp_i (y := 0) rfl ?_
  refine lv_icmp_ge (tgt := 39) hx hb dX12_closedAll_14 (by decide) (fun _ => ?_) (fun c => absurd c (by decide +kernel))
  refine lv_iload_n hx hb dX12_closedAll_39 rfl (lv_at hl 1 rfl) ?_
  have hP9 := hP.sub (ws' := [((q 0), .inr (12, (mo q))), ((q 4), .inl (cI, 2, .inl (fun _ => 0)))]) [0, 1] rfl
  have hD9 := hD.sub (ws' := [((q 0), .inr (12, (mo q))), ((q 4), .inl (cI, 2, .inl (fun _ => 0)))]) [0, 1] (by decide) rfl
  exact W.iret (v := 0) hx hb hr (fun t ht hW => ⟨⟨0, (), rfl, rfl, by rw [ht]; exact hP9, va_K.moved hW.alike hK, hD9⟩, hS.F ht⟩) hS.2.2 dX12_closedAll_40
def ws_p_X12_has : List Cond := .code yX12_has cX12_has 4 (some .int) :: ([.fieldLink RX12 51 "StackKeysModel" "places" "[I", .fieldLink RX12 48 "StackKeysModel" "bank" "I", .fieldLink RX12 58 "StackKeysModel" "doors" "[I", .fieldLink RX12 80 "StackKeysModel" "keys" "[I", .fieldLink RX12 95 "StackKeysModel" "persons" "[I", .fieldLink RX12 104 "StackKeysModel" "things" "[I", .fieldLink RX12 113 "StackKeysModel" "wants" "[I", .fieldLink RX12 122 "StackKeysModel" "musts" "[I", .fieldLink RX12 134 "StackKeysModel" "bars" "[I", .methodLink RX12 496 yX12_closedAll, .instanceMethod yX12_closedAll, .selects RX12 yX12_closedAll yX12_closedAll, .initialized RX12, .code yX12_closedAll cX12_closedAll 3 (some .int)] ++ wsX120)
set_option maxRecDepth 20000 in
theorem g_p_X12_has_0 : GoodIn ws_p_X12_has (wsV RX12 496 RX12 yX12_closedAll ws_k_X12_closedAll_96) := goodIn_r _ [10, 11, 12, 13, 14, 3, 2, 15, 16, 17, 18, 19, 20, 21, 22, 23, 24, 25, 26, 27, 28, 29, 30, 31, 32, 33, 34, 35, 36, 37, 38, 39, 40, 41, 42, 43, 44, 45, 46, 47, 48, 49, 50, 51, 52, 53, 54, 55, 56, 57, 58, 59, 60, 61, 62, 63, 64, 65, 66, 67, 68, 69, 70, 71, 72, 73, 74, 75, 76, 77, 78, 79, 80, 81, 82, 83, 84, 85, 86, 87, 88, 89, 90, 91, 92, 93, 94, 95, 96, 97, 98, 99] (by decide +kernel) (by decide +kernel)
set_option maxHeartbeats 4000000 in
set_option maxRecDepth 100000 in
theorem p_X12_has (l : Launch) (dC : Nat → ClassId) (dI : Nat → Nat → Nat) (cB cI cJ cZ cQ : ClassId) (sz : Nat) (q : Nat → Nat) (x0 : Int32) : Met l yX12_has ws_p_X12_has ({ frames := 1, cells := 0, slots := 0, locals := 22 }) (va_Pc [.ref (q 0), .int x0] (fun U => U.heap.size = sz ∧ va_P (dC, dI) vwCl [((q 0), .inr (12, (mo q))), ((q 2), .inl (cI, 2, .inl (fun _ => 0))), ((q 4), .inl (cI, 2, .inl (fun _ => 0))), ((q 11), .inl (cI, 2, .inl (fun _ => 0))), ((q 16), .inl (cI, 2, .inl (fun _ => 0))), ((q 19), .inl (cI, 2, .inl (fun _ => 0))), ((q 22), .inl (cI, 2, .inl (fun _ => 0))), ((q 25), .inl (cI, 2, .inl (fun _ => 0))), ((q 29), .inl (cI, 2, .inl (fun _ => 0)))] U.heap ∧ va_K (dC, dI) vwCl (tyA cB cI cJ cZ cQ) U ∧ va_D (fun _ => True) [((q 0), .inr (12, (mo q))), ((q 2), .inl (cI, 2, .inl (fun _ => 0))), ((q 4), .inl (cI, 2, .inl (fun _ => 0))), ((q 11), .inl (cI, 2, .inl (fun _ => 0))), ((q 16), .inl (cI, 2, .inl (fun _ => 0))), ((q 19), .inl (cI, 2, .inl (fun _ => 0))), ((q 22), .inl (cI, 2, .inl (fun _ => 0))), ((q 25), .inl (cI, 2, .inl (fun _ => 0))), ((q 29), .inl (cI, 2, .inl (fun _ => 0)))])) (va_Qi (fun (r : Int32) (_ : Unit) => (r = (-1) ∧ (((x0.toInt < 0 ∨ 9 < x0.toInt)))) ∨ (r = 0 ∧ ((x0.toInt = 0) ∨ (x0.toInt = 1) ∨ (x0.toInt = 2) ∨ (x0.toInt = 3) ∨ (x0.toInt = 4) ∨ (x0.toInt = 5) ∨ (x0.toInt = 6) ∨ (x0.toInt = 7) ∨ (x0.toInt = 8) ∨ (x0.toInt = 9)))) (fun (_ : Unit) _ => True) (va_A [((q 0), .inr (12, (mo q))), ((q 2), .inl (cI, 2, .inl (fun _ => 0))), ((q 4), .inl (cI, 2, .inl (fun _ => 0))), ((q 11), .inl (cI, 2, .inl (fun _ => 0))), ((q 16), .inl (cI, 2, .inl (fun _ => 0))), ((q 19), .inl (cI, 2, .inl (fun _ => 0))), ((q 22), .inl (cI, 2, .inl (fun _ => 0))), ((q 25), .inl (cI, 2, .inl (fun _ => 0))), ((q 29), .inl (cI, 2, .inl (fun _ => 0)))] sz)) 0 0 (va_A [((q 0), .inr (12, (mo q))), ((q 2), .inl (cI, 2, .inl (fun _ => 0))), ((q 4), .inl (cI, 2, .inl (fun _ => 0))), ((q 11), .inl (cI, 2, .inl (fun _ => 0))), ((q 16), .inl (cI, 2, .inl (fun _ => 0))), ((q 19), .inl (cI, 2, .inl (fun _ => 0))), ((q 22), .inl (cI, 2, .inl (fun _ => 0))), ((q 25), .inl (cI, 2, .inl (fun _ => 0))), ((q 29), .inl (cI, 2, .inl (fun _ => 0)))] sz) := by
  refine Met.ofW (cc := cX12_has) (maxL := 4) (ret := (some .int)) (by decide +kernel) rfl ?_
  intro p e s m args below meth c s₁ B hml hv
  obtain ⟨rfl, hsz, hP, hK, hD0⟩ := hv
  have hx := B.exec
  have hb := B.bytes
  have hr := B.returns
  have hts := atoms_spec (ws := ws_p_X12_has) B.pre
  have hown : s.vm.findClass RX12 = some m.cls := findClass_of_methodNamed B.named
  have hiX12 : ∀ w ∈ u_ws RX12 TX12 85, w ∈ ws_p_X12_has := fun w h => List.mem_cons_of_mem _ (List.mem_append_right _ h)
  subst hsz
  have hD := hD0.self (sz := s.heap.size)
  generalize hAe : va_A [((q 0), .inr (12, (mo q))), ((q 2), .inl (cI, 2, .inl (fun _ => 0))), ((q 4), .inl (cI, 2, .inl (fun _ => 0))), ((q 11), .inl (cI, 2, .inl (fun _ => 0))), ((q 16), .inl (cI, 2, .inl (fun _ => 0))), ((q 19), .inl (cI, 2, .inl (fun _ => 0))), ((q 22), .inl (cI, 2, .inl (fun _ => 0))), ((q 25), .inl (cI, 2, .inl (fun _ => 0))), ((q 29), .inl (cI, 2, .inl (fun _ => 0)))] s.heap.size = A at hD ⊢
  have hA : ∀ b : Nat, s.heap.size ≤ b → A b := fun b h => by rw [← hAe]; exact Or.inr h
  clear hD0 hAe
  have hS : va_S A s.heap s.heap [] := va_S.rf
  have hl := lv_entry ([.ref (q 0), .int x0]) (n := 4) (Nat.le_of_ble_eq_true rfl)
  rw [lg_entry_eq]
  generalize (lg_sl ([.ref (q 0), .int x0]) ++ List.replicate (4 - (lg_sl ([.ref (q 0), .int x0])).length) Slot.unset).toArray = ls at hl ⊢
  have hl : lv_has ls 4 [(0, .ref (q 0)), (1, .int x0)] := hl
  obtain ⟨H, hHe⟩ : ∃ H : Heap, H = s.heap := ⟨_, rfl⟩
  rw [← hHe] at hP
  have hS : va_S A s.heap H [] := by rw [hHe]; exact hS
  rw [← hHe]
  refine lv_iconst (v := 0) hx hb dX12_has_0 (by decide +kernel) ?_
  refine lv_istore_n (lv' := [(2, .int 0), (0, .ref (q 0)), (1, .int x0)]) hx hb dX12_has_1 rfl hl (by decide) rfl (fun ls hl => ?_)
  refine lv_iload_n hx hb dX12_has_2 rfl (lv_at hl 2 rfl) ?_
  by_cases c1 : x0.toInt < 0 ∨ 9 < x0.toInt
  · refine lv_tableOut (tgt := 180) hx hb dX12_has_3 c1 (by decide) ?_
    refine lv_iconst (v := (-1)) hx hb dX12_has_180 (by decide +kernel) ?_
    exact W.iret (v := (-1)) hx hb hr (fun t ht hW => ⟨⟨(-1), (), rfl, Or.inl ⟨rfl, by omega⟩, trivial⟩, hS.F ht⟩) hS.2.2 dX12_has_181
  rcases sw_0_9 (x := x0) (by omega) (by omega) with c1 | c1 | c1 | c1 | c1 | c1 | c1 | c1 | c1 | c1
  · have c1k : x0.toInt = 0 := by rw [c1]; decide +kernel
    refine tp_i (y := 0) c1 ?_
    refine lv_tableIn (off := 53) (tgt := 56) hx hb dX12_has_3 (by decide +kernel) (by decide +kernel) (by decide +kernel) (by decide) ?_
    refine lv_aload_n hx hb dX12_has_56 rfl (lv_at hl 1 rfl) ?_
    refine va_get (D := (dC, dI)) (ci := 12) (v := .ref (q 2)) (C := RX12) (T := TX12) (N := 85) hx hb hts hiX12 hown hK hP 0 rfl rfl 13 (by decide) (hts _ (List.mem_of_getElem? (i := 1) rfl)) (fun _ h9 => h9) rfl dX12_has_57 ?_
    refine lv_aload_n hx hb dX12_has_60 rfl (lv_at hl 1 rfl) ?_
    refine va_get (D := (dC, dI)) (ci := 12) (v := .int 0) (C := RX12) (T := TX12) (N := 85) hx hb hts hiX12 hown hK hP 0 rfl rfl 12 (by decide) (hts _ (List.mem_of_getElem? (i := 2) rfl)) (fun _ h9 => h9) rfl dX12_has_61 ?_
    refine va_iald hx hb hK hP 1 1 rfl rfl (vpc _ _ (by decide +kernel)) dX12_has_64 ?_
    refine tp_i (y := 0) rfl ?_
    exact W.iret (v := 0) hx hb hr (fun t ht hW => ⟨⟨0, (), rfl, Or.inr (⟨rfl, by omega⟩), trivial⟩, hS.F ht⟩) hS.2.2 dX12_has_65
  · have c1k : x0.toInt = 1 := by rw [c1]; decide +kernel
    refine tp_i (y := 1) c1 ?_
    refine lv_tableIn (off := 63) (tgt := 66) hx hb dX12_has_3 (by decide +kernel) (by decide +kernel) (by decide +kernel) (by decide) ?_
    refine lv_aload_n hx hb dX12_has_66 rfl (lv_at hl 1 rfl) ?_
    refine va_get (D := (dC, dI)) (ci := 12) (v := .ref (q 4)) (C := RX12) (T := TX12) (N := 85) hx hb hts hiX12 hown hK hP 0 rfl rfl 15 (by decide) (hts _ (List.mem_of_getElem? (i := 3) rfl)) (fun _ h9 => h9) rfl dX12_has_67 ?_
    refine lv_aload_n hx hb dX12_has_70 rfl (lv_at hl 1 rfl) ?_
    refine va_get (D := (dC, dI)) (ci := 12) (v := .int 0) (C := RX12) (T := TX12) (N := 85) hx hb hts hiX12 hown hK hP 0 rfl rfl 12 (by decide) (hts _ (List.mem_of_getElem? (i := 2) rfl)) (fun _ h9 => h9) rfl dX12_has_71 ?_
    refine va_iald hx hb hK hP 2 1 rfl rfl (vpc _ _ (by decide +kernel)) dX12_has_74 ?_
    refine tp_i (y := 0) rfl ?_
    exact W.iret (v := 0) hx hb hr (fun t ht hW => ⟨⟨0, (), rfl, Or.inr (⟨rfl, by omega⟩), trivial⟩, hS.F ht⟩) hS.2.2 dX12_has_75
  · have c1k : x0.toInt = 2 := by rw [c1]; decide +kernel
    refine tp_i (y := 2) c1 ?_
    refine lv_tableIn (off := 73) (tgt := 76) hx hb dX12_has_3 (by decide +kernel) (by decide +kernel) (by decide +kernel) (by decide) ?_
    refine lv_aload_n hx hb dX12_has_76 rfl (lv_at hl 1 rfl) ?_
    refine va_get (D := (dC, dI)) (ci := 12) (v := .ref (q 11)) (C := RX12) (T := TX12) (N := 85) hx hb hts hiX12 hown hK hP 0 rfl rfl 22 (by decide) (hts _ (List.mem_of_getElem? (i := 4) rfl)) (fun _ h9 => h9) rfl dX12_has_77 ?_
    refine lv_aload_n hx hb dX12_has_80 rfl (lv_at hl 1 rfl) ?_
    refine va_get (D := (dC, dI)) (ci := 12) (v := .int 0) (C := RX12) (T := TX12) (N := 85) hx hb hts hiX12 hown hK hP 0 rfl rfl 12 (by decide) (hts _ (List.mem_of_getElem? (i := 2) rfl)) (fun _ h9 => h9) rfl dX12_has_81 ?_
    refine va_iald hx hb hK hP 3 1 rfl rfl (vpc _ _ (by decide +kernel)) dX12_has_84 ?_
    refine tp_i (y := 0) rfl ?_
    exact W.iret (v := 0) hx hb hr (fun t ht hW => ⟨⟨0, (), rfl, Or.inr (⟨rfl, by omega⟩), trivial⟩, hS.F ht⟩) hS.2.2 dX12_has_85
  · have c1k : x0.toInt = 3 := by rw [c1]; decide +kernel
    refine tp_i (y := 3) c1 ?_
    refine lv_tableIn (off := 83) (tgt := 86) hx hb dX12_has_3 (by decide +kernel) (by decide +kernel) (by decide +kernel) (by decide) ?_
    refine lv_aload_n hx hb dX12_has_86 rfl (lv_at hl 1 rfl) ?_
    refine va_get (D := (dC, dI)) (ci := 12) (v := .ref (q 16)) (C := RX12) (T := TX12) (N := 85) hx hb hts hiX12 hown hK hP 0 rfl rfl 27 (by decide) (hts _ (List.mem_of_getElem? (i := 5) rfl)) (fun _ h9 => h9) rfl dX12_has_87 ?_
    refine lv_aload_n hx hb dX12_has_90 rfl (lv_at hl 1 rfl) ?_
    refine va_get (D := (dC, dI)) (ci := 12) (v := .int 0) (C := RX12) (T := TX12) (N := 85) hx hb hts hiX12 hown hK hP 0 rfl rfl 12 (by decide) (hts _ (List.mem_of_getElem? (i := 2) rfl)) (fun _ h9 => h9) rfl dX12_has_91 ?_
    refine va_iald hx hb hK hP 4 1 rfl rfl (vpc _ _ (by decide +kernel)) dX12_has_94 ?_
    refine tp_i (y := 0) rfl ?_
    exact W.iret (v := 0) hx hb hr (fun t ht hW => ⟨⟨0, (), rfl, Or.inr (⟨rfl, by omega⟩), trivial⟩, hS.F ht⟩) hS.2.2 dX12_has_95
  · have c1k : x0.toInt = 4 := by rw [c1]; decide +kernel
    refine tp_i (y := 4) c1 ?_
    refine lv_tableIn (off := 93) (tgt := 96) hx hb dX12_has_3 (by decide +kernel) (by decide +kernel) (by decide +kernel) (by decide) ?_
    refine lv_aload_n hx hb dX12_has_96 rfl (lv_at hl 1 rfl) ?_
    refine va_get (D := (dC, dI)) (ci := 12) (v := .ref (q 19)) (C := RX12) (T := TX12) (N := 85) hx hb hts hiX12 hown hK hP 0 rfl rfl 30 (by decide) (hts _ (List.mem_of_getElem? (i := 6) rfl)) (fun _ h9 => h9) rfl dX12_has_97 ?_
    refine lv_aload_n hx hb dX12_has_100 rfl (lv_at hl 1 rfl) ?_
    refine va_get (D := (dC, dI)) (ci := 12) (v := .int 0) (C := RX12) (T := TX12) (N := 85) hx hb hts hiX12 hown hK hP 0 rfl rfl 12 (by decide) (hts _ (List.mem_of_getElem? (i := 2) rfl)) (fun _ h9 => h9) rfl dX12_has_101 ?_
    refine va_iald hx hb hK hP 5 1 rfl rfl (vpc _ _ (by decide +kernel)) dX12_has_104 ?_
    refine tp_i (y := 0) rfl ?_
    exact W.iret (v := 0) hx hb hr (fun t ht hW => ⟨⟨0, (), rfl, Or.inr (⟨rfl, by omega⟩), trivial⟩, hS.F ht⟩) hS.2.2 dX12_has_105
  · have c1k : x0.toInt = 5 := by rw [c1]; decide +kernel
    refine tp_i (y := 5) c1 ?_
    refine lv_tableIn (off := 103) (tgt := 106) hx hb dX12_has_3 (by decide +kernel) (by decide +kernel) (by decide +kernel) (by decide) ?_
    refine lv_aload_n hx hb dX12_has_106 rfl (lv_at hl 1 rfl) ?_
    refine va_get (D := (dC, dI)) (ci := 12) (v := .ref (q 22)) (C := RX12) (T := TX12) (N := 85) hx hb hts hiX12 hown hK hP 0 rfl rfl 33 (by decide) (hts _ (List.mem_of_getElem? (i := 7) rfl)) (fun _ h9 => h9) rfl dX12_has_107 ?_
    refine lv_aload_n hx hb dX12_has_110 rfl (lv_at hl 1 rfl) ?_
    refine va_get (D := (dC, dI)) (ci := 12) (v := .int 0) (C := RX12) (T := TX12) (N := 85) hx hb hts hiX12 hown hK hP 0 rfl rfl 12 (by decide) (hts _ (List.mem_of_getElem? (i := 2) rfl)) (fun _ h9 => h9) rfl dX12_has_111 ?_
    refine va_iald hx hb hK hP 6 1 rfl rfl (vpc _ _ (by decide +kernel)) dX12_has_114 ?_
    refine tp_i (y := 0) rfl ?_
    exact W.iret (v := 0) hx hb hr (fun t ht hW => ⟨⟨0, (), rfl, Or.inr (⟨rfl, by omega⟩), trivial⟩, hS.F ht⟩) hS.2.2 dX12_has_115
  · have c1k : x0.toInt = 6 := by rw [c1]; decide +kernel
    refine tp_i (y := 6) c1 ?_
    refine lv_tableIn (off := 113) (tgt := 116) hx hb dX12_has_3 (by decide +kernel) (by decide +kernel) (by decide +kernel) (by decide) ?_
    refine lv_aload_n hx hb dX12_has_116 rfl (lv_at hl 1 rfl) ?_
    refine va_get (D := (dC, dI)) (ci := 12) (v := .ref (q 25)) (C := RX12) (T := TX12) (N := 85) hx hb hts hiX12 hown hK hP 0 rfl rfl 36 (by decide) (hts _ (List.mem_of_getElem? (i := 8) rfl)) (fun _ h9 => h9) rfl dX12_has_117 ?_
    refine lv_aload_n hx hb dX12_has_120 rfl (lv_at hl 1 rfl) ?_
    refine va_get (D := (dC, dI)) (ci := 12) (v := .int 0) (C := RX12) (T := TX12) (N := 85) hx hb hts hiX12 hown hK hP 0 rfl rfl 12 (by decide) (hts _ (List.mem_of_getElem? (i := 2) rfl)) (fun _ h9 => h9) rfl dX12_has_121 ?_
    refine va_iald hx hb hK hP 7 1 rfl rfl (vpc _ _ (by decide +kernel)) dX12_has_124 ?_
    refine tp_i (y := 0) rfl ?_
    exact W.iret (v := 0) hx hb hr (fun t ht hW => ⟨⟨0, (), rfl, Or.inr (⟨rfl, by omega⟩), trivial⟩, hS.F ht⟩) hS.2.2 dX12_has_125
  · have c1k : x0.toInt = 7 := by rw [c1]; decide +kernel
    refine tp_i (y := 7) c1 ?_
    refine lv_tableIn (off := 123) (tgt := 126) hx hb dX12_has_3 (by decide +kernel) (by decide +kernel) (by decide +kernel) (by decide) ?_
    refine lv_aload_n hx hb dX12_has_126 rfl (lv_at hl 1 rfl) ?_
    refine va_get (D := (dC, dI)) (ci := 12) (v := .ref (q 29)) (C := RX12) (T := TX12) (N := 85) hx hb hts hiX12 hown hK hP 0 rfl rfl 40 (by decide) (hts _ (List.mem_of_getElem? (i := 9) rfl)) (fun _ h9 => h9) rfl dX12_has_127 ?_
    refine lv_aload_n hx hb dX12_has_130 rfl (lv_at hl 1 rfl) ?_
    refine va_get (D := (dC, dI)) (ci := 12) (v := .int 0) (C := RX12) (T := TX12) (N := 85) hx hb hts hiX12 hown hK hP 0 rfl rfl 12 (by decide) (hts _ (List.mem_of_getElem? (i := 2) rfl)) (fun _ h9 => h9) rfl dX12_has_131 ?_
    refine va_iald hx hb hK hP 8 1 rfl rfl (vpc _ _ (by decide +kernel)) dX12_has_134 ?_
    refine tp_i (y := 0) rfl ?_
    exact W.iret (v := 0) hx hb hr (fun t ht hW => ⟨⟨0, (), rfl, Or.inr (⟨rfl, by omega⟩), trivial⟩, hS.F ht⟩) hS.2.2 dX12_has_135
  · have c1k : x0.toInt = 8 := by rw [c1]; decide +kernel
    refine tp_i (y := 8) c1 ?_
    refine lv_tableIn (off := 133) (tgt := 136) hx hb dX12_has_3 (by decide +kernel) (by decide +kernel) (by decide +kernel) (by decide) ?_
    refine lv_aload_n hx hb dX12_has_136 rfl (lv_at hl 1 rfl) ?_
    have hPc := hP.sub (ws' := [((q 0), .inr (12, (mo q))), ((q 4), .inl (cI, 2, .inl (fun _ => 0)))]) [0, 2] rfl
    have hDc := hD.sub (ws' := [((q 0), .inr (12, (mo q))), ((q 4), .inl (cI, 2, .inl (fun _ => 0)))]) [0, 2] (by decide) rfl
    have hFc := va_free (wc := [((q 0), .inr (12, (mo q))), ((q 4), .inl (cI, 2, .inl (fun _ => 0)))]) hD hS hA [0, 2] rfl
    refine va_calli (va_runV (As := []) (rest := []) ⟨hx, hb, hml, hown, hts⟩ (k_X12_closedAll_96 l dC dI cB cI cJ cZ cQ H.size q) (cwV 0 hts g_p_X12_has_0 rfl rfl rfl (by decide +kernel) ⟨Nat.le_of_ble_eq_true rfl, Nat.le_of_ble_eq_true rfl⟩) ⟨fun a U g mk Z => by obtain ⟨q0, q1, qP, qK, qD⟩ := Z; exact ⟨q0, q1, qP, va_K.moved (u := U) (U := U.calling g mk a) (Vm.Alike.refl U.vm) qK, qD⟩, va_recv hK hPc (ci := 12) (q0 := 0) rfl rfl, fun U hU hW => ⟨rfl, by rw [hU], by rw [hU]; exact hPc, va_K.moved hW.alike hK, hDc.weaken (fun _ _ _ _ => trivial)⟩⟩ rfl rfl hl.1 rfl (lv_room (Nat.le_of_ble_eq_true rfl)) dX12_has_137 ⟨Nat.le_of_ble_eq_true rfl, Nat.le_of_ble_eq_true rfl⟩) hS (fun b _ h => hFc b h) hFc (fun r3 u2 t H1 locs ht hvm hw hB hz1 hk1 hS => ?_)
    obtain ⟨hP1, hK1, hD1⟩ := hB
    rw [ht] at hP1
    obtain ⟨hP, hD⟩ := va_join (wr := [((q 2), .inl (cI, 2, .inl (fun _ => 0))), ((q 11), .inl (cI, 2, .inl (fun _ => 0))), ((q 16), .inl (cI, 2, .inl (fun _ => 0))), ((q 19), .inl (cI, 2, .inl (fun _ => 0))), ((q 22), .inl (cI, 2, .inl (fun _ => 0))), ((q 25), .inl (cI, 2, .inl (fun _ => 0))), ((q 29), .inl (cI, 2, .inl (fun _ => 0)))]) (w1 := [((q 0), .inr (12, (mo q))), ((q 4), .inl (cI, 2, .inl (fun _ => 0)))]) hP hD [0, 2] [1, 3, 4, 5, 6, 7, 8] rfl rfl (by decide) (by decide) hk1 hFc hP1 hD1
    clear hP1 hK1 hD1 hk1 hz1 hvm hPc hDc hFc
    generalize H1 = H at hP hS ⊢
    have hP : va_P (dC, dI) vwCl [((q 2), .inl (cI, 2, .inl (fun _ => 0))), ((q 11), .inl (cI, 2, .inl (fun _ => 0))), ((q 16), .inl (cI, 2, .inl (fun _ => 0))), ((q 19), .inl (cI, 2, .inl (fun _ => 0))), ((q 22), .inl (cI, 2, .inl (fun _ => 0))), ((q 25), .inl (cI, 2, .inl (fun _ => 0))), ((q 29), .inl (cI, 2, .inl (fun _ => 0))), ((q 0), .inr (12, (mo q))), ((q 4), .inl (cI, 2, .inl (fun _ => 0)))] H := hP
    have hD : va_D A [((q 2), .inl (cI, 2, .inl (fun _ => 0))), ((q 11), .inl (cI, 2, .inl (fun _ => 0))), ((q 16), .inl (cI, 2, .inl (fun _ => 0))), ((q 19), .inl (cI, 2, .inl (fun _ => 0))), ((q 22), .inl (cI, 2, .inl (fun _ => 0))), ((q 25), .inl (cI, 2, .inl (fun _ => 0))), ((q 29), .inl (cI, 2, .inl (fun _ => 0))), ((q 0), .inr (12, (mo q))), ((q 4), .inl (cI, 2, .inl (fun _ => 0)))] := hD
    subst hw
    exact W.iret (v := 0) hx hb hr (fun t ht hW => ⟨⟨0, (), rfl, Or.inr (⟨rfl, by omega⟩), trivial⟩, hS.F ht⟩) hS.2.2 dX12_has_140
  · have c1k : x0.toInt = 9 := by rw [c1]; decide +kernel
    refine tp_i (y := 9) c1 ?_
    refine lv_tableIn (off := 138) (tgt := 141) hx hb dX12_has_3 (by decide +kernel) (by decide +kernel) (by decide +kernel) (by decide) ?_
    refine lv_iconst (v := 0) hx hb dX12_has_141 (by decide +kernel) ?_
    refine lv_istore_n (lv' := [(3, .int 0), (2, .int 0), (0, .ref (q 0)), (1, .int x0)]) hx hb dX12_has_142 rfl hl (by decide) rfl (fun ls hl => ?_)
    refine lv_iload_n hx hb dX12_has_143 rfl (lv_at hl 0 rfl) ?_
    refine lv_aload_n hx hb dX12_has_144 rfl (lv_at hl 2 rfl) ?_
    refine va_get (D := (dC, dI)) (ci := 12) (v := .ref (q 4)) (C := RX12) (T := TX12) (N := 85) hx hb hts hiX12 hown hK hP 0 rfl rfl 15 (by decide) (hts _ (List.mem_of_getElem? (i := 3) rfl)) (fun _ h9 => h9) rfl dX12_has_145 ?_
    refine lv_aload_n hx hb dX12_has_148 rfl (lv_at hl 2 rfl) ?_
    refine va_get (D := (dC, dI)) (ci := 12) (v := .int 0) (C := RX12) (T := TX12) (N := 85) hx hb hts hiX12 hown hK hP 0 rfl rfl 12 (by decide) (hts _ (List.mem_of_getElem? (i := 2) rfl)) (fun _ h9 => h9) rfl dX12_has_149 ?_
    refine va_iald hx hb hK hP 2 1 rfl rfl (vpc _ _ (by decide +kernel)) dX12_has_152 ?_
    refine tp_i (y := 0) rfl ?_
    refine lv_icmp_ge (tgt := 178) hx hb dX12_has_153 (by decide) (fun _ => ?_) (fun c => absurd c (by decide +kernel))
    refine lv_iload_n hx hb dX12_has_178 rfl (lv_at hl 1 rfl) ?_
    exact W.iret (v := 0) hx hb hr (fun t ht hW => ⟨⟨0, (), rfl, Or.inr (⟨rfl, by omega⟩), trivial⟩, hS.F ht⟩) hS.2.2 dX12_has_179
