def ws_k_X12_is_98 : List Cond := .code yX12_is cX12_is 3 (some .boolean) :: ([])
set_option maxHeartbeats 4000000 in
set_option maxRecDepth 100000 in
theorem k_X12_is_98 (l : Launch) (dC : Nat → ClassId) (dI : Nat → Nat → Nat) (cB cI cJ cZ cQ : ClassId) (sz : Nat) (x0 : Int32) : Met l yX12_is ws_k_X12_is_98 ({ frames := 0, cells := 0, slots := 0, locals := 0 }) (va_Pc [.int x0, .int 0, .int 4] (fun U => U.heap.size = sz ∧ va_P (dC, dI) vwCl [] U.heap ∧ va_K (dC, dI) vwCl (tyA cB cI cJ cZ cQ) U ∧ va_D (fun _ => True) [])) (va_Qi (fun (r : Int32) (_ : Unit) => (r = 0 ∧ ((x0.toInt < 0) ∨ (x0.toInt ≥ 0 ∧ x0.toInt > 4))) ∨ (r = 1 ∧ ((x0.toInt ≥ 0 ∧ x0.toInt ≤ 4)))) (fun (u : Unit) t => va_P (dC, dI) vwCl [] t.heap ∧ va_K (dC, dI) vwCl (tyA cB cI cJ cZ cQ) t ∧ va_D (va_A [] sz) []) (va_A [] sz)) 0 0 (va_A [] sz) := by
  refine Met.ofW (cc := cX12_is) (maxL := 3) (ret := (some .boolean)) (by decide +kernel) rfl ?_
  intro p e s m args below meth c s₁ B hml hv
  obtain ⟨rfl, hsz, hP, hK, hD0⟩ := hv
  have hx := B.exec
  have hb := B.bytes
  have hr := B.returns
  have hts := atoms_spec (ws := ws_k_X12_is_98) B.pre
  have hown : s.vm.findClass RX12 = some m.cls := findClass_of_methodNamed B.named
  subst hsz
  have hD := hD0.self (sz := s.heap.size)
  generalize hAe : va_A [] s.heap.size = A at hD ⊢
  have hA : ∀ b : Nat, s.heap.size ≤ b → A b := fun b h => by rw [← hAe]; exact Or.inr h
  clear hD0 hAe
  have hS : va_S A s.heap s.heap [] := va_S.rf
  have hl := lv_entry ([.int x0, .int 0, .int 4]) (n := 3) (Nat.le_of_ble_eq_true rfl)
  rw [lg_entry_eq]
  generalize (lg_sl ([.int x0, .int 0, .int 4]) ++ List.replicate (3 - (lg_sl ([.int x0, .int 0, .int 4])).length) Slot.unset).toArray = ls at hl ⊢
  have hl : lv_has ls 3 [(0, .int x0), (1, .int 0), (2, .int 4)] := hl
  obtain ⟨H, hHe⟩ : ∃ H : Heap, H = s.heap := ⟨_, rfl⟩
  rw [← hHe] at hP
  have hS : va_S A s.heap H [] := by rw [hHe]; exact hS
  rw [← hHe]
  refine lv_iload_n hx hb dX12_is_0 rfl (lv_at hl 0 rfl) ?_
  refine lv_iload_n hx hb dX12_is_1 rfl (lv_at hl 1 rfl) ?_
  refine lv_icmp_lt (tgt := 14) hx hb dX12_is_2 (by decide) (fun c1 => ?_) (fun c1 => ?_)
  · have c1i := (fa_lt _ _).mp c1
    have c1k : (0 : Int32).toInt = 0 := (by decide +kernel)
    refine lv_iconst (v := 0) hx hb dX12_is_14 (by decide +kernel) ?_
    have hP9 := hP.sub (ws' := []) [] rfl
    have hD9 := hD.sub (ws' := []) [] (by decide) rfl
    exact W.zret (v := 0) hx hb hr (by decide +kernel) (fun t ht hW => ⟨⟨0, (), rfl, Or.inl ⟨rfl, by omega⟩, by rw [ht]; exact hP9, va_K.moved hW.alike hK, hD9⟩, hS.F ht⟩) hS.2.2 dX12_is_15
  · have c1i := mt (fa_lt _ _).mpr c1
    have c1k : (0 : Int32).toInt = 0 := (by decide +kernel)
    refine lv_iload_n hx hb dX12_is_5 rfl (lv_at hl 0 rfl) ?_
    refine lv_iload_n hx hb dX12_is_6 rfl (lv_at hl 2 rfl) ?_
    refine lv_icmp_gt (tgt := 14) hx hb dX12_is_7 (by decide) (fun c2 => ?_) (fun c2 => ?_)
    · have c2i := (fa_lt _ _).mp c2
      have c2k : (4 : Int32).toInt = 4 := (by decide +kernel)
      refine lv_iconst (v := 0) hx hb dX12_is_14 (by decide +kernel) ?_
      have hP9 := hP.sub (ws' := []) [] rfl
      have hD9 := hD.sub (ws' := []) [] (by decide) rfl
      exact W.zret (v := 0) hx hb hr (by decide +kernel) (fun t ht hW => ⟨⟨0, (), rfl, Or.inl ⟨rfl, by omega⟩, by rw [ht]; exact hP9, va_K.moved hW.alike hK, hD9⟩, hS.F ht⟩) hS.2.2 dX12_is_15
    · have c2i := mt (fa_lt _ _).mpr c2
      have c2k : (4 : Int32).toInt = 4 := (by decide +kernel)
      refine lv_iconst (v := 1) hx hb dX12_is_10 (by decide +kernel) ?_
      refine lv_goto (tgt := 15) hx hb dX12_is_11 (by decide) ?_
      have hP9 := hP.sub (ws' := []) [] rfl
      have hD9 := hD.sub (ws' := []) [] (by decide) rfl
      exact W.zret (v := 1) hx hb hr (by decide +kernel) (fun t ht hW => ⟨⟨1, (), rfl, Or.inr (⟨rfl, by omega⟩), by rw [ht]; exact hP9, va_K.moved hW.alike hK, hD9⟩, hS.F ht⟩) hS.2.2 dX12_is_15
def ws_k_X12_manyOf_99 : List Cond := .code yX12_manyOf cX12_manyOf 2 (some .int) :: ([.fieldLink RX12 104 "StackKeysModel" "things" "[I", .fieldLink RX12 48 "StackKeysModel" "bank" "I", .fieldLink RX12 95 "StackKeysModel" "persons" "[I", .fieldLink RX12 80 "StackKeysModel" "keys" "[I", .fieldLink RX12 58 "StackKeysModel" "doors" "[I", .fieldLink RX12 51 "StackKeysModel" "places" "[I"] ++ wsX120)
set_option maxHeartbeats 4000000 in
set_option maxRecDepth 100000 in
theorem k_X12_manyOf_99 (l : Launch) (dC : Nat → ClassId) (dI : Nat → Nat → Nat) (cB cI cJ cZ cQ : ClassId) (sz : Nat) (q : Nat → Nat) (x0 : Int32) : Met l yX12_manyOf ws_k_X12_manyOf_99 ({ frames := 0, cells := 0, slots := 0, locals := 0 }) (va_Pc [.ref (q 0), .int x0] (fun U => U.heap.size = sz ∧ va_P (dC, dI) vwCl [((q 0), .inr (12, (mo q))), ((q 19), .inl (cI, 2, .inl (fun _ => 0))), ((q 16), .inl (cI, 2, .inl (fun _ => 0))), ((q 11), .inl (cI, 2, .inl (fun _ => 0))), ((q 4), .inl (cI, 2, .inl (fun _ => 0))), ((q 2), .inl (cI, 2, .inl (fun _ => 0)))] U.heap ∧ va_K (dC, dI) vwCl (tyA cB cI cJ cZ cQ) U ∧ va_D (fun _ => True) [((q 0), .inr (12, (mo q))), ((q 19), .inl (cI, 2, .inl (fun _ => 0))), ((q 16), .inl (cI, 2, .inl (fun _ => 0))), ((q 11), .inl (cI, 2, .inl (fun _ => 0))), ((q 4), .inl (cI, 2, .inl (fun _ => 0))), ((q 2), .inl (cI, 2, .inl (fun _ => 0)))])) (va_Qi (fun (r : Int32) (_ : Unit) => r = 0) (fun (u : Unit) t => va_P (dC, dI) vwCl [((q 0), .inr (12, (mo q))), ((q 19), .inl (cI, 2, .inl (fun _ => 0))), ((q 16), .inl (cI, 2, .inl (fun _ => 0))), ((q 11), .inl (cI, 2, .inl (fun _ => 0))), ((q 4), .inl (cI, 2, .inl (fun _ => 0))), ((q 2), .inl (cI, 2, .inl (fun _ => 0)))] t.heap ∧ va_K (dC, dI) vwCl (tyA cB cI cJ cZ cQ) t ∧ va_D (va_A [((q 0), .inr (12, (mo q))), ((q 19), .inl (cI, 2, .inl (fun _ => 0))), ((q 16), .inl (cI, 2, .inl (fun _ => 0))), ((q 11), .inl (cI, 2, .inl (fun _ => 0))), ((q 4), .inl (cI, 2, .inl (fun _ => 0))), ((q 2), .inl (cI, 2, .inl (fun _ => 0)))] sz) [((q 0), .inr (12, (mo q))), ((q 19), .inl (cI, 2, .inl (fun _ => 0))), ((q 16), .inl (cI, 2, .inl (fun _ => 0))), ((q 11), .inl (cI, 2, .inl (fun _ => 0))), ((q 4), .inl (cI, 2, .inl (fun _ => 0))), ((q 2), .inl (cI, 2, .inl (fun _ => 0)))]) (va_A [((q 0), .inr (12, (mo q))), ((q 19), .inl (cI, 2, .inl (fun _ => 0))), ((q 16), .inl (cI, 2, .inl (fun _ => 0))), ((q 11), .inl (cI, 2, .inl (fun _ => 0))), ((q 4), .inl (cI, 2, .inl (fun _ => 0))), ((q 2), .inl (cI, 2, .inl (fun _ => 0)))] sz)) 0 0 (va_A [((q 0), .inr (12, (mo q))), ((q 19), .inl (cI, 2, .inl (fun _ => 0))), ((q 16), .inl (cI, 2, .inl (fun _ => 0))), ((q 11), .inl (cI, 2, .inl (fun _ => 0))), ((q 4), .inl (cI, 2, .inl (fun _ => 0))), ((q 2), .inl (cI, 2, .inl (fun _ => 0)))] sz) := by
  refine Met.ofW (cc := cX12_manyOf) (maxL := 2) (ret := (some .int)) (by decide +kernel) rfl ?_
  intro p e s m args below meth c s₁ B hml hv
  obtain ⟨rfl, hsz, hP, hK, hD0⟩ := hv
  have hx := B.exec
  have hb := B.bytes
  have hr := B.returns
  have hts := atoms_spec (ws := ws_k_X12_manyOf_99) B.pre
  have hown : s.vm.findClass RX12 = some m.cls := findClass_of_methodNamed B.named
  have hiX12 : ∀ w ∈ u_ws RX12 TX12 85, w ∈ ws_k_X12_manyOf_99 := fun w h => List.mem_cons_of_mem _ (List.mem_append_right _ h)
  subst hsz
  have hD := hD0.self (sz := s.heap.size)
  generalize hAe : va_A [((q 0), .inr (12, (mo q))), ((q 19), .inl (cI, 2, .inl (fun _ => 0))), ((q 16), .inl (cI, 2, .inl (fun _ => 0))), ((q 11), .inl (cI, 2, .inl (fun _ => 0))), ((q 4), .inl (cI, 2, .inl (fun _ => 0))), ((q 2), .inl (cI, 2, .inl (fun _ => 0)))] s.heap.size = A at hD ⊢
  have hA : ∀ b : Nat, s.heap.size ≤ b → A b := fun b h => by rw [← hAe]; exact Or.inr h
  clear hD0 hAe
  have hS : va_S A s.heap s.heap [] := va_S.rf
  have hl := lv_entry ([.ref (q 0), .int x0]) (n := 2) (Nat.le_of_ble_eq_true rfl)
  rw [lg_entry_eq]
  generalize (lg_sl ([.ref (q 0), .int x0]) ++ List.replicate (2 - (lg_sl ([.ref (q 0), .int x0])).length) Slot.unset).toArray = ls at hl ⊢
  have hl : lv_has ls 2 [(0, .ref (q 0)), (1, .int x0)] := hl
  obtain ⟨H, hHe⟩ : ∃ H : Heap, H = s.heap := ⟨_, rfl⟩
  rw [← hHe] at hP
  have hS : va_S A s.heap H [] := by rw [hHe]; exact hS
  rw [← hHe]
  refine lv_iload_n hx hb dX12_manyOf_0 rfl (lv_at hl 1 rfl) ?_
  refine lv_if_ne (tgt := 16) hx hb dX12_manyOf_1 (by decide) (fun c1 => ?_) (fun c1 => ?_)
  · have c1i := mt (fa_eq _ _).mpr c1
    have c1k : (0 : Int32).toInt = 0 := (by decide +kernel)
    refine lv_iload_n hx hb dX12_manyOf_16 rfl (lv_at hl 1 rfl) ?_
    refine lv_iconst (v := 1) hx hb dX12_manyOf_17 (by decide +kernel) ?_
    refine lv_icmp_ne (tgt := 33) hx hb dX12_manyOf_18 (by decide) (fun c2 => ?_) (fun c2 => ?_)
    · have c2i := mt (fa_eq _ _).mpr c2
      have c2k : (1 : Int32).toInt = 1 := (by decide +kernel)
      refine lv_iload_n hx hb dX12_manyOf_33 rfl (lv_at hl 1 rfl) ?_
      refine lv_iconst (v := 2) hx hb dX12_manyOf_34 (by decide +kernel) ?_
      refine lv_icmp_ne (tgt := 50) hx hb dX12_manyOf_35 (by decide) (fun c3 => ?_) (fun c3 => ?_)
      · have c3i := mt (fa_eq _ _).mpr c3
        have c3k : (2 : Int32).toInt = 2 := (by decide +kernel)
        refine lv_iload_n hx hb dX12_manyOf_50 rfl (lv_at hl 1 rfl) ?_
        refine lv_iconst (v := 3) hx hb dX12_manyOf_51 (by decide +kernel) ?_
        refine lv_icmp_ne (tgt := 67) hx hb dX12_manyOf_52 (by decide) (fun c4 => ?_) (fun c4 => ?_)
        · have c4i := mt (fa_eq _ _).mpr c4
          have c4k : (3 : Int32).toInt = 3 := (by decide +kernel)
          refine lv_aload_n hx hb dX12_manyOf_67 rfl (lv_at hl 0 rfl) ?_
          refine va_get (D := (dC, dI)) (ci := 12) (v := .ref (q 19)) (C := RX12) (T := TX12) (N := 85) hx hb hts hiX12 hown hK hP 0 rfl rfl 30 (by decide) (hts _ (List.mem_of_getElem? (i := 1) rfl)) (fun _ h9 => h9) rfl dX12_manyOf_68 ?_
          refine lv_aload_n hx hb dX12_manyOf_71 rfl (lv_at hl 0 rfl) ?_
          refine va_get (D := (dC, dI)) (ci := 12) (v := .int 0) (C := RX12) (T := TX12) (N := 85) hx hb hts hiX12 hown hK hP 0 rfl rfl 12 (by decide) (hts _ (List.mem_of_getElem? (i := 2) rfl)) (fun _ h9 => h9) rfl dX12_manyOf_72 ?_
          refine va_iald hx hb hK hP 1 1 rfl rfl (vpc _ _ (by decide +kernel)) dX12_manyOf_75 ?_
          refine tp_i (y := 0) rfl ?_
          have hP9 := hP.sub (ws' := [((q 0), .inr (12, (mo q))), ((q 19), .inl (cI, 2, .inl (fun _ => 0))), ((q 16), .inl (cI, 2, .inl (fun _ => 0))), ((q 11), .inl (cI, 2, .inl (fun _ => 0))), ((q 4), .inl (cI, 2, .inl (fun _ => 0))), ((q 2), .inl (cI, 2, .inl (fun _ => 0)))]) [0, 1, 2, 3, 4, 5] rfl
          have hD9 := hD.sub (ws' := [((q 0), .inr (12, (mo q))), ((q 19), .inl (cI, 2, .inl (fun _ => 0))), ((q 16), .inl (cI, 2, .inl (fun _ => 0))), ((q 11), .inl (cI, 2, .inl (fun _ => 0))), ((q 4), .inl (cI, 2, .inl (fun _ => 0))), ((q 2), .inl (cI, 2, .inl (fun _ => 0)))]) [0, 1, 2, 3, 4, 5] (by decide) rfl
          exact W.iret (v := 0) hx hb hr (fun t ht hW => ⟨⟨0, (), rfl, rfl, by rw [ht]; exact hP9, va_K.moved hW.alike hK, hD9⟩, hS.F ht⟩) hS.2.2 dX12_manyOf_76
        · have c4i := (fa_eq _ _).mp c4
          have c4k : (3 : Int32).toInt = 3 := (by decide +kernel)
          refine lv_aload_n hx hb dX12_manyOf_55 rfl (lv_at hl 0 rfl) ?_
          refine va_get (D := (dC, dI)) (ci := 12) (v := .ref (q 16)) (C := RX12) (T := TX12) (N := 85) hx hb hts hiX12 hown hK hP 0 rfl rfl 27 (by decide) (hts _ (List.mem_of_getElem? (i := 3) rfl)) (fun _ h9 => h9) rfl dX12_manyOf_56 ?_
          refine lv_aload_n hx hb dX12_manyOf_59 rfl (lv_at hl 0 rfl) ?_
          refine va_get (D := (dC, dI)) (ci := 12) (v := .int 0) (C := RX12) (T := TX12) (N := 85) hx hb hts hiX12 hown hK hP 0 rfl rfl 12 (by decide) (hts _ (List.mem_of_getElem? (i := 2) rfl)) (fun _ h9 => h9) rfl dX12_manyOf_60 ?_
          refine va_iald hx hb hK hP 2 1 rfl rfl (vpc _ _ (by decide +kernel)) dX12_manyOf_63 ?_
          refine tp_i (y := 0) rfl ?_
          refine lv_goto (tgt := 76) hx hb dX12_manyOf_64 (by decide) ?_
          have hP9 := hP.sub (ws' := [((q 0), .inr (12, (mo q))), ((q 19), .inl (cI, 2, .inl (fun _ => 0))), ((q 16), .inl (cI, 2, .inl (fun _ => 0))), ((q 11), .inl (cI, 2, .inl (fun _ => 0))), ((q 4), .inl (cI, 2, .inl (fun _ => 0))), ((q 2), .inl (cI, 2, .inl (fun _ => 0)))]) [0, 1, 2, 3, 4, 5] rfl
          have hD9 := hD.sub (ws' := [((q 0), .inr (12, (mo q))), ((q 19), .inl (cI, 2, .inl (fun _ => 0))), ((q 16), .inl (cI, 2, .inl (fun _ => 0))), ((q 11), .inl (cI, 2, .inl (fun _ => 0))), ((q 4), .inl (cI, 2, .inl (fun _ => 0))), ((q 2), .inl (cI, 2, .inl (fun _ => 0)))]) [0, 1, 2, 3, 4, 5] (by decide) rfl
          exact W.iret (v := 0) hx hb hr (fun t ht hW => ⟨⟨0, (), rfl, rfl, by rw [ht]; exact hP9, va_K.moved hW.alike hK, hD9⟩, hS.F ht⟩) hS.2.2 dX12_manyOf_76
      · have c3i := (fa_eq _ _).mp c3
        have c3k : (2 : Int32).toInt = 2 := (by decide +kernel)
        refine lv_aload_n hx hb dX12_manyOf_38 rfl (lv_at hl 0 rfl) ?_
        refine va_get (D := (dC, dI)) (ci := 12) (v := .ref (q 11)) (C := RX12) (T := TX12) (N := 85) hx hb hts hiX12 hown hK hP 0 rfl rfl 22 (by decide) (hts _ (List.mem_of_getElem? (i := 4) rfl)) (fun _ h9 => h9) rfl dX12_manyOf_39 ?_
        refine lv_aload_n hx hb dX12_manyOf_42 rfl (lv_at hl 0 rfl) ?_
        refine va_get (D := (dC, dI)) (ci := 12) (v := .int 0) (C := RX12) (T := TX12) (N := 85) hx hb hts hiX12 hown hK hP 0 rfl rfl 12 (by decide) (hts _ (List.mem_of_getElem? (i := 2) rfl)) (fun _ h9 => h9) rfl dX12_manyOf_43 ?_
        refine va_iald hx hb hK hP 3 1 rfl rfl (vpc _ _ (by decide +kernel)) dX12_manyOf_46 ?_
        refine tp_i (y := 0) rfl ?_
        refine lv_goto (tgt := 76) hx hb dX12_manyOf_47 (by decide) ?_
        have hP9 := hP.sub (ws' := [((q 0), .inr (12, (mo q))), ((q 19), .inl (cI, 2, .inl (fun _ => 0))), ((q 16), .inl (cI, 2, .inl (fun _ => 0))), ((q 11), .inl (cI, 2, .inl (fun _ => 0))), ((q 4), .inl (cI, 2, .inl (fun _ => 0))), ((q 2), .inl (cI, 2, .inl (fun _ => 0)))]) [0, 1, 2, 3, 4, 5] rfl
        have hD9 := hD.sub (ws' := [((q 0), .inr (12, (mo q))), ((q 19), .inl (cI, 2, .inl (fun _ => 0))), ((q 16), .inl (cI, 2, .inl (fun _ => 0))), ((q 11), .inl (cI, 2, .inl (fun _ => 0))), ((q 4), .inl (cI, 2, .inl (fun _ => 0))), ((q 2), .inl (cI, 2, .inl (fun _ => 0)))]) [0, 1, 2, 3, 4, 5] (by decide) rfl
        exact W.iret (v := 0) hx hb hr (fun t ht hW => ⟨⟨0, (), rfl, rfl, by rw [ht]; exact hP9, va_K.moved hW.alike hK, hD9⟩, hS.F ht⟩) hS.2.2 dX12_manyOf_76
    · have c2i := (fa_eq _ _).mp c2
      have c2k : (1 : Int32).toInt = 1 := (by decide +kernel)
      refine lv_aload_n hx hb dX12_manyOf_21 rfl (lv_at hl 0 rfl) ?_
      refine va_get (D := (dC, dI)) (ci := 12) (v := .ref (q 4)) (C := RX12) (T := TX12) (N := 85) hx hb hts hiX12 hown hK hP 0 rfl rfl 15 (by decide) (hts _ (List.mem_of_getElem? (i := 5) rfl)) (fun _ h9 => h9) rfl dX12_manyOf_22 ?_
      refine lv_aload_n hx hb dX12_manyOf_25 rfl (lv_at hl 0 rfl) ?_
      refine va_get (D := (dC, dI)) (ci := 12) (v := .int 0) (C := RX12) (T := TX12) (N := 85) hx hb hts hiX12 hown hK hP 0 rfl rfl 12 (by decide) (hts _ (List.mem_of_getElem? (i := 2) rfl)) (fun _ h9 => h9) rfl dX12_manyOf_26 ?_
      refine va_iald hx hb hK hP 4 1 rfl rfl (vpc _ _ (by decide +kernel)) dX12_manyOf_29 ?_
      refine tp_i (y := 0) rfl ?_
      refine lv_goto (tgt := 76) hx hb dX12_manyOf_30 (by decide) ?_
      have hP9 := hP.sub (ws' := [((q 0), .inr (12, (mo q))), ((q 19), .inl (cI, 2, .inl (fun _ => 0))), ((q 16), .inl (cI, 2, .inl (fun _ => 0))), ((q 11), .inl (cI, 2, .inl (fun _ => 0))), ((q 4), .inl (cI, 2, .inl (fun _ => 0))), ((q 2), .inl (cI, 2, .inl (fun _ => 0)))]) [0, 1, 2, 3, 4, 5] rfl
      have hD9 := hD.sub (ws' := [((q 0), .inr (12, (mo q))), ((q 19), .inl (cI, 2, .inl (fun _ => 0))), ((q 16), .inl (cI, 2, .inl (fun _ => 0))), ((q 11), .inl (cI, 2, .inl (fun _ => 0))), ((q 4), .inl (cI, 2, .inl (fun _ => 0))), ((q 2), .inl (cI, 2, .inl (fun _ => 0)))]) [0, 1, 2, 3, 4, 5] (by decide) rfl
      exact W.iret (v := 0) hx hb hr (fun t ht hW => ⟨⟨0, (), rfl, rfl, by rw [ht]; exact hP9, va_K.moved hW.alike hK, hD9⟩, hS.F ht⟩) hS.2.2 dX12_manyOf_76
  · have c1i := (fa_eq _ _).mp c1
    have c1k : (0 : Int32).toInt = 0 := (by decide +kernel)
    refine lv_aload_n hx hb dX12_manyOf_4 rfl (lv_at hl 0 rfl) ?_
    refine va_get (D := (dC, dI)) (ci := 12) (v := .ref (q 2)) (C := RX12) (T := TX12) (N := 85) hx hb hts hiX12 hown hK hP 0 rfl rfl 13 (by decide) (hts _ (List.mem_of_getElem? (i := 6) rfl)) (fun _ h9 => h9) rfl dX12_manyOf_5 ?_
    refine lv_aload_n hx hb dX12_manyOf_8 rfl (lv_at hl 0 rfl) ?_
    refine va_get (D := (dC, dI)) (ci := 12) (v := .int 0) (C := RX12) (T := TX12) (N := 85) hx hb hts hiX12 hown hK hP 0 rfl rfl 12 (by decide) (hts _ (List.mem_of_getElem? (i := 2) rfl)) (fun _ h9 => h9) rfl dX12_manyOf_9 ?_
    refine va_iald hx hb hK hP 5 1 rfl rfl (vpc _ _ (by decide +kernel)) dX12_manyOf_12 ?_
    refine tp_i (y := 0) rfl ?_
    refine lv_goto (tgt := 76) hx hb dX12_manyOf_13 (by decide) ?_
    have hP9 := hP.sub (ws' := [((q 0), .inr (12, (mo q))), ((q 19), .inl (cI, 2, .inl (fun _ => 0))), ((q 16), .inl (cI, 2, .inl (fun _ => 0))), ((q 11), .inl (cI, 2, .inl (fun _ => 0))), ((q 4), .inl (cI, 2, .inl (fun _ => 0))), ((q 2), .inl (cI, 2, .inl (fun _ => 0)))]) [0, 1, 2, 3, 4, 5] rfl
    have hD9 := hD.sub (ws' := [((q 0), .inr (12, (mo q))), ((q 19), .inl (cI, 2, .inl (fun _ => 0))), ((q 16), .inl (cI, 2, .inl (fun _ => 0))), ((q 11), .inl (cI, 2, .inl (fun _ => 0))), ((q 4), .inl (cI, 2, .inl (fun _ => 0))), ((q 2), .inl (cI, 2, .inl (fun _ => 0)))]) [0, 1, 2, 3, 4, 5] (by decide) rfl
    exact W.iret (v := 0) hx hb hr (fun t ht hW => ⟨⟨0, (), rfl, rfl, by rw [ht]; exact hP9, va_K.moved hW.alike hK, hD9⟩, hS.F ht⟩) hS.2.2 dX12_manyOf_76
def ws_k_X12_is_100 : List Cond := .code yX12_is cX12_is 3 (some .boolean) :: ([])
set_option maxHeartbeats 4000000 in
set_option maxRecDepth 100000 in
theorem k_X12_is_100 (l : Launch) (dC : Nat → ClassId) (dI : Nat → Nat → Nat) (cB cI cJ cZ cQ : ClassId) (sz : Nat) (x0 : Int32) : Met l yX12_is ws_k_X12_is_100 ({ frames := 0, cells := 0, slots := 0, locals := 0 }) (va_Pc [.int x0, .int 0, .int (-1)] (fun U => U.heap.size = sz ∧ va_P (dC, dI) vwCl [] U.heap ∧ va_K (dC, dI) vwCl (tyA cB cI cJ cZ cQ) U ∧ va_D (fun _ => True) [])) (va_Qi (fun (r : Int32) (_ : Unit) => r = 0) (fun (u : Unit) t => va_P (dC, dI) vwCl [] t.heap ∧ va_K (dC, dI) vwCl (tyA cB cI cJ cZ cQ) t ∧ va_D (va_A [] sz) []) (va_A [] sz)) 0 0 (va_A [] sz) := by
  refine Met.ofW (cc := cX12_is) (maxL := 3) (ret := (some .boolean)) (by decide +kernel) rfl ?_
  intro p e s m args below meth c s₁ B hml hv
  obtain ⟨rfl, hsz, hP, hK, hD0⟩ := hv
  have hx := B.exec
  have hb := B.bytes
  have hr := B.returns
  have hts := atoms_spec (ws := ws_k_X12_is_100) B.pre
  have hown : s.vm.findClass RX12 = some m.cls := findClass_of_methodNamed B.named
  subst hsz
  have hD := hD0.self (sz := s.heap.size)
  generalize hAe : va_A [] s.heap.size = A at hD ⊢
  have hA : ∀ b : Nat, s.heap.size ≤ b → A b := fun b h => by rw [← hAe]; exact Or.inr h
  clear hD0 hAe
  have hS : va_S A s.heap s.heap [] := va_S.rf
  have hl := lv_entry ([.int x0, .int 0, .int (-1)]) (n := 3) (Nat.le_of_ble_eq_true rfl)
  rw [lg_entry_eq]
  generalize (lg_sl ([.int x0, .int 0, .int (-1)]) ++ List.replicate (3 - (lg_sl ([.int x0, .int 0, .int (-1)])).length) Slot.unset).toArray = ls at hl ⊢
  have hl : lv_has ls 3 [(0, .int x0), (1, .int 0), (2, .int (-1))] := hl
  obtain ⟨H, hHe⟩ : ∃ H : Heap, H = s.heap := ⟨_, rfl⟩
  rw [← hHe] at hP
  have hS : va_S A s.heap H [] := by rw [hHe]; exact hS
  rw [← hHe]
  refine lv_iload_n hx hb dX12_is_0 rfl (lv_at hl 0 rfl) ?_
  refine lv_iload_n hx hb dX12_is_1 rfl (lv_at hl 1 rfl) ?_
  refine lv_icmp_lt (tgt := 14) hx hb dX12_is_2 (by decide) (fun c1 => ?_) (fun c1 => ?_)
  · have c1i := (fa_lt _ _).mp c1
    have c1k : (0 : Int32).toInt = 0 := (by decide +kernel)
    refine lv_iconst (v := 0) hx hb dX12_is_14 (by decide +kernel) ?_
    have hP9 := hP.sub (ws' := []) [] rfl
    have hD9 := hD.sub (ws' := []) [] (by decide) rfl
    exact W.zret (v := 0) hx hb hr (by decide +kernel) (fun t ht hW => ⟨⟨0, (), rfl, rfl, by rw [ht]; exact hP9, va_K.moved hW.alike hK, hD9⟩, hS.F ht⟩) hS.2.2 dX12_is_15
  · have c1i := mt (fa_lt _ _).mpr c1
    have c1k : (0 : Int32).toInt = 0 := (by decide +kernel)
    refine lv_iload_n hx hb dX12_is_5 rfl (lv_at hl 0 rfl) ?_
    refine lv_iload_n hx hb dX12_is_6 rfl (lv_at hl 2 rfl) ?_
    refine lv_icmp_gt (tgt := 14) hx hb dX12_is_7 (by decide) (fun _ => ?_) (fun c2 => False.elim (by have c2i := mt (fa_lt _ _).mpr c2; have c2k : (-1 : Int32).toInt = -1 := (by decide +kernel); omega))
    refine lv_iconst (v := 0) hx hb dX12_is_14 (by decide +kernel) ?_
    have hP9 := hP.sub (ws' := []) [] rfl
    have hD9 := hD.sub (ws' := []) [] (by decide) rfl
    exact W.zret (v := 0) hx hb hr (by decide +kernel) (fun t ht hW => ⟨⟨0, (), rfl, rfl, by rw [ht]; exact hP9, va_K.moved hW.alike hK, hD9⟩, hS.F ht⟩) hS.2.2 dX12_is_15
def ws_p_X12_letter : List Cond := .code yX12_letter cX12_letter 9 (some .int) :: ([.methodLink RX12 352 yX12_is, .static yX12_is, .initialized RX12, .code yX12_is cX12_is 3 (some .boolean), .methodLink RX12 502 yX12_manyOf, .instanceMethod yX12_manyOf, .selects RX12 yX12_manyOf yX12_manyOf, .code yX12_manyOf cX12_manyOf 2 (some .int), .fieldLink RX12 104 "StackKeysModel" "things" "[I", .fieldLink RX12 48 "StackKeysModel" "bank" "I", .fieldLink RX12 95 "StackKeysModel" "persons" "[I", .fieldLink RX12 80 "StackKeysModel" "keys" "[I", .fieldLink RX12 58 "StackKeysModel" "doors" "[I", .fieldLink RX12 51 "StackKeysModel" "places" "[I"] ++ wsX120)
set_option maxRecDepth 20000 in
theorem g_p_X12_letter_0 : GoodIn ws_p_X12_letter (va_wsS RX12 352 yX12_is ws_k_X12_is_98) := goodIn_r _ [1, 2, 3, 4] (by decide +kernel) (by decide +kernel)
set_option maxRecDepth 20000 in
theorem g_p_X12_letter_1 : GoodIn ws_p_X12_letter (wsV RX12 502 RX12 yX12_manyOf ws_k_X12_manyOf_99) := goodIn_r _ [5, 6, 7, 3, 8, 9, 10, 11, 12, 13, 14, 15, 16, 17, 18, 19, 20, 21, 22, 23, 24, 25, 26, 27, 28, 29, 30, 31, 32, 33, 34, 35, 36, 37, 38, 39, 40, 41, 42, 43, 44, 45, 46, 47, 48, 49, 50, 51, 52, 53, 54, 55, 56, 57, 58, 59, 60, 61, 62, 63, 64, 65, 66, 67, 68, 69, 70, 71, 72, 73, 74, 75, 76, 77, 78, 79, 80, 81, 82, 83, 84, 85, 86, 87, 88, 89, 90, 91, 92, 93, 94, 95, 96, 97, 98, 99] (by decide +kernel) (by decide +kernel)
set_option maxRecDepth 20000 in
theorem g_p_X12_letter_2 : GoodIn ws_p_X12_letter (va_wsS RX12 352 yX12_is ws_k_X12_is_100) := goodIn_r _ [1, 2, 3, 4] (by decide +kernel) (by decide +kernel)
set_option maxHeartbeats 4000000 in
set_option maxRecDepth 100000 in
theorem p_X12_letter (l : Launch) (dC : Nat → ClassId) (dI : Nat → Nat → Nat) (cB cI cJ cZ cQ : ClassId) (sz : Nat) (q : Nat → Nat) (x0 x1 x2 : Int32) : Met l yX12_letter ws_p_X12_letter ({ frames := 1, cells := 0, slots := 0, locals := 22 }) (va_Pc [.ref (q 0), .int x0, .int x1, .int x2] (fun U => U.heap.size = sz ∧ va_P (dC, dI) vwCl [((q 0), .inr (12, (mo q))), ((q 19), .inl (cI, 2, .inl (fun _ => 0))), ((q 16), .inl (cI, 2, .inl (fun _ => 0))), ((q 11), .inl (cI, 2, .inl (fun _ => 0))), ((q 4), .inl (cI, 2, .inl (fun _ => 0))), ((q 2), .inl (cI, 2, .inl (fun _ => 0)))] U.heap ∧ va_K (dC, dI) vwCl (tyA cB cI cJ cZ cQ) U ∧ va_D (fun _ => True) [((q 0), .inr (12, (mo q))), ((q 19), .inl (cI, 2, .inl (fun _ => 0))), ((q 16), .inl (cI, 2, .inl (fun _ => 0))), ((q 11), .inl (cI, 2, .inl (fun _ => 0))), ((q 4), .inl (cI, 2, .inl (fun _ => 0))), ((q 2), .inl (cI, 2, .inl (fun _ => 0)))])) (va_Qi (fun (r : Int32) (_ : Unit) => r = (-1)) (fun (_ : Unit) _ => True) (va_A [((q 0), .inr (12, (mo q))), ((q 19), .inl (cI, 2, .inl (fun _ => 0))), ((q 16), .inl (cI, 2, .inl (fun _ => 0))), ((q 11), .inl (cI, 2, .inl (fun _ => 0))), ((q 4), .inl (cI, 2, .inl (fun _ => 0))), ((q 2), .inl (cI, 2, .inl (fun _ => 0)))] sz)) 0 0 (va_A [((q 0), .inr (12, (mo q))), ((q 19), .inl (cI, 2, .inl (fun _ => 0))), ((q 16), .inl (cI, 2, .inl (fun _ => 0))), ((q 11), .inl (cI, 2, .inl (fun _ => 0))), ((q 4), .inl (cI, 2, .inl (fun _ => 0))), ((q 2), .inl (cI, 2, .inl (fun _ => 0)))] sz) := by
  refine Met.ofW (cc := cX12_letter) (maxL := 9) (ret := (some .int)) (by decide +kernel) rfl ?_
  intro p e s m args below meth c s₁ B hml hv
  obtain ⟨rfl, hsz, hP, hK, hD0⟩ := hv
  have hx := B.exec
  have hb := B.bytes
  have hr := B.returns
  have hts := atoms_spec (ws := ws_p_X12_letter) B.pre
  have hown : s.vm.findClass RX12 = some m.cls := findClass_of_methodNamed B.named
  have hiX12 : ∀ w ∈ u_ws RX12 TX12 85, w ∈ ws_p_X12_letter := fun w h => List.mem_cons_of_mem _ (List.mem_append_right _ h)
  subst hsz
  have hD := hD0.self (sz := s.heap.size)
  generalize hAe : va_A [((q 0), .inr (12, (mo q))), ((q 19), .inl (cI, 2, .inl (fun _ => 0))), ((q 16), .inl (cI, 2, .inl (fun _ => 0))), ((q 11), .inl (cI, 2, .inl (fun _ => 0))), ((q 4), .inl (cI, 2, .inl (fun _ => 0))), ((q 2), .inl (cI, 2, .inl (fun _ => 0)))] s.heap.size = A at hD ⊢
  have hA : ∀ b : Nat, s.heap.size ≤ b → A b := fun b h => by rw [← hAe]; exact Or.inr h
  clear hD0 hAe
  have hS : va_S A s.heap s.heap [] := va_S.rf
  have hl := lv_entry ([.ref (q 0), .int x0, .int x1, .int x2]) (n := 9) (Nat.le_of_ble_eq_true rfl)
  rw [lg_entry_eq]
  generalize (lg_sl ([.ref (q 0), .int x0, .int x1, .int x2]) ++ List.replicate (9 - (lg_sl ([.ref (q 0), .int x0, .int x1, .int x2])).length) Slot.unset).toArray = ls at hl ⊢
  have hl : lv_has ls 9 [(0, .ref (q 0)), (1, .int x0), (2, .int x1), (3, .int x2)] := hl
  obtain ⟨H, hHe⟩ : ∃ H : Heap, H = s.heap := ⟨_, rfl⟩
  rw [← hHe] at hP
  have hS : va_S A s.heap H [] := by rw [hHe]; exact hS
  rw [← hHe]
  refine lv_iload_n hx hb dX12_letter_0 rfl (lv_at hl 1 rfl) ?_
  refine lv_iconst (v := 0) hx hb dX12_letter_1 (by decide +kernel) ?_
  refine lv_iconst (v := 4) hx hb dX12_letter_2 (by decide +kernel) ?_
  have hPc := hP.sub (ws' := []) [] rfl
  have hDc := hD.sub (ws' := []) [] (by decide) rfl
  have hFc := va_free (wc := []) hD hS hA [] rfl
  refine va_calli (va_runS (As := [.int x0, .int 0, .int 4]) (rest := []) ⟨hx, hb, hml, hown, hts⟩ (k_X12_is_98 l dC dI cB cI cJ cZ cQ H.size x0) (va_cwS 3 hts g_p_X12_letter_0 rfl rfl rfl (by decide +kernel) ⟨Nat.le_of_ble_eq_true rfl, Nat.le_of_ble_eq_true rfl⟩) ⟨fun a U g mk Z => by obtain ⟨q0, q1, qP, qK, qD⟩ := Z; exact ⟨q0, q1, qP, va_K.moved (u := U) (U := U.calling g mk a) (Vm.Alike.refl U.vm) qK, qD⟩, fun U hU hW => ⟨rfl, by rw [hU], by rw [hU]; exact hPc, va_K.moved hW.alike hK, hDc.weaken (fun _ _ _ _ => trivial)⟩⟩ rfl rfl hl.1 rfl (lv_room (Nat.le_of_ble_eq_true rfl)) dX12_letter_3 ⟨Nat.le_of_ble_eq_true rfl, Nat.le_of_ble_eq_true rfl⟩) hS (fun b _ h => hFc b h) hFc (fun r2 u1 t H1 locs ht hvm hw hB hz1 hk1 hS => ?_)
  obtain ⟨hP1, hK1, hD1⟩ := hB
  rw [ht] at hP1
  obtain ⟨hP, hD⟩ := va_join (wr := [((q 0), .inr (12, (mo q))), ((q 19), .inl (cI, 2, .inl (fun _ => 0))), ((q 16), .inl (cI, 2, .inl (fun _ => 0))), ((q 11), .inl (cI, 2, .inl (fun _ => 0))), ((q 4), .inl (cI, 2, .inl (fun _ => 0))), ((q 2), .inl (cI, 2, .inl (fun _ => 0)))]) (w1 := []) hP hD [] [0, 1, 2, 3, 4, 5] rfl rfl (by decide) (by decide) hk1 hFc hP1 hD1
  clear hP1 hK1 hD1 hk1 hz1 hvm hPc hDc hFc
  generalize H1 = H at hP hS ⊢
  have hP : va_P (dC, dI) vwCl [((q 0), .inr (12, (mo q))), ((q 19), .inl (cI, 2, .inl (fun _ => 0))), ((q 16), .inl (cI, 2, .inl (fun _ => 0))), ((q 11), .inl (cI, 2, .inl (fun _ => 0))), ((q 4), .inl (cI, 2, .inl (fun _ => 0))), ((q 2), .inl (cI, 2, .inl (fun _ => 0)))] H := hP
  have hD : va_D A [((q 0), .inr (12, (mo q))), ((q 19), .inl (cI, 2, .inl (fun _ => 0))), ((q 16), .inl (cI, 2, .inl (fun _ => 0))), ((q 11), .inl (cI, 2, .inl (fun _ => 0))), ((q 4), .inl (cI, 2, .inl (fun _ => 0))), ((q 2), .inl (cI, 2, .inl (fun _ => 0)))] := hD
  rcases hw with ⟨hw, hcu1⟩ | ⟨hw, hcu1⟩
  · subst hw
    refine lv_if_eq (tgt := 24) hx hb dX12_letter_6 (by decide) (fun _ => ?_) (fun c => absurd c (by decide +kernel))
    refine lv_iconst (v := (-1)) hx hb dX12_letter_24 (by decide +kernel) ?_
    exact W.iret (v := (-1)) hx hb hr (fun t ht hW => ⟨⟨(-1), (), rfl, rfl, trivial⟩, hS.F ht⟩) hS.2.2 dX12_letter_25
  · subst hw
    refine lv_if_eq (tgt := 24) hx hb dX12_letter_6 (by decide) (fun c => absurd c (by decide +kernel)) (fun _ => ?_)
    refine lv_iload_n hx hb dX12_letter_9 rfl (lv_at hl 2 rfl) ?_
    refine lv_iconst (v := 0) hx hb dX12_letter_10 (by decide +kernel) ?_
    refine lv_aload_n hx hb dX12_letter_11 rfl (lv_at hl 0 rfl) ?_
    refine lv_iload_n hx hb dX12_letter_12 rfl (lv_at hl 1 rfl) ?_
    have hPc := hP.sub (ws' := [((q 0), .inr (12, (mo q))), ((q 19), .inl (cI, 2, .inl (fun _ => 0))), ((q 16), .inl (cI, 2, .inl (fun _ => 0))), ((q 11), .inl (cI, 2, .inl (fun _ => 0))), ((q 4), .inl (cI, 2, .inl (fun _ => 0))), ((q 2), .inl (cI, 2, .inl (fun _ => 0)))]) [0, 1, 2, 3, 4, 5] rfl
    have hDc := hD.sub (ws' := [((q 0), .inr (12, (mo q))), ((q 19), .inl (cI, 2, .inl (fun _ => 0))), ((q 16), .inl (cI, 2, .inl (fun _ => 0))), ((q 11), .inl (cI, 2, .inl (fun _ => 0))), ((q 4), .inl (cI, 2, .inl (fun _ => 0))), ((q 2), .inl (cI, 2, .inl (fun _ => 0)))]) [0, 1, 2, 3, 4, 5] (by decide) rfl
    have hFc := va_free (wc := [((q 0), .inr (12, (mo q))), ((q 19), .inl (cI, 2, .inl (fun _ => 0))), ((q 16), .inl (cI, 2, .inl (fun _ => 0))), ((q 11), .inl (cI, 2, .inl (fun _ => 0))), ((q 4), .inl (cI, 2, .inl (fun _ => 0))), ((q 2), .inl (cI, 2, .inl (fun _ => 0)))]) hD hS hA [0, 1, 2, 3, 4, 5] rfl
    refine va_calli (va_runV (As := [.int x0]) (rest := [.int 0, .int x1]) ⟨hx, hb, hml, hown, hts⟩ (k_X12_manyOf_99 l dC dI cB cI cJ cZ cQ H.size q x0) (cwV 1 hts g_p_X12_letter_1 rfl rfl rfl (by decide +kernel) ⟨Nat.le_of_ble_eq_true rfl, Nat.le_of_ble_eq_true rfl⟩) ⟨fun a U g mk Z => by obtain ⟨q0, q1, qP, qK, qD⟩ := Z; exact ⟨q0, q1, qP, va_K.moved (u := U) (U := U.calling g mk a) (Vm.Alike.refl U.vm) qK, qD⟩, va_recv hK hPc (ci := 12) (q0 := 0) rfl rfl, fun U hU hW => ⟨rfl, by rw [hU], by rw [hU]; exact hPc, va_K.moved hW.alike hK, hDc.weaken (fun _ _ _ _ => trivial)⟩⟩ rfl rfl hl.1 rfl (lv_room (Nat.le_of_ble_eq_true rfl)) dX12_letter_13 ⟨Nat.le_of_ble_eq_true rfl, Nat.le_of_ble_eq_true rfl⟩) hS (fun b _ h => hFc b h) hFc (fun r4 u3 t H1 locs ht hvm hw hB hz1 hk1 hS => ?_)
    obtain ⟨hP1, hK1, hD1⟩ := hB
    rw [ht] at hP1
    obtain ⟨hP, hD⟩ := va_join (wr := []) (w1 := [((q 0), .inr (12, (mo q))), ((q 19), .inl (cI, 2, .inl (fun _ => 0))), ((q 16), .inl (cI, 2, .inl (fun _ => 0))), ((q 11), .inl (cI, 2, .inl (fun _ => 0))), ((q 4), .inl (cI, 2, .inl (fun _ => 0))), ((q 2), .inl (cI, 2, .inl (fun _ => 0)))]) hP hD [0, 1, 2, 3, 4, 5] [] rfl rfl (by decide) (by decide) hk1 hFc hP1 hD1
    clear hP1 hK1 hD1 hk1 hz1 hvm hPc hDc hFc
    generalize H1 = H at hP hS ⊢
    have hP : va_P (dC, dI) vwCl [((q 0), .inr (12, (mo q))), ((q 19), .inl (cI, 2, .inl (fun _ => 0))), ((q 16), .inl (cI, 2, .inl (fun _ => 0))), ((q 11), .inl (cI, 2, .inl (fun _ => 0))), ((q 4), .inl (cI, 2, .inl (fun _ => 0))), ((q 2), .inl (cI, 2, .inl (fun _ => 0)))] H := hP
    have hD : va_D A [((q 0), .inr (12, (mo q))), ((q 19), .inl (cI, 2, .inl (fun _ => 0))), ((q 16), .inl (cI, 2, .inl (fun _ => 0))), ((q 11), .inl (cI, 2, .inl (fun _ => 0))), ((q 4), .inl (cI, 2, .inl (fun _ => 0))), ((q 2), .inl (cI, 2, .inl (fun _ => 0)))] := hD
    subst hw
    refine lv_iconst (v := 1) hx hb dX12_letter_16 (by decide +kernel) ?_
    refine lv_isub hx hb dX12_letter_17 ?_
    refine tp_i (y := (-1)) (by decide +kernel) ?_
    have hPc := hP.sub (ws' := []) [] rfl
    have hDc := hD.sub (ws' := []) [] (by decide) rfl
    have hFc := va_free (wc := []) hD hS hA [] rfl
    refine va_calli (va_runS (As := [.int x1, .int 0, .int (-1)]) (rest := []) ⟨hx, hb, hml, hown, hts⟩ (k_X12_is_100 l dC dI cB cI cJ cZ cQ H.size x1) (va_cwS 3 hts g_p_X12_letter_2 rfl rfl rfl (by decide +kernel) ⟨Nat.le_of_ble_eq_true rfl, Nat.le_of_ble_eq_true rfl⟩) ⟨fun a U g mk Z => by obtain ⟨q0, q1, qP, qK, qD⟩ := Z; exact ⟨q0, q1, qP, va_K.moved (u := U) (U := U.calling g mk a) (Vm.Alike.refl U.vm) qK, qD⟩, fun U hU hW => ⟨rfl, by rw [hU], by rw [hU]; exact hPc, va_K.moved hW.alike hK, hDc.weaken (fun _ _ _ _ => trivial)⟩⟩ rfl rfl hl.1 rfl (lv_room (Nat.le_of_ble_eq_true rfl)) dX12_letter_18 ⟨Nat.le_of_ble_eq_true rfl, Nat.le_of_ble_eq_true rfl⟩) hS (fun b _ h => hFc b h) hFc (fun r6 u5 t H1 locs ht hvm hw hB hz1 hk1 hS => ?_)
    obtain ⟨hP1, hK1, hD1⟩ := hB
    rw [ht] at hP1
    obtain ⟨hP, hD⟩ := va_join (wr := [((q 0), .inr (12, (mo q))), ((q 19), .inl (cI, 2, .inl (fun _ => 0))), ((q 16), .inl (cI, 2, .inl (fun _ => 0))), ((q 11), .inl (cI, 2, .inl (fun _ => 0))), ((q 4), .inl (cI, 2, .inl (fun _ => 0))), ((q 2), .inl (cI, 2, .inl (fun _ => 0)))]) (w1 := []) hP hD [] [0, 1, 2, 3, 4, 5] rfl rfl (by decide) (by decide) hk1 hFc hP1 hD1
    clear hP1 hK1 hD1 hk1 hz1 hvm hPc hDc hFc
    generalize H1 = H at hP hS ⊢
    have hP : va_P (dC, dI) vwCl [((q 0), .inr (12, (mo q))), ((q 19), .inl (cI, 2, .inl (fun _ => 0))), ((q 16), .inl (cI, 2, .inl (fun _ => 0))), ((q 11), .inl (cI, 2, .inl (fun _ => 0))), ((q 4), .inl (cI, 2, .inl (fun _ => 0))), ((q 2), .inl (cI, 2, .inl (fun _ => 0)))] H := hP
    have hD : va_D A [((q 0), .inr (12, (mo q))), ((q 19), .inl (cI, 2, .inl (fun _ => 0))), ((q 16), .inl (cI, 2, .inl (fun _ => 0))), ((q 11), .inl (cI, 2, .inl (fun _ => 0))), ((q 4), .inl (cI, 2, .inl (fun _ => 0))), ((q 2), .inl (cI, 2, .inl (fun _ => 0)))] := hD
    subst hw
    refine lv_if_ne (tgt := 26) hx hb dX12_letter_21 (by decide) (fun c => absurd c (by decide +kernel)) (fun _ => ?_)
    refine lv_iconst (v := (-1)) hx hb dX12_letter_24 (by decide +kernel) ?_
    exact W.iret (v := (-1)) hx hb hr (fun t ht hW => ⟨⟨(-1), (), rfl, rfl, trivial⟩, hS.F ht⟩) hS.2.2 dX12_letter_25
