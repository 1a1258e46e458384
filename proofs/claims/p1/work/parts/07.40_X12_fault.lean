def ws_p_X12_fault : List Cond := .code yX12_fault cX12_fault 2 (some .int) :: ([.fieldLink RX12 45 "StackKeysModel" "toldPlace" "I", .fieldLink RX12 42 "StackKeysModel" "toldKind" "I"] ++ wsX120)
set_option maxHeartbeats 4000000 in
set_option maxRecDepth 100000 in
theorem p_X12_fault (l : Launch) (dC : Nat → ClassId) (dI : Nat → Nat → Nat) (cB cI cJ cZ cQ : ClassId) (sz : Nat) (q : Nat → Nat) (x0 : Int32) : Met l yX12_fault ws_p_X12_fault ({ frames := 0, cells := 0, slots := 0, locals := 0 }) (va_Pc [.ref (q 0), .int x0] (fun U => U.heap.size = sz ∧ va_P (dC, dI) vwCl [((q 0), .inr (12, (mo q)))] U.heap ∧ va_K (dC, dI) vwCl (tyA cB cI cJ cZ cQ) U ∧ va_D (fun _ => True) [((q 0), .inr (12, (mo q)))])) (va_Qi (fun (r : Int32) (_ : Unit) => (r = (-1) ∧ ((x0.toInt ≠ 0 ∧ x0.toInt ≠ 1) ∨ (x0.toInt ≠ 0 ∧ x0.toInt = 1))) ∨ (r = 0 ∧ ((x0.toInt = 0)))) (fun (_ : Unit) _ => True) (va_A [((q 0), .inr (12, (mo q)))] sz)) 0 0 (va_A [((q 0), .inr (12, (mo q)))] sz) := by
  refine Met.ofW (cc := cX12_fault) (maxL := 2) (ret := (some .int)) (by decide +kernel) rfl ?_
  intro p e s m args below meth c s₁ B hml hv
  obtain ⟨rfl, hsz, hP, hK, hD0⟩ := hv
  have hx := B.exec
  have hb := B.bytes
  have hr := B.returns
  have hts := atoms_spec (ws := ws_p_X12_fault) B.pre
  have hown : s.vm.findClass RX12 = some m.cls := findClass_of_methodNamed B.named
  have hiX12 : ∀ w ∈ u_ws RX12 TX12 85, w ∈ ws_p_X12_fault := fun w h => List.mem_cons_of_mem _ (List.mem_append_right _ h)
  subst hsz
  have hD := hD0.self (sz := s.heap.size)
  generalize hAe : va_A [((q 0), .inr (12, (mo q)))] s.heap.size = A at hD ⊢
  have hA : ∀ b : Nat, s.heap.size ≤ b → A b := fun b h => by rw [← hAe]; exact Or.inr h
  clear hD0 hAe
  have hS : va_S A s.heap s.heap [] := va_S.rf
  have hl := lv_entry ([.ref (q 0), .int x0]) (n := 2) (Nat.le_of_ble_eq_true rfl)
  rw [lg_entry_eq]
  generalize (lg_sl ([.ref (q 0), .int x0]) ++ List.replicate (2 - (lg_sl ([.ref (q 0), .int x0])).length) Slot.unset).toArray = ls at hl ⊢
  have hl : lv_has ls 2 [(0, .ref (q 0)), (1, .int x0)] := hl
  obtain ⟨H, hHe⟩ : ∃ H : Heap, H = s.heap := ⟨_, rfl⟩
  rw [← hHe] at hP
  have hS : va_S A s.heap H [] := by rw [hHe]; exact hS
  rw [← hHe]
  refine lv_iload_n hx hb dX12_fault_0 rfl (lv_at hl 1 rfl) ?_
  refine lv_if_ne (tgt := 11) hx hb dX12_fault_1 (by decide) (fun c1 => ?_) (fun c1 => ?_)
  · have c1i := mt (fa_eq _ _).mpr c1
    have c1k : (0 : Int32).toInt = 0 := (by decide +kernel)
    refine lv_iload_n hx hb dX12_fault_11 rfl (lv_at hl 1 rfl) ?_
    refine lv_iconst (v := 1) hx hb dX12_fault_12 (by decide +kernel) ?_
    refine lv_icmp_ne (tgt := 23) hx hb dX12_fault_13 (by decide) (fun c2 => ?_) (fun c2 => ?_)
    · have c2i := mt (fa_eq _ _).mpr c2
      have c2k : (1 : Int32).toInt = 1 := (by decide +kernel)
      refine lv_iconst (v := (-1)) hx hb dX12_fault_23 (by decide +kernel) ?_
      exact W.iret (v := (-1)) hx hb hr (fun t ht hW => ⟨⟨(-1), (), rfl, Or.inl ⟨rfl, by omega⟩, trivial⟩, hS.F ht⟩) hS.2.2 dX12_fault_24
    · have c2i := (fa_eq _ _).mp c2
      have c2k : (1 : Int32).toInt = 1 := (by decide +kernel)
      refine lv_aload_n hx hb dX12_fault_16 rfl (lv_at hl 0 rfl) ?_
      refine va_get (D := (dC, dI)) (ci := 12) (v := .int (-1)) (C := RX12) (T := TX12) (N := 85) hx hb hts hiX12 hown hK hP 0 rfl rfl 11 (by decide) (hts _ (List.mem_of_getElem? (i := 1) rfl)) (fun _ h9 => h9) rfl dX12_fault_17 ?_
      refine lv_goto (tgt := 24) hx hb dX12_fault_20 (by decide) ?_
      exact W.iret (v := (-1)) hx hb hr (fun t ht hW => ⟨⟨(-1), (), rfl, Or.inl ⟨rfl, by omega⟩, trivial⟩, hS.F ht⟩) hS.2.2 dX12_fault_24
  · have c1i := (fa_eq _ _).mp c1
    have c1k : (0 : Int32).toInt = 0 := (by decide +kernel)
    refine lv_aload_n hx hb dX12_fault_4 rfl (lv_at hl 0 rfl) ?_
    refine va_get (D := (dC, dI)) (ci := 12) (v := .int 0) (C := RX12) (T := TX12) (N := 85) hx hb hts hiX12 hown hK hP 0 rfl rfl 10 (by decide) (hts _ (List.mem_of_getElem? (i := 2) rfl)) (fun _ h9 => h9) rfl dX12_fault_5 ?_
    refine lv_goto (tgt := 24) hx hb dX12_fault_8 (by decide) ?_
    exact W.iret (v := 0) hx hb hr (fun t ht hW => ⟨⟨0, (), rfl, Or.inr (⟨rfl, by omega⟩), trivial⟩, hS.F ht⟩) hS.2.2 dX12_fault_24
