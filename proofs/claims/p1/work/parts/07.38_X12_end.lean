def ws_k_X12_refuses_91 : List Cond := .code yX12_refuses cX12_refuses 2 (some .int) :: ([.fieldLink RX12 189 "StackKeysModel" "refused" "[I"] ++ wsX120)
set_option maxHeartbeats 4000000 in
set_option maxRecDepth 100000 in
theorem k_X12_refuses_91 (l : Launch) (dC : Nat → ClassId) (dI : Nat → Nat → Nat) (cB cI cJ cZ cQ : ClassId) (sz : Nat) (q : Nat → Nat) : Met l yX12_refuses ws_k_X12_refuses_91 ({ frames := 0, cells := 0, slots := 0, locals := 0 }) (va_Pc [.ref (q 0), .int 0] (fun U => U.heap.size = sz ∧ va_P (dC, dI) vwCl [((q 0), .inr (12, (mo q))), ((q 41), .inl (cI, 6, .inl (fun _ => 0)))] U.heap ∧ va_K (dC, dI) vwCl (tyA cB cI cJ cZ cQ) U ∧ va_D (fun _ => True) [((q 0), .inr (12, (mo q))), ((q 41), .inl (cI, 6, .inl (fun _ => 0)))])) (va_Qi (fun (r : Int32) (_ : Unit) => r = (-1)) (fun (u : Unit) t => va_P (dC, dI) vwCl [((q 0), .inr (12, (mo q))), ((q 41), .inl (cI, 6, .inl (upd (fun _ => 0) 0 1)))] t.heap ∧ va_K (dC, dI) vwCl (tyA cB cI cJ cZ cQ) t ∧ va_D (va_A [((q 0), .inr (12, (mo q))), ((q 41), .inl (cI, 6, .inl (fun _ => 0)))] sz) [((q 0), .inr (12, (mo q))), ((q 41), .inl (cI, 6, .inl (upd (fun _ => 0) 0 1)))]) (va_A [((q 0), .inr (12, (mo q))), ((q 41), .inl (cI, 6, .inl (fun _ => 0)))] sz)) 0 0 (va_A [((q 0), .inr (12, (mo q))), ((q 41), .inl (cI, 6, .inl (fun _ => 0)))] sz) := by
  refine Met.ofW (cc := cX12_refuses) (maxL := 2) (ret := (some .int)) (by decide +kernel) rfl ?_
  intro p e s m args below meth c s₁ B hml hv
  obtain ⟨rfl, hsz, hP, hK, hD0⟩ := hv
  have hx := B.exec
  have hb := B.bytes
  have hr := B.returns
  have hts := atoms_spec (ws := ws_k_X12_refuses_91) B.pre
  have hown : s.vm.findClass RX12 = some m.cls := findClass_of_methodNamed B.named
  have hiX12 : ∀ w ∈ u_ws RX12 TX12 85, w ∈ ws_k_X12_refuses_91 := fun w h => List.mem_cons_of_mem _ (List.mem_append_right _ h)
  subst hsz
  have hD := hD0.self (sz := s.heap.size)
  generalize hAe : va_A [((q 0), .inr (12, (mo q))), ((q 41), .inl (cI, 6, .inl (fun _ => 0)))] s.heap.size = A at hD ⊢
  have hA : ∀ b : Nat, s.heap.size ≤ b → A b := fun b h => by rw [← hAe]; exact Or.inr h
  clear hD0 hAe
  have hS : va_S A s.heap s.heap [] := va_S.rf
  have hl := lv_entry ([.ref (q 0), .int 0]) (n := 2) (Nat.le_of_ble_eq_true rfl)
  rw [lg_entry_eq]
  generalize (lg_sl ([.ref (q 0), .int 0]) ++ List.replicate (2 - (lg_sl ([.ref (q 0), .int 0])).length) Slot.unset).toArray = ls at hl ⊢
  have hl : lv_has ls 2 [(0, .ref (q 0)), (1, .int 0)] := hl
  obtain ⟨H, hHe⟩ : ∃ H : Heap, H = s.heap := ⟨_, rfl⟩
  rw [← hHe] at hP
  have hS : va_S A s.heap H [] := by rw [hHe]; exact hS
  rw [← hHe]
  refine lv_aload_n hx hb dX12_refuses_0 rfl (lv_at hl 0 rfl) ?_
  refine va_get (D := (dC, dI)) (ci := 12) (v := .ref (q 41)) (C := RX12) (T := TX12) (N := 85) hx hb hts hiX12 hown hK hP 0 rfl rfl 58 (by decide) (hts _ (List.mem_of_getElem? (i := 1) rfl)) (fun _ h9 => h9) rfl dX12_refuses_1 ?_
  refine lv_iload_n hx hb dX12_refuses_4 rfl (lv_at hl 1 rfl) ?_
  refine lv_dup2_11 hx hb dX12_refuses_5 rfl rfl ?_
  refine va_iald hx hb hK hP 1 1 rfl rfl (vpc _ _ (by decide +kernel)) dX12_refuses_6 ?_
  refine tp_i (y := 0) rfl ?_
  refine lv_iconst (v := 1) hx hb dX12_refuses_7 (by decide +kernel) ?_
  refine lv_iadd hx hb dX12_refuses_8 ?_
  refine tp_i (y := 1) (by decide +kernel) ?_
  refine va_iast hx hb hK hP hD hS 1 1 rfl rfl (vpc _ _ (by decide +kernel)) dX12_refuses_9 (fun H locs hP hD hS => ?_)
  have hP : va_P (dC, dI) vwCl [((q 0), .inr (12, (mo q))), ((q 41), .inl (cI, 6, .inl (upd (fun _ => 0) 0 1)))] H := hP
  have hD : va_D A [((q 0), .inr (12, (mo q))), ((q 41), .inl (cI, 6, .inl (upd (fun _ => 0) 0 1)))] := hD
  refine lv_iconst (v := (-1)) hx hb dX12_refuses_10 (by decide +kernel) ?_
  have hP9 := hP.sub (ws' := [((q 0), .inr (12, (mo q))), ((q 41), .inl (cI, 6, .inl (upd (fun _ => 0) 0 1)))]) [0, 1] rfl
  have hD9 := hD.sub (ws' := [((q 0), .inr (12, (mo q))), ((q 41), .inl (cI, 6, .inl (upd (fun _ => 0) 0 1)))]) [0, 1] (by decide) rfl
  exact W.iret (v := (-1)) hx hb hr (fun t ht hW => ⟨⟨(-1), (), rfl, rfl, by rw [ht]; exact hP9, va_K.moved hW.alike hK, hD9⟩, hS.F ht⟩) hS.2.2 dX12_refuses_11
def ws_p_X12_end : List Cond := .code yX12_end cX12_end 2 (some .boolean) :: ([.methodLink RX12 271 yX12_refuses, .instanceMethod yX12_refuses, .selects RX12 yX12_refuses yX12_refuses, .initialized RX12, .code yX12_refuses cX12_refuses 2 (some .int), .fieldLink RX12 189 "StackKeysModel" "refused" "[I", .fieldLink RX12 13 "StackKeysModel" "taped" "I"] ++ wsX120)
set_option maxRecDepth 20000 in
theorem g_p_X12_end_0 : GoodIn ws_p_X12_end (wsV RX12 271 RX12 yX12_refuses ws_k_X12_refuses_91) := goodIn_r _ [1, 2, 3, 4, 5, 6, 8, 9, 10, 11, 12, 13, 14, 15, 16, 17, 18, 19, 20, 21, 22, 23, 24, 25, 26, 27, 28, 29, 30, 31, 32, 33, 34, 35, 36, 37, 38, 39, 40, 41, 42, 43, 44, 45, 46, 47, 48, 49, 50, 51, 52, 53, 54, 55, 56, 57, 58, 59, 60, 61, 62, 63, 64, 65, 66, 67, 68, 69, 70, 71, 72, 73, 74, 75, 76, 77, 78, 79, 80, 81, 82, 83, 84, 85, 86, 87, 88, 89, 90, 91, 92] (by decide +kernel) (by decide +kernel)
set_option maxRecDepth 20000 in
theorem g_p_X12_end_1 : GoodIn ws_p_X12_end (wsV RX12 271 RX12 yX12_refuses ws_k_X12_refuses_91) := goodIn_r _ [1, 2, 3, 4, 5, 6, 8, 9, 10, 11, 12, 13, 14, 15, 16, 17, 18, 19, 20, 21, 22, 23, 24, 25, 26, 27, 28, 29, 30, 31, 32, 33, 34, 35, 36, 37, 38, 39, 40, 41, 42, 43, 44, 45, 46, 47, 48, 49, 50, 51, 52, 53, 54, 55, 56, 57, 58, 59, 60, 61, 62, 63, 64, 65, 66, 67, 68, 69, 70, 71, 72, 73, 74, 75, 76, 77, 78, 79, 80, 81, 82, 83, 84, 85, 86, 87, 88, 89, 90, 91, 92] (by decide +kernel) (by decide +kernel)
set_option maxHeartbeats 4000000 in
set_option maxRecDepth 100000 in
theorem p_X12_end (l : Launch) (dC : Nat → ClassId) (dI : Nat → Nat → Nat) (cB cI cJ cZ cQ : ClassId) (sz : Nat) (q : Nat → Nat) (x0 : Int32) : Met l yX12_end ws_p_X12_end ({ frames := 1, cells := 0, slots := 0, locals := 21 }) (va_Pc [.ref (q 0), .int x0] (fun U => U.heap.size = sz ∧ va_P (dC, dI) vwCl [((q 0), .inr (12, (mo q))), ((q 41), .inl (cI, 6, .inl (fun _ => 0)))] U.heap ∧ va_K (dC, dI) vwCl (tyA cB cI cJ cZ cQ) U ∧ va_D (fun _ => True) [((q 0), .inr (12, (mo q))), ((q 41), .inl (cI, 6, .inl (fun _ => 0)))])) (va_Qi (fun (r : Int32) (_ : Unit) => (r = 0 ∧ ((x0.toInt < 0) ∨ (x0.toInt ≥ 0 ∧ x0.toInt > 0))) ∨ (r = 1 ∧ ((x0.toInt ≥ 0 ∧ x0.toInt ≤ 0)))) (fun (_ : Unit) _ => True) (va_A [((q 0), .inr (12, (mo q))), ((q 41), .inl (cI, 6, .inl (fun _ => 0)))] sz)) 0 0 (va_A [((q 0), .inr (12, (mo q))), ((q 41), .inl (cI, 6, .inl (fun _ => 0)))] sz) := by
  refine Met.ofW (cc := cX12_end) (maxL := 2) (ret := (some .boolean)) (by decide +kernel) rfl ?_
  intro p e s m args below meth c s₁ B hml hv
  obtain ⟨rfl, hsz, hP, hK, hD0⟩ := hv
  have hx := B.exec
  have hb := B.bytes
  have hr := B.returns
  have hts := atoms_spec (ws := ws_p_X12_end) B.pre
  have hown : s.vm.findClass RX12 = some m.cls := findClass_of_methodNamed B.named
  have hiX12 : ∀ w ∈ u_ws RX12 TX12 85, w ∈ ws_p_X12_end := fun w h => List.mem_cons_of_mem _ (List.mem_append_right _ h)
  subst hsz
  have hD := hD0.self (sz := s.heap.size)
  generalize hAe : va_A [((q 0), .inr (12, (mo q))), ((q 41), .inl (cI, 6, .inl (fun _ => 0)))] s.heap.size = A at hD ⊢
  have hA : ∀ b : Nat, s.heap.size ≤ b → A b := fun b h => by rw [← hAe]; exact Or.inr h
  clear hD0 hAe
  have hS : va_S A s.heap s.heap [] := va_S.rf
  have hl := lv_entry ([.ref (q 0), .int x0]) (n := 2) (Nat.le_of_ble_eq_true rfl)
  rw [lg_entry_eq]
  generalize (lg_sl ([.ref (q 0), .int x0]) ++ List.replicate (2 - (lg_sl ([.ref (q 0), .int x0])).length) Slot.unset).toArray = ls at hl ⊢
  have hl : lv_has ls 2 [(0, .ref (q 0)), (1, .int x0)] := hl
  obtain ⟨H, hHe⟩ : ∃ H : Heap, H = s.heap := ⟨_, rfl⟩
  rw [← hHe] at hP
  have hS : va_S A s.heap H [] := by rw [hHe]; exact hS
  rw [← hHe]
  refine lv_iload_n hx hb dX12_end_0 rfl (lv_at hl 1 rfl) ?_
  refine lv_if_lt (tgt := 12) hx hb dX12_end_1 (by decide) (fun c1 => ?_) (fun c1 => ?_)
  · have c1i := (fa_lt _ _).mp c1
    have c1k : (0 : Int32).toInt = 0 := (by decide +kernel)
    refine lv_aload_n hx hb dX12_end_12 rfl (lv_at hl 0 rfl) ?_
    refine lv_iconst (v := 0) hx hb dX12_end_13 (by decide +kernel) ?_
    have hPc := hP.sub (ws' := [((q 0), .inr (12, (mo q))), ((q 41), .inl (cI, 6, .inl (fun _ => 0)))]) [0, 1] rfl
    have hDc := hD.sub (ws' := [((q 0), .inr (12, (mo q))), ((q 41), .inl (cI, 6, .inl (fun _ => 0)))]) [0, 1] (by decide) rfl
    have hFc := va_free (wc := [((q 0), .inr (12, (mo q))), ((q 41), .inl (cI, 6, .inl (fun _ => 0)))]) hD hS hA [0, 1] rfl
    refine va_calli (va_runV (As := [.int 0]) (rest := []) ⟨hx, hb, hml, hown, hts⟩ (k_X12_refuses_91 l dC dI cB cI cJ cZ cQ H.size q) (cwV 1 hts g_p_X12_end_0 rfl rfl rfl (by decide +kernel) ⟨Nat.le_of_ble_eq_true rfl, Nat.le_of_ble_eq_true rfl⟩) ⟨fun a U g mk Z => by obtain ⟨q0, q1, qP, qK, qD⟩ := Z; exact ⟨q0, q1, qP, va_K.moved (u := U) (U := U.calling g mk a) (Vm.Alike.refl U.vm) qK, qD⟩, va_recv hK hPc (ci := 12) (q0 := 0) rfl rfl, fun U hU hW => ⟨rfl, by rw [hU], by rw [hU]; exact hPc, va_K.moved hW.alike hK, hDc.weaken (fun _ _ _ _ => trivial)⟩⟩ rfl rfl hl.1 rfl (lv_room (Nat.le_of_ble_eq_true rfl)) dX12_end_14 ⟨Nat.le_of_ble_eq_true rfl, Nat.le_of_ble_eq_true rfl⟩) hS (fun b _ h => hFc b h) hFc (fun r3 u2 t H1 locs ht hvm hw hB hz1 hk1 hS => ?_)
    obtain ⟨hP1, hK1, hD1⟩ := hB
    rw [ht] at hP1
    obtain ⟨hP, hD⟩ := va_join (wr := []) (w1 := [((q 0), .inr (12, (mo q))), ((q 41), .inl (cI, 6, .inl (upd (fun _ => 0) 0 1)))]) hP hD [0, 1] [] rfl rfl (by decide) (by decide) hk1 hFc hP1 hD1
    clear hP1 hK1 hD1 hk1 hz1 hvm hPc hDc hFc
    generalize H1 = H at hP hS ⊢
    have hP : va_P (dC, dI) vwCl [((q 0), .inr (12, (mo q))), ((q 41), .inl (cI, 6, .inl (upd (fun _ => 0) 0 1)))] H := hP
    have hD : va_D A [((q 0), .inr (12, (mo q))), ((q 41), .inl (cI, 6, .inl (upd (fun _ => 0) 0 1)))] := hD
    subst hw
    refine lv_if_lt (tgt := 24) hx hb dX12_end_17 (by decide) (fun _ => ?_) (fun c => absurd c (by decide +kernel))
    refine lv_iconst (v := 0) hx hb dX12_end_24 (by decide +kernel) ?_
    exact W.zret (v := 0) hx hb hr (by decide +kernel) (fun t ht hW => ⟨⟨0, (), rfl, Or.inl ⟨rfl, by omega⟩, trivial⟩, hS.F ht⟩) hS.2.2 dX12_end_25
  · have c1i := mt (fa_lt _ _).mpr c1
    have c1k : (0 : Int32).toInt = 0 := (by decide +kernel)
    refine lv_iload_n hx hb dX12_end_4 rfl (lv_at hl 1 rfl) ?_
    refine lv_aload_n hx hb dX12_end_5 rfl (lv_at hl 0 rfl) ?_
    refine va_get (D := (dC, dI)) (ci := 12) (v := .int 0) (C := RX12) (T := TX12) (N := 85) hx hb hts hiX12 hown hK hP 0 rfl rfl 1 (by decide) (hts _ (List.mem_of_getElem? (i := 7) rfl)) (fun _ h9 => h9) rfl dX12_end_6 ?_
    refine lv_icmp_le (tgt := 26) hx hb dX12_end_9 (by decide) (fun c4 => ?_) (fun c4 => ?_)
    · have c4i := (fa_le _ _).mp c4
      have c4k : (0 : Int32).toInt = 0 := (by decide +kernel)
      refine lv_aload_n hx hb dX12_end_26 rfl (lv_at hl 0 rfl) ?_
      refine lv_iload_n hx hb dX12_end_27 rfl (lv_at hl 1 rfl) ?_
      refine va_put (D := (dC, dI)) (ci := 12) (v := .int x0) (ty := .int) (C := RX12) (T := TX12) (N := 85) hx hb hts hiX12 tyX12 tyX12_ok nmX12 hown hK hP hD hS 0 rfl rfl 1 (by decide) (hts _ (List.mem_of_getElem? (i := 7) rfl)) (fun _ h9 => h9) rfl (by decide +kernel) rfl rfl (Nat.le_of_ble_eq_true rfl) dX12_end_28 (fun H locs hP hD hS => ?_)
      have hP : va_P (dC, dI) vwCl [((q 0), .inr (12, ((mo q).set 1 (.int x0)))), ((q 41), .inl (cI, 6, .inl (fun _ => 0)))] H := hP
      have hD : va_D A [((q 0), .inr (12, ((mo q).set 1 (.int x0)))), ((q 41), .inl (cI, 6, .inl (fun _ => 0)))] := hD
      refine lv_iconst (v := 1) hx hb dX12_end_31 (by decide +kernel) ?_
      exact W.zret (v := 1) hx hb hr (by decide +kernel) (fun t ht hW => ⟨⟨1, (), rfl, Or.inr (⟨rfl, by omega⟩), trivial⟩, hS.F ht⟩) hS.2.2 dX12_end_32
    · have c4i := mt (fa_le _ _).mpr c4
      have c4k : (0 : Int32).toInt = 0 := (by decide +kernel)
      refine lv_aload_n hx hb dX12_end_12 rfl (lv_at hl 0 rfl) ?_
      refine lv_iconst (v := 0) hx hb dX12_end_13 (by decide +kernel) ?_
      have hPc := hP.sub (ws' := [((q 0), .inr (12, (mo q))), ((q 41), .inl (cI, 6, .inl (fun _ => 0)))]) [0, 1] rfl
      have hDc := hD.sub (ws' := [((q 0), .inr (12, (mo q))), ((q 41), .inl (cI, 6, .inl (fun _ => 0)))]) [0, 1] (by decide) rfl
      have hFc := va_free (wc := [((q 0), .inr (12, (mo q))), ((q 41), .inl (cI, 6, .inl (fun _ => 0)))]) hD hS hA [0, 1] rfl
      refine va_calli (va_runV (As := [.int 0]) (rest := []) ⟨hx, hb, hml, hown, hts⟩ (k_X12_refuses_91 l dC dI cB cI cJ cZ cQ H.size q) (cwV 1 hts g_p_X12_end_1 rfl rfl rfl (by decide +kernel) ⟨Nat.le_of_ble_eq_true rfl, Nat.le_of_ble_eq_true rfl⟩) ⟨fun a U g mk Z => by obtain ⟨q0, q1, qP, qK, qD⟩ := Z; exact ⟨q0, q1, qP, va_K.moved (u := U) (U := U.calling g mk a) (Vm.Alike.refl U.vm) qK, qD⟩, va_recv hK hPc (ci := 12) (q0 := 0) rfl rfl, fun U hU hW => ⟨rfl, by rw [hU], by rw [hU]; exact hPc, va_K.moved hW.alike hK, hDc.weaken (fun _ _ _ _ => trivial)⟩⟩ rfl rfl hl.1 rfl (lv_room (Nat.le_of_ble_eq_true rfl)) dX12_end_14 ⟨Nat.le_of_ble_eq_true rfl, Nat.le_of_ble_eq_true rfl⟩) hS (fun b _ h => hFc b h) hFc (fun r6 u5 t H1 locs ht hvm hw hB hz1 hk1 hS => ?_)
      obtain ⟨hP1, hK1, hD1⟩ := hB
      rw [ht] at hP1
      obtain ⟨hP, hD⟩ := va_join (wr := []) (w1 := [((q 0), .inr (12, (mo q))), ((q 41), .inl (cI, 6, .inl (upd (fun _ => 0) 0 1)))]) hP hD [0, 1] [] rfl rfl (by decide) (by decide) hk1 hFc hP1 hD1
      clear hP1 hK1 hD1 hk1 hz1 hvm hPc hDc hFc
      generalize H1 = H at hP hS ⊢
      have hP : va_P (dC, dI) vwCl [((q 0), .inr (12, (mo q))), ((q 41), .inl (cI, 6, .inl (upd (fun _ => 0) 0 1)))] H := hP
      have hD : va_D A [((q 0), .inr (12, (mo q))), ((q 41), .inl (cI, 6, .inl (upd (fun _ => 0) 0 1)))] := hD
      subst hw
      refine lv_if_lt (tgt := 24) hx hb dX12_end_17 (by decide) (fun _ => ?_) (fun c => absurd c (by decide +kernel))
      refine lv_iconst (v := 0) hx hb dX12_end_24 (by decide +kernel) ?_
      exact W.zret (v := 0) hx hb hr (by decide +kernel) (fun t ht hW => ⟨⟨0, (), rfl, Or.inl ⟨rfl, by omega⟩, trivial⟩, hS.F ht⟩) hS.2.2 dX12_end_25
