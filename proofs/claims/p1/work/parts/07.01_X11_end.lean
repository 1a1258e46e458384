def ws_k_X11_refused_8 : List Cond := .code yX11_refused cX11_refused 2 (some .int) :: ([.fieldLink RX11 67 "StackKeys" "refusals" "[I"] ++ wsX110)
set_option maxHeartbeats 4000000 in
set_option maxRecDepth 100000 in
theorem k_X11_refused_8 (l : Launch) (dC : Nat → ClassId) (dI : Nat → Nat → Nat) (cB cI cJ cZ cQ : ClassId) (sz : Nat) (a0 a1 a2 a3 a4 a5 a6 a7 a8 a9 a10 a11 : Nat) : Met l yX11_refused ws_k_X11_refused_8 ({ frames := 0, cells := 0, slots := 0, locals := 0 }) (va_Pc [.ref a0, .int 0] (fun U => U.heap.size = sz ∧ va_P (dC, dI) vwCl [(a0, .inr (11, [.ref a1, .ref a2, .ref a3, .ref a4, .ref a5, .ref a6, .ref a7, .ref a8, .ref a9, .ref a10, .ref a11])), (a9, .inl (cI, 6, .inl (fun _ => 0)))] U.heap ∧ va_K (dC, dI) vwCl (tyA cB cI cJ cZ cQ) U ∧ va_D (fun _ => True) [(a0, .inr (11, [.ref a1, .ref a2, .ref a3, .ref a4, .ref a5, .ref a6, .ref a7, .ref a8, .ref a9, .ref a10, .ref a11])), (a9, .inl (cI, 6, .inl (fun _ => 0)))])) (va_Qi (fun (r : Int32) (_ : Unit) => r = (-1)) (fun (u : Unit) t => va_P (dC, dI) vwCl [(a0, .inr (11, [.ref a1, .ref a2, .ref a3, .ref a4, .ref a5, .ref a6, .ref a7, .ref a8, .ref a9, .ref a10, .ref a11])), (a9, .inl (cI, 6, .inl (upd (fun _ => 0) 0 1)))] t.heap ∧ va_K (dC, dI) vwCl (tyA cB cI cJ cZ cQ) t ∧ va_D (va_A [(a0, .inr (11, [.ref a1, .ref a2, .ref a3, .ref a4, .ref a5, .ref a6, .ref a7, .ref a8, .ref a9, .ref a10, .ref a11])), (a9, .inl (cI, 6, .inl (fun _ => 0)))] sz) [(a0, .inr (11, [.ref a1, .ref a2, .ref a3, .ref a4, .ref a5, .ref a6, .ref a7, .ref a8, .ref a9, .ref a10, .ref a11])), (a9, .inl (cI, 6, .inl (upd (fun _ => 0) 0 1)))]) (va_A [(a0, .inr (11, [.ref a1, .ref a2, .ref a3, .ref a4, .ref a5, .ref a6, .ref a7, .ref a8, .ref a9, .ref a10, .ref a11])), (a9, .inl (cI, 6, .inl (fun _ => 0)))] sz)) 0 0 (va_A [(a0, .inr (11, [.ref a1, .ref a2, .ref a3, .ref a4, .ref a5, .ref a6, .ref a7, .ref a8, .ref a9, .ref a10, .ref a11])), (a9, .inl (cI, 6, .inl (fun _ => 0)))] sz) := by
  refine Met.ofW (cc := cX11_refused) (maxL := 2) (ret := (some .int)) (by decide +kernel) rfl ?_
  intro p e s m args below meth c s₁ B hml hv
  obtain ⟨rfl, hsz, hP, hK, hD0⟩ := hv
  have hx := B.exec
  have hb := B.bytes
  have hr := B.returns
  have hts := atoms_spec (ws := ws_k_X11_refused_8) B.pre
  have hown : s.vm.findClass RX11 = some m.cls := findClass_of_methodNamed B.named
  have hiX11 : ∀ w ∈ u_ws RX11 TX11 11, w ∈ ws_k_X11_refused_8 := fun w h => List.mem_cons_of_mem _ (List.mem_append_right _ h)
  subst hsz
  have hD := hD0.self (sz := s.heap.size)
  generalize hAe : va_A [(a0, .inr (11, [.ref a1, .ref a2, .ref a3, .ref a4, .ref a5, .ref a6, .ref a7, .ref a8, .ref a9, .ref a10, .ref a11])), (a9, .inl (cI, 6, .inl (fun _ => 0)))] s.heap.size = A at hD ⊢
  have hA : ∀ b : Nat, s.heap.size ≤ b → A b := fun b h => by rw [← hAe]; exact Or.inr h
  clear hD0 hAe
  have hS : va_S A s.heap s.heap [] := va_S.rf
  have hl := lv_entry ([.ref a0, .int 0]) (n := 2) (Nat.le_of_ble_eq_true rfl)
  rw [lg_entry_eq]
  generalize (lg_sl ([.ref a0, .int 0]) ++ List.replicate (2 - (lg_sl ([.ref a0, .int 0])).length) Slot.unset).toArray = ls at hl ⊢
  have hl : lv_has ls 2 [(0, .ref a0), (1, .int 0)] := hl
  obtain ⟨H, hHe⟩ : ∃ H : Heap, H = s.heap := ⟨_, rfl⟩
  rw [← hHe] at hP
  have hS : va_S A s.heap H [] := by rw [hHe]; exact hS
  rw [← hHe]
  refine lv_iload_n hx hb dX11_refused_0 rfl (lv_at hl 1 rfl) ?_
  refine lv_if_lt (tgt := 20) hx hb dX11_refused_1 (by decide) (fun c => absurd c (by decide +kernel)) (fun _ => ?_)
  refine lv_iload_n hx hb dX11_refused_4 rfl (lv_at hl 1 rfl) ?_
  refine lv_bipush (v := 6) hx hb dX11_refused_5 (by decide +kernel) ?_
  refine lv_icmp_ge (tgt := 20) hx hb dX11_refused_7 (by decide) (fun c => absurd c (by decide +kernel)) (fun _ => ?_)
  refine lv_aload_n hx hb dX11_refused_10 rfl (lv_at hl 0 rfl) ?_
  refine va_get (D := (dC, dI)) (ci := 11) (v := .ref a9) (C := RX11) (T := TX11) (N := 11) hx hb hts hiX11 hown hK hP 0 rfl rfl 8 (by decide) (hts _ (List.mem_of_getElem? (i := 1) rfl)) (fun _ h9 => h9) rfl dX11_refused_11 ?_
  refine lv_iload_n hx hb dX11_refused_14 rfl (lv_at hl 1 rfl) ?_
  refine lv_dup2_11 hx hb dX11_refused_15 rfl rfl ?_
  refine va_iald hx hb hK hP 1 1 rfl rfl (vpc _ _ (by decide +kernel)) dX11_refused_16 ?_
  refine tp_i (y := 0) rfl ?_
  refine lv_iconst (v := 1) hx hb dX11_refused_17 (by decide +kernel) ?_
  refine lv_iadd hx hb dX11_refused_18 ?_
  refine tp_i (y := 1) (by decide +kernel) ?_
  refine va_iast hx hb hK hP hD hS 1 1 rfl rfl (vpc _ _ (by decide +kernel)) dX11_refused_19 (fun H locs hP hD hS => ?_)
  have hP : va_P (dC, dI) vwCl [(a0, .inr (11, [.ref a1, .ref a2, .ref a3, .ref a4, .ref a5, .ref a6, .ref a7, .ref a8, .ref a9, .ref a10, .ref a11])), (a9, .inl (cI, 6, .inl (upd (fun _ => 0) 0 1)))] H := hP
  have hD : va_D A [(a0, .inr (11, [.ref a1, .ref a2, .ref a3, .ref a4, .ref a5, .ref a6, .ref a7, .ref a8, .ref a9, .ref a10, .ref a11])), (a9, .inl (cI, 6, .inl (upd (fun _ => 0) 0 1)))] := hD
  refine lv_iconst (v := (-1)) hx hb dX11_refused_20 (by decide +kernel) ?_
  have hP9 := hP.sub (ws' := [(a0, .inr (11, [.ref a1, .ref a2, .ref a3, .ref a4, .ref a5, .ref a6, .ref a7, .ref a8, .ref a9, .ref a10, .ref a11])), (a9, .inl (cI, 6, .inl (upd (fun _ => 0) 0 1)))]) [0, 1] rfl
  have hD9 := hD.sub (ws' := [(a0, .inr (11, [.ref a1, .ref a2, .ref a3, .ref a4, .ref a5, .ref a6, .ref a7, .ref a8, .ref a9, .ref a10, .ref a11])), (a9, .inl (cI, 6, .inl (upd (fun _ => 0) 0 1)))]) [0, 1] (by decide) rfl
  exact W.iret (v := (-1)) hx hb hr (fun t ht hW => ⟨⟨(-1), (), rfl, rfl, by rw [ht]; exact hP9, va_K.moved hW.alike hK, hD9⟩, hS.F ht⟩) hS.2.2 dX11_refused_21
def ws_p_X11_end : List Cond := .code yX11_end cX11_end 2 (some .boolean) :: ([.methodLink RX11 85 yX11_refused, .instanceMethod yX11_refused, .selects RX11 yX11_refused yX11_refused, .initialized RX11, .code yX11_refused cX11_refused 2 (some .int), .fieldLink RX11 67 "StackKeys" "refusals" "[I", .fieldLink RX11 10 "StackKeys" "tape" "LStackKeys$Tape;", .fieldLink RX11 93 "StackKeys$Tape" "size" "I"] ++ wsX110 ++ wsX70)
set_option maxRecDepth 20000 in
theorem g_p_X11_end_0 : GoodIn ws_p_X11_end (wsV RX11 85 RX11 yX11_refused ws_k_X11_refused_8) := goodIn_r _ [1, 2, 3, 4, 5, 6, 9, 10, 11, 12, 13, 14, 15, 16, 17, 18, 19] (by decide +kernel) (by decide +kernel)
set_option maxRecDepth 20000 in
theorem g_p_X11_end_1 : GoodIn ws_p_X11_end (wsV RX11 85 RX11 yX11_refused ws_k_X11_refused_8) := goodIn_r _ [1, 2, 3, 4, 5, 6, 9, 10, 11, 12, 13, 14, 15, 16, 17, 18, 19] (by decide +kernel) (by decide +kernel)
set_option maxHeartbeats 4000000 in
set_option maxRecDepth 100000 in
theorem p_X11_end (l : Launch) (dC : Nat → ClassId) (dI : Nat → Nat → Nat) (cB cI cJ cZ cQ : ClassId) (sz : Nat) (a0 a1 a2 a3 a4 a5 a6 a7 a8 a9 a10 a11 a12 : Nat) (x0 : Int32) : Met l yX11_end ws_p_X11_end ({ frames := 1, cells := 0, slots := 0, locals := 21 }) (va_Pc [.ref a0, .int x0] (fun U => U.heap.size = sz ∧ va_P (dC, dI) vwCl [(a0, .inr (11, [.ref a1, .ref a2, .ref a3, .ref a4, .ref a5, .ref a6, .ref a7, .ref a8, .ref a9, .ref a10, .ref a11])), (a9, .inl (cI, 6, .inl (fun _ => 0))), (a1, .inr (7, [.ref a12, .int 0]))] U.heap ∧ va_K (dC, dI) vwCl (tyA cB cI cJ cZ cQ) U ∧ va_D (fun _ => True) [(a0, .inr (11, [.ref a1, .ref a2, .ref a3, .ref a4, .ref a5, .ref a6, .ref a7, .ref a8, .ref a9, .ref a10, .ref a11])), (a9, .inl (cI, 6, .inl (fun _ => 0))), (a1, .inr (7, [.ref a12, .int 0]))])) (va_Qi (fun (r : Int32) (_ : Unit) => (r = 0 ∧ ((x0.toInt < 0) ∨ (x0.toInt ≥ 0 ∧ x0.toInt > 0))) ∨ (r = 1 ∧ ((x0.toInt ≥ 0 ∧ x0.toInt ≤ 0)))) (fun (_ : Unit) _ => True) (va_A [(a0, .inr (11, [.ref a1, .ref a2, .ref a3, .ref a4, .ref a5, .ref a6, .ref a7, .ref a8, .ref a9, .ref a10, .ref a11])), (a9, .inl (cI, 6, .inl (fun _ => 0))), (a1, .inr (7, [.ref a12, .int 0]))] sz)) 0 0 (va_A [(a0, .inr (11, [.ref a1, .ref a2, .ref a3, .ref a4, .ref a5, .ref a6, .ref a7, .ref a8, .ref a9, .ref a10, .ref a11])), (a9, .inl (cI, 6, .inl (fun _ => 0))), (a1, .inr (7, [.ref a12, .int 0]))] sz) := by
  refine Met.ofW (cc := cX11_end) (maxL := 2) (ret := (some .boolean)) (by decide +kernel) rfl ?_
  intro p e s m args below meth c s₁ B hml hv
  obtain ⟨rfl, hsz, hP, hK, hD0⟩ := hv
  have hx := B.exec
  have hb := B.bytes
  have hr := B.returns
  have hts := atoms_spec (ws := ws_p_X11_end) B.pre
  have hown : s.vm.findClass RX11 = some m.cls := findClass_of_methodNamed B.named
  have hiX11 : ∀ w ∈ u_ws RX11 TX11 11, w ∈ ws_p_X11_end := fun w h => List.mem_cons_of_mem _ (List.mem_append_left _ (List.mem_append_right _ h))
  have hiX7 : ∀ w ∈ u_ws RX7 TX7 2, w ∈ ws_p_X11_end := fun w h => List.mem_cons_of_mem _ (List.mem_append_right _ h)
  subst hsz
  have hD := hD0.self (sz := s.heap.size)
  generalize hAe : va_A [(a0, .inr (11, [.ref a1, .ref a2, .ref a3, .ref a4, .ref a5, .ref a6, .ref a7, .ref a8, .ref a9, .ref a10, .ref a11])), (a9, .inl (cI, 6, .inl (fun _ => 0))), (a1, .inr (7, [.ref a12, .int 0]))] s.heap.size = A at hD ⊢
  have hA : ∀ b : Nat, s.heap.size ≤ b → A b := fun b h => by rw [← hAe]; exact Or.inr h
  clear hD0 hAe
  have hS : va_S A s.heap s.heap [] := va_S.rf
  have hl := lv_entry ([.ref a0, .int x0]) (n := 2) (Nat.le_of_ble_eq_true rfl)
  rw [lg_entry_eq]
  generalize (lg_sl ([.ref a0, .int x0]) ++ List.replicate (2 - (lg_sl ([.ref a0, .int x0])).length) Slot.unset).toArray = ls at hl ⊢
  have hl : lv_has ls 2 [(0, .ref a0), (1, .int x0)] := hl
  obtain ⟨H, hHe⟩ : ∃ H : Heap, H = s.heap := ⟨_, rfl⟩
  rw [← hHe] at hP
  have hS : va_S A s.heap H [] := by rw [hHe]; exact hS
  rw [← hHe]
  refine lv_iload_n hx hb dX11_end_0 rfl (lv_at hl 1 rfl) ?_
  refine lv_if_lt (tgt := 15) hx hb dX11_end_1 (by decide) (fun c1 => ?_) (fun c1 => ?_)
  · have c1i := (fa_lt _ _).mp c1
    have c1k : (0 : Int32).toInt = 0 := (by decide +kernel)
    refine lv_aload_n hx hb dX11_end_15 rfl (lv_at hl 0 rfl) ?_
    refine lv_iconst (v := 0) hx hb dX11_end_16 (by decide +kernel) ?_
    have hPc := hP.sub (ws' := [(a0, .inr (11, [.ref a1, .ref a2, .ref a3, .ref a4, .ref a5, .ref a6, .ref a7, .ref a8, .ref a9, .ref a10, .ref a11])), (a9, .inl (cI, 6, .inl (fun _ => 0)))]) [0, 1] rfl
    have hDc := hD.sub (ws' := [(a0, .inr (11, [.ref a1, .ref a2, .ref a3, .ref a4, .ref a5, .ref a6, .ref a7, .ref a8, .ref a9, .ref a10, .ref a11])), (a9, .inl (cI, 6, .inl (fun _ => 0)))]) [0, 1] (by decide) rfl
    have hFc := va_free (wc := [(a0, .inr (11, [.ref a1, .ref a2, .ref a3, .ref a4, .ref a5, .ref a6, .ref a7, .ref a8, .ref a9, .ref a10, .ref a11])), (a9, .inl (cI, 6, .inl (fun _ => 0)))]) hD hS hA [0, 1] rfl
    refine va_calli (va_runV (As := [.int 0]) (rest := []) ⟨hx, hb, hml, hown, hts⟩ (k_X11_refused_8 l dC dI cB cI cJ cZ cQ H.size a0 a1 a2 a3 a4 a5 a6 a7 a8 a9 a10 a11) (cwV 1 hts g_p_X11_end_0 rfl rfl rfl (by decide +kernel) ⟨Nat.le_of_ble_eq_true rfl, Nat.le_of_ble_eq_true rfl⟩) ⟨fun a U g mk Z => by obtain ⟨q0, q1, qP, qK, qD⟩ := Z; exact ⟨q0, q1, qP, va_K.moved (u := U) (U := U.calling g mk a) (Vm.Alike.refl U.vm) qK, qD⟩, va_recv hK hPc (ci := 11) (q0 := 0) rfl rfl, fun U hU hW => ⟨rfl, by rw [hU], by rw [hU]; exact hPc, va_K.moved hW.alike hK, hDc.weaken (fun _ _ _ _ => trivial)⟩⟩ rfl rfl hl.1 rfl (lv_room (Nat.le_of_ble_eq_true rfl)) dX11_end_17 ⟨Nat.le_of_ble_eq_true rfl, Nat.le_of_ble_eq_true rfl⟩) hS (fun b _ h => hFc b h) hFc (fun r3 u2 t H1 locs ht hvm hw hB hz1 hk1 hS => ?_)
    obtain ⟨hP1, hK1, hD1⟩ := hB
    rw [ht] at hP1
    obtain ⟨hP, hD⟩ := va_join (wr := [(a1, .inr (7, [.ref a12, .int 0]))]) (w1 := [(a0, .inr (11, [.ref a1, .ref a2, .ref a3, .ref a4, .ref a5, .ref a6, .ref a7, .ref a8, .ref a9, .ref a10, .ref a11])), (a9, .inl (cI, 6, .inl (upd (fun _ => 0) 0 1)))]) hP hD [0, 1] [2] rfl rfl (by decide) (by decide) hk1 hFc hP1 hD1
    clear hP1 hK1 hD1 hk1 hz1 hvm hPc hDc hFc
    generalize H1 = H at hP hS ⊢
    have hP : va_P (dC, dI) vwCl [(a1, .inr (7, [.ref a12, .int 0])), (a0, .inr (11, [.ref a1, .ref a2, .ref a3, .ref a4, .ref a5, .ref a6, .ref a7, .ref a8, .ref a9, .ref a10, .ref a11])), (a9, .inl (cI, 6, .inl (upd (fun _ => 0) 0 1)))] H := hP
    have hD : va_D A [(a1, .inr (7, [.ref a12, .int 0])), (a0, .inr (11, [.ref a1, .ref a2, .ref a3, .ref a4, .ref a5, .ref a6, .ref a7, .ref a8, .ref a9, .ref a10, .ref a11])), (a9, .inl (cI, 6, .inl (upd (fun _ => 0) 0 1)))] := hD
    subst hw
    refine lv_pop hx hb dX11_end_20 rfl ?_
    refine lv_iconst (v := 0) hx hb dX11_end_21 (by decide +kernel) ?_
    exact W.zret (v := 0) hx hb hr (by decide +kernel) (fun t ht hW => ⟨⟨0, (), rfl, Or.inl ⟨rfl, by omega⟩, trivial⟩, hS.F ht⟩) hS.2.2 dX11_end_22
  · have c1i := mt (fa_lt _ _).mpr c1
    have c1k : (0 : Int32).toInt = 0 := (by decide +kernel)
    refine lv_iload_n hx hb dX11_end_4 rfl (lv_at hl 1 rfl) ?_
    refine lv_aload_n hx hb dX11_end_5 rfl (lv_at hl 0 rfl) ?_
    refine va_get (D := (dC, dI)) (ci := 11) (v := .ref a1) (C := RX11) (T := TX11) (N := 11) hx hb hts hiX11 hown hK hP 0 rfl rfl 0 (by decide) (hts _ (List.mem_of_getElem? (i := 7) rfl)) (fun _ h9 => h9) rfl dX11_end_6 ?_
    refine va_get (D := (dC, dI)) (ci := 7) (v := .int 0) (C := RX7) (T := TX7) (N := 2) hx hb hts hiX7 hown hK hP 2 rfl rfl 1 (by decide) (hts _ (List.mem_of_getElem? (i := 8) rfl)) (fun _ h9 => h9) rfl dX11_end_9 ?_
    refine lv_icmp_le (tgt := 23) hx hb dX11_end_12 (by decide) (fun c4 => ?_) (fun c4 => ?_)
    · have c4i := (fa_le _ _).mp c4
      have c4k : (0 : Int32).toInt = 0 := (by decide +kernel)
      refine lv_aload_n hx hb dX11_end_23 rfl (lv_at hl 0 rfl) ?_
      refine va_get (D := (dC, dI)) (ci := 11) (v := .ref a1) (C := RX11) (T := TX11) (N := 11) hx hb hts hiX11 hown hK hP 0 rfl rfl 0 (by decide) (hts _ (List.mem_of_getElem? (i := 7) rfl)) (fun _ h9 => h9) rfl dX11_end_24 ?_
      refine lv_iload_n hx hb dX11_end_27 rfl (lv_at hl 1 rfl) ?_
      refine va_put (D := (dC, dI)) (ci := 7) (v := .int x0) (ty := .int) (C := RX7) (T := TX7) (N := 2) hx hb hts hiX7 tyX7 tyX7_ok nmX7 hown hK hP hD hS 2 rfl rfl 1 (by decide) (hts _ (List.mem_of_getElem? (i := 8) rfl)) (fun _ h9 => h9) rfl (by decide +kernel) rfl rfl (Nat.le_of_ble_eq_true rfl) dX11_end_28 (fun H locs hP hD hS => ?_)
      have hP : va_P (dC, dI) vwCl [(a0, .inr (11, [.ref a1, .ref a2, .ref a3, .ref a4, .ref a5, .ref a6, .ref a7, .ref a8, .ref a9, .ref a10, .ref a11])), (a9, .inl (cI, 6, .inl (fun _ => 0))), (a1, .inr (7, [.ref a12, .int x0]))] H := hP
      have hD : va_D A [(a0, .inr (11, [.ref a1, .ref a2, .ref a3, .ref a4, .ref a5, .ref a6, .ref a7, .ref a8, .ref a9, .ref a10, .ref a11])), (a9, .inl (cI, 6, .inl (fun _ => 0))), (a1, .inr (7, [.ref a12, .int x0]))] := hD
      refine lv_iconst (v := 1) hx hb dX11_end_31 (by decide +kernel) ?_
      exact W.zret (v := 1) hx hb hr (by decide +kernel) (fun t ht hW => ⟨⟨1, (), rfl, Or.inr (⟨rfl, by omega⟩), trivial⟩, hS.F ht⟩) hS.2.2 dX11_end_32
    · have c4i := mt (fa_le _ _).mpr c4
      have c4k : (0 : Int32).toInt = 0 := (by decide +kernel)
      refine lv_aload_n hx hb dX11_end_15 rfl (lv_at hl 0 rfl) ?_
      refine lv_iconst (v := 0) hx hb dX11_end_16 (by decide +kernel) ?_
      have hPc := hP.sub (ws' := [(a0, .inr (11, [.ref a1, .ref a2, .ref a3, .ref a4, .ref a5, .ref a6, .ref a7, .ref a8, .ref a9, .ref a10, .ref a11])), (a9, .inl (cI, 6, .inl (fun _ => 0)))]) [0, 1] rfl
      have hDc := hD.sub (ws' := [(a0, .inr (11, [.ref a1, .ref a2, .ref a3, .ref a4, .ref a5, .ref a6, .ref a7, .ref a8, .ref a9, .ref a10, .ref a11])), (a9, .inl (cI, 6, .inl (fun _ => 0)))]) [0, 1] (by decide) rfl
      have hFc := va_free (wc := [(a0, .inr (11, [.ref a1, .ref a2, .ref a3, .ref a4, .ref a5, .ref a6, .ref a7, .ref a8, .ref a9, .ref a10, .ref a11])), (a9, .inl (cI, 6, .inl (fun _ => 0)))]) hD hS hA [0, 1] rfl
      refine va_calli (va_runV (As := [.int 0]) (rest := []) ⟨hx, hb, hml, hown, hts⟩ (k_X11_refused_8 l dC dI cB cI cJ cZ cQ H.size a0 a1 a2 a3 a4 a5 a6 a7 a8 a9 a10 a11) (cwV 1 hts g_p_X11_end_1 rfl rfl rfl (by decide +kernel) ⟨Nat.le_of_ble_eq_true rfl, Nat.le_of_ble_eq_true rfl⟩) ⟨fun a U g mk Z => by obtain ⟨q0, q1, qP, qK, qD⟩ := Z; exact ⟨q0, q1, qP, va_K.moved (u := U) (U := U.calling g mk a) (Vm.Alike.refl U.vm) qK, qD⟩, va_recv hK hPc (ci := 11) (q0 := 0) rfl rfl, fun U hU hW => ⟨rfl, by rw [hU], by rw [hU]; exact hPc, va_K.moved hW.alike hK, hDc.weaken (fun _ _ _ _ => trivial)⟩⟩ rfl rfl hl.1 rfl (lv_room (Nat.le_of_ble_eq_true rfl)) dX11_end_17 ⟨Nat.le_of_ble_eq_true rfl, Nat.le_of_ble_eq_true rfl⟩) hS (fun b _ h => hFc b h) hFc (fun r6 u5 t H1 locs ht hvm hw hB hz1 hk1 hS => ?_)
      obtain ⟨hP1, hK1, hD1⟩ := hB
      rw [ht] at hP1
      obtain ⟨hP, hD⟩ := va_join (wr := [(a1, .inr (7, [.ref a12, .int 0]))]) (w1 := [(a0, .inr (11, [.ref a1, .ref a2, .ref a3, .ref a4, .ref a5, .ref a6, .ref a7, .ref a8, .ref a9, .ref a10, .ref a11])), (a9, .inl (cI, 6, .inl (upd (fun _ => 0) 0 1)))]) hP hD [0, 1] [2] rfl rfl (by decide) (by decide) hk1 hFc hP1 hD1
      clear hP1 hK1 hD1 hk1 hz1 hvm hPc hDc hFc
      generalize H1 = H at hP hS ⊢
      have hP : va_P (dC, dI) vwCl [(a1, .inr (7, [.ref a12, .int 0])), (a0, .inr (11, [.ref a1, .ref a2, .ref a3, .ref a4, .ref a5, .ref a6, .ref a7, .ref a8, .ref a9, .ref a10, .ref a11])), (a9, .inl (cI, 6, .inl (upd (fun _ => 0) 0 1)))] H := hP
      have hD : va_D A [(a1, .inr (7, [.ref a12, .int 0])), (a0, .inr (11, [.ref a1, .ref a2, .ref a3, .ref a4, .ref a5, .ref a6, .ref a7, .ref a8, .ref a9, .ref a10, .ref a11])), (a9, .inl (cI, 6, .inl (upd (fun _ => 0) 0 1)))] := hD
      subst hw
      refine lv_pop hx hb dX11_end_20 rfl ?_
      refine lv_iconst (v := 0) hx hb dX11_end_21 (by decide +kernel) ?_
      exact W.zret (v := 0) hx hb hr (by decide +kernel) (fun t ht hW => ⟨⟨0, (), rfl, Or.inl ⟨rfl, by omega⟩, trivial⟩, hS.F ht⟩) hS.2.2 dX11_end_22
