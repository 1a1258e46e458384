def ws_k_X8_init_10 : List Cond := .code yX8_init cX8_init 1 none :: ([.methodLink RX8 3 objectInit, .instanceMethod objectInit, .code objectInit ⟨#[0xb1]⟩ 1 none, .arrayClass .int, .fieldLink RX8 9 "StackKeys$Tests" "code" "[I", .fieldLink RX8 15 "StackKeys$Tests" "stack" "[I", .fieldLink RX8 18 "StackKeys$Tests" "size" "I"] ++ wsX80)
set_option maxHeartbeats 4000000 in
set_option maxRecDepth 100000 in
theorem k_X8_init_10 (l : Launch) (dC : Nat → ClassId) (dI : Nat → Nat → Nat) (cB cI cJ cZ cQ : ClassId) (sz : Nat) (a0 : Nat) : Met l yX8_init ws_k_X8_init_10 ({ frames := 1, cells := 2, slots := 1664, locals := 12 }) (va_Pc [.ref a0] (fun U => U.heap.size = sz ∧ va_P (dC, dI) vwCl [(a0, .inr (8, [.null, .null, .int 0]))] U.heap ∧ va_K (dC, dI) vwCl (tyA cB cI cJ cZ cQ) U ∧ va_D (fun _ => True) [(a0, .inr (8, [.null, .null, .int 0]))])) (va_Qv (fun _ : (Nat → Nat) => True) (fun (u : (Nat → Nat)) t => va_P (dC, dI) vwCl [(a0, .inr (8, [.ref (u 0), .ref (u 1), .int 0])), ((u 0), .inl (cI, 1600, .inl (fun _ => 0))), ((u 1), .inl (cI, 64, .inl (fun _ => 0)))] t.heap ∧ va_K (dC, dI) vwCl (tyA cB cI cJ cZ cQ) t ∧ va_D (va_A [(a0, .inr (8, [.null, .null, .int 0]))] sz) [(a0, .inr (8, [.ref (u 0), .ref (u 1), .int 0])), ((u 0), .inl (cI, 1600, .inl (fun _ => 0))), ((u 1), .inl (cI, 64, .inl (fun _ => 0)))]) (va_A [(a0, .inr (8, [.null, .null, .int 0]))] sz)) 2 1664 (va_A [(a0, .inr (8, [.null, .null, .int 0]))] sz) := by
  refine Met.ofW (cc := cX8_init) (maxL := 1) (ret := none) (by decide +kernel) rfl ?_
  intro p e s m args below meth c s₁ B hml hv
  obtain ⟨rfl, hsz, hP, hK, hD0⟩ := hv
  have hx := B.exec
  have hb := B.bytes
  have hr := B.returns
  have hts := atoms_spec (ws := ws_k_X8_init_10) B.pre
  have hown : s.vm.findClass RX8 = some m.cls := findClass_of_methodNamed B.named
  have hin : meth.name = "<init>" := (name_of_methodNamed B.named B.method).1
  have hiX8 : ∀ w ∈ u_ws RX8 TX8 3, w ∈ ws_k_X8_init_10 := fun w h => List.mem_cons_of_mem _ (List.mem_append_right _ h)
  subst hsz
  have hD := hD0.self (sz := s.heap.size)
  generalize hAe : va_A [(a0, .inr (8, [.null, .null, .int 0]))] s.heap.size = A at hD ⊢
  have hA : ∀ b : Nat, s.heap.size ≤ b → A b := fun b h => by rw [← hAe]; exact Or.inr h
  clear hD0 hAe
  have hS : va_S A s.heap s.heap [] := va_S.rf
  have hl := lv_entry ([.ref a0]) (n := 1) (Nat.le_of_ble_eq_true rfl)
  rw [lg_entry_eq]
  generalize (lg_sl ([.ref a0]) ++ List.replicate (1 - (lg_sl ([.ref a0])).length) Slot.unset).toArray = ls at hl ⊢
  have hl : lv_has ls 1 [(0, .ref a0)] := hl
  obtain ⟨H, hHe⟩ : ∃ H : Heap, H = s.heap := ⟨_, rfl⟩
  rw [← hHe] at hP
  have hS : va_S A s.heap H [] := by rw [hHe]; exact hS
  rw [← hHe]
  refine lv_aload_n hx hb dX8_init_0 rfl (lv_at hl 0 rfl) ?_
  refine W.objInit hx hb hown (hts _ (List.mem_of_getElem? (i := 1) rfl)) (hts _ (List.mem_of_getElem? (i := 2) rfl)) (hts _ (List.mem_of_getElem? (i := 3) rfl)) rfl (by rw [hml]; exact hl.1) rfl dX8_init_1 (Nat.le_of_ble_eq_true rfl) (Nat.le_of_ble_eq_true rfl) ?_
  refine W.eq (g2 := F0 m 4 ls []) rfl ?_
  refine lv_aload_n hx hb dX8_init_4 rfl (lv_at hl 0 rfl) ?_
  refine lv_sipush (v := 1600) hx hb dX8_init_5 (by decide +kernel) ?_
  refine va_newaC (ty := .int) (a0 := (1600, .inl (fun _ => 0))) (N' := 1600) hx hb (hts _ (List.mem_of_getElem? (i := 4) rfl)) rfl hK hP hD hS hA 1 rfl (fun _ => rfl) (by decide +kernel) (by decide +kernel) (by decide +kernel) (Nat.le_of_ble_eq_true rfl) (Nat.le_of_ble_eq_true rfl) dX8_init_8 (fun q1 H hP hD hS => ?_)
  have hP : va_P (dC, dI) vwCl [(a0, .inr (8, [.null, .null, .int 0])), (q1, .inl (cI, 1600, .inl (fun _ => 0)))] H := hP
  have hD : va_D A [(a0, .inr (8, [.null, .null, .int 0])), (q1, .inl (cI, 1600, .inl (fun _ => 0)))] := hD
  refine W.widen (k := 1) (n := 1600) (by omega) (by omega) ?_
  refine va_putF (D := (dC, dI)) (ci := 8) (v := .ref q1) (ty := .array .int) (C := RX8) (T := TX8) (N := 3) hx hb hts hiX8 tyX8 tyX8_ok nmX8 hown hK hP hD hS 0 rfl rfl 0 (by decide) (hts _ (List.mem_of_getElem? (i := 5) rfl)) (fun _ h9 => h9) rfl hin rfl (by decide +kernel) rfl rfl (Nat.le_of_ble_eq_true rfl) dX8_init_10 (fun H locs hP hD hS => ?_)
  have hP : va_P (dC, dI) vwCl [(a0, .inr (8, [.ref q1, .null, .int 0])), (q1, .inl (cI, 1600, .inl (fun _ => 0)))] H := hP
  have hD : va_D A [(a0, .inr (8, [.ref q1, .null, .int 0])), (q1, .inl (cI, 1600, .inl (fun _ => 0)))] := hD
  refine lv_aload_n hx hb dX8_init_13 rfl (lv_at hl 0 rfl) ?_
  refine lv_bipush (v := 64) hx hb dX8_init_14 (by decide +kernel) ?_
  refine va_newaC (ty := .int) (a0 := (64, .inl (fun _ => 0))) (N' := 64) hx hb (hts _ (List.mem_of_getElem? (i := 4) rfl)) rfl hK hP hD hS hA 1 rfl (fun _ => rfl) (by decide +kernel) (by decide +kernel) (by decide +kernel) (Nat.le_of_ble_eq_true rfl) (Nat.le_of_ble_eq_true rfl) dX8_init_16 (fun q2 H hP hD hS => ?_)
  have hP : va_P (dC, dI) vwCl [(a0, .inr (8, [.ref q1, .null, .int 0])), (q1, .inl (cI, 1600, .inl (fun _ => 0))), (q2, .inl (cI, 64, .inl (fun _ => 0)))] H := hP
  have hD : va_D A [(a0, .inr (8, [.ref q1, .null, .int 0])), (q1, .inl (cI, 1600, .inl (fun _ => 0))), (q2, .inl (cI, 64, .inl (fun _ => 0)))] := hD
  refine W.widen (k := 2) (n := 1664) (by omega) (by omega) ?_
  refine va_putF (D := (dC, dI)) (ci := 8) (v := .ref q2) (ty := .array .int) (C := RX8) (T := TX8) (N := 3) hx hb hts hiX8 tyX8 tyX8_ok nmX8 hown hK hP hD hS 0 rfl rfl 1 (by decide) (hts _ (List.mem_of_getElem? (i := 6) rfl)) (fun _ h9 => h9) rfl hin rfl (by decide +kernel) rfl rfl (Nat.le_of_ble_eq_true rfl) dX8_init_18 (fun H locs hP hD hS => ?_)
  have hP : va_P (dC, dI) vwCl [(a0, .inr (8, [.ref q1, .ref q2, .int 0])), (q1, .inl (cI, 1600, .inl (fun _ => 0))), (q2, .inl (cI, 64, .inl (fun _ => 0)))] H := hP
  have hD : va_D A [(a0, .inr (8, [.ref q1, .ref q2, .int 0])), (q1, .inl (cI, 1600, .inl (fun _ => 0))), (q2, .inl (cI, 64, .inl (fun _ => 0)))] := hD
  refine lv_aload_n hx hb dX8_init_21 rfl (lv_at hl 0 rfl) ?_
  refine lv_iconst (v := 0) hx hb dX8_init_22 (by decide +kernel) ?_
  refine va_put (D := (dC, dI)) (ci := 8) (v := .int 0) (ty := .int) (C := RX8) (T := TX8) (N := 3) hx hb hts hiX8 tyX8 tyX8_ok nmX8 hown hK hP hD hS 0 rfl rfl 2 (by decide) (hts _ (List.mem_of_getElem? (i := 7) rfl)) (fun _ h9 => h9) rfl (by decide +kernel) rfl rfl (Nat.le_of_ble_eq_true rfl) dX8_init_23 (fun H locs hP hD hS => ?_)
  have hP : va_P (dC, dI) vwCl [(a0, .inr (8, [.ref q1, .ref q2, .int 0])), (q1, .inl (cI, 1600, .inl (fun _ => 0))), (q2, .inl (cI, 64, .inl (fun _ => 0)))] H := hP
  have hD : va_D A [(a0, .inr (8, [.ref q1, .ref q2, .int 0])), (q1, .inl (cI, 1600, .inl (fun _ => 0))), (q2, .inl (cI, 64, .inl (fun _ => 0)))] := hD
  have hP9 := hP.sub (ws' := [(a0, .inr (8, [.ref q1, .ref q2, .int 0])), (q1, .inl (cI, 1600, .inl (fun _ => 0))), (q2, .inl (cI, 64, .inl (fun _ => 0)))]) [0, 1, 2] rfl
  have hD9 := hD.sub (ws' := [(a0, .inr (8, [.ref q1, .ref q2, .int 0])), (q1, .inl (cI, 1600, .inl (fun _ => 0))), (q2, .inl (cI, 64, .inl (fun _ => 0)))]) [0, 1, 2] (by decide) rfl
  exact W.vret hx hb hr (fun t ht hW => ⟨⟨(fun k => ([q1, q2] : List Nat).getD k 0), rfl, trivial, by rw [ht]; exact hP9, va_K.moved hW.alike hK, hD9⟩, hS.F ht⟩) hS.2.2 dX8_init_26
