def ws_k_X4_init_9 : List Cond := .code yX4_init cX4_init 1 none :: ([.methodLink RX4 3 objectInit, .instanceMethod objectInit, .code objectInit ⟨#[0xb1]⟩ 1 none, .arrayClass .int, .fieldLink RX4 11 "StackKeys$Picture" "bytes" "[I", .classLink RX4 15 RX6, .instantiable RX6 4, .initialized RX6, .code yX6_init cX6_init 1 none, .methodLink RX6 3 objectInit, .fieldLink RX6 9 "StackKeys$Standing" "spot" "[I", .fieldLink RX6 15 "StackKeys$Standing" "where" "[I", .fieldLink RX6 18 "StackKeys$Standing" "rowSize" "[I", .classLink RX6 21 "[[I", .fieldLink RX6 23 "StackKeys$Standing" "rows" "[[I", .instanceMethod yX6_init, .fieldLink RX4 18 "StackKeys$Picture" "draft" "LStackKeys$Standing;", .fieldLink RX4 22 "StackKeys$Picture" "size" "I"] ++ wsX40 ++ wsX60)
set_option maxRecDepth 20000 in
theorem g_k_X4_init_9_0 : GoodIn ws_k_X4_init_9 (ws_k_X6_init_8) := goodIn_r _ [9, 10, 2, 3, 4, 11, 12, 13, 14, 15, 22, 23, 24, 25] (by decide +kernel) (by decide +kernel)
set_option maxHeartbeats 4000000 in
set_option maxRecDepth 100000 in
theorem k_X4_init_9 (l : Launch) (dC : Nat → ClassId) (dI : Nat → Nat → Nat) (cB cI cJ cZ cQ : ClassId) (sz : Nat) (a0 : Nat) : Met l yX4_init ws_k_X4_init_9 ({ frames := 2, cells := 10, slots := 79, locals := 32 }) (va_Pc [.ref a0] (fun U => U.heap.size = sz ∧ va_P (dC, dI) vwCl [(a0, .inr (4, [.null, .null, .int 0]))] U.heap ∧ va_K (dC, dI) vwCl (tyA cB cI cJ cZ cQ) U ∧ va_D (fun _ => True) [(a0, .inr (4, [.null, .null, .int 0]))] ∧ exN U)) (va_Qv (fun _ : (Nat → Nat) => True) (fun (u : (Nat → Nat)) t => va_P (dC, dI) vwCl [(a0, .inr (4, [.ref (u 0), .ref (u 1), .int 0])), ((u 0), .inl (cI, 36, .inl (fun _ => 0))), ((u 1), .inr (6, [.ref (u 2), .ref (u 3), .ref (u 4), .ref (u 5)])), ((u 2), .inl (cI, 3, .inl (fun _ => 0))), ((u 3), .inl (cI, 4, .inl (fun _ => 0))), ((u 4), .inl (cI, 4, .inl (fun _ => 0))), ((u 5), .inl (cQ, 4, .inr (.inr (.inr (.inr (fun i => ([(u 6), (u 7), (u 8), (u 9)] : List Nat)[i]?)))))), ((u 6), .inl (cI, 6, .inl (fun _ => 0))), ((u 7), .inl (cI, 6, .inl (fun _ => 0))), ((u 8), .inl (cI, 6, .inl (fun _ => 0))), ((u 9), .inl (cI, 6, .inl (fun _ => 0)))] t.heap ∧ va_K (dC, dI) vwCl (tyA cB cI cJ cZ cQ) t ∧ va_D (va_A [(a0, .inr (4, [.null, .null, .int 0]))] sz) [(a0, .inr (4, [.ref (u 0), .ref (u 1), .int 0])), ((u 0), .inl (cI, 36, .inl (fun _ => 0))), ((u 1), .inr (6, [.ref (u 2), .ref (u 3), .ref (u 4), .ref (u 5)])), ((u 2), .inl (cI, 3, .inl (fun _ => 0))), ((u 3), .inl (cI, 4, .inl (fun _ => 0))), ((u 4), .inl (cI, 4, .inl (fun _ => 0))), ((u 5), .inl (cQ, 4, .inr (.inr (.inr (.inr (fun i => ([(u 6), (u 7), (u 8), (u 9)] : List Nat)[i]?)))))), ((u 6), .inl (cI, 6, .inl (fun _ => 0))), ((u 7), .inl (cI, 6, .inl (fun _ => 0))), ((u 8), .inl (cI, 6, .inl (fun _ => 0))), ((u 9), .inl (cI, 6, .inl (fun _ => 0)))]) (va_A [(a0, .inr (4, [.null, .null, .int 0]))] sz)) 10 79 (va_A [(a0, .inr (4, [.null, .null, .int 0]))] sz) := by
  refine Met.ofW (cc := cX4_init) (maxL := 1) (ret := none) (by decide +kernel) rfl ?_
  intro p e s m args below meth c s₁ B hml hv
  obtain ⟨rfl, hsz, hP, hK, hD0, hE⟩ := hv
  have hx := B.exec
  have hb := B.bytes
  have hr := B.returns
  have hts := atoms_spec (ws := ws_k_X4_init_9) B.pre
  have hown : s.vm.findClass RX4 = some m.cls := findClass_of_methodNamed B.named
  have hin : meth.name = "<init>" := (name_of_methodNamed B.named B.method).1
  have hiX4 : ∀ w ∈ u_ws RX4 TX4 3, w ∈ ws_k_X4_init_9 := fun w h => List.mem_cons_of_mem _ (List.mem_append_left _ (List.mem_append_right _ h))
  have hiX6 : ∀ w ∈ u_ws RX6 TX6 4, w ∈ ws_k_X4_init_9 := fun w h => List.mem_cons_of_mem _ (List.mem_append_right _ h)
  subst hsz
  have hD := hD0.self (sz := s.heap.size)
  generalize hAe : va_A [(a0, .inr (4, [.null, .null, .int 0]))] s.heap.size = A at hD ⊢
  have hA : ∀ b : Nat, s.heap.size ≤ b → A b := fun b h => by rw [← hAe]; exact Or.inr h
  clear hD0 hAe
  have hS : va_S A s.heap s.heap [] := va_S.rf
  have hl := lv_entry ([.ref a0]) (n := 1) (Nat.le_of_ble_eq_true rfl)
  rw [lg_entry_eq]
  generalize (lg_sl ([.ref a0]) ++ List.replicate (1 - (lg_sl ([.ref a0])).length) Slot.unset).toArray = ls at hl ⊢
  have hl : lv_has ls 1 [(0, .ref a0)] := hl
  obtain ⟨H, hHe⟩ : ∃ H : Heap, H = s.heap := ⟨_, rfl⟩
  rw [← hHe] at hP
  have hS : va_S A s.heap H [] := by rw [hHe]; exact hS
  rw [← hHe]
  refine lv_aload_n hx hb (dk_at dkX4_init_0 0 rfl) rfl (lv_at hl 0 rfl) ?_
  refine W.objInit hx hb hown (hts _ (List.mem_of_getElem? (i := 1) rfl)) (hts _ (List.mem_of_getElem? (i := 2) rfl)) (hts _ (List.mem_of_getElem? (i := 3) rfl)) rfl (by rw [hml]; exact hl.1) rfl (dk_at dkX4_init_0 1 rfl) (Nat.le_of_ble_eq_true rfl) (Nat.le_of_ble_eq_true rfl) ?_
  refine W.eq (g2 := F0 m 4 ls []) rfl ?_
  refine lv_aload_n hx hb (dk_at dkX4_init_0 2 rfl) rfl (lv_at hl 0 rfl) ?_
  refine lv_bipush (v := 36) hx hb (dk_at dkX4_init_0 3 rfl) (by decide +kernel) ?_
  refine va_newaC (ty := .int) (a0 := (36, .inl (fun _ => 0))) (N' := 36) hx hb (hts _ (List.mem_of_getElem? (i := 4) rfl)) rfl hK hP hD hS hA 1 rfl (fun _ => rfl) (by decide +kernel) (by decide +kernel) (by decide +kernel) (Nat.le_of_ble_eq_true rfl) (Nat.le_of_ble_eq_true rfl) (dk_at dkX4_init_0 4 rfl) (fun q1 H hP hD hS => ?_)
  have hP : va_P (dC, dI) vwCl [(a0, .inr (4, [.null, .null, .int 0])), (q1, .inl (cI, 36, .inl (fun _ => 0)))] H := hP
  have hD : va_D A [(a0, .inr (4, [.null, .null, .int 0])), (q1, .inl (cI, 36, .inl (fun _ => 0)))] := hD
  refine W.widen (k := 1) (n := 36) (by omega) (by omega) ?_
  refine va_putF (D := (dC, dI)) (ci := 4) (v := .ref q1) (ty := .array .int) (C := RX4) (T := TX4) (N := 3) hx hb hts hiX4 tyX4 tyX4_ok nmX4 hown hK hP hD hS 0 rfl rfl 0 (by decide) (hts _ (List.mem_of_getElem? (i := 5) rfl)) (fun _ h9 => h9) rfl hin rfl (by decide +kernel) rfl rfl (Nat.le_of_ble_eq_true rfl) (dk_at dkX4_init_0 5 rfl) (fun H locs hP hD hS => ?_)
  have hP : va_P (dC, dI) vwCl [(a0, .inr (4, [.ref q1, .null, .int 0])), (q1, .inl (cI, 36, .inl (fun _ => 0)))] H := hP
  have hD : va_D A [(a0, .inr (4, [.ref q1, .null, .int 0])), (q1, .inl (cI, 36, .inl (fun _ => 0)))] := hD
  refine lv_aload_n hx hb (dk_at dkX4_init_0 6 rfl) rfl (lv_at hl 0 rfl) ?_
  refine va_new (ci := 6) (fs := [.null, .null, .null, .null]) (C := RX6) (T := TX6) (N := 4) hx hb hts hiX6 tyX6 tyX6_ok hown (hts _ (List.mem_of_getElem? (i := 6) rfl)) (hts _ (List.mem_of_getElem? (i := 7) rfl)) (hts _ (List.mem_of_getElem? (i := 8) rfl)) hK hP hD hS hA rfl (by decide +kernel) (Nat.le_of_ble_eq_true rfl) (Nat.le_of_ble_eq_true rfl) (dk_at dkX4_init_0 7 rfl) (fun q2 H hP hD hS => ?_)
  have hP : va_P (dC, dI) vwCl [(a0, .inr (4, [.ref q1, .null, .int 0])), (q1, .inl (cI, 36, .inl (fun _ => 0))), (q2, .inr (6, [.null, .null, .null, .null]))] H := hP
  have hD : va_D A [(a0, .inr (4, [.ref q1, .null, .int 0])), (q1, .inl (cI, 36, .inl (fun _ => 0))), (q2, .inr (6, [.null, .null, .null, .null]))] := hD
  refine W.widen (k := 2) (n := 40) (by omega) (by omega) ?_
  refine lv_dup hx hb (dk_at dkX4_init_0 8 rfl) rfl ?_
  have hPc := hP.sub (ws' := [(q2, .inr (6, [.null, .null, .null, .null]))]) [2] rfl
  have hDc := hD.sub (ws' := [(q2, .inr (6, [.null, .null, .null, .null]))]) [2] (by decide) rfl
  have hFc := va_free (wc := [(q2, .inr (6, [.null, .null, .null, .null]))]) hD hS hA [2] rfl
  refine va_callv (va_runIN (As := []) (rest := [.ref q2, .ref a0]) ⟨hx, hb, hml, hown, hts⟩ (k_X6_init_8 l dC dI cB cI cJ cZ cQ H.size q2) ⟨va_cnB 0 hts g_k_X4_init_9_0 rfl rfl rfl hE.2.2.2.2.2.2.1 (hts _ (List.mem_of_getElem? (i := 8) rfl)) (by decide +kernel) ⟨Nat.le_of_ble_eq_true rfl, Nat.le_of_ble_eq_true rfl⟩, rfl, (hts _ (List.mem_of_getElem? (i := 16) rfl))⟩ ⟨fun a U g mk Z => by obtain ⟨q0, q1, qP, qK, qD, qE⟩ := Z; exact ⟨q0, q1, qP, va_K.moved (u := U) (U := U.calling g mk a) (Vm.Alike.refl U.vm) qK, qD, exN.same (u := U) (U := U.calling g mk a) rfl qE⟩, fun U hU hW => ⟨rfl, by rw [hU], by rw [hU]; exact hPc, va_K.moved hW.alike hK, hDc.weaken (fun _ _ _ _ => trivial), exN.warm hW hE⟩⟩ rfl rfl hl.1 rfl (lv_room (Nat.le_of_ble_eq_true rfl)) (dk_at dkX4_init_0 9 rfl) ⟨Nat.le_of_ble_eq_true rfl, Nat.le_of_ble_eq_true rfl⟩) hS (fun b _ h => hFc b h) hFc (fun u3 t H1 locs ht hvm hw hB hz1 hk1 hS => ?_)
  obtain ⟨hP1, hK1, hD1⟩ := hB
  rw [ht] at hP1
  obtain ⟨hP, hD⟩ := va_join (wr := [(a0, .inr (4, [.ref q1, .null, .int 0])), (q1, .inl (cI, 36, .inl (fun _ => 0)))]) (w1 := [(q2, .inr (6, [.ref (u3 0), .ref (u3 1), .ref (u3 2), .ref (u3 3)])), ((u3 0), .inl (cI, 3, .inl (fun _ => 0))), ((u3 1), .inl (cI, 4, .inl (fun _ => 0))), ((u3 2), .inl (cI, 4, .inl (fun _ => 0))), ((u3 3), .inl (cQ, 4, .inr (.inr (.inr (.inr (fun i => ([(u3 4), (u3 5), (u3 6), (u3 7)] : List Nat)[i]?)))))), ((u3 4), .inl (cI, 6, .inl (fun _ => 0))), ((u3 5), .inl (cI, 6, .inl (fun _ => 0))), ((u3 6), .inl (cI, 6, .inl (fun _ => 0))), ((u3 7), .inl (cI, 6, .inl (fun _ => 0)))]) hP hD [2] [0, 1] rfl rfl (by decide) (by decide) hk1 hFc hP1 hD1
  clear hP1 hK1 hD1 hk1 hz1 hvm hPc hDc hFc
  generalize H1 = H at hP hS ⊢
  have hP : va_P (dC, dI) vwCl [(a0, .inr (4, [.ref q1, .null, .int 0])), (q1, .inl (cI, 36, .inl (fun _ => 0))), (q2, .inr (6, [.ref (u3 0), .ref (u3 1), .ref (u3 2), .ref (u3 3)])), ((u3 0), .inl (cI, 3, .inl (fun _ => 0))), ((u3 1), .inl (cI, 4, .inl (fun _ => 0))), ((u3 2), .inl (cI, 4, .inl (fun _ => 0))), ((u3 3), .inl (cQ, 4, .inr (.inr (.inr (.inr (fun i => ([(u3 4), (u3 5), (u3 6), (u3 7)] : List Nat)[i]?)))))), ((u3 4), .inl (cI, 6, .inl (fun _ => 0))), ((u3 5), .inl (cI, 6, .inl (fun _ => 0))), ((u3 6), .inl (cI, 6, .inl (fun _ => 0))), ((u3 7), .inl (cI, 6, .inl (fun _ => 0)))] H := hP
  have hD : va_D A [(a0, .inr (4, [.ref q1, .null, .int 0])), (q1, .inl (cI, 36, .inl (fun _ => 0))), (q2, .inr (6, [.ref (u3 0), .ref (u3 1), .ref (u3 2), .ref (u3 3)])), ((u3 0), .inl (cI, 3, .inl (fun _ => 0))), ((u3 1), .inl (cI, 4, .inl (fun _ => 0))), ((u3 2), .inl (cI, 4, .inl (fun _ => 0))), ((u3 3), .inl (cQ, 4, .inr (.inr (.inr (.inr (fun i => ([(u3 4), (u3 5), (u3 6), (u3 7)] : List Nat)[i]?)))))), ((u3 4), .inl (cI, 6, .inl (fun _ => 0))), ((u3 5), .inl (cI, 6, .inl (fun _ => 0))), ((u3 6), .inl (cI, 6, .inl (fun _ => 0))), ((u3 7), .inl (cI, 6, .inl (fun _ => 0)))] := hD
  refine W.widen (k := 10) (n := 79) (by omega) (by omega) ?_
  refine va_putF (D := (dC, dI)) (ci := 4) (v := .ref q2) (ty := .object "StackKeys$Standing") (C := RX4) (T := TX4) (N := 3) hx hb hts hiX4 tyX4 tyX4_ok nmX4 hown hK hP hD hS 0 rfl rfl 1 (by decide) (hts _ (List.mem_of_getElem? (i := 17) rfl)) (fun _ h9 => h9) rfl hin rfl (by decide +kernel) rfl rfl (Nat.le_of_ble_eq_true rfl) (dk_at dkX4_init_0 10 rfl) (fun H locs hP hD hS => ?_)
  have hP : va_P (dC, dI) vwCl [(a0, .inr (4, [.ref q1, .ref q2, .int 0])), (q1, .inl (cI, 36, .inl (fun _ => 0))), (q2, .inr (6, [.ref (u3 0), .ref (u3 1), .ref (u3 2), .ref (u3 3)])), ((u3 0), .inl (cI, 3, .inl (fun _ => 0))), ((u3 1), .inl (cI, 4, .inl (fun _ => 0))), ((u3 2), .inl (cI, 4, .inl (fun _ => 0))), ((u3 3), .inl (cQ, 4, .inr (.inr (.inr (.inr (fun i => ([(u3 4), (u3 5), (u3 6), (u3 7)] : List Nat)[i]?)))))), ((u3 4), .inl (cI, 6, .inl (fun _ => 0))), ((u3 5), .inl (cI, 6, .inl (fun _ => 0))), ((u3 6), .inl (cI, 6, .inl (fun _ => 0))), ((u3 7), .inl (cI, 6, .inl (fun _ => 0)))] H := hP
  have hD : va_D A [(a0, .inr (4, [.ref q1, .ref q2, .int 0])), (q1, .inl (cI, 36, .inl (fun _ => 0))), (q2, .inr (6, [.ref (u3 0), .ref (u3 1), .ref (u3 2), .ref (u3 3)])), ((u3 0), .inl (cI, 3, .inl (fun _ => 0))), ((u3 1), .inl (cI, 4, .inl (fun _ => 0))), ((u3 2), .inl (cI, 4, .inl (fun _ => 0))), ((u3 3), .inl (cQ, 4, .inr (.inr (.inr (.inr (fun i => ([(u3 4), (u3 5), (u3 6), (u3 7)] : List Nat)[i]?)))))), ((u3 4), .inl (cI, 6, .inl (fun _ => 0))), ((u3 5), .inl (cI, 6, .inl (fun _ => 0))), ((u3 6), .inl (cI, 6, .inl (fun _ => 0))), ((u3 7), .inl (cI, 6, .inl (fun _ => 0)))] := hD
  refine lv_aload_n hx hb (dk_at dkX4_init_0 11 rfl) rfl (lv_at hl 0 rfl) ?_
  refine lv_iconst (v := 0) hx hb (dk_at dkX4_init_0 12 rfl) (by decide +kernel) ?_
  refine va_put (D := (dC, dI)) (ci := 4) (v := .int 0) (ty := .int) (C := RX4) (T := TX4) (N := 3) hx hb hts hiX4 tyX4 tyX4_ok nmX4 hown hK hP hD hS 0 rfl rfl 2 (by decide) (hts _ (List.mem_of_getElem? (i := 18) rfl)) (fun _ h9 => h9) rfl (by decide +kernel) rfl rfl (Nat.le_of_ble_eq_true rfl) (dk_at dkX4_init_0 13 rfl) (fun H locs hP hD hS => ?_)
  have hP : va_P (dC, dI) vwCl [(a0, .inr (4, [.ref q1, .ref q2, .int 0])), (q1, .inl (cI, 36, .inl (fun _ => 0))), (q2, .inr (6, [.ref (u3 0), .ref (u3 1), .ref (u3 2), .ref (u3 3)])), ((u3 0), .inl (cI, 3, .inl (fun _ => 0))), ((u3 1), .inl (cI, 4, .inl (fun _ => 0))), ((u3 2), .inl (cI, 4, .inl (fun _ => 0))), ((u3 3), .inl (cQ, 4, .inr (.inr (.inr (.inr (fun i => ([(u3 4), (u3 5), (u3 6), (u3 7)] : List Nat)[i]?)))))), ((u3 4), .inl (cI, 6, .inl (fun _ => 0))), ((u3 5), .inl (cI, 6, .inl (fun _ => 0))), ((u3 6), .inl (cI, 6, .inl (fun _ => 0))), ((u3 7), .inl (cI, 6, .inl (fun _ => 0)))] H := hP
  have hD : va_D A [(a0, .inr (4, [.ref q1, .ref q2, .int 0])), (q1, .inl (cI, 36, .inl (fun _ => 0))), (q2, .inr (6, [.ref (u3 0), .ref (u3 1), .ref (u3 2), .ref (u3 3)])), ((u3 0), .inl (cI, 3, .inl (fun _ => 0))), ((u3 1), .inl (cI, 4, .inl (fun _ => 0))), ((u3 2), .inl (cI, 4, .inl (fun _ => 0))), ((u3 3), .inl (cQ, 4, .inr (.inr (.inr (.inr (fun i => ([(u3 4), (u3 5), (u3 6), (u3 7)] : List Nat)[i]?)))))), ((u3 4), .inl (cI, 6, .inl (fun _ => 0))), ((u3 5), .inl (cI, 6, .inl (fun _ => 0))), ((u3 6), .inl (cI, 6, .inl (fun _ => 0))), ((u3 7), .inl (cI, 6, .inl (fun _ => 0)))] := hD
  have hP9 := hP.sub (ws' := [(a0, .inr (4, [.ref q1, .ref q2, .int 0])), (q1, .inl (cI, 36, .inl (fun _ => 0))), (q2, .inr (6, [.ref (u3 0), .ref (u3 1), .ref (u3 2), .ref (u3 3)])), ((u3 0), .inl (cI, 3, .inl (fun _ => 0))), ((u3 1), .inl (cI, 4, .inl (fun _ => 0))), ((u3 2), .inl (cI, 4, .inl (fun _ => 0))), ((u3 3), .inl (cQ, 4, .inr (.inr (.inr (.inr (fun i => ([(u3 4), (u3 5), (u3 6), (u3 7)] : List Nat)[i]?)))))), ((u3 4), .inl (cI, 6, .inl (fun _ => 0))), ((u3 5), .inl (cI, 6, .inl (fun _ => 0))), ((u3 6), .inl (cI, 6, .inl (fun _ => 0))), ((u3 7), .inl (cI, 6, .inl (fun _ => 0)))]) [0, 1, 2, 3, 4, 5, 6, 7, 8, 9, 10] rfl
  have hD9 := hD.sub (ws' := [(a0, .inr (4, [.ref q1, .ref q2, .int 0])), (q1, .inl (cI, 36, .inl (fun _ => 0))), (q2, .inr (6, [.ref (u3 0), .ref (u3 1), .ref (u3 2), .ref (u3 3)])), ((u3 0), .inl (cI, 3, .inl (fun _ => 0))), ((u3 1), .inl (cI, 4, .inl (fun _ => 0))), ((u3 2), .inl (cI, 4, .inl (fun _ => 0))), ((u3 3), .inl (cQ, 4, .inr (.inr (.inr (.inr (fun i => ([(u3 4), (u3 5), (u3 6), (u3 7)] : List Nat)[i]?)))))), ((u3 4), .inl (cI, 6, .inl (fun _ => 0))), ((u3 5), .inl (cI, 6, .inl (fun _ => 0))), ((u3 6), .inl (cI, 6, .inl (fun _ => 0))), ((u3 7), .inl (cI, 6, .inl (fun _ => 0)))]) [0, 1, 2, 3, 4, 5, 6, 7, 8, 9, 10] (by decide) rfl
  exact W.vret hx hb hr (fun t ht hW => ⟨⟨(fun k => ([q1, q2, (u3 0), (u3 1), (u3 2), (u3 3), (u3 4), (u3 5), (u3 6), (u3 7)] : List Nat).getD k 0), rfl, trivial, by rw [ht]; exact hP9, va_K.moved hW.alike hK, hD9⟩, hS.F ht⟩) hS.2.2 (dk_at dkX4_init_0 14 rfl)
def ws_k_X8_init_10 : List Cond := .code yX8_init cX8_init 1 none :: ([.methodLink RX8 3 objectInit, .instanceMethod objectInit, .code objectInit ⟨#[0xb1]⟩ 1 none, .arrayClass .int, .fieldLink RX8 9 "StackKeys$Tests" "code" "[I", .fieldLink RX8 15 "StackKeys$Tests" "stack" "[I", .fieldLink RX8 18 "StackKeys$Tests" "size" "I"] ++ wsX80)
set_option maxHeartbeats 4000000 in
set_option maxRecDepth 100000 in
theorem k_X8_init_10 (l : Launch) (dC : Nat → ClassId) (dI : Nat → Nat → Nat) (cB cI cJ cZ cQ : ClassId) (sz : Nat) (a0 : Nat) : Met l yX8_init ws_k_X8_init_10 ({ frames := 1, cells := 2, slots := 1664, locals := 12 }) (va_Pc [.ref a0] (fun U => U.heap.size = sz ∧ va_P (dC, dI) vwCl [(a0, .inr (8, [.null, .null, .int 0]))] U.heap ∧ va_K (dC, dI) vwCl (tyA cB cI cJ cZ cQ) U ∧ va_D (fun _ => True) [(a0, .inr (8, [.null, .null, .int 0]))])) (va_Qv (fun _ : (Nat → Nat) => True) (fun (u : (Nat → Nat)) t => va_P (dC, dI) vwCl [(a0, .inr (8, [.ref (u 0), .ref (u 1), .int 0])), ((u 0), .inl (cI, 1600, .inl (fun _ => 0))), ((u 1), .inl (cI, 64, .inl (fun _ => 0)))] t.heap ∧ va_K (dC, dI) vwCl (tyA cB cI cJ cZ cQ) t ∧ va_D (va_A [(a0, .inr (8, [.null, .null, .int 0]))] sz) [(a0, .inr (8, [.ref (u 0), .ref (u 1), .int 0])), ((u 0), .inl (cI, 1600, .inl (fun _ => 0))), ((u 1), .inl (cI, 64, .inl (fun _ => 0)))]) (va_A [(a0, .inr (8, [.null, .null, .int 0]))] sz)) 2 1664 (va_A [(a0, .inr (8, [.null, .null, .int 0]))] sz) := by
  refine Met.ofW (cc := cX8_init) (maxL := 1) (ret := none) (by decide +kernel) rfl ?_
  intro p e s m args below meth c s₁ B hml hv
  obtain ⟨rfl, hsz, hP, hK, hD0⟩ := hv
  have hx := B.exec
  have hb := B.bytes
  have hr := B.returns
  have hts := atoms_spec (ws := ws_k_X8_init_10) B.pre
  have hown : s.vm.findClass RX8 = some m.cls := findClass_of_methodNamed B.named
  have hin : meth.name = "<init>" := (name_of_methodNamed B.named B.method).1
  have hiX8 : ∀ w ∈ u_ws RX8 TX8 3, w ∈ ws_k_X8_init_10 := fun w h => List.mem_cons_of_mem _ (List.mem_append_right _ h)
  subst hsz
  have hD := hD0.self (sz := s.heap.size)
  generalize hAe : va_A [(a0, .inr (8, [.null, .null, .int 0]))] s.heap.size = A at hD ⊢
  have hA : ∀ b : Nat, s.heap.size ≤ b → A b := fun b h => by rw [← hAe]; exact Or.inr h
  clear hD0 hAe
  have hS : va_S A s.heap s.heap [] := va_S.rf
  have hl := lv_entry ([.ref a0]) (n := 1) (Nat.le_of_ble_eq_true rfl)
  rw [lg_entry_eq]
  generalize (lg_sl ([.ref a0]) ++ List.replicate (1 - (lg_sl ([.ref a0])).length) Slot.unset).toArray = ls at hl ⊢
  have hl : lv_has ls 1 [(0, .ref a0)] := hl
  obtain ⟨H, hHe⟩ : ∃ H : Heap, H = s.heap := ⟨_, rfl⟩
  rw [← hHe] at hP
  have hS : va_S A s.heap H [] := by rw [hHe]; exact hS
  rw [← hHe]
  refine lv_aload_n hx hb (dk_at dkX8_init_0 0 rfl) rfl (lv_at hl 0 rfl) ?_
  refine W.objInit hx hb hown (hts _ (List.mem_of_getElem? (i := 1) rfl)) (hts _ (List.mem_of_getElem? (i := 2) rfl)) (hts _ (List.mem_of_getElem? (i := 3) rfl)) rfl (by rw [hml]; exact hl.1) rfl (dk_at dkX8_init_0 1 rfl) (Nat.le_of_ble_eq_true rfl) (Nat.le_of_ble_eq_true rfl) ?_
  refine W.eq (g2 := F0 m 4 ls []) rfl ?_
  refine lv_aload_n hx hb (dk_at dkX8_init_0 2 rfl) rfl (lv_at hl 0 rfl) ?_
  refine lv_sipush (v := 1600) hx hb (dk_at dkX8_init_0 3 rfl) (by decide +kernel) ?_
  refine va_newaC (ty := .int) (a0 := (1600, .inl (fun _ => 0))) (N' := 1600) hx hb (hts _ (List.mem_of_getElem? (i := 4) rfl)) rfl hK hP hD hS hA 1 rfl (fun _ => rfl) (by decide +kernel) (by decide +kernel) (by decide +kernel) (Nat.le_of_ble_eq_true rfl) (Nat.le_of_ble_eq_true rfl) (dk_at dkX8_init_0 4 rfl) (fun q1 H hP hD hS => ?_)
  have hP : va_P (dC, dI) vwCl [(a0, .inr (8, [.null, .null, .int 0])), (q1, .inl (cI, 1600, .inl (fun _ => 0)))] H := hP
  have hD : va_D A [(a0, .inr (8, [.null, .null, .int 0])), (q1, .inl (cI, 1600, .inl (fun _ => 0)))] := hD
  refine W.widen (k := 1) (n := 1600) (by omega) (by omega) ?_
  refine va_putF (D := (dC, dI)) (ci := 8) (v := .ref q1) (ty := .array .int) (C := RX8) (T := TX8) (N := 3) hx hb hts hiX8 tyX8 tyX8_ok nmX8 hown hK hP hD hS 0 rfl rfl 0 (by decide) (hts _ (List.mem_of_getElem? (i := 5) rfl)) (fun _ h9 => h9) rfl hin rfl (by decide +kernel) rfl rfl (Nat.le_of_ble_eq_true rfl) (dk_at dkX8_init_0 5 rfl) (fun H locs hP hD hS => ?_)
  have hP : va_P (dC, dI) vwCl [(a0, .inr (8, [.ref q1, .null, .int 0])), (q1, .inl (cI, 1600, .inl (fun _ => 0)))] H := hP
  have hD : va_D A [(a0, .inr (8, [.ref q1, .null, .int 0])), (q1, .inl (cI, 1600, .inl (fun _ => 0)))] := hD
  refine lv_aload_n hx hb (dk_at dkX8_init_0 6 rfl) rfl (lv_at hl 0 rfl) ?_
  refine lv_bipush (v := 64) hx hb (dk_at dkX8_init_0 7 rfl) (by decide +kernel) ?_
  refine va_newaC (ty := .int) (a0 := (64, .inl (fun _ => 0))) (N' := 64) hx hb (hts _ (List.mem_of_getElem? (i := 4) rfl)) rfl hK hP hD hS hA 1 rfl (fun _ => rfl) (by decide +kernel) (by decide +kernel) (by decide +kernel) (Nat.le_of_ble_eq_true rfl) (Nat.le_of_ble_eq_true rfl) (dk_at dkX8_init_0 8 rfl) (fun q2 H hP hD hS => ?_)
  have hP : va_P (dC, dI) vwCl [(a0, .inr (8, [.ref q1, .null, .int 0])), (q1, .inl (cI, 1600, .inl (fun _ => 0))), (q2, .inl (cI, 64, .inl (fun _ => 0)))] H := hP
  have hD : va_D A [(a0, .inr (8, [.ref q1, .null, .int 0])), (q1, .inl (cI, 1600, .inl (fun _ => 0))), (q2, .inl (cI, 64, .inl (fun _ => 0)))] := hD
  refine W.widen (k := 2) (n := 1664) (by omega) (by omega) ?_
  refine va_putF (D := (dC, dI)) (ci := 8) (v := .ref q2) (ty := .array .int) (C := RX8) (T := TX8) (N := 3) hx hb hts hiX8 tyX8 tyX8_ok nmX8 hown hK hP hD hS 0 rfl rfl 1 (by decide) (hts _ (List.mem_of_getElem? (i := 6) rfl)) (fun _ h9 => h9) rfl hin rfl (by decide +kernel) rfl rfl (Nat.le_of_ble_eq_true rfl) (dk_at dkX8_init_0 9 rfl) (fun H locs hP hD hS => ?_)
  have hP : va_P (dC, dI) vwCl [(a0, .inr (8, [.ref q1, .ref q2, .int 0])), (q1, .inl (cI, 1600, .inl (fun _ => 0))), (q2, .inl (cI, 64, .inl (fun _ => 0)))] H := hP
  have hD : va_D A [(a0, .inr (8, [.ref q1, .ref q2, .int 0])), (q1, .inl (cI, 1600, .inl (fun _ => 0))), (q2, .inl (cI, 64, .inl (fun _ => 0)))] := hD
  refine lv_aload_n hx hb (dk_at dkX8_init_0 10 rfl) rfl (lv_at hl 0 rfl) ?_
  refine lv_iconst (v := 0) hx hb (dk_at dkX8_init_0 11 rfl) (by decide +kernel) ?_
  refine va_put (D := (dC, dI)) (ci := 8) (v := .int 0) (ty := .int) (C := RX8) (T := TX8) (N := 3) hx hb hts hiX8 tyX8 tyX8_ok nmX8 hown hK hP hD hS 0 rfl rfl 2 (by decide) (hts _ (List.mem_of_getElem? (i := 7) rfl)) (fun _ h9 => h9) rfl (by decide +kernel) rfl rfl (Nat.le_of_ble_eq_true rfl) (dk_at dkX8_init_0 12 rfl) (fun H locs hP hD hS => ?_)
  have hP : va_P (dC, dI) vwCl [(a0, .inr (8, [.ref q1, .ref q2, .int 0])), (q1, .inl (cI, 1600, .inl (fun _ => 0))), (q2, .inl (cI, 64, .inl (fun _ => 0)))] H := hP
  have hD : va_D A [(a0, .inr (8, [.ref q1, .ref q2, .int 0])), (q1, .inl (cI, 1600, .inl (fun _ => 0))), (q2, .inl (cI, 64, .inl (fun _ => 0)))] := hD
  have hP9 := hP.sub (ws' := [(a0, .inr (8, [.ref q1, .ref q2, .int 0])), (q1, .inl (cI, 1600, .inl (fun _ => 0))), (q2, .inl (cI, 64, .inl (fun _ => 0)))]) [0, 1, 2] rfl
  have hD9 := hD.sub (ws' := [(a0, .inr (8, [.ref q1, .ref q2, .int 0])), (q1, .inl (cI, 1600, .inl (fun _ => 0))), (q2, .inl (cI, 64, .inl (fun _ => 0)))]) [0, 1, 2] (by decide) rfl
  exact W.vret hx hb hr (fun t ht hW => ⟨⟨(fun k => ([q1, q2] : List Nat).getD k 0), rfl, trivial, by rw [ht]; exact hP9, va_K.moved hW.alike hK, hD9⟩, hS.F ht⟩) hS.2.2 (dk_at dkX8_init_0 13 rfl)
