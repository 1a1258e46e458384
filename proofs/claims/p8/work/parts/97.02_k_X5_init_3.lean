def ws_k_X5_init_3 : List Cond := .code yX5_init cX5_init 6 none :: ([.methodLink RX5 3 objectInit, .instanceMethod objectInit, .code objectInit ⟨#[0xb1]⟩ 1 none, .arrayClass .int, .fieldLink RX5 9 "StackKeys$Reader" "own" "[I", .fieldLink RX5 15 "StackKeys$Reader" "fault" "I", .fieldLink RX5 19 "StackKeys$Reader" "faultPlace" "I", .fieldLink RX5 22 "StackKeys$Reader" "bracketsOpen" "I", .classLink RX5 25 RX3, .instantiable RX3 7, .initialized RX3, .code yX3_init cX3_init 2 none, .methodLink RX3 3 objectInit, .fieldLink RX3 9 "StackKeys$Lexer" "at" "I", .fieldLink RX3 15 "StackKeys$Lexer" "kind" "I", .fieldLink RX3 18 "StackKeys$Lexer" "start" "I", .fieldLink RX3 21 "StackKeys$Lexer" "value" "I", .fieldLink RX3 24 "StackKeys$Lexer" "lastEnd" "I", .fieldLink RX3 27 "StackKeys$Lexer" "ahead" "Z", .fieldLink RX3 31 "StackKeys$Lexer" "tape" "LStackKeys$Tape;", .methodLink RX5 27 yX3_init, .instanceMethod yX3_init, .fieldLink RX5 30 "StackKeys$Reader" "lexer" "LStackKeys$Lexer;", .methodLink RX5 36 yJ0_length_8abf5, .instanceMethod yJ0_length_8abf5, .selects RJ0 yJ0_length_8abf5 yJ0_length_8abf5, .initialized RJ0, .code yJ0_length_8abf5 cJ0_length_8abf5 1 (some .int), .fieldLink RJ0 9 "java/lang/String" "value" "[B", .methodLink RJ0 335 yJ0_coder_7d493, .instanceMethod yJ0_coder_7d493, .selects RJ0 yJ0_coder_7d493 yJ0_coder_7d493, .code yJ0_coder_7d493 cJ0_coder_7d493 1 (some .byte), .fieldLink RJ0 38 "java/lang/String" "COMPACT_STRINGS" "Z", .fieldLink RJ0 15 "java/lang/String" "coder" "B", .methodLink RX5 42 yJ0_charAt_5068e, .instanceMethod yJ0_charAt_5068e, .selects RJ0 yJ0_charAt_5068e yJ0_charAt_5068e, .code yJ0_charAt_5068e cJ0_charAt_5068e 2 (some .char), .methodLink RJ0 492 yJ0_isLatin1_aae02, .instanceMethod yJ0_isLatin1_aae02, .selects RJ0 yJ0_isLatin1_aae02 yJ0_isLatin1_aae02, .code yJ0_isLatin1_aae02 cJ0_isLatin1_aae02 1 (some .boolean), .methodLink RJ0 495 yJ1_charAt_3b067, .static yJ1_charAt_3b067, .initialized RJ1, .code yJ1_charAt_3b067 cJ1_charAt_3b067 2 (some .char), .methodLink RJ1 9 yJ0_checkIndex_df160, .static yJ0_checkIndex_df160, .code yJ0_checkIndex_df160 cJ0_checkIndex_df160 2 none, .fieldLink RJ0 1053 "jdk/internal/util/Preconditions" "SIOOBE_FORMATTER" "Ljava/util/function/BiFunction;", .methodLink RJ0 1059 yJ3_checkIndex_8e157, .static yJ3_checkIndex_8e157, .initialized RJ3, .code yJ3_checkIndex_8e157 cJ3_checkIndex_8e157 3 (some .int)] ++ wsX50 ++ wsX30)
set_option maxRecDepth 20000 in
theorem g_k_X5_init_3_0 : GoodIn ws_k_X5_init_3 (ws_k_X3_init_2) := goodIn_r _ [12, 13, 2, 3, 14, 15, 16, 17, 18, 19, 20, 61, 62, 63, 64, 65, 66, 67] (by decide +kernel) (by decide +kernel)
set_option maxRecDepth 20000 in
theorem g_k_X5_init_3_1 : GoodIn ws_k_X5_init_3 (wsV RX5 36 RJ0 yJ0_length_8abf5 ws_kj_len) := goodIn_r _ [24, 25, 26, 27, 28, 29, 30, 31, 32, 27, 33, 34, 35] (by decide +kernel) (by decide +kernel)
set_option maxRecDepth 20000 in
theorem g_k_X5_init_3_2 : GoodIn ws_k_X5_init_3 (wsV RX5 36 RJ0 yJ0_length_8abf5 ws_kj_len) := goodIn_r _ [24, 25, 26, 27, 28, 29, 30, 31, 32, 27, 33, 34, 35] (by decide +kernel) (by decide +kernel)
set_option maxRecDepth 20000 in
theorem g_k_X5_init_3_3 : GoodIn ws_k_X5_init_3 (wsV RX5 42 RJ0 yJ0_charAt_5068e ws_kj_at) := goodIn_r _ [36, 37, 38, 27, 39, 29, 40, 41, 42, 27, 43, 34, 35, 44, 45, 46, 47, 48, 49, 50, 51, 52, 53, 54, 55] (by decide +kernel) (by decide +kernel)
set_option maxHeartbeats 4000000 in
set_option maxRecDepth 100000 in
theorem k_X5_init_3 (l : Launch) (dC : Nat → ClassId) (dI : Nat → Nat → Nat) (cB cI cJ cZ cQ : ClassId) (sz : Nat) (a0 a1 : Nat) (aK aV : Nat) : Met l yX5_init ws_k_X5_init_3 ({ frames := 4, cells := 2, slots := 33, locals := 85 }) (va_Pc [.ref a0, .ref a1] (fun U => U.heap.size = sz ∧ va_P (dC, dI) vwCl [(a0, .inr (5, [.null, .null, .int 0, .int 0, .int 0]))] U.heap ∧ va_K (dC, dI) vwCl (tyA cB cI cJ cZ cQ) U ∧ va_D (fun _ => True) [(a0, .inr (5, [.null, .null, .int 0, .int 0, .int 0]))] ∧ exS aK aV (va_A [(a0, .inr (5, [.null, .null, .int 0, .int 0, .int 0]))] sz) U)) (va_Qv (fun u : ((Nat → Nat) × (Nat → Int32)) => OWf u.2) (fun (u : ((Nat → Nat) × (Nat → Int32))) t => va_P (dC, dI) vwCl [(a0, .inr (5, [.ref (u.1 1), .ref (u.1 0), .int 0, .int (-1), .int 0])), ((u.1 0), .inl (cI, 26, .inl u.2)), ((u.1 1), .inr (3, [.ref a1, .int 0, .int 0, .int 0, .int 0, .int (-1), .int 0]))] t.heap ∧ va_K (dC, dI) vwCl (tyA cB cI cJ cZ cQ) t ∧ va_D (va_A [(a0, .inr (5, [.null, .null, .int 0, .int 0, .int 0]))] sz) [(a0, .inr (5, [.ref (u.1 1), .ref (u.1 0), .int 0, .int (-1), .int 0])), ((u.1 0), .inl (cI, 26, .inl u.2)), ((u.1 1), .inr (3, [.ref a1, .int 0, .int 0, .int 0, .int 0, .int (-1), .int 0]))]) (va_A [(a0, .inr (5, [.null, .null, .int 0, .int 0, .int 0]))] sz)) 2 33 (va_A [(a0, .inr (5, [.null, .null, .int 0, .int 0, .int 0]))] sz) := by
  refine Met.ofW (cc := cX5_init) (maxL := 6) (ret := none) (by decide +kernel) rfl ?_
  intro p e s m args below meth c s₁ B hml hv
  obtain ⟨rfl, hsz, hP, hK, hD0, hES⟩ := hv
  have hx := B.exec
  have hb := B.bytes
  have hr := B.returns
  have hts := atoms_spec (ws := ws_k_X5_init_3) B.pre
  have hown : s.vm.findClass RX5 = some m.cls := findClass_of_methodNamed B.named
  have hin : meth.name = "<init>" := (name_of_methodNamed B.named B.method).1
  have hiX5 : ∀ w ∈ u_ws RX5 TX5 5, w ∈ ws_k_X5_init_3 := fun w h => List.mem_cons_of_mem _ (List.mem_append_left _ (List.mem_append_right _ h))
  have hiX3 : ∀ w ∈ u_ws RX3 TX3 7, w ∈ ws_k_X5_init_3 := fun w h => List.mem_cons_of_mem _ (List.mem_append_right _ h)
  subst hsz
  have hD := hD0.self (sz := s.heap.size)
  generalize hAe : va_A [(a0, .inr (5, [.null, .null, .int 0, .int 0, .int 0]))] s.heap.size = A at hD hES ⊢
  have hA : ∀ b : Nat, s.heap.size ≤ b → A b := fun b h => by rw [← hAe]; exact Or.inr h
  clear hD0 hAe
  have hS : va_S A s.heap s.heap [] := va_S.rf
  have hl := lv_entry ([.ref a0, .ref a1]) (n := 6) (Nat.le_of_ble_eq_true rfl)
  rw [lg_entry_eq]
  generalize (lg_sl ([.ref a0, .ref a1]) ++ List.replicate (6 - (lg_sl ([.ref a0, .ref a1])).length) Slot.unset).toArray = ls at hl ⊢
  have hl : lv_has ls 6 [(0, .ref a0), (1, .ref a1)] := hl
  obtain ⟨H, hHe⟩ : ∃ H : Heap, H = s.heap := ⟨_, rfl⟩
  rw [← hHe] at hP
  have hS : va_S A s.heap H [] := by rw [hHe]; exact hS
  rw [← hHe]
  refine lv_aload_n hx hb dX5_init_0 rfl (lv_at hl 0 rfl) ?_
  refine W.objInit hx hb hown (hts _ (List.mem_of_getElem? (i := 1) rfl)) (hts _ (List.mem_of_getElem? (i := 2) rfl)) (hts _ (List.mem_of_getElem? (i := 3) rfl)) rfl (by rw [hml]; exact hl.1) rfl dX5_init_1 (Nat.le_of_ble_eq_true rfl) (Nat.le_of_ble_eq_true rfl) ?_
  refine W.eq (g2 := F0 m 4 ls []) rfl ?_
  refine lv_aload_n hx hb dX5_init_4 rfl (lv_at hl 0 rfl) ?_
  refine lv_bipush (v := 26) hx hb dX5_init_5 (by decide +kernel) ?_
  refine va_newaC (ty := .int) (a0 := (26, .inl (fun _ => 0))) (N' := 26) hx hb (hts _ (List.mem_of_getElem? (i := 4) rfl)) rfl hK hP hD hS hA 1 rfl (fun _ => rfl) (by decide +kernel) (by decide +kernel) (by decide +kernel) (Nat.le_of_ble_eq_true rfl) (Nat.le_of_ble_eq_true rfl) dX5_init_7 (fun q1 H hP hD hS => ?_)
  have hP : va_P (dC, dI) vwCl [(a0, .inr (5, [.null, .null, .int 0, .int 0, .int 0])), (q1, .inl (cI, 26, .inl (fun _ => 0)))] H := hP
  have hD : va_D A [(a0, .inr (5, [.null, .null, .int 0, .int 0, .int 0])), (q1, .inl (cI, 26, .inl (fun _ => 0)))] := hD
  refine W.widen (k := 1) (n := 26) (by omega) (by omega) ?_
  refine va_putF (D := (dC, dI)) (ci := 5) (v := .ref q1) (ty := .array .int) (C := RX5) (T := TX5) (N := 5) hx hb hts hiX5 tyX5 tyX5_ok nmX5 hown hK hP hD hS 0 rfl rfl 1 (by decide) (hts _ (List.mem_of_getElem? (i := 5) rfl)) (fun _ h9 => h9) rfl hin rfl (by decide +kernel) rfl rfl (Nat.le_of_ble_eq_true rfl) dX5_init_9 (fun H locs hP hD hS => ?_)
  have hP : va_P (dC, dI) vwCl [(a0, .inr (5, [.null, .ref q1, .int 0, .int 0, .int 0])), (q1, .inl (cI, 26, .inl (fun _ => 0)))] H := hP
  have hD : va_D A [(a0, .inr (5, [.null, .ref q1, .int 0, .int 0, .int 0])), (q1, .inl (cI, 26, .inl (fun _ => 0)))] := hD
  refine lv_aload_n hx hb dX5_init_12 rfl (lv_at hl 0 rfl) ?_
  refine lv_iconst (v := 0) hx hb dX5_init_13 (by decide +kernel) ?_
  refine va_put (D := (dC, dI)) (ci := 5) (v := .int 0) (ty := .int) (C := RX5) (T := TX5) (N := 5) hx hb hts hiX5 tyX5 tyX5_ok nmX5 hown hK hP hD hS 0 rfl rfl 2 (by decide) (hts _ (List.mem_of_getElem? (i := 6) rfl)) (fun _ h9 => h9) rfl (by decide +kernel) rfl rfl (Nat.le_of_ble_eq_true rfl) dX5_init_14 (fun H locs hP hD hS => ?_)
  have hP : va_P (dC, dI) vwCl [(a0, .inr (5, [.null, .ref q1, .int 0, .int 0, .int 0])), (q1, .inl (cI, 26, .inl (fun _ => 0)))] H := hP
  have hD : va_D A [(a0, .inr (5, [.null, .ref q1, .int 0, .int 0, .int 0])), (q1, .inl (cI, 26, .inl (fun _ => 0)))] := hD
  refine lv_aload_n hx hb dX5_init_17 rfl (lv_at hl 0 rfl) ?_
  refine lv_iconst (v := (-1)) hx hb dX5_init_18 (by decide +kernel) ?_
  refine va_put (D := (dC, dI)) (ci := 5) (v := .int (-1)) (ty := .int) (C := RX5) (T := TX5) (N := 5) hx hb hts hiX5 tyX5 tyX5_ok nmX5 hown hK hP hD hS 0 rfl rfl 3 (by decide) (hts _ (List.mem_of_getElem? (i := 7) rfl)) (fun _ h9 => h9) rfl (by decide +kernel) rfl rfl (Nat.le_of_ble_eq_true rfl) dX5_init_19 (fun H locs hP hD hS => ?_)
  have hP : va_P (dC, dI) vwCl [(a0, .inr (5, [.null, .ref q1, .int 0, .int (-1), .int 0])), (q1, .inl (cI, 26, .inl (fun _ => 0)))] H := hP
  have hD : va_D A [(a0, .inr (5, [.null, .ref q1, .int 0, .int (-1), .int 0])), (q1, .inl (cI, 26, .inl (fun _ => 0)))] := hD
  refine lv_aload_n hx hb dX5_init_22 rfl (lv_at hl 0 rfl) ?_
  refine lv_iconst (v := 0) hx hb dX5_init_23 (by decide +kernel) ?_
  refine va_put (D := (dC, dI)) (ci := 5) (v := .int 0) (ty := .int) (C := RX5) (T := TX5) (N := 5) hx hb hts hiX5 tyX5 tyX5_ok nmX5 hown hK hP hD hS 0 rfl rfl 4 (by decide) (hts _ (List.mem_of_getElem? (i := 8) rfl)) (fun _ h9 => h9) rfl (by decide +kernel) rfl rfl (Nat.le_of_ble_eq_true rfl) dX5_init_24 (fun H locs hP hD hS => ?_)
  have hP : va_P (dC, dI) vwCl [(a0, .inr (5, [.null, .ref q1, .int 0, .int (-1), .int 0])), (q1, .inl (cI, 26, .inl (fun _ => 0)))] H := hP
  have hD : va_D A [(a0, .inr (5, [.null, .ref q1, .int 0, .int (-1), .int 0])), (q1, .inl (cI, 26, .inl (fun _ => 0)))] := hD
  refine lv_aload_n hx hb dX5_init_27 rfl (lv_at hl 0 rfl) ?_
  refine va_new (ci := 3) (fs := [.null, .int 0, .int 0, .int 0, .int 0, .int 0, .int 0]) (C := RX3) (T := TX3) (N := 7) hx hb hts hiX3 tyX3 tyX3_ok hown (hts _ (List.mem_of_getElem? (i := 9) rfl)) (hts _ (List.mem_of_getElem? (i := 10) rfl)) (hts _ (List.mem_of_getElem? (i := 11) rfl)) hK hP hD hS hA rfl (by decide +kernel) (Nat.le_of_ble_eq_true rfl) (Nat.le_of_ble_eq_true rfl) dX5_init_28 (fun q2 H hP hD hS => ?_)
  have hP : va_P (dC, dI) vwCl [(a0, .inr (5, [.null, .ref q1, .int 0, .int (-1), .int 0])), (q1, .inl (cI, 26, .inl (fun _ => 0))), (q2, .inr (3, [.null, .int 0, .int 0, .int 0, .int 0, .int 0, .int 0]))] H := hP
  have hD : va_D A [(a0, .inr (5, [.null, .ref q1, .int 0, .int (-1), .int 0])), (q1, .inl (cI, 26, .inl (fun _ => 0))), (q2, .inr (3, [.null, .int 0, .int 0, .int 0, .int 0, .int 0, .int 0]))] := hD
  refine W.widen (k := 2) (n := 33) (by omega) (by omega) ?_
  refine lv_dup hx hb dX5_init_31 rfl ?_
  refine lv_aload_n hx hb dX5_init_32 rfl (lv_at hl 1 rfl) ?_
  have hPc := hP.sub (ws' := [(q2, .inr (3, [.null, .int 0, .int 0, .int 0, .int 0, .int 0, .int 0]))]) [2] rfl
  have hDc := hD.sub (ws' := [(q2, .inr (3, [.null, .int 0, .int 0, .int 0, .int 0, .int 0, .int 0]))]) [2] (by decide) rfl
  have hFc := va_free (wc := [(q2, .inr (3, [.null, .int 0, .int 0, .int 0, .int 0, .int 0, .int 0]))]) hD hS hA [2] rfl
  refine va_callv (va_runI (As := [.ref a1]) (rest := [.ref q2, .ref a0]) ⟨hx, hb, hml, hown, hts⟩ (k_X3_init_2 l dC dI cB cI cJ cZ cQ H.size q2 a1) (cwI 1 hts g_k_X5_init_3_0 rfl rfl rfl (hts _ (List.mem_of_getElem? (i := 11) rfl)) (hts _ (List.mem_of_getElem? (i := 21) rfl)) (hts _ (List.mem_of_getElem? (i := 22) rfl)) rfl (by decide +kernel) ⟨Nat.le_of_ble_eq_true rfl, Nat.le_of_ble_eq_true rfl⟩) ⟨fun a U g mk Z => by obtain ⟨q0, q1, qP, qK, qD⟩ := Z; exact ⟨q0, q1, qP, va_K.moved (u := U) (U := U.calling g mk a) (Vm.Alike.refl U.vm) qK, qD⟩, fun U hU hW => ⟨rfl, by rw [hU], by rw [hU]; exact hPc, va_K.moved hW.alike hK, hDc.weaken (fun _ _ _ _ => trivial)⟩⟩ rfl rfl hl.1 rfl (lv_room (Nat.le_of_ble_eq_true rfl)) dX5_init_33 ⟨Nat.le_of_ble_eq_true rfl, Nat.le_of_ble_eq_true rfl⟩) hS (fun b _ h => hFc b h) hFc (fun u3 t H1 locs ht hvm hw hB hz1 hk1 hS => ?_)
  obtain ⟨hP1, hK1, hD1⟩ := hB
  rw [ht] at hP1
  obtain ⟨hP, hD⟩ := va_join (wr := [(a0, .inr (5, [.null, .ref q1, .int 0, .int (-1), .int 0])), (q1, .inl (cI, 26, .inl (fun _ => 0)))]) (w1 := [(q2, .inr (3, [.ref a1, .int 0, .int 0, .int 0, .int 0, .int (-1), .int 0]))]) hP hD [2] [0, 1] rfl rfl (by decide) (by decide) hk1 hFc hP1 hD1
  clear hP1 hK1 hD1 hk1 hz1 hvm hPc hDc hFc
  generalize H1 = H at hP hS ⊢
  have hP : va_P (dC, dI) vwCl [(a0, .inr (5, [.null, .ref q1, .int 0, .int (-1), .int 0])), (q1, .inl (cI, 26, .inl (fun _ => 0))), (q2, .inr (3, [.ref a1, .int 0, .int 0, .int 0, .int 0, .int (-1), .int 0]))] H := hP
  have hD : va_D A [(a0, .inr (5, [.null, .ref q1, .int 0, .int (-1), .int 0])), (q1, .inl (cI, 26, .inl (fun _ => 0))), (q2, .inr (3, [.ref a1, .int 0, .int 0, .int 0, .int 0, .int (-1), .int 0]))] := hD
  refine va_putF (D := (dC, dI)) (ci := 5) (v := .ref q2) (ty := .object "StackKeys$Lexer") (C := RX5) (T := TX5) (N := 5) hx hb hts hiX5 tyX5 tyX5_ok nmX5 hown hK hP hD hS 0 rfl rfl 0 (by decide) (hts _ (List.mem_of_getElem? (i := 23) rfl)) (fun _ h9 => h9) rfl hin rfl (by decide +kernel) rfl rfl (Nat.le_of_ble_eq_true rfl) dX5_init_36 (fun H locs hP hD hS => ?_)
  have hP : va_P (dC, dI) vwCl [(a0, .inr (5, [.ref q2, .ref q1, .int 0, .int (-1), .int 0])), (q1, .inl (cI, 26, .inl (fun _ => 0))), (q2, .inr (3, [.ref a1, .int 0, .int 0, .int 0, .int 0, .int (-1), .int 0]))] H := hP
  have hD : va_D A [(a0, .inr (5, [.ref q2, .ref q1, .int 0, .int (-1), .int 0])), (q1, .inl (cI, 26, .inl (fun _ => 0))), (q2, .inr (3, [.ref a1, .int 0, .int 0, .int 0, .int 0, .int (-1), .int 0]))] := hD
  refine lv_iconst (v := 0) hx hb dX5_init_39 (by decide +kernel) ?_
  refine lv_istore_n (lv' := [(2, .int 0), (0, .ref a0), (1, .ref a1)]) hx hb dX5_init_40 rfl hl (by decide) rfl (fun ls hl => ?_)
  refine lv_iconst (v := 0) hx hb dX5_init_41 (by decide +kernel) ?_
  refine lv_istore_n (lv' := [(3, .int 0), (2, .int 0), (0, .ref a0), (1, .ref a1)]) hx hb dX5_init_42 rfl hl (by decide) rfl (fun ls hl => ?_)
  refine lv_iconst (v := 0) hx hb dX5_init_43 (by decide +kernel) ?_
  refine lv_istore (lv' := [(4, .int 0), (3, .int 0), (2, .int 0), (0, .ref a0), (1, .ref a1)]) hx hb dX5_init_44 hl (by decide) rfl (fun ls hl => ?_)
  refine (?keyR : ∀ (k : Nat) (i w z : Int32) (f : Nat → Int32) (H : Heap) (locs : List Loc) (ls : Array Slot), i.toInt + (k : Int) = 119 → 0 ≤ i.toInt → 0 ≤ w.toInt → w.toInt ≤ 26 → HO i w z f → va_P (dC, dI) vwCl [(a0, .inr (5, [.ref q2, .ref q1, .int 0, .int (-1), .int 0])), (q1, .inl (cI, 26, .inl f)), (q2, .inr (3, [.ref a1, .int 0, .int 0, .int 0, .int 0, .int (-1), .int 0]))] H → va_D A [(a0, .inr (5, [.ref q2, .ref q1, .int 0, .int (-1), .int 0])), (q1, .inl (cI, 26, .inl f)), (q2, .inr (3, [.ref a1, .int 0, .int 0, .int 0, .int 0, .int (-1), .int 0]))] → va_S A s.heap H locs → lv_has ls 6 [(4, .int i), (3, .int z), (2, .int w), (0, .ref a0), (1, .ref a1)] → W p l e _ s m _ below meth c H locs _ _ _ (F0 m 46 ls [])) 119 0 0 0 _ _ _ _ (by decide +kernel) (by decide +kernel) (by decide +kernel) (by decide +kernel) HO_0 hP hD hS hl
  clear hP hD hS hl
  intro k
  induction k with
  | zero =>
    intro i w z f H locs ls hk h0 hw0 hw26 hHO hP hD hS hl
    have hk : i.toInt = 119 := by simpa using hk
    have k119 : (119 : Int32).toInt = 119 := (by decide +kernel)
    refine lv_iload hx hb dX5_init_46 (lv_at hl 0 rfl) ?_
    refine va_ldcS hx hb hown hES.1 dX5_init_48 ?_
    have hFc := va_free (wc := []) hD hS hA [] rfl
    refine va_calli (va_runV (As := []) (rest := [.int i]) ⟨hx, hb, hml, hown, hts⟩ (kj_len l H.size aK aV) (cwV 0 hts g_k_X5_init_3_1 rfl rfl rfl (by decide +kernel) ⟨Nat.le_of_ble_eq_true rfl, Nat.le_of_ble_eq_true rfl⟩) ⟨fun a U g mk Z => ⟨Z.1, Z.2.1, exS.same (u := U) (U := U.calling g mk a) rfl rfl Z.2.2⟩, vk_recv hES.2.1 (i := 0) (by decide) hS, fun U hU hW => ⟨rfl, by rw [hU], exS.call hES hW hU hS hFc⟩⟩ rfl rfl hl.1 rfl (lv_room (Nat.le_of_ble_eq_true rfl)) dX5_init_50 ⟨Nat.le_of_ble_eq_true rfl, Nat.le_of_ble_eq_true rfl⟩) hS (fun b _ h => hFc b h) hFc (fun r u t H1 locs ht hvm hw hB hz1 hk1 hS => ?_)
    obtain ⟨hP, hD⟩ := va_join (wr := [(a0, .inr (5, [.ref q2, .ref q1, .int 0, .int (-1), .int 0])), (q1, .inl (cI, 26, .inl f)), (q2, .inr (3, [.ref a1, .int 0, .int 0, .int 0, .int 0, .int (-1), .int 0]))]) (w1 := []) hP hD [] [0, 1, 2] rfl rfl (by decide) (by decide) hk1 hFc (fun k b h => by simp at h) ⟨fun i j p b h => by simp at h, fun k b h => by simp at h⟩
    clear hFc hk1 hz1 hvm ht hB
    generalize H1 = H at hP hS ⊢
    have hP : va_P (dC, dI) vwCl [(a0, .inr (5, [.ref q2, .ref q1, .int 0, .int (-1), .int 0])), (q1, .inl (cI, 26, .inl f)), (q2, .inr (3, [.ref a1, .int 0, .int 0, .int 0, .int 0, .int (-1), .int 0]))] H := hP
    have hD : va_D A [(a0, .inr (5, [.ref q2, .ref q1, .int 0, .int (-1), .int 0])), (q1, .inl (cI, 26, .inl f)), (q2, .inr (3, [.ref a1, .int 0, .int 0, .int 0, .int 0, .int (-1), .int 0]))] := hD
    subst hw
    refine lv_icmp_ge (tgt := 113) hx hb dX5_init_53 (by decide) (fun _ => ?_) (fun q => False.elim (by have qi := mt (fa_le _ _).mpr q; omega))
    have hP9 := hP.sub (ws' := [(a0, .inr (5, [.ref q2, .ref q1, .int 0, .int (-1), .int 0])), (q1, .inl (cI, 26, .inl f)), (q2, .inr (3, [.ref a1, .int 0, .int 0, .int 0, .int 0, .int (-1), .int 0]))]) [0, 1, 2] rfl
    have hD9 := hD.sub (ws' := [(a0, .inr (5, [.ref q2, .ref q1, .int 0, .int (-1), .int 0])), (q1, .inl (cI, 26, .inl f)), (q2, .inr (3, [.ref a1, .int 0, .int 0, .int 0, .int 0, .int (-1), .int 0]))]) [0, 1, 2] (by decide) rfl
    exact W.vret hx hb hr (fun t ht hW => ⟨⟨((fun k => ([q1, q2] : List Nat).getD k 0), f), rfl, (HO_end hk hHO), by rw [ht]; exact hP9, va_K.moved hW.alike hK, hD9⟩, hS.F ht⟩) hS.2.2 dX5_init_113
  | succ k ih =>
    intro i w z f H locs ls hk h0 hw0 hw26 hHO hP hD hS hl
    have hk : i.toInt + ((k : Int) + 1) = 119 := by simpa using hk
    have k119 : (119 : Int32).toInt = 119 := (by decide +kernel)
    have k26 : (26 : Int32).toInt = 26 := (by decide +kernel)
    have hi1 : (i + 1).toInt = i.toInt + 1 := inc_i (by omega)
    refine lv_iload hx hb dX5_init_46 (lv_at hl 0 rfl) ?_
    refine va_ldcS hx hb hown hES.1 dX5_init_48 ?_
    have hFc := va_free (wc := []) hD hS hA [] rfl
    refine va_calli (va_runV (As := []) (rest := [.int i]) ⟨hx, hb, hml, hown, hts⟩ (kj_len l H.size aK aV) (cwV 0 hts g_k_X5_init_3_2 rfl rfl rfl (by decide +kernel) ⟨Nat.le_of_ble_eq_true rfl, Nat.le_of_ble_eq_true rfl⟩) ⟨fun a U g mk Z => ⟨Z.1, Z.2.1, exS.same (u := U) (U := U.calling g mk a) rfl rfl Z.2.2⟩, vk_recv hES.2.1 (i := 0) (by decide) hS, fun U hU hW => ⟨rfl, by rw [hU], exS.call hES hW hU hS hFc⟩⟩ rfl rfl hl.1 rfl (lv_room (Nat.le_of_ble_eq_true rfl)) dX5_init_50 ⟨Nat.le_of_ble_eq_true rfl, Nat.le_of_ble_eq_true rfl⟩) hS (fun b _ h => hFc b h) hFc (fun r u t H1 locs ht hvm hw hB hz1 hk1 hS => ?_)
    obtain ⟨hP, hD⟩ := va_join (wr := [(a0, .inr (5, [.ref q2, .ref q1, .int 0, .int (-1), .int 0])), (q1, .inl (cI, 26, .inl f)), (q2, .inr (3, [.ref a1, .int 0, .int 0, .int 0, .int 0, .int (-1), .int 0]))]) (w1 := []) hP hD [] [0, 1, 2] rfl rfl (by decide) (by decide) hk1 hFc (fun k b h => by simp at h) ⟨fun i j p b h => by simp at h, fun k b h => by simp at h⟩
    clear hFc hk1 hz1 hvm ht hB
    generalize H1 = H at hP hS ⊢
    have hP : va_P (dC, dI) vwCl [(a0, .inr (5, [.ref q2, .ref q1, .int 0, .int (-1), .int 0])), (q1, .inl (cI, 26, .inl f)), (q2, .inr (3, [.ref a1, .int 0, .int 0, .int 0, .int 0, .int (-1), .int 0]))] H := hP
    have hD : va_D A [(a0, .inr (5, [.ref q2, .ref q1, .int 0, .int (-1), .int 0])), (q1, .inl (cI, 26, .inl f)), (q2, .inr (3, [.ref a1, .int 0, .int 0, .int 0, .int 0, .int (-1), .int 0]))] := hD
    subst hw
    refine lv_icmp_ge (tgt := 113) hx hb dX5_init_53 (by decide) (fun q => False.elim (by have qi := (fa_le _ _).mp q; omega)) (fun _ => ?_)
    refine lv_iload_n hx hb dX5_init_56 rfl (lv_at hl 2 rfl) ?_
    refine lv_bipush (v := 26) hx hb dX5_init_57 (by decide +kernel) ?_
    refine lv_icmp_ge (tgt := 113) hx hb dX5_init_59 (by decide) (fun q => ?_) (fun q => ?_)
    · have hP9 := hP.sub (ws' := [(a0, .inr (5, [.ref q2, .ref q1, .int 0, .int (-1), .int 0])), (q1, .inl (cI, 26, .inl f)), (q2, .inr (3, [.ref a1, .int 0, .int 0, .int 0, .int 0, .int (-1), .int 0]))]) [0, 1, 2] rfl
      have hD9 := hD.sub (ws' := [(a0, .inr (5, [.ref q2, .ref q1, .int 0, .int (-1), .int 0])), (q1, .inl (cI, 26, .inl f)), (q2, .inr (3, [.ref a1, .int 0, .int 0, .int 0, .int 0, .int (-1), .int 0]))]) [0, 1, 2] (by decide) rfl
      exact W.vret hx hb hr (fun t ht hW => ⟨⟨((fun k => ([q1, q2] : List Nat).getD k 0), f), rfl, (False.elim (by have q1 := (fa_le _ _).mp q; have q2 := HO_w h0 (by omega) hHO; omega)), by rw [ht]; exact hP9, va_K.moved hW.alike hK, hD9⟩, hS.F ht⟩) hS.2.2 dX5_init_113
    · have qi := mt (fa_le _ _).mpr q
      refine va_ldcS hx hb hown hES.1 dX5_init_62 ?_
      refine lv_iload hx hb dX5_init_64 (lv_at hl 0 rfl) ?_
      have hFc := va_free (wc := []) hD hS hA [] rfl
      refine va_calli (va_runV (As := [.int i]) (rest := []) ⟨hx, hb, hml, hown, hts⟩ (kj_at l H.size aK aV i h0 (by omega)) (cwV 1 hts g_k_X5_init_3_3 rfl rfl rfl (by decide +kernel) ⟨Nat.le_of_ble_eq_true rfl, Nat.le_of_ble_eq_true rfl⟩) ⟨fun a U g mk Z => ⟨Z.1, Z.2.1, exS.same (u := U) (U := U.calling g mk a) rfl rfl Z.2.2⟩, vk_recv hES.2.1 (i := 0) (by decide) hS, fun U hU hW => ⟨rfl, by rw [hU], exS.call hES hW hU hS hFc⟩⟩ rfl rfl hl.1 rfl (lv_room (Nat.le_of_ble_eq_true rfl)) dX5_init_66 ⟨Nat.le_of_ble_eq_true rfl, Nat.le_of_ble_eq_true rfl⟩) hS (fun b _ h => hFc b h) hFc (fun r u t H1 locs ht hvm hw hB hz1 hk1 hS => ?_)
      obtain ⟨hP, hD⟩ := va_join (wr := [(a0, .inr (5, [.ref q2, .ref q1, .int 0, .int (-1), .int 0])), (q1, .inl (cI, 26, .inl f)), (q2, .inr (3, [.ref a1, .int 0, .int 0, .int 0, .int 0, .int (-1), .int 0]))]) (w1 := []) hP hD [] [0, 1, 2] rfl rfl (by decide) (by decide) hk1 hFc (fun k b h => by simp at h) ⟨fun i j p b h => by simp at h, fun k b h => by simp at h⟩
      clear hFc hk1 hz1 hvm ht hB
      generalize H1 = H at hP hS ⊢
      have hP : va_P (dC, dI) vwCl [(a0, .inr (5, [.ref q2, .ref q1, .int 0, .int (-1), .int 0])), (q1, .inl (cI, 26, .inl f)), (q2, .inr (3, [.ref a1, .int 0, .int 0, .int 0, .int 0, .int (-1), .int 0]))] H := hP
      have hD : va_D A [(a0, .inr (5, [.ref q2, .ref q1, .int 0, .int (-1), .int 0])), (q1, .inl (cI, 26, .inl f)), (q2, .inr (3, [.ref a1, .int 0, .int 0, .int 0, .int 0, .int (-1), .int 0]))] := hD
      refine lv_istore (lv' := [(5, .int r), (4, .int i), (3, .int z), (2, .int w), (0, .ref a0), (1, .ref a1)]) hx hb dX5_init_69 hl (by decide) rfl (fun ls hl => ?_)
      refine lv_iload hx hb dX5_init_71 (lv_at hl 0 rfl) ?_
      refine lv_bipush (v := 32) hx hb dX5_init_73 (by decide +kernel) ?_
      refine lv_icmp_ne (tgt := 86) hx hb dX5_init_75 (by decide) (fun c32 => ?_) (fun c32 => ?_)
      · refine lv_aload_n hx hb dX5_init_86 rfl (lv_at hl 4 rfl) ?_
        refine va_get (D := (dC, dI)) (ci := 5) (v := .ref q1) (C := RX5) (T := TX5) (N := 5) hx hb hts hiX5 hown hK hP 0 rfl rfl 1 (by decide) (hts _ (List.mem_of_getElem? (i := 5) rfl)) (fun _ h9 => h9) rfl dX5_init_87 ?_
        refine lv_iload_n hx hb dX5_init_90 rfl (lv_at hl 3 rfl) ?_
        refine lv_dup2_11 hx hb dX5_init_91 rfl rfl ?_
        refine va_iald hx hb hK hP 1 1 rfl rfl (vp_in_iff.mpr ⟨by omega, by omega⟩) dX5_init_92 ?_
        refine lv_iload hx hb dX5_init_93 (lv_at hl 0 rfl) ?_
        refine lv_bipush (v := 96) hx hb dX5_init_95 (by decide +kernel) ?_
        refine lv_isub hx hb dX5_init_97 ?_
        refine lv_iconst (v := 5) hx hb dX5_init_98 (by decide +kernel) ?_
        refine lv_iload_n hx hb dX5_init_99 rfl (lv_at hl 2 rfl) ?_
        refine lv_imul hx hb dX5_init_100 ?_
        refine lv_ishl hx hb dX5_init_101 ?_
        refine lv_ior hx hb dX5_init_102 ?_
        refine va_iast hx hb hK hP hD hS 1 1 rfl rfl (vp_in_iff.mpr ⟨by omega, by omega⟩) dX5_init_103 (fun H locs hP hD hS => ?_)
        have hP : va_P (dC, dI) vwCl [(a0, .inr (5, [.ref q2, .ref q1, .int 0, .int (-1), .int 0])), (q1, .inl (cI, 26, .inl (upd f w.toNatClampNeg (f w.toNatClampNeg ||| (r - 96) <<< ((5 * z) &&& 31))))), (q2, .inr (3, [.ref a1, .int 0, .int 0, .int 0, .int 0, .int (-1), .int 0]))] H := hP
        have hD : va_D A [(a0, .inr (5, [.ref q2, .ref q1, .int 0, .int (-1), .int 0])), (q1, .inl (cI, 26, .inl (upd f w.toNatClampNeg (f w.toNatClampNeg ||| (r - 96) <<< ((5 * z) &&& 31))))), (q2, .inr (3, [.ref a1, .int 0, .int 0, .int 0, .int 0, .int (-1), .int 0]))] := hD
        refine lv_iinc (v := z + 1) (lv' := [(3, .int (z + 1)), (5, .int r), (4, .int i), (2, .int w), (0, .ref a0), (1, .ref a1)]) hx hb dX5_init_104 hl (k := 2) rfl rfl (by decide) rfl (fun ls hl => ?_)
        refine lv_iinc (v := i + 1) (lv' := [(4, .int (i + 1)), (3, .int (z + 1)), (5, .int r), (2, .int w), (0, .ref a0), (1, .ref a1)]) hx hb dX5_init_107 hl (k := 2) rfl rfl (by decide) rfl (fun ls hl => ?_)
        refine lv_goto (tgt := 46) hx hb dX5_init_110 (by decide) ?_
        exact ih (i + 1) w (z + 1) _ _ _ _ (by omega) (by omega) (by omega) (by omega) (HO_le h0 hi1 (by omega) hw.2 c32 hHO) hP hD hS (lv_sub hl [0, 1, 3, 4, 5] rfl)
      · have hw1 : (w + 1).toInt = w.toInt + 1 := inc_i (by omega)
        refine lv_iinc (v := w + 1) (lv' := [(2, .int (w + 1)), (5, .int r), (4, .int i), (3, .int z), (0, .ref a0), (1, .ref a1)]) hx hb dX5_init_78 hl (k := 3) rfl rfl (by decide) rfl (fun ls hl => ?_)
        refine lv_iconst (v := 0) hx hb dX5_init_81 (by decide +kernel) ?_
        refine lv_istore_n (lv' := [(3, .int 0), (2, .int (w + 1)), (5, .int r), (4, .int i), (0, .ref a0), (1, .ref a1)]) hx hb dX5_init_82 rfl hl (by decide) rfl (fun ls hl => ?_)
        refine lv_goto (tgt := 107) hx hb dX5_init_83 (by decide) ?_
        refine lv_iinc (v := i + 1) (lv' := [(4, .int (i + 1)), (3, .int 0), (2, .int (w + 1)), (5, .int r), (0, .ref a0), (1, .ref a1)]) hx hb dX5_init_107 hl (k := 3) rfl rfl (by decide) rfl (fun ls hl => ?_)
        refine lv_goto (tgt := 46) hx hb dX5_init_110 (by decide) ?_
        exact ih (i + 1) (w + 1) 0 _ _ _ _ (by omega) (by omega) (by omega) (by omega) (HO_sp h0 hi1 hw.2 c32 hHO) hP hD hS (lv_sub hl [0, 1, 2, 4, 5] rfl)
