def ws_k_X12_ahead_93 : List Cond := .code yX12_ahead cX12_ahead 6 none :: ([.fieldLink RX12 26 "StackKeysModel" "signEnd" "I", .fieldLink RX12 17 "StackKeysModel" "size" "I", .fieldLink RX12 23 "StackKeysModel" "signAt" "I", .fieldLink RX12 20 "StackKeysModel" "sign" "I"] ++ wsX120)
set_option maxHeartbeats 4000000 in
set_option maxRecDepth 100000 in
theorem k_X12_ahead_93 (l : Launch) (dC : Nat → ClassId) (dI : Nat → Nat → Nat) (cB cI cJ cZ cQ : ClassId) (sz : Nat) (q : Nat → Nat) : Met l yX12_ahead ws_k_X12_ahead_93 ({ frames := 0, cells := 0, slots := 0, locals := 0 }) (va_Pc [.ref (q 0)] (fun U => U.heap.size = sz ∧ va_P (dC, dI) vwCl [((q 0), .inr (12, (mo q)))] U.heap ∧ va_K (dC, dI) vwCl (tyA cB cI cJ cZ cQ) U ∧ va_D (fun _ => True) [((q 0), .inr (12, (mo q)))])) (va_Qv (fun _ : Unit => True) (fun (u : Unit) t => va_P (dC, dI) vwCl [((q 0), .inr (12, (mo q)))] t.heap ∧ va_K (dC, dI) vwCl (tyA cB cI cJ cZ cQ) t ∧ va_D (va_A [((q 0), .inr (12, (mo q)))] sz) [((q 0), .inr (12, (mo q)))]) (va_A [((q 0), .inr (12, (mo q)))] sz)) 0 0 (va_A [((q 0), .inr (12, (mo q)))] sz) := by
  refine Met.ofW (cc := cX12_ahead) (maxL := 6) (ret := none) (by decide +kernel) rfl ?_
  intro p e s m args below meth c s₁ B hml hv
  obtain ⟨rfl, hsz, hP, hK, hD0⟩ := hv
  have hx := B.exec
  have hb := B.bytes
  have hr := B.returns
  have hts := atoms_spec (ws := ws_k_X12_ahead_93) B.pre
  have hown : s.vm.findClass RX12 = some m.cls := findClass_of_methodNamed B.named
  have hiX12 : ∀ w ∈ u_ws RX12 TX12 85, w ∈ ws_k_X12_ahead_93 := fun w h => List.mem_cons_of_mem _ (List.mem_append_right _ h)
  subst hsz
  have hD := hD0.self (sz := s.heap.size)
  generalize hAe : va_A [((q 0), .inr (12, (mo q)))] s.heap.size = A at hD ⊢
  have hA : ∀ b : Nat, s.heap.size ≤ b → A b := fun b h => by rw [← hAe]; exact Or.inr h
  clear hD0 hAe
  have hS : va_S A s.heap s.heap [] := va_S.rf
  have hl := lv_entry ([.ref (q 0)]) (n := 6) (Nat.le_of_ble_eq_true rfl)
  rw [lg_entry_eq]
  generalize (lg_sl ([.ref (q 0)]) ++ List.replicate (6 - (lg_sl ([.ref (q 0)])).length) Slot.unset).toArray = ls at hl ⊢
  have hl : lv_has ls 6 [(0, .ref (q 0))] := hl
  obtain ⟨H, hHe⟩ : ∃ H : Heap, H = s.heap := ⟨_, rfl⟩
  rw [← hHe] at hP
  have hS : va_S A s.heap H [] := by rw [hHe]; exact hS
  rw [← hHe]
  refine lv_aload_n hx hb dX12_ahead_0 rfl (lv_at hl 0 rfl) ?_
  refine va_get (D := (dC, dI)) (ci := 12) (v := .int 0) (C := RX12) (T := TX12) (N := 85) hx hb hts hiX12 hown hK hP 0 rfl rfl 5 (by decide) (hts _ (List.mem_of_getElem? (i := 1) rfl)) (fun _ h9 => h9) rfl dX12_ahead_1 ?_
  refine lv_istore_n (lv' := [(1, .int 0), (0, .ref (q 0))]) hx hb dX12_ahead_4 rfl hl (by decide) rfl (fun ls hl => ?_)
  refine lv_iload_n hx hb dX12_ahead_5 rfl (lv_at hl 0 rfl) ?_
  refine lv_aload_n hx hb dX12_ahead_6 rfl (lv_at hl 1 rfl) ?_
  refine va_get (D := (dC, dI)) (ci := 12) (v := .int 0) (C := RX12) (T := TX12) (N := 85) hx hb hts hiX12 hown hK hP 0 rfl rfl 2 (by decide) (hts _ (List.mem_of_getElem? (i := 2) rfl)) (fun _ h9 => h9) rfl dX12_ahead_7 ?_
  refine lv_icmp_ge (tgt := 41) hx hb dX12_ahead_10 (by decide) (fun _ => ?_) (fun c => absurd c (by decide +kernel))
  refine lv_aload_n hx hb dX12_ahead_41 rfl (lv_at hl 1 rfl) ?_
  refine lv_iload_n hx hb dX12_ahead_42 rfl (lv_at hl 0 rfl) ?_
  refine va_put (D := (dC, dI)) (ci := 12) (v := .int 0) (ty := .int) (C := RX12) (T := TX12) (N := 85) hx hb hts hiX12 tyX12 tyX12_ok nmX12 hown hK hP hD hS 0 rfl rfl 4 (by decide) (hts _ (List.mem_of_getElem? (i := 3) rfl)) (fun _ h9 => h9) rfl (by decide +kernel) rfl rfl (Nat.le_of_ble_eq_true rfl) dX12_ahead_43 (fun H locs hP hD hS => ?_)
  have hP : va_P (dC, dI) vwCl [((q 0), .inr (12, (mo q)))] H := hP
  have hD : va_D A [((q 0), .inr (12, (mo q)))] := hD
  refine lv_aload_n hx hb dX12_ahead_46 rfl (lv_at hl 1 rfl) ?_
  refine lv_iload_n hx hb dX12_ahead_47 rfl (lv_at hl 0 rfl) ?_
  refine va_put (D := (dC, dI)) (ci := 12) (v := .int 0) (ty := .int) (C := RX12) (T := TX12) (N := 85) hx hb hts hiX12 tyX12 tyX12_ok nmX12 hown hK hP hD hS 0 rfl rfl 5 (by decide) (hts _ (List.mem_of_getElem? (i := 1) rfl)) (fun _ h9 => h9) rfl (by decide +kernel) rfl rfl (Nat.le_of_ble_eq_true rfl) dX12_ahead_48 (fun H locs hP hD hS => ?_)
  have hP : va_P (dC, dI) vwCl [((q 0), .inr (12, (mo q)))] H := hP
  have hD : va_D A [((q 0), .inr (12, (mo q)))] := hD
  refine lv_aload_n hx hb dX12_ahead_51 rfl (lv_at hl 1 rfl) ?_
  refine lv_iconst (v := 0) hx hb dX12_ahead_52 (by decide +kernel) ?_
  refine va_put (D := (dC, dI)) (ci := 12) (v := .int 0) (ty := .int) (C := RX12) (T := TX12) (N := 85) hx hb hts hiX12 tyX12 tyX12_ok nmX12 hown hK hP hD hS 0 rfl rfl 3 (by decide) (hts _ (List.mem_of_getElem? (i := 4) rfl)) (fun _ h9 => h9) rfl (by decide +kernel) rfl rfl (Nat.le_of_ble_eq_true rfl) dX12_ahead_53 (fun H locs hP hD hS => ?_)
  have hP : va_P (dC, dI) vwCl [((q 0), .inr (12, (mo q)))] H := hP
  have hD : va_D A [((q 0), .inr (12, (mo q)))] := hD
  refine lv_iload_n hx hb dX12_ahead_56 rfl (lv_at hl 0 rfl) ?_
  refine lv_aload_n hx hb dX12_ahead_57 rfl (lv_at hl 1 rfl) ?_
  refine va_get (D := (dC, dI)) (ci := 12) (v := .int 0) (C := RX12) (T := TX12) (N := 85) hx hb hts hiX12 hown hK hP 0 rfl rfl 2 (by decide) (hts _ (List.mem_of_getElem? (i := 2) rfl)) (fun _ h9 => h9) rfl dX12_ahead_58 ?_
  refine lv_icmp_lt (tgt := 65) hx hb dX12_ahead_61 (by decide) (fun c => absurd c (by decide +kernel)) (fun _ => ?_)
  have hP9 := hP.sub (ws' := [((q 0), .inr (12, (mo q)))]) [0] rfl
  have hD9 := hD.sub (ws' := [((q 0), .inr (12, (mo q)))]) [0] (by decide) rfl
  exact W.vret hx hb hr (fun t ht hW => ⟨⟨(), rfl, trivial, by rw [ht]; exact hP9, va_K.moved hW.alike hK, hD9⟩, hS.F ht⟩) hS.2.2 dX12_ahead_64
def ws_p_X12_town : List Cond := .code yX12_town cX12_town 2 (some .int) :: ([.fieldLink RX12 13 "StackKeysModel" "taped" "I", .fieldLink RX12 17 "StackKeysModel" "size" "I", .fieldLink RX12 26 "StackKeysModel" "signEnd" "I", .fieldLink RX12 36 "StackKeysModel" "faultKind" "I", .fieldLink RX12 39 "StackKeysModel" "faultPlace" "I", .fieldLink RX12 48 "StackKeysModel" "bank" "I", .fieldLink RX12 155 "StackKeysModel" "in" "I", .fieldLink RX12 51 "StackKeysModel" "places" "[I", .fieldLink RX12 58 "StackKeysModel" "doors" "[I", .fieldLink RX12 80 "StackKeysModel" "keys" "[I", .fieldLink RX12 95 "StackKeysModel" "persons" "[I", .fieldLink RX12 104 "StackKeysModel" "things" "[I", .fieldLink RX12 113 "StackKeysModel" "wants" "[I", .fieldLink RX12 122 "StackKeysModel" "musts" "[I", .fieldLink RX12 134 "StackKeysModel" "bars" "[I", .fieldLink RX12 152 "StackKeysModel" "codes" "I", .methodLink RX12 293 yX12_ahead, .instanceMethod yX12_ahead, .selects RX12 yX12_ahead yX12_ahead, .initialized RX12, .code yX12_ahead cX12_ahead 6 none, .fieldLink RX12 23 "StackKeysModel" "signAt" "I", .fieldLink RX12 20 "StackKeysModel" "sign" "I", .fieldLink RX12 42 "StackKeysModel" "toldKind" "I", .fieldLink RX12 45 "StackKeysModel" "toldPlace" "I", .fieldLink RX12 241 "StackKeysModel" "trials" "I"] ++ wsX120)
set_option maxRecDepth 20000 in
theorem g_p_X12_town_0 : GoodIn ws_p_X12_town (wsV RX12 293 RX12 yX12_ahead ws_k_X12_ahead_93) := goodIn_r _ [17, 18, 19, 20, 21, 3, 2, 22, 23, 27, 28, 29, 30, 31, 32, 33, 34, 35, 36, 37, 38, 39, 40, 41, 42, 43, 44, 45, 46, 47, 48, 49, 50, 51, 52, 53, 54, 55, 56, 57, 58, 59, 60, 61, 62, 63, 64, 65, 66, 67, 68, 69, 70, 71, 72, 73, 74, 75, 76, 77, 78, 79, 80, 81, 82, 83, 84, 85, 86, 87, 88, 89, 90, 91, 92, 93, 94, 95, 96, 97, 98, 99, 100, 101, 102, 103, 104, 105, 106, 107, 108, 109, 110, 111] (by decide +kernel) (by decide +kernel)
set_option maxHeartbeats 4000000 in
set_option maxRecDepth 100000 in
theorem p_X12_town (l : Launch) (dC : Nat → ClassId) (dI : Nat → Nat → Nat) (cB cI cJ cZ cQ : ClassId) (sz : Nat) (q : Nat → Nat) : Met l yX12_town ws_p_X12_town ({ frames := 1, cells := 0, slots := 0, locals := 25 }) (va_Pc [.ref (q 0)] (fun U => U.heap.size = sz ∧ va_P (dC, dI) vwCl [((q 0), .inr (12, (mo q))), ((q 2), .inl (cI, 2, .inl (fun _ => 0))), ((q 4), .inl (cI, 2, .inl (fun _ => 0))), ((q 11), .inl (cI, 2, .inl (fun _ => 0))), ((q 16), .inl (cI, 2, .inl (fun _ => 0))), ((q 19), .inl (cI, 2, .inl (fun _ => 0))), ((q 22), .inl (cI, 2, .inl (fun _ => 0))), ((q 25), .inl (cI, 2, .inl (fun _ => 0))), ((q 29), .inl (cI, 2, .inl (fun _ => 0)))] U.heap ∧ va_K (dC, dI) vwCl (tyA cB cI cJ cZ cQ) U ∧ va_D (fun _ => True) [((q 0), .inr (12, (mo q))), ((q 2), .inl (cI, 2, .inl (fun _ => 0))), ((q 4), .inl (cI, 2, .inl (fun _ => 0))), ((q 11), .inl (cI, 2, .inl (fun _ => 0))), ((q 16), .inl (cI, 2, .inl (fun _ => 0))), ((q 19), .inl (cI, 2, .inl (fun _ => 0))), ((q 22), .inl (cI, 2, .inl (fun _ => 0))), ((q 25), .inl (cI, 2, .inl (fun _ => 0))), ((q 29), .inl (cI, 2, .inl (fun _ => 0)))])) (va_Qi (fun (r : Int32) (_ : Unit) => r = 0) (fun (_ : Unit) _ => True) (va_A [((q 0), .inr (12, (mo q))), ((q 2), .inl (cI, 2, .inl (fun _ => 0))), ((q 4), .inl (cI, 2, .inl (fun _ => 0))), ((q 11), .inl (cI, 2, .inl (fun _ => 0))), ((q 16), .inl (cI, 2, .inl (fun _ => 0))), ((q 19), .inl (cI, 2, .inl (fun _ => 0))), ((q 22), .inl (cI, 2, .inl (fun _ => 0))), ((q 25), .inl (cI, 2, .inl (fun _ => 0))), ((q 29), .inl (cI, 2, .inl (fun _ => 0)))] sz)) 0 0 (va_A [((q 0), .inr (12, (mo q))), ((q 2), .inl (cI, 2, .inl (fun _ => 0))), ((q 4), .inl (cI, 2, .inl (fun _ => 0))), ((q 11), .inl (cI, 2, .inl (fun _ => 0))), ((q 16), .inl (cI, 2, .inl (fun _ => 0))), ((q 19), .inl (cI, 2, .inl (fun _ => 0))), ((q 22), .inl (cI, 2, .inl (fun _ => 0))), ((q 25), .inl (cI, 2, .inl (fun _ => 0))), ((q 29), .inl (cI, 2, .inl (fun _ => 0)))] sz) := by
  refine Met.ofW (cc := cX12_town) (maxL := 2) (ret := (some .int)) (by decide +kernel) rfl ?_
  intro p e s m args below meth c s₁ B hml hv
  obtain ⟨rfl, hsz, hP, hK, hD0⟩ := hv
  have hx := B.exec
  have hb := B.bytes
  have hr := B.returns
  have hts := atoms_spec (ws := ws_p_X12_town) B.pre
  have hown : s.vm.findClass RX12 = some m.cls := findClass_of_methodNamed B.named
  have hiX12 : ∀ w ∈ u_ws RX12 TX12 85, w ∈ ws_p_X12_town := fun w h => List.mem_cons_of_mem _ (List.mem_append_right _ h)
  subst hsz
  have hD := hD0.self (sz := s.heap.size)
  generalize hAe : va_A [((q 0), .inr (12, (mo q))), ((q 2), .inl (cI, 2, .inl (fun _ => 0))), ((q 4), .inl (cI, 2, .inl (fun _ => 0))), ((q 11), .inl (cI, 2, .inl (fun _ => 0))), ((q 16), .inl (cI, 2, .inl (fun _ => 0))), ((q 19), .inl (cI, 2, .inl (fun _ => 0))), ((q 22), .inl (cI, 2, .inl (fun _ => 0))), ((q 25), .inl (cI, 2, .inl (fun _ => 0))), ((q 29), .inl (cI, 2, .inl (fun _ => 0)))] s.heap.size = A at hD ⊢
  have hA : ∀ b : Nat, s.heap.size ≤ b → A b := fun b h => by rw [← hAe]; exact Or.inr h
  clear hD0 hAe
  have hS : va_S A s.heap s.heap [] := va_S.rf
  have hl := lv_entry ([.ref (q 0)]) (n := 2) (Nat.le_of_ble_eq_true rfl)
  rw [lg_entry_eq]
  generalize (lg_sl ([.ref (q 0)]) ++ List.replicate (2 - (lg_sl ([.ref (q 0)])).length) Slot.unset).toArray = ls at hl ⊢
  have hl : lv_has ls 2 [(0, .ref (q 0))] := hl
  obtain ⟨H, hHe⟩ : ∃ H : Heap, H = s.heap := ⟨_, rfl⟩
  rw [← hHe] at hP
  have hS : va_S A s.heap H [] := by rw [hHe]; exact hS
  rw [← hHe]
  refine lv_aload_n hx hb dX12_town_0 rfl (lv_at hl 0 rfl) ?_
  refine lv_aload_n hx hb dX12_town_1 rfl (lv_at hl 0 rfl) ?_
  refine va_get (D := (dC, dI)) (ci := 12) (v := .int 0) (C := RX12) (T := TX12) (N := 85) hx hb hts hiX12 hown hK hP 0 rfl rfl 1 (by decide) (hts _ (List.mem_of_getElem? (i := 1) rfl)) (fun _ h9 => h9) rfl dX12_town_2 ?_
  refine va_put (D := (dC, dI)) (ci := 12) (v := .int 0) (ty := .int) (C := RX12) (T := TX12) (N := 85) hx hb hts hiX12 tyX12 tyX12_ok nmX12 hown hK hP hD hS 0 rfl rfl 2 (by decide) (hts _ (List.mem_of_getElem? (i := 2) rfl)) (fun _ h9 => h9) rfl (by decide +kernel) rfl rfl (Nat.le_of_ble_eq_true rfl) dX12_town_5 (fun H locs hP hD hS => ?_)
  have hP : va_P (dC, dI) vwCl [((q 0), .inr (12, (mo q))), ((q 2), .inl (cI, 2, .inl (fun _ => 0))), ((q 4), .inl (cI, 2, .inl (fun _ => 0))), ((q 11), .inl (cI, 2, .inl (fun _ => 0))), ((q 16), .inl (cI, 2, .inl (fun _ => 0))), ((q 19), .inl (cI, 2, .inl (fun _ => 0))), ((q 22), .inl (cI, 2, .inl (fun _ => 0))), ((q 25), .inl (cI, 2, .inl (fun _ => 0))), ((q 29), .inl (cI, 2, .inl (fun _ => 0)))] H := hP
  have hD : va_D A [((q 0), .inr (12, (mo q))), ((q 2), .inl (cI, 2, .inl (fun _ => 0))), ((q 4), .inl (cI, 2, .inl (fun _ => 0))), ((q 11), .inl (cI, 2, .inl (fun _ => 0))), ((q 16), .inl (cI, 2, .inl (fun _ => 0))), ((q 19), .inl (cI, 2, .inl (fun _ => 0))), ((q 22), .inl (cI, 2, .inl (fun _ => 0))), ((q 25), .inl (cI, 2, .inl (fun _ => 0))), ((q 29), .inl (cI, 2, .inl (fun _ => 0)))] := hD
  refine lv_aload_n hx hb dX12_town_8 rfl (lv_at hl 0 rfl) ?_
  refine lv_iconst (v := 0) hx hb dX12_town_9 (by decide +kernel) ?_
  refine va_put (D := (dC, dI)) (ci := 12) (v := .int 0) (ty := .int) (C := RX12) (T := TX12) (N := 85) hx hb hts hiX12 tyX12 tyX12_ok nmX12 hown hK hP hD hS 0 rfl rfl 1 (by decide) (hts _ (List.mem_of_getElem? (i := 1) rfl)) (fun _ h9 => h9) rfl (by decide +kernel) rfl rfl (Nat.le_of_ble_eq_true rfl) dX12_town_10 (fun H locs hP hD hS => ?_)
  have hP : va_P (dC, dI) vwCl [((q 0), .inr (12, (mo q))), ((q 2), .inl (cI, 2, .inl (fun _ => 0))), ((q 4), .inl (cI, 2, .inl (fun _ => 0))), ((q 11), .inl (cI, 2, .inl (fun _ => 0))), ((q 16), .inl (cI, 2, .inl (fun _ => 0))), ((q 19), .inl (cI, 2, .inl (fun _ => 0))), ((q 22), .inl (cI, 2, .inl (fun _ => 0))), ((q 25), .inl (cI, 2, .inl (fun _ => 0))), ((q 29), .inl (cI, 2, .inl (fun _ => 0)))] H := hP
  have hD : va_D A [((q 0), .inr (12, (mo q))), ((q 2), .inl (cI, 2, .inl (fun _ => 0))), ((q 4), .inl (cI, 2, .inl (fun _ => 0))), ((q 11), .inl (cI, 2, .inl (fun _ => 0))), ((q 16), .inl (cI, 2, .inl (fun _ => 0))), ((q 19), .inl (cI, 2, .inl (fun _ => 0))), ((q 22), .inl (cI, 2, .inl (fun _ => 0))), ((q 25), .inl (cI, 2, .inl (fun _ => 0))), ((q 29), .inl (cI, 2, .inl (fun _ => 0)))] := hD
  refine lv_aload_n hx hb dX12_town_13 rfl (lv_at hl 0 rfl) ?_
  refine lv_iconst (v := 0) hx hb dX12_town_14 (by decide +kernel) ?_
  refine va_put (D := (dC, dI)) (ci := 12) (v := .int 0) (ty := .int) (C := RX12) (T := TX12) (N := 85) hx hb hts hiX12 tyX12 tyX12_ok nmX12 hown hK hP hD hS 0 rfl rfl 5 (by decide) (hts _ (List.mem_of_getElem? (i := 3) rfl)) (fun _ h9 => h9) rfl (by decide +kernel) rfl rfl (Nat.le_of_ble_eq_true rfl) dX12_town_15 (fun H locs hP hD hS => ?_)
  have hP : va_P (dC, dI) vwCl [((q 0), .inr (12, (mo q))), ((q 2), .inl (cI, 2, .inl (fun _ => 0))), ((q 4), .inl (cI, 2, .inl (fun _ => 0))), ((q 11), .inl (cI, 2, .inl (fun _ => 0))), ((q 16), .inl (cI, 2, .inl (fun _ => 0))), ((q 19), .inl (cI, 2, .inl (fun _ => 0))), ((q 22), .inl (cI, 2, .inl (fun _ => 0))), ((q 25), .inl (cI, 2, .inl (fun _ => 0))), ((q 29), .inl (cI, 2, .inl (fun _ => 0)))] H := hP
  have hD : va_D A [((q 0), .inr (12, (mo q))), ((q 2), .inl (cI, 2, .inl (fun _ => 0))), ((q 4), .inl (cI, 2, .inl (fun _ => 0))), ((q 11), .inl (cI, 2, .inl (fun _ => 0))), ((q 16), .inl (cI, 2, .inl (fun _ => 0))), ((q 19), .inl (cI, 2, .inl (fun _ => 0))), ((q 22), .inl (cI, 2, .inl (fun _ => 0))), ((q 25), .inl (cI, 2, .inl (fun _ => 0))), ((q 29), .inl (cI, 2, .inl (fun _ => 0)))] := hD
  refine lv_aload_n hx hb dX12_town_18 rfl (lv_at hl 0 rfl) ?_
  refine lv_iconst (v := 0) hx hb dX12_town_19 (by decide +kernel) ?_
  refine va_put (D := (dC, dI)) (ci := 12) (v := .int 0) (ty := .int) (C := RX12) (T := TX12) (N := 85) hx hb hts hiX12 tyX12 tyX12_ok nmX12 hown hK hP hD hS 0 rfl rfl 8 (by decide) (hts _ (List.mem_of_getElem? (i := 4) rfl)) (fun _ h9 => h9) rfl (by decide +kernel) rfl rfl (Nat.le_of_ble_eq_true rfl) dX12_town_20 (fun H locs hP hD hS => ?_)
  have hP : va_P (dC, dI) vwCl [((q 0), .inr (12, (mo q))), ((q 2), .inl (cI, 2, .inl (fun _ => 0))), ((q 4), .inl (cI, 2, .inl (fun _ => 0))), ((q 11), .inl (cI, 2, .inl (fun _ => 0))), ((q 16), .inl (cI, 2, .inl (fun _ => 0))), ((q 19), .inl (cI, 2, .inl (fun _ => 0))), ((q 22), .inl (cI, 2, .inl (fun _ => 0))), ((q 25), .inl (cI, 2, .inl (fun _ => 0))), ((q 29), .inl (cI, 2, .inl (fun _ => 0)))] H := hP
  have hD : va_D A [((q 0), .inr (12, (mo q))), ((q 2), .inl (cI, 2, .inl (fun _ => 0))), ((q 4), .inl (cI, 2, .inl (fun _ => 0))), ((q 11), .inl (cI, 2, .inl (fun _ => 0))), ((q 16), .inl (cI, 2, .inl (fun _ => 0))), ((q 19), .inl (cI, 2, .inl (fun _ => 0))), ((q 22), .inl (cI, 2, .inl (fun _ => 0))), ((q 25), .inl (cI, 2, .inl (fun _ => 0))), ((q 29), .inl (cI, 2, .inl (fun _ => 0)))] := hD
  refine lv_aload_n hx hb dX12_town_23 rfl (lv_at hl 0 rfl) ?_
  refine lv_iconst (v := (-1)) hx hb dX12_town_24 (by decide +kernel) ?_
  refine va_put (D := (dC, dI)) (ci := 12) (v := .int (-1)) (ty := .int) (C := RX12) (T := TX12) (N := 85) hx hb hts hiX12 tyX12 tyX12_ok nmX12 hown hK hP hD hS 0 rfl rfl 9 (by decide) (hts _ (List.mem_of_getElem? (i := 5) rfl)) (fun _ h9 => h9) rfl (by decide +kernel) rfl rfl (Nat.le_of_ble_eq_true rfl) dX12_town_25 (fun H locs hP hD hS => ?_)
  have hP : va_P (dC, dI) vwCl [((q 0), .inr (12, (mo q))), ((q 2), .inl (cI, 2, .inl (fun _ => 0))), ((q 4), .inl (cI, 2, .inl (fun _ => 0))), ((q 11), .inl (cI, 2, .inl (fun _ => 0))), ((q 16), .inl (cI, 2, .inl (fun _ => 0))), ((q 19), .inl (cI, 2, .inl (fun _ => 0))), ((q 22), .inl (cI, 2, .inl (fun _ => 0))), ((q 25), .inl (cI, 2, .inl (fun _ => 0))), ((q 29), .inl (cI, 2, .inl (fun _ => 0)))] H := hP
  have hD : va_D A [((q 0), .inr (12, (mo q))), ((q 2), .inl (cI, 2, .inl (fun _ => 0))), ((q 4), .inl (cI, 2, .inl (fun _ => 0))), ((q 11), .inl (cI, 2, .inl (fun _ => 0))), ((q 16), .inl (cI, 2, .inl (fun _ => 0))), ((q 19), .inl (cI, 2, .inl (fun _ => 0))), ((q 22), .inl (cI, 2, .inl (fun _ => 0))), ((q 25), .inl (cI, 2, .inl (fun _ => 0))), ((q 29), .inl (cI, 2, .inl (fun _ => 0)))] := hD
  refine lv_aload_n hx hb dX12_town_28 rfl (lv_at hl 0 rfl) ?_
  refine lv_iconst (v := 1) hx hb dX12_town_29 (by decide +kernel) ?_
  refine lv_aload_n hx hb dX12_town_30 rfl (lv_at hl 0 rfl) ?_
  refine va_get (D := (dC, dI)) (ci := 12) (v := .int 0) (C := RX12) (T := TX12) (N := 85) hx hb hts hiX12 hown hK hP 0 rfl rfl 12 (by decide) (hts _ (List.mem_of_getElem? (i := 6) rfl)) (fun _ h9 => h9) rfl dX12_town_31 ?_
  refine lv_isub hx hb dX12_town_34 ?_
  refine tp_i (y := 1) (by decide +kernel) ?_
  refine va_put (D := (dC, dI)) (ci := 12) (v := .int 1) (ty := .int) (C := RX12) (T := TX12) (N := 85) hx hb hts hiX12 tyX12 tyX12_ok nmX12 hown hK hP hD hS 0 rfl rfl 47 (by decide) (hts _ (List.mem_of_getElem? (i := 7) rfl)) (fun _ h9 => h9) rfl (by decide +kernel) rfl rfl (Nat.le_of_ble_eq_true rfl) dX12_town_35 (fun H locs hP hD hS => ?_)
  have hP : va_P (dC, dI) vwCl [((q 0), .inr (12, (mo q))), ((q 2), .inl (cI, 2, .inl (fun _ => 0))), ((q 4), .inl (cI, 2, .inl (fun _ => 0))), ((q 11), .inl (cI, 2, .inl (fun _ => 0))), ((q 16), .inl (cI, 2, .inl (fun _ => 0))), ((q 19), .inl (cI, 2, .inl (fun _ => 0))), ((q 22), .inl (cI, 2, .inl (fun _ => 0))), ((q 25), .inl (cI, 2, .inl (fun _ => 0))), ((q 29), .inl (cI, 2, .inl (fun _ => 0)))] H := hP
  have hD : va_D A [((q 0), .inr (12, (mo q))), ((q 2), .inl (cI, 2, .inl (fun _ => 0))), ((q 4), .inl (cI, 2, .inl (fun _ => 0))), ((q 11), .inl (cI, 2, .inl (fun _ => 0))), ((q 16), .inl (cI, 2, .inl (fun _ => 0))), ((q 19), .inl (cI, 2, .inl (fun _ => 0))), ((q 22), .inl (cI, 2, .inl (fun _ => 0))), ((q 25), .inl (cI, 2, .inl (fun _ => 0))), ((q 29), .inl (cI, 2, .inl (fun _ => 0)))] := hD
  refine lv_aload_n hx hb dX12_town_38 rfl (lv_at hl 0 rfl) ?_
  refine va_get (D := (dC, dI)) (ci := 12) (v := .ref (q 2)) (C := RX12) (T := TX12) (N := 85) hx hb hts hiX12 hown hK hP 0 rfl rfl 13 (by decide) (hts _ (List.mem_of_getElem? (i := 8) rfl)) (fun _ h9 => h9) rfl dX12_town_39 ?_
  refine lv_aload_n hx hb dX12_town_42 rfl (lv_at hl 0 rfl) ?_
  refine va_get (D := (dC, dI)) (ci := 12) (v := .int 1) (C := RX12) (T := TX12) (N := 85) hx hb hts hiX12 hown hK hP 0 rfl rfl 47 (by decide) (hts _ (List.mem_of_getElem? (i := 7) rfl)) (fun _ h9 => h9) rfl dX12_town_43 ?_
  refine lv_iconst (v := 0) hx hb dX12_town_46 (by decide +kernel) ?_
  refine va_iast hx hb hK hP hD hS 1 1 rfl rfl (vpc _ _ (by decide +kernel)) dX12_town_47 (fun H locs hP hD hS => ?_)
  have hP : va_P (dC, dI) vwCl [((q 0), .inr (12, (mo q))), ((q 2), .inl (cI, 2, .inl (upd (fun _ => 0) 1 0))), ((q 4), .inl (cI, 2, .inl (fun _ => 0))), ((q 11), .inl (cI, 2, .inl (fun _ => 0))), ((q 16), .inl (cI, 2, .inl (fun _ => 0))), ((q 19), .inl (cI, 2, .inl (fun _ => 0))), ((q 22), .inl (cI, 2, .inl (fun _ => 0))), ((q 25), .inl (cI, 2, .inl (fun _ => 0))), ((q 29), .inl (cI, 2, .inl (fun _ => 0)))] H := hP
  have hD : va_D A [((q 0), .inr (12, (mo q))), ((q 2), .inl (cI, 2, .inl (upd (fun _ => 0) 1 0))), ((q 4), .inl (cI, 2, .inl (fun _ => 0))), ((q 11), .inl (cI, 2, .inl (fun _ => 0))), ((q 16), .inl (cI, 2, .inl (fun _ => 0))), ((q 19), .inl (cI, 2, .inl (fun _ => 0))), ((q 22), .inl (cI, 2, .inl (fun _ => 0))), ((q 25), .inl (cI, 2, .inl (fun _ => 0))), ((q 29), .inl (cI, 2, .inl (fun _ => 0)))] := hD
  refine lv_aload_n hx hb dX12_town_48 rfl (lv_at hl 0 rfl) ?_
  refine va_get (D := (dC, dI)) (ci := 12) (v := .ref (q 4)) (C := RX12) (T := TX12) (N := 85) hx hb hts hiX12 hown hK hP 0 rfl rfl 15 (by decide) (hts _ (List.mem_of_getElem? (i := 9) rfl)) (fun _ h9 => h9) rfl dX12_town_49 ?_
  refine lv_aload_n hx hb dX12_town_52 rfl (lv_at hl 0 rfl) ?_
  refine va_get (D := (dC, dI)) (ci := 12) (v := .int 1) (C := RX12) (T := TX12) (N := 85) hx hb hts hiX12 hown hK hP 0 rfl rfl 47 (by decide) (hts _ (List.mem_of_getElem? (i := 7) rfl)) (fun _ h9 => h9) rfl dX12_town_53 ?_
  refine lv_iconst (v := 0) hx hb dX12_town_56 (by decide +kernel) ?_
  refine va_iast hx hb hK hP hD hS 2 1 rfl rfl (vpc _ _ (by decide +kernel)) dX12_town_57 (fun H locs hP hD hS => ?_)
  have hP : va_P (dC, dI) vwCl [((q 0), .inr (12, (mo q))), ((q 2), .inl (cI, 2, .inl (upd (fun _ => 0) 1 0))), ((q 4), .inl (cI, 2, .inl (upd (fun _ => 0) 1 0))), ((q 11), .inl (cI, 2, .inl (fun _ => 0))), ((q 16), .inl (cI, 2, .inl (fun _ => 0))), ((q 19), .inl (cI, 2, .inl (fun _ => 0))), ((q 22), .inl (cI, 2, .inl (fun _ => 0))), ((q 25), .inl (cI, 2, .inl (fun _ => 0))), ((q 29), .inl (cI, 2, .inl (fun _ => 0)))] H := hP
  have hD : va_D A [((q 0), .inr (12, (mo q))), ((q 2), .inl (cI, 2, .inl (upd (fun _ => 0) 1 0))), ((q 4), .inl (cI, 2, .inl (upd (fun _ => 0) 1 0))), ((q 11), .inl (cI, 2, .inl (fun _ => 0))), ((q 16), .inl (cI, 2, .inl (fun _ => 0))), ((q 19), .inl (cI, 2, .inl (fun _ => 0))), ((q 22), .inl (cI, 2, .inl (fun _ => 0))), ((q 25), .inl (cI, 2, .inl (fun _ => 0))), ((q 29), .inl (cI, 2, .inl (fun _ => 0)))] := hD
  refine lv_aload_n hx hb dX12_town_58 rfl (lv_at hl 0 rfl) ?_
  refine va_get (D := (dC, dI)) (ci := 12) (v := .ref (q 11)) (C := RX12) (T := TX12) (N := 85) hx hb hts hiX12 hown hK hP 0 rfl rfl 22 (by decide) (hts _ (List.mem_of_getElem? (i := 10) rfl)) (fun _ h9 => h9) rfl dX12_town_59 ?_
  refine lv_aload_n hx hb dX12_town_62 rfl (lv_at hl 0 rfl) ?_
  refine va_get (D := (dC, dI)) (ci := 12) (v := .int 1) (C := RX12) (T := TX12) (N := 85) hx hb hts hiX12 hown hK hP 0 rfl rfl 47 (by decide) (hts _ (List.mem_of_getElem? (i := 7) rfl)) (fun _ h9 => h9) rfl dX12_town_63 ?_
  refine lv_iconst (v := 0) hx hb dX12_town_66 (by decide +kernel) ?_
  refine va_iast hx hb hK hP hD hS 3 1 rfl rfl (vpc _ _ (by decide +kernel)) dX12_town_67 (fun H locs hP hD hS => ?_)
  have hP : va_P (dC, dI) vwCl [((q 0), .inr (12, (mo q))), ((q 2), .inl (cI, 2, .inl (upd (fun _ => 0) 1 0))), ((q 4), .inl (cI, 2, .inl (upd (fun _ => 0) 1 0))), ((q 11), .inl (cI, 2, .inl (upd (fun _ => 0) 1 0))), ((q 16), .inl (cI, 2, .inl (fun _ => 0))), ((q 19), .inl (cI, 2, .inl (fun _ => 0))), ((q 22), .inl (cI, 2, .inl (fun _ => 0))), ((q 25), .inl (cI, 2, .inl (fun _ => 0))), ((q 29), .inl (cI, 2, .inl (fun _ => 0)))] H := hP
  have hD : va_D A [((q 0), .inr (12, (mo q))), ((q 2), .inl (cI, 2, .inl (upd (fun _ => 0) 1 0))), ((q 4), .inl (cI, 2, .inl (upd (fun _ => 0) 1 0))), ((q 11), .inl (cI, 2, .inl (upd (fun _ => 0) 1 0))), ((q 16), .inl (cI, 2, .inl (fun _ => 0))), ((q 19), .inl (cI, 2, .inl (fun _ => 0))), ((q 22), .inl (cI, 2, .inl (fun _ => 0))), ((q 25), .inl (cI, 2, .inl (fun _ => 0))), ((q 29), .inl (cI, 2, .inl (fun _ => 0)))] := hD
  refine lv_aload_n hx hb dX12_town_68 rfl (lv_at hl 0 rfl) ?_
  refine va_get (D := (dC, dI)) (ci := 12) (v := .ref (q 16)) (C := RX12) (T := TX12) (N := 85) hx hb hts hiX12 hown hK hP 0 rfl rfl 27 (by decide) (hts _ (List.mem_of_getElem? (i := 11) rfl)) (fun _ h9 => h9) rfl dX12_town_69 ?_
  refine lv_aload_n hx hb dX12_town_72 rfl (lv_at hl 0 rfl) ?_
  refine va_get (D := (dC, dI)) (ci := 12) (v := .int 1) (C := RX12) (T := TX12) (N := 85) hx hb hts hiX12 hown hK hP 0 rfl rfl 47 (by decide) (hts _ (List.mem_of_getElem? (i := 7) rfl)) (fun _ h9 => h9) rfl dX12_town_73 ?_
  refine lv_iconst (v := 0) hx hb dX12_town_76 (by decide +kernel) ?_
  refine va_iast hx hb hK hP hD hS 4 1 rfl rfl (vpc _ _ (by decide +kernel)) dX12_town_77 (fun H locs hP hD hS => ?_)
  have hP : va_P (dC, dI) vwCl [((q 0), .inr (12, (mo q))), ((q 2), .inl (cI, 2, .inl (upd (fun _ => 0) 1 0))), ((q 4), .inl (cI, 2, .inl (upd (fun _ => 0) 1 0))), ((q 11), .inl (cI, 2, .inl (upd (fun _ => 0) 1 0))), ((q 16), .inl (cI, 2, .inl (upd (fun _ => 0) 1 0))), ((q 19), .inl (cI, 2, .inl (fun _ => 0))), ((q 22), .inl (cI, 2, .inl (fun _ => 0))), ((q 25), .inl (cI, 2, .inl (fun _ => 0))), ((q 29), .inl (cI, 2, .inl (fun _ => 0)))] H := hP
  have hD : va_D A [((q 0), .inr (12, (mo q))), ((q 2), .inl (cI, 2, .inl (upd (fun _ => 0) 1 0))), ((q 4), .inl (cI, 2, .inl (upd (fun _ => 0) 1 0))), ((q 11), .inl (cI, 2, .inl (upd (fun _ => 0) 1 0))), ((q 16), .inl (cI, 2, .inl (upd (fun _ => 0) 1 0))), ((q 19), .inl (cI, 2, .inl (fun _ => 0))), ((q 22), .inl (cI, 2, .inl (fun _ => 0))), ((q 25), .inl (cI, 2, .inl (fun _ => 0))), ((q 29), .inl (cI, 2, .inl (fun _ => 0)))] := hD
  refine lv_aload_n hx hb dX12_town_78 rfl (lv_at hl 0 rfl) ?_
  refine va_get (D := (dC, dI)) (ci := 12) (v := .ref (q 19)) (C := RX12) (T := TX12) (N := 85) hx hb hts hiX12 hown hK hP 0 rfl rfl 30 (by decide) (hts _ (List.mem_of_getElem? (i := 12) rfl)) (fun _ h9 => h9) rfl dX12_town_79 ?_
  refine lv_aload_n hx hb dX12_town_82 rfl (lv_at hl 0 rfl) ?_
  refine va_get (D := (dC, dI)) (ci := 12) (v := .int 1) (C := RX12) (T := TX12) (N := 85) hx hb hts hiX12 hown hK hP 0 rfl rfl 47 (by decide) (hts _ (List.mem_of_getElem? (i := 7) rfl)) (fun _ h9 => h9) rfl dX12_town_83 ?_
  refine lv_iconst (v := 0) hx hb dX12_town_86 (by decide +kernel) ?_
  refine va_iast hx hb hK hP hD hS 5 1 rfl rfl (vpc _ _ (by decide +kernel)) dX12_town_87 (fun H locs hP hD hS => ?_)
  have hP : va_P (dC, dI) vwCl [((q 0), .inr (12, (mo q))), ((q 2), .inl (cI, 2, .inl (upd (fun _ => 0) 1 0))), ((q 4), .inl (cI, 2, .inl (upd (fun _ => 0) 1 0))), ((q 11), .inl (cI, 2, .inl (upd (fun _ => 0) 1 0))), ((q 16), .inl (cI, 2, .inl (upd (fun _ => 0) 1 0))), ((q 19), .inl (cI, 2, .inl (upd (fun _ => 0) 1 0))), ((q 22), .inl (cI, 2, .inl (fun _ => 0))), ((q 25), .inl (cI, 2, .inl (fun _ => 0))), ((q 29), .inl (cI, 2, .inl (fun _ => 0)))] H := hP
  have hD : va_D A [((q 0), .inr (12, (mo q))), ((q 2), .inl (cI, 2, .inl (upd (fun _ => 0) 1 0))), ((q 4), .inl (cI, 2, .inl (upd (fun _ => 0) 1 0))), ((q 11), .inl (cI, 2, .inl (upd (fun _ => 0) 1 0))), ((q 16), .inl (cI, 2, .inl (upd (fun _ => 0) 1 0))), ((q 19), .inl (cI, 2, .inl (upd (fun _ => 0) 1 0))), ((q 22), .inl (cI, 2, .inl (fun _ => 0))), ((q 25), .inl (cI, 2, .inl (fun _ => 0))), ((q 29), .inl (cI, 2, .inl (fun _ => 0)))] := hD
  refine lv_aload_n hx hb dX12_town_88 rfl (lv_at hl 0 rfl) ?_
  refine va_get (D := (dC, dI)) (ci := 12) (v := .ref (q 22)) (C := RX12) (T := TX12) (N := 85) hx hb hts hiX12 hown hK hP 0 rfl rfl 33 (by decide) (hts _ (List.mem_of_getElem? (i := 13) rfl)) (fun _ h9 => h9) rfl dX12_town_89 ?_
  refine lv_aload_n hx hb dX12_town_92 rfl (lv_at hl 0 rfl) ?_
  refine va_get (D := (dC, dI)) (ci := 12) (v := .int 1) (C := RX12) (T := TX12) (N := 85) hx hb hts hiX12 hown hK hP 0 rfl rfl 47 (by decide) (hts _ (List.mem_of_getElem? (i := 7) rfl)) (fun _ h9 => h9) rfl dX12_town_93 ?_
  refine lv_iconst (v := 0) hx hb dX12_town_96 (by decide +kernel) ?_
  refine va_iast hx hb hK hP hD hS 6 1 rfl rfl (vpc _ _ (by decide +kernel)) dX12_town_97 (fun H locs hP hD hS => ?_)
  have hP : va_P (dC, dI) vwCl [((q 0), .inr (12, (mo q))), ((q 2), .inl (cI, 2, .inl (upd (fun _ => 0) 1 0))), ((q 4), .inl (cI, 2, .inl (upd (fun _ => 0) 1 0))), ((q 11), .inl (cI, 2, .inl (upd (fun _ => 0) 1 0))), ((q 16), .inl (cI, 2, .inl (upd (fun _ => 0) 1 0))), ((q 19), .inl (cI, 2, .inl (upd (fun _ => 0) 1 0))), ((q 22), .inl (cI, 2, .inl (upd (fun _ => 0) 1 0))), ((q 25), .inl (cI, 2, .inl (fun _ => 0))), ((q 29), .inl (cI, 2, .inl (fun _ => 0)))] H := hP
  have hD : va_D A [((q 0), .inr (12, (mo q))), ((q 2), .inl (cI, 2, .inl (upd (fun _ => 0) 1 0))), ((q 4), .inl (cI, 2, .inl (upd (fun _ => 0) 1 0))), ((q 11), .inl (cI, 2, .inl (upd (fun _ => 0) 1 0))), ((q 16), .inl (cI, 2, .inl (upd (fun _ => 0) 1 0))), ((q 19), .inl (cI, 2, .inl (upd (fun _ => 0) 1 0))), ((q 22), .inl (cI, 2, .inl (upd (fun _ => 0) 1 0))), ((q 25), .inl (cI, 2, .inl (fun _ => 0))), ((q 29), .inl (cI, 2, .inl (fun _ => 0)))] := hD
  refine lv_aload_n hx hb dX12_town_98 rfl (lv_at hl 0 rfl) ?_
  refine va_get (D := (dC, dI)) (ci := 12) (v := .ref (q 25)) (C := RX12) (T := TX12) (N := 85) hx hb hts hiX12 hown hK hP 0 rfl rfl 36 (by decide) (hts _ (List.mem_of_getElem? (i := 14) rfl)) (fun _ h9 => h9) rfl dX12_town_99 ?_
  refine lv_aload_n hx hb dX12_town_102 rfl (lv_at hl 0 rfl) ?_
  refine va_get (D := (dC, dI)) (ci := 12) (v := .int 1) (C := RX12) (T := TX12) (N := 85) hx hb hts hiX12 hown hK hP 0 rfl rfl 47 (by decide) (hts _ (List.mem_of_getElem? (i := 7) rfl)) (fun _ h9 => h9) rfl dX12_town_103 ?_
  refine lv_iconst (v := 0) hx hb dX12_town_106 (by decide +kernel) ?_
  refine va_iast hx hb hK hP hD hS 7 1 rfl rfl (vpc _ _ (by decide +kernel)) dX12_town_107 (fun H locs hP hD hS => ?_)
  have hP : va_P (dC, dI) vwCl [((q 0), .inr (12, (mo q))), ((q 2), .inl (cI, 2, .inl (upd (fun _ => 0) 1 0))), ((q 4), .inl (cI, 2, .inl (upd (fun _ => 0) 1 0))), ((q 11), .inl (cI, 2, .inl (upd (fun _ => 0) 1 0))), ((q 16), .inl (cI, 2, .inl (upd (fun _ => 0) 1 0))), ((q 19), .inl (cI, 2, .inl (upd (fun _ => 0) 1 0))), ((q 22), .inl (cI, 2, .inl (upd (fun _ => 0) 1 0))), ((q 25), .inl (cI, 2, .inl (upd (fun _ => 0) 1 0))), ((q 29), .inl (cI, 2, .inl (fun _ => 0)))] H := hP
  have hD : va_D A [((q 0), .inr (12, (mo q))), ((q 2), .inl (cI, 2, .inl (upd (fun _ => 0) 1 0))), ((q 4), .inl (cI, 2, .inl (upd (fun _ => 0) 1 0))), ((q 11), .inl (cI, 2, .inl (upd (fun _ => 0) 1 0))), ((q 16), .inl (cI, 2, .inl (upd (fun _ => 0) 1 0))), ((q 19), .inl (cI, 2, .inl (upd (fun _ => 0) 1 0))), ((q 22), .inl (cI, 2, .inl (upd (fun _ => 0) 1 0))), ((q 25), .inl (cI, 2, .inl (upd (fun _ => 0) 1 0))), ((q 29), .inl (cI, 2, .inl (fun _ => 0)))] := hD
  refine lv_aload_n hx hb dX12_town_108 rfl (lv_at hl 0 rfl) ?_
  refine va_get (D := (dC, dI)) (ci := 12) (v := .ref (q 29)) (C := RX12) (T := TX12) (N := 85) hx hb hts hiX12 hown hK hP 0 rfl rfl 40 (by decide) (hts _ (List.mem_of_getElem? (i := 15) rfl)) (fun _ h9 => h9) rfl dX12_town_109 ?_
  refine lv_aload_n hx hb dX12_town_112 rfl (lv_at hl 0 rfl) ?_
  refine va_get (D := (dC, dI)) (ci := 12) (v := .int 1) (C := RX12) (T := TX12) (N := 85) hx hb hts hiX12 hown hK hP 0 rfl rfl 47 (by decide) (hts _ (List.mem_of_getElem? (i := 7) rfl)) (fun _ h9 => h9) rfl dX12_town_113 ?_
  refine lv_iconst (v := 0) hx hb dX12_town_116 (by decide +kernel) ?_
  refine va_iast hx hb hK hP hD hS 8 1 rfl rfl (vpc _ _ (by decide +kernel)) dX12_town_117 (fun H locs hP hD hS => ?_)
  have hP : va_P (dC, dI) vwCl [((q 0), .inr (12, (mo q))), ((q 2), .inl (cI, 2, .inl (upd (fun _ => 0) 1 0))), ((q 4), .inl (cI, 2, .inl (upd (fun _ => 0) 1 0))), ((q 11), .inl (cI, 2, .inl (upd (fun _ => 0) 1 0))), ((q 16), .inl (cI, 2, .inl (upd (fun _ => 0) 1 0))), ((q 19), .inl (cI, 2, .inl (upd (fun _ => 0) 1 0))), ((q 22), .inl (cI, 2, .inl (upd (fun _ => 0) 1 0))), ((q 25), .inl (cI, 2, .inl (upd (fun _ => 0) 1 0))), ((q 29), .inl (cI, 2, .inl (upd (fun _ => 0) 1 0)))] H := hP
  have hD : va_D A [((q 0), .inr (12, (mo q))), ((q 2), .inl (cI, 2, .inl (upd (fun _ => 0) 1 0))), ((q 4), .inl (cI, 2, .inl (upd (fun _ => 0) 1 0))), ((q 11), .inl (cI, 2, .inl (upd (fun _ => 0) 1 0))), ((q 16), .inl (cI, 2, .inl (upd (fun _ => 0) 1 0))), ((q 19), .inl (cI, 2, .inl (upd (fun _ => 0) 1 0))), ((q 22), .inl (cI, 2, .inl (upd (fun _ => 0) 1 0))), ((q 25), .inl (cI, 2, .inl (upd (fun _ => 0) 1 0))), ((q 29), .inl (cI, 2, .inl (upd (fun _ => 0) 1 0)))] := hD
  refine lv_aload_n hx hb dX12_town_118 rfl (lv_at hl 0 rfl) ?_
  refine lv_iconst (v := 0) hx hb dX12_town_119 (by decide +kernel) ?_
  refine va_put (D := (dC, dI)) (ci := 12) (v := .int 0) (ty := .int) (C := RX12) (T := TX12) (N := 85) hx hb hts hiX12 tyX12 tyX12_ok nmX12 hown hK hP hD hS 0 rfl rfl 46 (by decide) (hts _ (List.mem_of_getElem? (i := 16) rfl)) (fun _ h9 => h9) rfl (by decide +kernel) rfl rfl (Nat.le_of_ble_eq_true rfl) dX12_town_120 (fun H locs hP hD hS => ?_)
  have hP : va_P (dC, dI) vwCl [((q 0), .inr (12, (mo q))), ((q 2), .inl (cI, 2, .inl (upd (fun _ => 0) 1 0))), ((q 4), .inl (cI, 2, .inl (upd (fun _ => 0) 1 0))), ((q 11), .inl (cI, 2, .inl (upd (fun _ => 0) 1 0))), ((q 16), .inl (cI, 2, .inl (upd (fun _ => 0) 1 0))), ((q 19), .inl (cI, 2, .inl (upd (fun _ => 0) 1 0))), ((q 22), .inl (cI, 2, .inl (upd (fun _ => 0) 1 0))), ((q 25), .inl (cI, 2, .inl (upd (fun _ => 0) 1 0))), ((q 29), .inl (cI, 2, .inl (upd (fun _ => 0) 1 0)))] H := hP
  have hD : va_D A [((q 0), .inr (12, (mo q))), ((q 2), .inl (cI, 2, .inl (upd (fun _ => 0) 1 0))), ((q 4), .inl (cI, 2, .inl (upd (fun _ => 0) 1 0))), ((q 11), .inl (cI, 2, .inl (upd (fun _ => 0) 1 0))), ((q 16), .inl (cI, 2, .inl (upd (fun _ => 0) 1 0))), ((q 19), .inl (cI, 2, .inl (upd (fun _ => 0) 1 0))), ((q 22), .inl (cI, 2, .inl (upd (fun _ => 0) 1 0))), ((q 25), .inl (cI, 2, .inl (upd (fun _ => 0) 1 0))), ((q 29), .inl (cI, 2, .inl (upd (fun _ => 0) 1 0)))] := hD
  refine lv_iconst (v := 0) hx hb dX12_town_123 (by decide +kernel) ?_
  refine lv_istore_n (lv' := [(1, .int 0), (0, .ref (q 0))]) hx hb dX12_town_124 rfl hl (by decide) rfl (fun ls hl => ?_)
  refine lv_aload_n hx hb dX12_town_125 rfl (lv_at hl 1 rfl) ?_
  have hPc := hP.sub (ws' := [((q 0), .inr (12, (mo q)))]) [0] rfl
  have hDc := hD.sub (ws' := [((q 0), .inr (12, (mo q)))]) [0] (by decide) rfl
  have hFc := va_free (wc := [((q 0), .inr (12, (mo q)))]) hD hS hA [0] rfl
  refine va_callv (va_runV (As := []) (rest := []) ⟨hx, hb, hml, hown, hts⟩ (k_X12_ahead_93 l dC dI cB cI cJ cZ cQ H.size q) (cwV 0 hts g_p_X12_town_0 rfl rfl rfl (by decide +kernel) ⟨Nat.le_of_ble_eq_true rfl, Nat.le_of_ble_eq_true rfl⟩) ⟨fun a U g mk Z => by obtain ⟨q0, q1, qP, qK, qD⟩ := Z; exact ⟨q0, q1, qP, va_K.moved (u := U) (U := U.calling g mk a) (Vm.Alike.refl U.vm) qK, qD⟩, va_recv hK hPc (ci := 12) (q0 := 0) rfl rfl, fun U hU hW => ⟨rfl, by rw [hU], by rw [hU]; exact hPc, va_K.moved hW.alike hK, hDc.weaken (fun _ _ _ _ => trivial)⟩⟩ rfl rfl hl.1 rfl (lv_room (Nat.le_of_ble_eq_true rfl)) dX12_town_126 ⟨Nat.le_of_ble_eq_true rfl, Nat.le_of_ble_eq_true rfl⟩) hS (fun b _ h => hFc b h) hFc (fun u1 t H1 locs ht hvm hw hB hz1 hk1 hS => ?_)
  obtain ⟨hP1, hK1, hD1⟩ := hB
  rw [ht] at hP1
  obtain ⟨hP, hD⟩ := va_join (wr := [((q 2), .inl (cI, 2, .inl (upd (fun _ => 0) 1 0))), ((q 4), .inl (cI, 2, .inl (upd (fun _ => 0) 1 0))), ((q 11), .inl (cI, 2, .inl (upd (fun _ => 0) 1 0))), ((q 16), .inl (cI, 2, .inl (upd (fun _ => 0) 1 0))), ((q 19), .inl (cI, 2, .inl (upd (fun _ => 0) 1 0))), ((q 22), .inl (cI, 2, .inl (upd (fun _ => 0) 1 0))), ((q 25), .inl (cI, 2, .inl (upd (fun _ => 0) 1 0))), ((q 29), .inl (cI, 2, .inl (upd (fun _ => 0) 1 0)))]) (w1 := [((q 0), .inr (12, (mo q)))]) hP hD [0] [1, 2, 3, 4, 5, 6, 7, 8] rfl rfl (by decide) (by decide) hk1 hFc hP1 hD1
  clear hP1 hK1 hD1 hk1 hz1 hvm hPc hDc hFc
  generalize H1 = H at hP hS ⊢
  have hP : va_P (dC, dI) vwCl [((q 2), .inl (cI, 2, .inl (upd (fun _ => 0) 1 0))), ((q 4), .inl (cI, 2, .inl (upd (fun _ => 0) 1 0))), ((q 11), .inl (cI, 2, .inl (upd (fun _ => 0) 1 0))), ((q 16), .inl (cI, 2, .inl (upd (fun _ => 0) 1 0))), ((q 19), .inl (cI, 2, .inl (upd (fun _ => 0) 1 0))), ((q 22), .inl (cI, 2, .inl (upd (fun _ => 0) 1 0))), ((q 25), .inl (cI, 2, .inl (upd (fun _ => 0) 1 0))), ((q 29), .inl (cI, 2, .inl (upd (fun _ => 0) 1 0))), ((q 0), .inr (12, (mo q)))] H := hP
  have hD : va_D A [((q 2), .inl (cI, 2, .inl (upd (fun _ => 0) 1 0))), ((q 4), .inl (cI, 2, .inl (upd (fun _ => 0) 1 0))), ((q 11), .inl (cI, 2, .inl (upd (fun _ => 0) 1 0))), ((q 16), .inl (cI, 2, .inl (upd (fun _ => 0) 1 0))), ((q 19), .inl (cI, 2, .inl (upd (fun _ => 0) 1 0))), ((q 22), .inl (cI, 2, .inl (upd (fun _ => 0) 1 0))), ((q 25), .inl (cI, 2, .inl (upd (fun _ => 0) 1 0))), ((q 29), .inl (cI, 2, .inl (upd (fun _ => 0) 1 0))), ((q 0), .inr (12, (mo q)))] := hD
  refine lv_aload_n hx hb dX12_town_129 rfl (lv_at hl 1 rfl) ?_
  refine va_get (D := (dC, dI)) (ci := 12) (v := .int 0) (C := RX12) (T := TX12) (N := 85) hx hb hts hiX12 hown hK hP 8 rfl rfl 8 (by decide) (hts _ (List.mem_of_getElem? (i := 4) rfl)) (fun _ h9 => h9) rfl dX12_town_130 ?_
  refine lv_if_ne (tgt := 153) hx hb dX12_town_133 (by decide) (fun c => absurd c (by decide +kernel)) (fun _ => ?_)
  refine lv_aload_n hx hb dX12_town_136 rfl (lv_at hl 1 rfl) ?_
  refine va_get (D := (dC, dI)) (ci := 12) (v := .int 0) (C := RX12) (T := TX12) (N := 85) hx hb hts hiX12 hown hK hP 8 rfl rfl 3 (by decide) (hts _ (List.mem_of_getElem? (i := 23) rfl)) (fun _ h9 => h9) rfl dX12_town_137 ?_
  refine lv_if_eq (tgt := 153) hx hb dX12_town_140 (by decide) (fun _ => ?_) (fun c => absurd c (by decide +kernel))
  refine lv_aload_n hx hb dX12_town_153 rfl (lv_at hl 1 rfl) ?_
  refine lv_aload_n hx hb dX12_town_154 rfl (lv_at hl 1 rfl) ?_
  refine va_get (D := (dC, dI)) (ci := 12) (v := .int 0) (C := RX12) (T := TX12) (N := 85) hx hb hts hiX12 hown hK hP 8 rfl rfl 8 (by decide) (hts _ (List.mem_of_getElem? (i := 4) rfl)) (fun _ h9 => h9) rfl dX12_town_155 ?_
  refine va_put (D := (dC, dI)) (ci := 12) (v := .int 0) (ty := .int) (C := RX12) (T := TX12) (N := 85) hx hb hts hiX12 tyX12 tyX12_ok nmX12 hown hK hP hD hS 8 rfl rfl 10 (by decide) (hts _ (List.mem_of_getElem? (i := 24) rfl)) (fun _ h9 => h9) rfl (by decide +kernel) rfl rfl (Nat.le_of_ble_eq_true rfl) dX12_town_158 (fun H locs hP hD hS => ?_)
  have hP : va_P (dC, dI) vwCl [((q 2), .inl (cI, 2, .inl (upd (fun _ => 0) 1 0))), ((q 4), .inl (cI, 2, .inl (upd (fun _ => 0) 1 0))), ((q 11), .inl (cI, 2, .inl (upd (fun _ => 0) 1 0))), ((q 16), .inl (cI, 2, .inl (upd (fun _ => 0) 1 0))), ((q 19), .inl (cI, 2, .inl (upd (fun _ => 0) 1 0))), ((q 22), .inl (cI, 2, .inl (upd (fun _ => 0) 1 0))), ((q 25), .inl (cI, 2, .inl (upd (fun _ => 0) 1 0))), ((q 29), .inl (cI, 2, .inl (upd (fun _ => 0) 1 0))), ((q 0), .inr (12, (mo q)))] H := hP
  have hD : va_D A [((q 2), .inl (cI, 2, .inl (upd (fun _ => 0) 1 0))), ((q 4), .inl (cI, 2, .inl (upd (fun _ => 0) 1 0))), ((q 11), .inl (cI, 2, .inl (upd (fun _ => 0) 1 0))), ((q 16), .inl (cI, 2, .inl (upd (fun _ => 0) 1 0))), ((q 19), .inl (cI, 2, .inl (upd (fun _ => 0) 1 0))), ((q 22), .inl (cI, 2, .inl (upd (fun _ => 0) 1 0))), ((q 25), .inl (cI, 2, .inl (upd (fun _ => 0) 1 0))), ((q 29), .inl (cI, 2, .inl (upd (fun _ => 0) 1 0))), ((q 0), .inr (12, (mo q)))] := hD
  refine lv_aload_n hx hb dX12_town_161 rfl (lv_at hl 1 rfl) ?_
  refine lv_aload_n hx hb dX12_town_162 rfl (lv_at hl 1 rfl) ?_
  refine va_get (D := (dC, dI)) (ci := 12) (v := .int (-1)) (C := RX12) (T := TX12) (N := 85) hx hb hts hiX12 hown hK hP 8 rfl rfl 9 (by decide) (hts _ (List.mem_of_getElem? (i := 5) rfl)) (fun _ h9 => h9) rfl dX12_town_163 ?_
  refine va_put (D := (dC, dI)) (ci := 12) (v := .int (-1)) (ty := .int) (C := RX12) (T := TX12) (N := 85) hx hb hts hiX12 tyX12 tyX12_ok nmX12 hown hK hP hD hS 8 rfl rfl 11 (by decide) (hts _ (List.mem_of_getElem? (i := 25) rfl)) (fun _ h9 => h9) rfl (by decide +kernel) rfl rfl (Nat.le_of_ble_eq_true rfl) dX12_town_166 (fun H locs hP hD hS => ?_)
  have hP : va_P (dC, dI) vwCl [((q 2), .inl (cI, 2, .inl (upd (fun _ => 0) 1 0))), ((q 4), .inl (cI, 2, .inl (upd (fun _ => 0) 1 0))), ((q 11), .inl (cI, 2, .inl (upd (fun _ => 0) 1 0))), ((q 16), .inl (cI, 2, .inl (upd (fun _ => 0) 1 0))), ((q 19), .inl (cI, 2, .inl (upd (fun _ => 0) 1 0))), ((q 22), .inl (cI, 2, .inl (upd (fun _ => 0) 1 0))), ((q 25), .inl (cI, 2, .inl (upd (fun _ => 0) 1 0))), ((q 29), .inl (cI, 2, .inl (upd (fun _ => 0) 1 0))), ((q 0), .inr (12, (mo q)))] H := hP
  have hD : va_D A [((q 2), .inl (cI, 2, .inl (upd (fun _ => 0) 1 0))), ((q 4), .inl (cI, 2, .inl (upd (fun _ => 0) 1 0))), ((q 11), .inl (cI, 2, .inl (upd (fun _ => 0) 1 0))), ((q 16), .inl (cI, 2, .inl (upd (fun _ => 0) 1 0))), ((q 19), .inl (cI, 2, .inl (upd (fun _ => 0) 1 0))), ((q 22), .inl (cI, 2, .inl (upd (fun _ => 0) 1 0))), ((q 25), .inl (cI, 2, .inl (upd (fun _ => 0) 1 0))), ((q 29), .inl (cI, 2, .inl (upd (fun _ => 0) 1 0))), ((q 0), .inr (12, (mo q)))] := hD
  refine lv_aload_n hx hb dX12_town_169 rfl (lv_at hl 1 rfl) ?_
  refine va_get (D := (dC, dI)) (ci := 12) (v := .int 0) (C := RX12) (T := TX12) (N := 85) hx hb hts hiX12 hown hK hP 8 rfl rfl 8 (by decide) (hts _ (List.mem_of_getElem? (i := 4) rfl)) (fun _ h9 => h9) rfl dX12_town_170 ?_
  refine lv_if_le (tgt := 182) hx hb dX12_town_173 (by decide) (fun _ => ?_) (fun c => absurd c (by decide +kernel))
  refine lv_aload_n hx hb dX12_town_182 rfl (lv_at hl 1 rfl) ?_
  refine lv_aload_n hx hb dX12_town_183 rfl (lv_at hl 1 rfl) ?_
  refine va_get (D := (dC, dI)) (ci := 12) (v := .int 1) (C := RX12) (T := TX12) (N := 85) hx hb hts hiX12 hown hK hP 8 rfl rfl 47 (by decide) (hts _ (List.mem_of_getElem? (i := 7) rfl)) (fun _ h9 => h9) rfl dX12_town_184 ?_
  refine va_put (D := (dC, dI)) (ci := 12) (v := .int 1) (ty := .int) (C := RX12) (T := TX12) (N := 85) hx hb hts hiX12 tyX12 tyX12_ok nmX12 hown hK hP hD hS 8 rfl rfl 12 (by decide) (hts _ (List.mem_of_getElem? (i := 6) rfl)) (fun _ h9 => h9) rfl (by decide +kernel) rfl rfl (Nat.le_of_ble_eq_true rfl) dX12_town_187 (fun H locs hP hD hS => ?_)
  have hP : va_P (dC, dI) vwCl [((q 2), .inl (cI, 2, .inl (upd (fun _ => 0) 1 0))), ((q 4), .inl (cI, 2, .inl (upd (fun _ => 0) 1 0))), ((q 11), .inl (cI, 2, .inl (upd (fun _ => 0) 1 0))), ((q 16), .inl (cI, 2, .inl (upd (fun _ => 0) 1 0))), ((q 19), .inl (cI, 2, .inl (upd (fun _ => 0) 1 0))), ((q 22), .inl (cI, 2, .inl (upd (fun _ => 0) 1 0))), ((q 25), .inl (cI, 2, .inl (upd (fun _ => 0) 1 0))), ((q 29), .inl (cI, 2, .inl (upd (fun _ => 0) 1 0))), ((q 0), .inr (12, ((mo q).set 12 (.int 1))))] H := hP
  have hD : va_D A [((q 2), .inl (cI, 2, .inl (upd (fun _ => 0) 1 0))), ((q 4), .inl (cI, 2, .inl (upd (fun _ => 0) 1 0))), ((q 11), .inl (cI, 2, .inl (upd (fun _ => 0) 1 0))), ((q 16), .inl (cI, 2, .inl (upd (fun _ => 0) 1 0))), ((q 19), .inl (cI, 2, .inl (upd (fun _ => 0) 1 0))), ((q 22), .inl (cI, 2, .inl (upd (fun _ => 0) 1 0))), ((q 25), .inl (cI, 2, .inl (upd (fun _ => 0) 1 0))), ((q 29), .inl (cI, 2, .inl (upd (fun _ => 0) 1 0))), ((q 0), .inr (12, ((mo q).set 12 (.int 1))))] := hD
  refine lv_aload_n hx hb dX12_town_190 rfl (lv_at hl 1 rfl) ?_
  refine lv_iconst (v := 0) hx hb dX12_town_191 (by decide +kernel) ?_
  refine va_put (D := (dC, dI)) (ci := 12) (v := .int 0) (ty := .int) (C := RX12) (T := TX12) (N := 85) hx hb hts hiX12 tyX12 tyX12_ok nmX12 hown hK hP hD hS 8 rfl rfl 75 (by decide) (hts _ (List.mem_of_getElem? (i := 26) rfl)) (fun _ h9 => h9) rfl (by decide +kernel) rfl rfl (Nat.le_of_ble_eq_true rfl) dX12_town_192 (fun H locs hP hD hS => ?_)
  have hP : va_P (dC, dI) vwCl [((q 2), .inl (cI, 2, .inl (upd (fun _ => 0) 1 0))), ((q 4), .inl (cI, 2, .inl (upd (fun _ => 0) 1 0))), ((q 11), .inl (cI, 2, .inl (upd (fun _ => 0) 1 0))), ((q 16), .inl (cI, 2, .inl (upd (fun _ => 0) 1 0))), ((q 19), .inl (cI, 2, .inl (upd (fun _ => 0) 1 0))), ((q 22), .inl (cI, 2, .inl (upd (fun _ => 0) 1 0))), ((q 25), .inl (cI, 2, .inl (upd (fun _ => 0) 1 0))), ((q 29), .inl (cI, 2, .inl (upd (fun _ => 0) 1 0))), ((q 0), .inr (12, ((mo q).set 12 (.int 1))))] H := hP
  have hD : va_D A [((q 2), .inl (cI, 2, .inl (upd (fun _ => 0) 1 0))), ((q 4), .inl (cI, 2, .inl (upd (fun _ => 0) 1 0))), ((q 11), .inl (cI, 2, .inl (upd (fun _ => 0) 1 0))), ((q 16), .inl (cI, 2, .inl (upd (fun _ => 0) 1 0))), ((q 19), .inl (cI, 2, .inl (upd (fun _ => 0) 1 0))), ((q 22), .inl (cI, 2, .inl (upd (fun _ => 0) 1 0))), ((q 25), .inl (cI, 2, .inl (upd (fun _ => 0) 1 0))), ((q 29), .inl (cI, 2, .inl (upd (fun _ => 0) 1 0))), ((q 0), .inr (12, ((mo q).set 12 (.int 1))))] := hD
  refine lv_iload_n hx hb dX12_town_195 rfl (lv_at hl 0 rfl) ?_
  exact W.iret (v := 0) hx hb hr (fun t ht hW => ⟨⟨0, (), rfl, rfl, trivial⟩, hS.F ht⟩) hS.2.2 dX12_town_196
