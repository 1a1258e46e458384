def ws_kj_c3n : List Cond := .code yJ3_checkIndex_8e157 cJ3_checkIndex_8e157 3 (some .int) :: []
set_option maxHeartbeats 4000000 in
set_option maxRecDepth 100000 in
theorem kj_c3n (l : Launch) (sz : Nat) (x n : Int32) (h0 : 0 ≤ x.toInt) (h1 : x.toInt < n.toInt) : Met l yJ3_checkIndex_8e157 ws_kj_c3n ({ frames := 0, cells := 0, slots := 0, locals := 0 }) (va_Pc [.int x, .int n, .null] (fun U => U.heap.size = sz)) (va_Qi (fun (r : Int32) (_ : Unit) => True) (fun _ _ => True) (va_A [] sz)) 0 0 (va_A [] sz) := by
  refine Met.ofW (cc := cJ3_checkIndex_8e157) (maxL := 3) (ret := (some .int)) (by decide +kernel) rfl ?_
  intro p e s m args below meth c s₁ B hml hv
  obtain ⟨rfl, hsz⟩ := hv
  have hx := B.exec
  have hb := B.bytes
  have hr := B.returns
  have hts := atoms_spec (ws := ws_kj_c3n) B.pre
  have hown : s.vm.findClass RJ3 = some m.cls := findClass_of_methodNamed B.named
  subst hsz
  generalize hAe : va_A [] s.heap.size = A at ⊢
  have hA : ∀ b : Nat, s.heap.size ≤ b → A b := fun b h => by rw [← hAe]; exact Or.inr h
  clear hAe
  have hD : va_D A [] := ⟨fun i j p q h => by simp at h, fun k q h => by simp at h⟩
  have hS : va_S A s.heap s.heap [] := va_S.rf
  have hl := lv_entry ([.int x, .int n, .null]) (n := 3) (Nat.le_of_ble_eq_true rfl)
  rw [lg_entry_eq]
  generalize (lg_sl ([.int x, .int n, .null]) ++ List.replicate (3 - (lg_sl ([.int x, .int n, .null])).length) Slot.unset).toArray = ls at hl ⊢
  have hl : lv_has ls 3 [(0, .int x), (1, .int n), (2, .null)] := hl
  obtain ⟨H, hHe⟩ : ∃ H : Heap, H = s.heap := ⟨_, rfl⟩
  have hS : va_S A s.heap H [] := by rw [hHe]; exact hS
  rw [← hHe]
  have z0 : (0 : Int32).toInt = 0 := by decide +kernel
  refine lv_iload_n hx hb dJ3_checkIndex_8e157_0 rfl (lv_at hl 0 rfl) ?_
  refine lv_if_lt (tgt := 9) hx hb dJ3_checkIndex_8e157_1 (by decide) (fun q => False.elim (by have qi := (fa_lt _ _).mp q; omega)) (fun _ => ?_)
  refine lv_iload_n hx hb dJ3_checkIndex_8e157_4 rfl (lv_at hl 0 rfl) ?_
  refine lv_iload_n hx hb dJ3_checkIndex_8e157_5 rfl (lv_at hl 1 rfl) ?_
  refine lv_icmp_lt (tgt := 16) hx hb dJ3_checkIndex_8e157_6 (by decide) (fun _ => ?_) (fun q => False.elim (by have qi := mt (fa_lt _ _).mpr q; omega))
  refine lv_iload_n hx hb dJ3_checkIndex_8e157_16 rfl (lv_at hl 0 rfl) ?_
  exact W.iret (v := x) hx hb hr (fun t ht hW => ⟨⟨x, (), rfl, trivial, trivial⟩, hS.F ht⟩) hS.2.2 dJ3_checkIndex_8e157_17
def ws_kj_c3r : List Cond := .code yJ3_checkIndex_8e157 cJ3_checkIndex_8e157 3 (some .int) :: []
set_option maxHeartbeats 4000000 in
set_option maxRecDepth 100000 in
theorem kj_c3r (l : Launch) (sz : Nat) (t : Nat) (x n : Int32) (h0 : 0 ≤ x.toInt) (h1 : x.toInt < n.toInt) : Met l yJ3_checkIndex_8e157 ws_kj_c3r ({ frames := 0, cells := 0, slots := 0, locals := 0 }) (va_Pc [.int x, .int n, .ref t] (fun U => U.heap.size = sz)) (va_Qi (fun (r : Int32) (_ : Unit) => True) (fun _ _ => True) (va_A [] sz)) 0 0 (va_A [] sz) := by
  refine Met.ofW (cc := cJ3_checkIndex_8e157) (maxL := 3) (ret := (some .int)) (by decide +kernel) rfl ?_
  intro p e s m args below meth c s₁ B hml hv
  obtain ⟨rfl, hsz⟩ := hv
  have hx := B.exec
  have hb := B.bytes
  have hr := B.returns
  have hts := atoms_spec (ws := ws_kj_c3r) B.pre
  have hown : s.vm.findClass RJ3 = some m.cls := findClass_of_methodNamed B.named
  subst hsz
  generalize hAe : va_A [] s.heap.size = A at ⊢
  have hA : ∀ b : Nat, s.heap.size ≤ b → A b := fun b h => by rw [← hAe]; exact Or.inr h
  clear hAe
  have hD : va_D A [] := ⟨fun i j p q h => by simp at h, fun k q h => by simp at h⟩
  have hS : va_S A s.heap s.heap [] := va_S.rf
  have hl := lv_entry ([.int x, .int n, .ref t]) (n := 3) (Nat.le_of_ble_eq_true rfl)
  rw [lg_entry_eq]
  generalize (lg_sl ([.int x, .int n, .ref t]) ++ List.replicate (3 - (lg_sl ([.int x, .int n, .ref t])).length) Slot.unset).toArray = ls at hl ⊢
  have hl : lv_has ls 3 [(0, .int x), (1, .int n), (2, .ref t)] := hl
  obtain ⟨H, hHe⟩ : ∃ H : Heap, H = s.heap := ⟨_, rfl⟩
  have hS : va_S A s.heap H [] := by rw [hHe]; exact hS
  rw [← hHe]
  have z0 : (0 : Int32).toInt = 0 := by decide +kernel
  refine lv_iload_n hx hb dJ3_checkIndex_8e157_0 rfl (lv_at hl 0 rfl) ?_
  refine lv_if_lt (tgt := 9) hx hb dJ3_checkIndex_8e157_1 (by decide) (fun q => False.elim (by have qi := (fa_lt _ _).mp q; omega)) (fun _ => ?_)
  refine lv_iload_n hx hb dJ3_checkIndex_8e157_4 rfl (lv_at hl 0 rfl) ?_
  refine lv_iload_n hx hb dJ3_checkIndex_8e157_5 rfl (lv_at hl 1 rfl) ?_
  refine lv_icmp_lt (tgt := 16) hx hb dJ3_checkIndex_8e157_6 (by decide) (fun _ => ?_) (fun q => False.elim (by have qi := mt (fa_lt _ _).mpr q; omega))
  refine lv_iload_n hx hb dJ3_checkIndex_8e157_16 rfl (lv_at hl 0 rfl) ?_
  exact W.iret (v := x) hx hb hr (fun t ht hW => ⟨⟨x, (), rfl, trivial, trivial⟩, hS.F ht⟩) hS.2.2 dJ3_checkIndex_8e157_17
def ws_kj_c0 : List Cond := .code yJ0_checkIndex_df160 cJ0_checkIndex_df160 2 none :: [.fieldLink RJ0 1053 "jdk/internal/util/Preconditions" "SIOOBE_FORMATTER" "Ljava/util/function/BiFunction;", .methodLink RJ0 1059 yJ3_checkIndex_8e157, .static yJ3_checkIndex_8e157, .initialized RJ3, .code yJ3_checkIndex_8e157 cJ3_checkIndex_8e157 3 (some .int)]
set_option maxRecDepth 20000 in
theorem g_kj_c0_0 : GoodIn ws_kj_c0 (va_wsS RJ0 1059 yJ3_checkIndex_8e157 ws_kj_c3n) := goodIn_r _ [2, 3, 4, 5] (by decide +kernel) (by decide +kernel)
set_option maxRecDepth 20000 in
theorem g_kj_c0_1 : GoodIn ws_kj_c0 (va_wsS RJ0 1059 yJ3_checkIndex_8e157 ws_kj_c3r) := goodIn_r _ [2, 3, 4, 5] (by decide +kernel) (by decide +kernel)
set_option maxHeartbeats 4000000 in
set_option maxRecDepth 100000 in
theorem kj_c0 (l : Launch) (sz : Nat) (aK aV : Nat) (x n : Int32) (h0 : 0 ≤ x.toInt) (h1 : x.toInt < n.toInt) : Met l yJ0_checkIndex_df160 ws_kj_c0 ({ frames := 1, cells := 0, slots := 0, locals := 22 }) (va_Pc [.int x, .int n] (fun U => U.heap.size = sz ∧ exS aK aV (va_A [] sz) U)) (va_Qv (fun _ : Unit => True) (fun _ _ => True) (va_A [] sz)) 0 0 (va_A [] sz) := by
  refine Met.ofW (cc := cJ0_checkIndex_df160) (maxL := 2) (ret := none) (by decide +kernel) rfl ?_
  intro p e s m args below meth c s₁ B hml hv
  obtain ⟨rfl, hsz, hES⟩ := hv
  have hx := B.exec
  have hb := B.bytes
  have hr := B.returns
  have hts := atoms_spec (ws := ws_kj_c0) B.pre
  have hown : s.vm.findClass RJ0 = some m.cls := findClass_of_methodNamed B.named
  subst hsz
  generalize hAe : va_A [] s.heap.size = A at hES ⊢
  have hA : ∀ b : Nat, s.heap.size ≤ b → A b := fun b h => by rw [← hAe]; exact Or.inr h
  clear hAe
  have hD : va_D A [] := ⟨fun i j p q h => by simp at h, fun k q h => by simp at h⟩
  have hS : va_S A s.heap s.heap [] := va_S.rf
  have hl := lv_entry ([.int x, .int n]) (n := 2) (Nat.le_of_ble_eq_true rfl)
  rw [lg_entry_eq]
  generalize (lg_sl ([.int x, .int n]) ++ List.replicate (2 - (lg_sl ([.int x, .int n])).length) Slot.unset).toArray = ls at hl ⊢
  have hl : lv_has ls 2 [(0, .int x), (1, .int n)] := hl
  obtain ⟨H, hHe⟩ : ∃ H : Heap, H = s.heap := ⟨_, rfl⟩
  have hS : va_S A s.heap H [] := by rw [hHe]; exact hS
  rw [← hHe]
  refine lv_iload_n hx hb dJ0_checkIndex_df160_0 rfl (lv_at hl 0 rfl) ?_
  refine lv_iload_n hx hb dJ0_checkIndex_df160_1 rfl (lv_at hl 1 rfl) ?_
  rcases hES.2.2.2 with hz | ⟨t0, hz⟩
  · refine va_gets hx hb hz hS hown (hts _ (List.mem_of_getElem? (i := 1) rfl)) (fun _ h => h) dJ0_checkIndex_df160_2 ?_
    have hFc := va_free (wc := []) hD hS hA [] rfl
    refine va_calli (va_runS (As := [.int x, .int n, .null]) (rest := []) ⟨hx, hb, hml, hown, hts⟩ (kj_c3n l H.size x n h0 h1) (va_cwS 3 hts g_kj_c0_0 rfl rfl rfl (by decide +kernel) ⟨Nat.le_of_ble_eq_true rfl, Nat.le_of_ble_eq_true rfl⟩) ⟨fun a U g mk Z => ⟨Z.1, Z.2⟩, fun U hU hW => ⟨rfl, congrArg Array.size hU⟩⟩ rfl rfl hl.1 rfl (lv_room (Nat.le_of_ble_eq_true rfl)) dJ0_checkIndex_df160_5 ⟨Nat.le_of_ble_eq_true rfl, Nat.le_of_ble_eq_true rfl⟩) hS (fun b _ h => hFc b h) hFc (fun r u t H1 locs ht hvm hw hB hz1 hk1 hS => ?_)
    clear hFc hk1 hz1 hvm ht hB
    generalize H1 = H at hS ⊢
    refine lv_pop hx hb dJ0_checkIndex_df160_8 rfl ?_
    exact W.vret hx hb hr (fun t ht hW => ⟨⟨(), rfl, trivial, trivial⟩, hS.F ht⟩) hS.2.2 dJ0_checkIndex_df160_9
  · refine va_gets hx hb hz hS hown (hts _ (List.mem_of_getElem? (i := 1) rfl)) (fun _ h => h) dJ0_checkIndex_df160_2 ?_
    have hFc := va_free (wc := []) hD hS hA [] rfl
    refine va_calli (va_runS (As := [.int x, .int n, .ref t0]) (rest := []) ⟨hx, hb, hml, hown, hts⟩ (kj_c3r l H.size t0 x n h0 h1) (va_cwS 3 hts g_kj_c0_1 rfl rfl rfl (by decide +kernel) ⟨Nat.le_of_ble_eq_true rfl, Nat.le_of_ble_eq_true rfl⟩) ⟨fun a U g mk Z => ⟨Z.1, Z.2⟩, fun U hU hW => ⟨rfl, congrArg Array.size hU⟩⟩ rfl rfl hl.1 rfl (lv_room (Nat.le_of_ble_eq_true rfl)) dJ0_checkIndex_df160_5 ⟨Nat.le_of_ble_eq_true rfl, Nat.le_of_ble_eq_true rfl⟩) hS (fun b _ h => hFc b h) hFc (fun r u t H1 locs ht hvm hw hB hz1 hk1 hS => ?_)
    clear hFc hk1 hz1 hvm ht hB
    generalize H1 = H at hS ⊢
    refine lv_pop hx hb dJ0_checkIndex_df160_8 rfl ?_
    exact W.vret hx hb hr (fun t ht hW => ⟨⟨(), rfl, trivial, trivial⟩, hS.F ht⟩) hS.2.2 dJ0_checkIndex_df160_9
def ws_kj_lat : List Cond := .code yJ0_isLatin1_aae02 cJ0_isLatin1_aae02 1 (some .boolean) :: [.fieldLink RJ0 38 "java/lang/String" "COMPACT_STRINGS" "Z", .fieldLink RJ0 15 "java/lang/String" "coder" "B"]
set_option maxHeartbeats 4000000 in
set_option maxRecDepth 100000 in
theorem kj_lat (l : Launch) (sz : Nat) (aK aV : Nat) : Met l yJ0_isLatin1_aae02 ws_kj_lat ({ frames := 0, cells := 0, slots := 0, locals := 0 }) (va_Pc [.ref aK] (fun U => U.heap.size = sz ∧ exS aK aV (va_A [] sz) U)) (va_Qi (fun (r : Int32) (_ : Unit) => r = 1) (fun _ _ => True) (va_A [] sz)) 0 0 (va_A [] sz) := by
  refine Met.ofW (cc := cJ0_isLatin1_aae02) (maxL := 1) (ret := (some .boolean)) (by decide +kernel) rfl ?_
  intro p e s m args below meth c s₁ B hml hv
  obtain ⟨rfl, hsz, hES⟩ := hv
  have hx := B.exec
  have hb := B.bytes
  have hr := B.returns
  have hts := atoms_spec (ws := ws_kj_lat) B.pre
  have hown : s.vm.findClass RJ0 = some m.cls := findClass_of_methodNamed B.named
  subst hsz
  generalize hAe : va_A [] s.heap.size = A at hES ⊢
  have hA : ∀ b : Nat, s.heap.size ≤ b → A b := fun b h => by rw [← hAe]; exact Or.inr h
  clear hAe
  have hD : va_D A [] := ⟨fun i j p q h => by simp at h, fun k q h => by simp at h⟩
  have hS : va_S A s.heap s.heap [] := va_S.rf
  have hl := lv_entry ([.ref aK]) (n := 1) (Nat.le_of_ble_eq_true rfl)
  rw [lg_entry_eq]
  generalize (lg_sl ([.ref aK]) ++ List.replicate (1 - (lg_sl ([.ref aK])).length) Slot.unset).toArray = ls at hl ⊢
  have hl : lv_has ls 1 [(0, .ref aK)] := hl
  obtain ⟨H, hHe⟩ : ∃ H : Heap, H = s.heap := ⟨_, rfl⟩
  have hS : va_S A s.heap H [] := by rw [hHe]; exact hS
  rw [← hHe]
  refine va_gets hx hb hES.2.2.1 hS hown (hts _ (List.mem_of_getElem? (i := 1) rfl)) (fun _ h => h) dJ0_isLatin1_aae02_0 ?_
  refine lv_if_eq (tgt := 17) hx hb dJ0_isLatin1_aae02_3 (by decide) (fun q => absurd q (by decide +kernel)) (fun _ => ?_)
  refine lv_aload_n hx hb dJ0_isLatin1_aae02_6 rfl (lv_at hl 0 rfl) ?_
  refine vk_getf hx hb (hES.2.1.1 0 (by decide)).2.1 hS hown (hts _ (List.mem_of_getElem? (i := 2) rfl)) (fun _ h => h) dJ0_isLatin1_aae02_7 ?_
  refine lv_if_ne (tgt := 17) hx hb dJ0_isLatin1_aae02_10 (by decide) (fun q => absurd q (by decide +kernel)) (fun _ => ?_)
  refine lv_iconst (v := 1) hx hb dJ0_isLatin1_aae02_13 (by decide +kernel) ?_
  refine lv_goto (tgt := 18) hx hb dJ0_isLatin1_aae02_14 (by decide) ?_
  exact W.zret (v := 1) hx hb hr (by decide +kernel) (fun t ht hW => ⟨⟨1, (), rfl, rfl, trivial⟩, hS.F ht⟩) hS.2.2 dJ0_isLatin1_aae02_18
def ws_kj_cod : List Cond := .code yJ0_coder_7d493 cJ0_coder_7d493 1 (some .byte) :: [.fieldLink RJ0 38 "java/lang/String" "COMPACT_STRINGS" "Z", .fieldLink RJ0 15 "java/lang/String" "coder" "B"]
set_option maxHeartbeats 4000000 in
set_option maxRecDepth 100000 in
theorem kj_cod (l : Launch) (sz : Nat) (aK aV : Nat) : Met l yJ0_coder_7d493 ws_kj_cod ({ frames := 0, cells := 0, slots := 0, locals := 0 }) (va_Pc [.ref aK] (fun U => U.heap.size = sz ∧ exS aK aV (va_A [] sz) U)) (va_Qi (fun (r : Int32) (_ : Unit) => r = 0) (fun _ _ => True) (va_A [] sz)) 0 0 (va_A [] sz) := by
  refine Met.ofW (cc := cJ0_coder_7d493) (maxL := 1) (ret := (some .byte)) (by decide +kernel) rfl ?_
  intro p e s m args below meth c s₁ B hml hv
  obtain ⟨rfl, hsz, hES⟩ := hv
  have hx := B.exec
  have hb := B.bytes
  have hr := B.returns
  have hts := atoms_spec (ws := ws_kj_cod) B.pre
  have hown : s.vm.findClass RJ0 = some m.cls := findClass_of_methodNamed B.named
  subst hsz
  generalize hAe : va_A [] s.heap.size = A at hES ⊢
  have hA : ∀ b : Nat, s.heap.size ≤ b → A b := fun b h => by rw [← hAe]; exact Or.inr h
  clear hAe
  have hD : va_D A [] := ⟨fun i j p q h => by simp at h, fun k q h => by simp at h⟩
  have hS : va_S A s.heap s.heap [] := va_S.rf
  have hl := lv_entry ([.ref aK]) (n := 1) (Nat.le_of_ble_eq_true rfl)
  rw [lg_entry_eq]
  generalize (lg_sl ([.ref aK]) ++ List.replicate (1 - (lg_sl ([.ref aK])).length) Slot.unset).toArray = ls at hl ⊢
  have hl : lv_has ls 1 [(0, .ref aK)] := hl
  obtain ⟨H, hHe⟩ : ∃ H : Heap, H = s.heap := ⟨_, rfl⟩
  have hS : va_S A s.heap H [] := by rw [hHe]; exact hS
  rw [← hHe]
  refine va_gets hx hb hES.2.2.1 hS hown (hts _ (List.mem_of_getElem? (i := 1) rfl)) (fun _ h => h) dJ0_coder_7d493_0 ?_
  refine lv_if_eq (tgt := 13) hx hb dJ0_coder_7d493_3 (by decide) (fun q => absurd q (by decide +kernel)) (fun _ => ?_)
  refine lv_aload_n hx hb dJ0_coder_7d493_6 rfl (lv_at hl 0 rfl) ?_
  refine vk_getf hx hb (hES.2.1.1 0 (by decide)).2.1 hS hown (hts _ (List.mem_of_getElem? (i := 2) rfl)) (fun _ h => h) dJ0_coder_7d493_7 ?_
  refine lv_goto (tgt := 14) hx hb dJ0_coder_7d493_10 (by decide) ?_
  exact W.zret (v := 0) hx hb hr (by decide +kernel) (fun t ht hW => ⟨⟨0, (), rfl, rfl, trivial⟩, hS.F ht⟩) hS.2.2 dJ0_coder_7d493_14
def ws_kj_len : List Cond := .code yJ0_length_8abf5 cJ0_length_8abf5 1 (some .int) :: [.fieldLink RJ0 9 "java/lang/String" "value" "[B", .methodLink RJ0 335 yJ0_coder_7d493, .instanceMethod yJ0_coder_7d493, .selects RJ0 yJ0_coder_7d493 yJ0_coder_7d493, .initialized RJ0, .code yJ0_coder_7d493 cJ0_coder_7d493 1 (some .byte), .fieldLink RJ0 38 "java/lang/String" "COMPACT_STRINGS" "Z", .fieldLink RJ0 15 "java/lang/String" "coder" "B"]
set_option maxRecDepth 20000 in
theorem g_kj_len_0 : GoodIn ws_kj_len (wsV RJ0 335 RJ0 yJ0_coder_7d493 ws_kj_cod) := goodIn_r _ [2, 3, 4, 5, 6, 7, 8] (by decide +kernel) (by decide +kernel)
set_option maxHeartbeats 4000000 in
set_option maxRecDepth 100000 in
theorem kj_len (l : Launch) (sz : Nat) (aK aV : Nat) : Met l yJ0_length_8abf5 ws_kj_len ({ frames := 1, cells := 0, slots := 0, locals := 20 }) (va_Pc [.ref aK] (fun U => U.heap.size = sz ∧ exS aK aV (va_A [] sz) U)) (va_Qi (fun (r : Int32) (_ : Unit) => r = 119) (fun _ _ => True) (va_A [] sz)) 0 0 (va_A [] sz) := by
  refine Met.ofW (cc := cJ0_length_8abf5) (maxL := 1) (ret := (some .int)) (by decide +kernel) rfl ?_
  intro p e s m args below meth c s₁ B hml hv
  obtain ⟨rfl, hsz, hES⟩ := hv
  have hx := B.exec
  have hb := B.bytes
  have hr := B.returns
  have hts := atoms_spec (ws := ws_kj_len) B.pre
  have hown : s.vm.findClass RJ0 = some m.cls := findClass_of_methodNamed B.named
  subst hsz
  generalize hAe : va_A [] s.heap.size = A at hES ⊢
  have hA : ∀ b : Nat, s.heap.size ≤ b → A b := fun b h => by rw [← hAe]; exact Or.inr h
  clear hAe
  have hD : va_D A [] := ⟨fun i j p q h => by simp at h, fun k q h => by simp at h⟩
  have hS : va_S A s.heap s.heap [] := va_S.rf
  have hl := lv_entry ([.ref aK]) (n := 1) (Nat.le_of_ble_eq_true rfl)
  rw [lg_entry_eq]
  generalize (lg_sl ([.ref aK]) ++ List.replicate (1 - (lg_sl ([.ref aK])).length) Slot.unset).toArray = ls at hl ⊢
  have hl : lv_has ls 1 [(0, .ref aK)] := hl
  obtain ⟨H, hHe⟩ : ∃ H : Heap, H = s.heap := ⟨_, rfl⟩
  have hS : va_S A s.heap H [] := by rw [hHe]; exact hS
  rw [← hHe]
  refine lv_aload_n hx hb dJ0_length_8abf5_0 rfl (lv_at hl 0 rfl) ?_
  refine vk_getf hx hb (hES.2.1.1 0 (by decide)).2.2.1 hS hown (hts _ (List.mem_of_getElem? (i := 1) rfl)) (fun _ h => h) dJ0_length_8abf5_1 ?_
  refine va_tlen (v := 119) hx hb (hES.2.1.1 0 (by decide)).2.2.2 hS (by decide +kernel) dJ0_length_8abf5_4 ?_
  refine lv_aload_n hx hb dJ0_length_8abf5_5 rfl (lv_at hl 0 rfl) ?_
  have hFc := va_free (wc := []) hD hS hA [] rfl
  refine va_calli (va_runV (As := []) (rest := [.int 119]) ⟨hx, hb, hml, hown, hts⟩ (kj_cod l H.size aK aV) (cwV 0 hts g_kj_len_0 rfl rfl rfl (by decide +kernel) ⟨Nat.le_of_ble_eq_true rfl, Nat.le_of_ble_eq_true rfl⟩) ⟨fun a U g mk Z => ⟨Z.1, Z.2.1, exS.same (u := U) (U := U.calling g mk a) rfl rfl Z.2.2⟩, vk_recv hES.2.1 (i := 0) (by decide) hS, fun U hU hW => ⟨rfl, by rw [hU], exS.call hES hW hU hS hFc⟩⟩ rfl rfl hl.1 rfl (lv_room (Nat.le_of_ble_eq_true rfl)) dJ0_length_8abf5_6 ⟨Nat.le_of_ble_eq_true rfl, Nat.le_of_ble_eq_true rfl⟩) hS (fun b _ h => hFc b h) hFc (fun r u t H1 locs ht hvm hw hB hz1 hk1 hS => ?_)
  clear hFc hk1 hz1 hvm ht hB
  generalize H1 = H at hS ⊢
  subst hw
  refine lv_ishr hx hb dJ0_length_8abf5_9 ?_
  refine tp_i (y := 119) (by decide +kernel) ?_
  exact W.iret (v := 119) hx hb hr (fun t ht hW => ⟨⟨119, (), rfl, rfl, trivial⟩, hS.F ht⟩) hS.2.2 dJ0_length_8abf5_10
def ws_kj_lc : List Cond := .code yJ1_charAt_3b067 cJ1_charAt_3b067 2 (some .char) :: [.methodLink RJ1 9 yJ0_checkIndex_df160, .static yJ0_checkIndex_df160, .initialized RJ0, .code yJ0_checkIndex_df160 cJ0_checkIndex_df160 2 none, .fieldLink RJ0 1053 "jdk/internal/util/Preconditions" "SIOOBE_FORMATTER" "Ljava/util/function/BiFunction;", .methodLink RJ0 1059 yJ3_checkIndex_8e157, .static yJ3_checkIndex_8e157, .initialized RJ3, .code yJ3_checkIndex_8e157 cJ3_checkIndex_8e157 3 (some .int)]
set_option maxRecDepth 20000 in
theorem g_kj_lc_0 : GoodIn ws_kj_lc (va_wsS RJ1 9 yJ0_checkIndex_df160 ws_kj_c0) := goodIn_r _ [1, 2, 3, 4, 5, 6, 7, 8, 9] (by decide +kernel) (by decide +kernel)
set_option maxHeartbeats 4000000 in
set_option maxRecDepth 100000 in
theorem kj_lc (l : Launch) (sz : Nat) (aK aV : Nat) (x : Int32) (h0 : 0 ≤ x.toInt) (h1 : x.toInt < 119) : Met l yJ1_charAt_3b067 ws_kj_lc ({ frames := 2, cells := 0, slots := 0, locals := 43 }) (va_Pc [.ref aV, .int x] (fun U => U.heap.size = sz ∧ exS aK aV (va_A [] sz) U)) (va_Qi (fun (r : Int32) (_ : Unit) => narrow .char (.int r) = .int r ∧ r = oc x.toNatClampNeg) (fun _ _ => True) (va_A [] sz)) 0 0 (va_A [] sz) := by
  refine Met.ofW (cc := cJ1_charAt_3b067) (maxL := 2) (ret := (some .char)) (by decide +kernel) rfl ?_
  intro p e s m args below meth c s₁ B hml hv
  obtain ⟨rfl, hsz, hES⟩ := hv
  have hx := B.exec
  have hb := B.bytes
  have hr := B.returns
  have hts := atoms_spec (ws := ws_kj_lc) B.pre
  have hown : s.vm.findClass RJ1 = some m.cls := findClass_of_methodNamed B.named
  subst hsz
  generalize hAe : va_A [] s.heap.size = A at hES ⊢
  have hA : ∀ b : Nat, s.heap.size ≤ b → A b := fun b h => by rw [← hAe]; exact Or.inr h
  clear hAe
  have hD : va_D A [] := ⟨fun i j p q h => by simp at h, fun k q h => by simp at h⟩
  have hS : va_S A s.heap s.heap [] := va_S.rf
  have hl := lv_entry ([.ref aV, .int x]) (n := 2) (Nat.le_of_ble_eq_true rfl)
  rw [lg_entry_eq]
  generalize (lg_sl ([.ref aV, .int x]) ++ List.replicate (2 - (lg_sl ([.ref aV, .int x])).length) Slot.unset).toArray = ls at hl ⊢
  have hl : lv_has ls 2 [(0, .ref aV), (1, .int x)] := hl
  obtain ⟨H, hHe⟩ : ∃ H : Heap, H = s.heap := ⟨_, rfl⟩
  have hS : va_S A s.heap H [] := by rw [hHe]; exact hS
  rw [← hHe]
  have z1 : (119 : Int32).toInt = 119 := by decide +kernel
  refine lv_iload_n hx hb dJ1_charAt_3b067_0 rfl (lv_at hl 1 rfl) ?_
  refine lv_aload_n hx hb dJ1_charAt_3b067_1 rfl (lv_at hl 0 rfl) ?_
  refine va_tlen (v := 119) hx hb (hES.2.1.1 0 (by decide)).2.2.2 hS (by decide +kernel) dJ1_charAt_3b067_2 ?_
  have hFc := va_free (wc := []) hD hS hA [] rfl
  refine va_callv (va_runS (As := [.int x, .int 119]) (rest := []) ⟨hx, hb, hml, hown, hts⟩ (kj_c0 l H.size aK aV x 119 h0 (by omega)) (va_cwS 2 hts g_kj_lc_0 rfl rfl rfl (by decide +kernel) ⟨Nat.le_of_ble_eq_true rfl, Nat.le_of_ble_eq_true rfl⟩) ⟨fun a U g mk Z => ⟨Z.1, Z.2.1, exS.same (u := U) (U := U.calling g mk a) rfl rfl Z.2.2⟩, fun U hU hW => ⟨rfl, congrArg Array.size hU, exS.call hES hW hU hS hFc⟩⟩ rfl rfl hl.1 rfl (lv_room (Nat.le_of_ble_eq_true rfl)) dJ1_charAt_3b067_3 ⟨Nat.le_of_ble_eq_true rfl, Nat.le_of_ble_eq_true rfl⟩) hS (fun b _ h => hFc b h) hFc (fun u t H1 locs ht hvm hw hB hz1 hk1 hS => ?_)
  clear hFc hk1 hz1 hvm ht hB
  generalize H1 = H at hS ⊢
  refine lv_aload_n hx hb dJ1_charAt_3b067_6 rfl (lv_at hl 0 rfl) ?_
  refine lv_iload_n hx hb dJ1_charAt_3b067_7 rfl (lv_at hl 1 rfl) ?_
  refine va_tb hx hb (hES.2.1.1 0 (by decide)).2.2.2 hS (vp_in_iff.mpr ⟨h0, h1⟩) rfl dJ1_charAt_3b067_8 ?_
  refine lv_sipush (v := 255) hx hb dJ1_charAt_3b067_9 (by decide +kernel) ?_
  refine lv_iand hx hb dJ1_charAt_3b067_12 ?_
  refine lv_i2c hx hb dJ1_charAt_3b067_13 rfl ?_
  exact W.zret hx hb hr (pk_nc _) (fun t ht hW => ⟨⟨_, (), rfl, ⟨pk_nc _, rfl⟩, trivial⟩, hS.F ht⟩) hS.2.2 dJ1_charAt_3b067_14
def ws_kj_at : List Cond := .code yJ0_charAt_5068e cJ0_charAt_5068e 2 (some .char) :: [.fieldLink RJ0 9 "java/lang/String" "value" "[B", .methodLink RJ0 492 yJ0_isLatin1_aae02, .instanceMethod yJ0_isLatin1_aae02, .selects RJ0 yJ0_isLatin1_aae02 yJ0_isLatin1_aae02, .initialized RJ0, .code yJ0_isLatin1_aae02 cJ0_isLatin1_aae02 1 (some .boolean), .fieldLink RJ0 38 "java/lang/String" "COMPACT_STRINGS" "Z", .fieldLink RJ0 15 "java/lang/String" "coder" "B", .methodLink RJ0 495 yJ1_charAt_3b067, .static yJ1_charAt_3b067, .initialized RJ1, .code yJ1_charAt_3b067 cJ1_charAt_3b067 2 (some .char), .methodLink RJ1 9 yJ0_checkIndex_df160, .static yJ0_checkIndex_df160, .code yJ0_checkIndex_df160 cJ0_checkIndex_df160 2 none, .fieldLink RJ0 1053 "jdk/internal/util/Preconditions" "SIOOBE_FORMATTER" "Ljava/util/function/BiFunction;", .methodLink RJ0 1059 yJ3_checkIndex_8e157, .static yJ3_checkIndex_8e157, .initialized RJ3, .code yJ3_checkIndex_8e157 cJ3_checkIndex_8e157 3 (some .int)]
set_option maxRecDepth 20000 in
theorem g_kj_at_0 : GoodIn ws_kj_at (wsV RJ0 492 RJ0 yJ0_isLatin1_aae02 ws_kj_lat) := goodIn_r _ [2, 3, 4, 5, 6, 7, 8] (by decide +kernel) (by decide +kernel)
set_option maxRecDepth 20000 in
theorem g_kj_at_1 : GoodIn ws_kj_at (va_wsS RJ0 495 yJ1_charAt_3b067 ws_kj_lc) := goodIn_r _ [9, 10, 11, 12, 13, 14, 5, 15, 16, 17, 18, 19, 20] (by decide +kernel) (by decide +kernel)
set_option maxHeartbeats 4000000 in
set_option maxRecDepth 100000 in
theorem kj_at (l : Launch) (sz : Nat) (aK aV : Nat) (x : Int32) (h0 : 0 ≤ x.toInt) (h1 : x.toInt < 119) : Met l yJ0_charAt_5068e ws_kj_at ({ frames := 3, cells := 0, slots := 0, locals := 64 }) (va_Pc [.ref aK, .int x] (fun U => U.heap.size = sz ∧ exS aK aV (va_A [] sz) U)) (va_Qi (fun (r : Int32) (_ : Unit) => narrow .char (.int r) = .int r ∧ r = oc x.toNatClampNeg) (fun _ _ => True) (va_A [] sz)) 0 0 (va_A [] sz) := by
  refine Met.ofW (cc := cJ0_charAt_5068e) (maxL := 2) (ret := (some .char)) (by decide +kernel) rfl ?_
  intro p e s m args below meth c s₁ B hml hv
  obtain ⟨rfl, hsz, hES⟩ := hv
  have hx := B.exec
  have hb := B.bytes
  have hr := B.returns
  have hts := atoms_spec (ws := ws_kj_at) B.pre
  have hown : s.vm.findClass RJ0 = some m.cls := findClass_of_methodNamed B.named
  subst hsz
  generalize hAe : va_A [] s.heap.size = A at hES ⊢
  have hA : ∀ b : Nat, s.heap.size ≤ b → A b := fun b h => by rw [← hAe]; exact Or.inr h
  clear hAe
  have hD : va_D A [] := ⟨fun i j p q h => by simp at h, fun k q h => by simp at h⟩
  have hS : va_S A s.heap s.heap [] := va_S.rf
  have hl := lv_entry ([.ref aK, .int x]) (n := 2) (Nat.le_of_ble_eq_true rfl)
  rw [lg_entry_eq]
  generalize (lg_sl ([.ref aK, .int x]) ++ List.replicate (2 - (lg_sl ([.ref aK, .int x])).length) Slot.unset).toArray = ls at hl ⊢
  have hl : lv_has ls 2 [(0, .ref aK), (1, .int x)] := hl
  obtain ⟨H, hHe⟩ : ∃ H : Heap, H = s.heap := ⟨_, rfl⟩
  have hS : va_S A s.heap H [] := by rw [hHe]; exact hS
  rw [← hHe]
  refine lv_aload_n hx hb dJ0_charAt_5068e_0 rfl (lv_at hl 0 rfl) ?_
  have hFc := va_free (wc := []) hD hS hA [] rfl
  refine va_calli (va_runV (As := []) (rest := []) ⟨hx, hb, hml, hown, hts⟩ (kj_lat l H.size aK aV) (cwV 0 hts g_kj_at_0 rfl rfl rfl (by decide +kernel) ⟨Nat.le_of_ble_eq_true rfl, Nat.le_of_ble_eq_true rfl⟩) ⟨fun a U g mk Z => ⟨Z.1, Z.2.1, exS.same (u := U) (U := U.calling g mk a) rfl rfl Z.2.2⟩, vk_recv hES.2.1 (i := 0) (by decide) hS, fun U hU hW => ⟨rfl, by rw [hU], exS.call hES hW hU hS hFc⟩⟩ rfl rfl hl.1 rfl (lv_room (Nat.le_of_ble_eq_true rfl)) dJ0_charAt_5068e_1 ⟨Nat.le_of_ble_eq_true rfl, Nat.le_of_ble_eq_true rfl⟩) hS (fun b _ h => hFc b h) hFc (fun r u t H1 locs ht hvm hw hB hz1 hk1 hS => ?_)
  clear hFc hk1 hz1 hvm ht hB
  generalize H1 = H at hS ⊢
  subst hw
  refine lv_if_eq (tgt := 16) hx hb dJ0_charAt_5068e_4 (by decide) (fun q => absurd q (by decide +kernel)) (fun _ => ?_)
  refine lv_aload_n hx hb dJ0_charAt_5068e_7 rfl (lv_at hl 0 rfl) ?_
  refine vk_getf hx hb (hES.2.1.1 0 (by decide)).2.2.1 hS hown (hts _ (List.mem_of_getElem? (i := 1) rfl)) (fun _ h => h) dJ0_charAt_5068e_8 ?_
  refine lv_iload_n hx hb dJ0_charAt_5068e_11 rfl (lv_at hl 1 rfl) ?_
  have hFc := va_free (wc := []) hD hS hA [] rfl
  refine va_calli (va_runS (As := [.ref aV, .int x]) (rest := []) ⟨hx, hb, hml, hown, hts⟩ (kj_lc l H.size aK aV x h0 h1) (va_cwS 2 hts g_kj_at_1 rfl rfl rfl (by decide +kernel) ⟨Nat.le_of_ble_eq_true rfl, Nat.le_of_ble_eq_true rfl⟩) ⟨fun a U g mk Z => ⟨Z.1, Z.2.1, exS.same (u := U) (U := U.calling g mk a) rfl rfl Z.2.2⟩, fun U hU hW => ⟨rfl, congrArg Array.size hU, exS.call hES hW hU hS hFc⟩⟩ rfl rfl hl.1 rfl (lv_room (Nat.le_of_ble_eq_true rfl)) dJ0_charAt_5068e_12 ⟨Nat.le_of_ble_eq_true rfl, Nat.le_of_ble_eq_true rfl⟩) hS (fun b _ h => hFc b h) hFc (fun r u t H1 locs ht hvm hw hB hz1 hk1 hS => ?_)
  clear hFc hk1 hz1 hvm ht hB
  generalize H1 = H at hS ⊢
  exact W.zret (v := r) hx hb hr hw.1 (fun t ht hW => ⟨⟨r, (), rfl, hw, trivial⟩, hS.F ht⟩) hS.2.2 dJ0_charAt_5068e_15
