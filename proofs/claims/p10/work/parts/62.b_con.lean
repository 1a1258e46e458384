abbrev tr_r_X12_isSign (x1 : Int) (A : St) (z : Int) : Prop := (((¬ (A 0 3) = 3) ∧ (z = 0)) ∨ (((A 0 3) = 3) ∧ (((¬ (A 0 6) = x1) ∧ (z = 0)) ∨ (((A 0 6) = x1) ∧ (z = 1)))))
def r_X12_isSign (x1 : Int) (A : St) (z : Int) : Prop := tr_r_X12_isSign x1 A z
theorem u_r_X12_isSign {x1 : Int} {A : St} {z : Int} (h : tr_r_X12_isSign x1 A z) : r_X12_isSign x1 A z := h
def q_X12_isSign (x1 : Int) (A : St) (z : Int) : Prop := r_X12_isSign x1 A z ∧ ((0 ≤ z ∧ z ≤ 1) ∧ (z = 1 ↔ A 0 3 = 3 ∧ A 0 6 = x1))
def ws_mb_X12_isSign : List Cond := .code yX12_isSign cX12_isSign 2 (some .boolean) :: WX
set_option maxHeartbeats 4000000 in
set_option maxRecDepth 100000 in
theorem mb_X12_isSign (l : Launch) (dC : Nat → ClassId) (dI : Nat → Nat → Nat) (cB cI cJ cZ cQ : ClassId) (q : Nat → Nat) (A : St) (x1 : Int) (hI : IM A) (hx1 : (-2147483648 : Int) ≤ x1 ∧ x1 ≤ 2147483647) : XMi l yX12_isSign ws_mb_X12_isSign ({ frames := 0, cells := 0, slots := 0, locals := 0 } : Room) (dC, dI) (tyA cB cI cJ cZ cQ) (WM cI cJ cZ q) A [.ref (q 0), .int (iI x1)] (fun z u => A = u ∧ r_X12_isSign x1 A z ∧ ((0 ≤ z ∧ z ≤ 1) ∧ (z = 1 ↔ A 0 3 = 3 ∧ A 0 6 = x1))) := by
  refine x_metz (cc := cX12_isSign) (maxL := 2) WM_adr (by decide +kernel) rfl (Nat.le_of_ble_eq_true rfl) (fun z u h => h.2.2.1) (fun p e s m below meth c Q AS ls hx hb hml hown hts hK hDD hA0 hP hS hl RET => ?_)
  have hown : s.vm.findClass RX12 = some m.cls := hown
  have hl : lv_has ls 2 [(0, .ref (q 0)), (1, .int (iI x1))] := hl
  have hiX12 : ∀ w ∈ u_ws RX12 TX12 85, w ∈ ws_mb_X12_isSign := fun w h => List.mem_cons_of_mem _ (wx_lay w h)
  obtain ⟨H, hHe⟩ : ∃ H : Heap, H = s.heap := ⟨_, rfl⟩
  rw [← hHe] at hP
  have hS : va_S AS s.heap H [] := by rw [hHe]; exact hS
  suffices hgo : ∀ locs : List Loc, va_S AS s.heap H locs → W p l e (headSpec ws_mb_X12_isSign ({ frames := 0, cells := 0, slots := 0, locals := 0 } : Room)).room s m [.ref (q 0), .int (iI x1)].toArray below meth c H locs 0 0 Q (F0 m 0 ls []) by
    have := hgo [] hS
    rw [hHe] at this
    exact this
  clear hS hHe
  intro locs hS
  refine lv_aload_n hx hb (dk_at dkX12_isSign_0 0 rfl) rfl (lv_at hl 0 rfl) ?_
  refine va_get (D := (dC, dI)) (ci := 12) (v := .int (iI (A 0 3))) (C := RX12) (T := TX12) (N := 85) hx hb hts hiX12 hown hK hP 0 wm0 rfl 3 (by decide) (hts _ (List.mem_cons_of_mem _ (wl_in_0 _ (List.mem_of_getElem? (i := 24) rfl)))) (fun _ h9 => h9) rfl (dk_at dkX12_isSign_0 1 rfl) ?_
  have r_A_0_3 : (0 : Int) ≤ (A 0 3) ∧ (A 0 3) ≤ 3 := hI 0 3
  refine lv_iconst (v := iI 3) hx hb (dk_at dkX12_isSign_0 2 rfl) (by decide +kernel) ?_
  refine lv_icmp_ne (tgt := 20) hx hb (dk_at dkX12_isSign_0 3 rfl) (by decide) (fun c1 => ?_) (fun c1 => ?_)
  · have c1 : ¬ (A 0 3) = 3 := mt (i_eq (rb r_A_0_3 (by decide) (by decide)) ⟨by decide, by decide⟩).mpr c1
    refine lv_iconst (v := iI 0) hx hb (dk_at dkX12_isSign_0 10 rfl) (by decide +kernel) ?_
    exact RET 0 _ _ _ _ _ ⟨rfl, (u_r_X12_isSign (Or.inl ⟨c1, rfl⟩)), by omega⟩ hP hS (dk_at dkX12_isSign_0 11 rfl)
  · have c1 : (A 0 3) = 3 := (i_eq (rb r_A_0_3 (by decide) (by decide)) ⟨by decide, by decide⟩).mp c1
    refine lv_aload_n hx hb (dk_at dkX12_isSign_0 4 rfl) rfl (lv_at hl 0 rfl) ?_
    refine va_get (D := (dC, dI)) (ci := 12) (v := .int (iI (A 0 6))) (C := RX12) (T := TX12) (N := 85) hx hb hts hiX12 hown hK hP 0 wm0 rfl 6 (by decide) (hts _ (List.mem_cons_of_mem _ (wl_in_0 _ (List.mem_of_getElem? (i := 25) rfl)))) (fun _ h9 => h9) rfl (dk_at dkX12_isSign_0 5 rfl) ?_
    have r_A_0_6 : (-2147483648 : Int) ≤ (A 0 6) ∧ (A 0 6) ≤ 2147483647 := hI 0 6
    refine lv_iload_n hx hb (dk_at dkX12_isSign_0 6 rfl) rfl (lv_at hl 1 rfl) ?_
    refine lv_icmp_ne (tgt := 20) hx hb (dk_at dkX12_isSign_0 7 rfl) (by decide) (fun c2 => ?_) (fun c2 => ?_)
    · have c2 : ¬ (A 0 6) = x1 := mt (i_eq r_A_0_6 hx1).mpr c2
      refine lv_iconst (v := iI 0) hx hb (dk_at dkX12_isSign_0 10 rfl) (by decide +kernel) ?_
      exact RET 0 _ _ _ _ _ ⟨rfl, (u_r_X12_isSign (Or.inr ⟨c1, (Or.inl ⟨c2, rfl⟩)⟩)), by omega⟩ hP hS (dk_at dkX12_isSign_0 11 rfl)
    · have c2 : (A 0 6) = x1 := (i_eq r_A_0_6 hx1).mp c2
      refine lv_iconst (v := iI 1) hx hb (dk_at dkX12_isSign_0 8 rfl) (by decide +kernel) ?_
      refine lv_goto (tgt := 21) hx hb (dk_at dkX12_isSign_0 9 rfl) (by decide) ?_
      exact RET 1 _ _ _ _ _ ⟨rfl, (u_r_X12_isSign (Or.inr ⟨c1, (Or.inr ⟨c2, rfl⟩)⟩)), by omega⟩ hP hS (dk_at dkX12_isSign_0 11 rfl)

abbrev tr_r_X12_isWord (x1 : Int) (A : St) (z : Int) : Prop := (((¬ (A 0 3) = 1) ∧ (z = 0)) ∨ (((A 0 3) = 1) ∧ (∃ z2 : Int, ((-1 ≤ z2 ∧ z2 ≤ 1) ∧ (z2 = 0 ↔ (A 0 7) = x1) ∧ (z2 < 0 ↔ (A 0 7) < x1)) ∧ (((¬ z2 = 0) ∧ (z = 0)) ∨ ((z2 = 0) ∧ (z = 1))))))
def r_X12_isWord (x1 : Int) (A : St) (z : Int) : Prop := tr_r_X12_isWord x1 A z
theorem u_r_X12_isWord {x1 : Int} {A : St} {z : Int} (h : tr_r_X12_isWord x1 A z) : r_X12_isWord x1 A z := h
def q_X12_isWord (x1 : Int) (A : St) (z : Int) : Prop := r_X12_isWord x1 A z ∧ ((0 ≤ z ∧ z ≤ 1) ∧ (z = 1 ↔ A 0 3 = 1 ∧ A 0 7 = x1))
def ws_mb_X12_isWord : List Cond := .code yX12_isWord cX12_isWord 3 (some .boolean) :: WX
set_option maxHeartbeats 4000000 in
set_option maxRecDepth 100000 in
theorem mb_X12_isWord (l : Launch) (dC : Nat → ClassId) (dI : Nat → Nat → Nat) (cB cI cJ cZ cQ : ClassId) (q : Nat → Nat) (A : St) (x1 : Int) (hI : IM A) (hx1 : (-9223372036854775808 : Int) ≤ x1 ∧ x1 ≤ 9223372036854775807) : XMi l yX12_isWord ws_mb_X12_isWord ({ frames := 0, cells := 0, slots := 0, locals := 0 } : Room) (dC, dI) (tyA cB cI cJ cZ cQ) (WM cI cJ cZ q) A [.ref (q 0), .long (jI x1)] (fun z u => A = u ∧ r_X12_isWord x1 A z ∧ ((0 ≤ z ∧ z ≤ 1) ∧ (z = 1 ↔ A 0 3 = 1 ∧ A 0 7 = x1))) := by
  refine x_metz (cc := cX12_isWord) (maxL := 3) WM_adr (by decide +kernel) rfl (Nat.le_of_ble_eq_true rfl) (fun z u h => h.2.2.1) (fun p e s m below meth c Q AS ls hx hb hml hown hts hK hDD hA0 hP hS hl RET => ?_)
  have hown : s.vm.findClass RX12 = some m.cls := hown
  have hl : lv_has ls 3 [(0, .ref (q 0)), (1, .long (jI x1))] := hl
  have hiX12 : ∀ w ∈ u_ws RX12 TX12 85, w ∈ ws_mb_X12_isWord := fun w h => List.mem_cons_of_mem _ (wx_lay w h)
  obtain ⟨H, hHe⟩ : ∃ H : Heap, H = s.heap := ⟨_, rfl⟩
  rw [← hHe] at hP
  have hS : va_S AS s.heap H [] := by rw [hHe]; exact hS
  suffices hgo : ∀ locs : List Loc, va_S AS s.heap H locs → W p l e (headSpec ws_mb_X12_isWord ({ frames := 0, cells := 0, slots := 0, locals := 0 } : Room)).room s m [.ref (q 0), .long (jI x1)].toArray below meth c H locs 0 0 Q (F0 m 0 ls []) by
    have := hgo [] hS
    rw [hHe] at this
    exact this
  clear hS hHe
  intro locs hS
  refine lv_aload_n hx hb (dk_at dkX12_isWord_0 0 rfl) rfl (lv_at hl 0 rfl) ?_
  refine va_get (D := (dC, dI)) (ci := 12) (v := .int (iI (A 0 3))) (C := RX12) (T := TX12) (N := 85) hx hb hts hiX12 hown hK hP 0 wm0 rfl 3 (by decide) (hts _ (List.mem_cons_of_mem _ (wl_in_0 _ (List.mem_of_getElem? (i := 24) rfl)))) (fun _ h9 => h9) rfl (dk_at dkX12_isWord_0 1 rfl) ?_
  have r_A_0_3 : (0 : Int) ≤ (A 0 3) ∧ (A 0 3) ≤ 3 := hI 0 3
  refine lv_iconst (v := iI 1) hx hb (dk_at dkX12_isWord_0 2 rfl) (by decide +kernel) ?_
  refine lv_icmp_ne (tgt := 21) hx hb (dk_at dkX12_isWord_0 3 rfl) (by decide) (fun c1 => ?_) (fun c1 => ?_)
  · have c1 : ¬ (A 0 3) = 1 := mt (i_eq (rb r_A_0_3 (by decide) (by decide)) ⟨by decide, by decide⟩).mpr c1
    refine lv_iconst (v := iI 0) hx hb (dk_at dkX12_isWord_0 11 rfl) (by decide +kernel) ?_
    exact RET 0 _ _ _ _ _ ⟨rfl, (u_r_X12_isWord (Or.inl ⟨c1, rfl⟩)), by omega⟩ hP hS (dk_at dkX12_isWord_0 12 rfl)
  · have c1 : (A 0 3) = 1 := (i_eq (rb r_A_0_3 (by decide) (by decide)) ⟨by decide, by decide⟩).mp c1
    refine lv_aload_n hx hb (dk_at dkX12_isWord_0 4 rfl) rfl (lv_at hl 0 rfl) ?_
    refine va_get (D := (dC, dI)) (ci := 12) (v := .long (jI (A 0 7))) (C := RX12) (T := TX12) (N := 85) hx hb hts hiX12 hown hK hP 0 wm0 rfl 7 (by decide) (hts _ (List.mem_cons_of_mem _ (wl_in_0 _ (List.mem_of_getElem? (i := 26) rfl)))) (fun _ h9 => h9) rfl (dk_at dkX12_isWord_0 5 rfl) ?_
    have r_A_0_7 : (-9223372036854775808 : Int) ≤ (A 0 7) ∧ (A 0 7) ≤ 9223372036854775807 := hI 0 7
    refine lv_lload_n hx hb (dk_at dkX12_isWord_0 6 rfl) rfl (lv_at hl 1 rfl) ?_
    refine x_lcmp hx hb (dk_at dkX12_isWord_0 7 rfl) (by omega) (by omega) (fun z2 hz2 hz2b hz2c => ?_)
    have gz2 := Hd.mk (And.intro hz2 (And.intro hz2b hz2c))
    refine lv_if_ne (tgt := 21) hx hb (dk_at dkX12_isWord_0 8 rfl) (by decide) (fun c3 => ?_) (fun c3 => ?_)
    · have c3 : ¬ z2 = 0 := mt (i_eq0 (by omega)).mpr c3
      refine lv_iconst (v := iI 0) hx hb (dk_at dkX12_isWord_0 11 rfl) (by decide +kernel) ?_
      exact RET 0 _ _ _ _ _ ⟨rfl, (u_r_X12_isWord (Or.inr ⟨c1, ⟨z2, gz2.out, (Or.inl ⟨c3, rfl⟩)⟩⟩)), by omega⟩ hP hS (dk_at dkX12_isWord_0 12 rfl)
    · have c3 : z2 = 0 := (i_eq0 (by omega)).mp c3
      refine lv_iconst (v := iI 1) hx hb (dk_at dkX12_isWord_0 9 rfl) (by decide +kernel) ?_
      refine lv_goto (tgt := 22) hx hb (dk_at dkX12_isWord_0 10 rfl) (by decide) ?_
      exact RET 1 _ _ _ _ _ ⟨rfl, (u_r_X12_isWord (Or.inr ⟨c1, ⟨z2, gz2.out, (Or.inr ⟨c3, rfl⟩)⟩⟩)), by omega⟩ hP hS (dk_at dkX12_isWord_0 12 rfl)

abbrev tr_r_X12_isOwn (x1 : Int) (A : St) (z : Int) : Prop := True
def r_X12_isOwn (x1 : Int) (A : St) (z : Int) : Prop := tr_r_X12_isOwn x1 A z
theorem u_r_X12_isOwn {x1 : Int} {A : St} {z : Int} (h : tr_r_X12_isOwn x1 A z) : r_X12_isOwn x1 A z := h
def q_X12_isOwn (x1 : Int) (A : St) (z : Int) : Prop := r_X12_isOwn x1 A z ∧ ((0 ≤ z ∧ z ≤ 1) ∧ (z = ownz x1))
def ws_mb_X12_isOwn : List Cond := .code yX12_isOwn cX12_isOwn 3 (some .boolean) :: WX
set_option maxHeartbeats 4000000 in
set_option maxRecDepth 100000 in
theorem mb_X12_isOwn (l : Launch) (dC : Nat → ClassId) (dI : Nat → Nat → Nat) (cB cI cJ cZ cQ : ClassId) (q : Nat → Nat) (A : St) (x1 : Int) (hI : IM A) (hx1 : (-9223372036854775808 : Int) ≤ x1 ∧ x1 ≤ 9223372036854775807) : XMi l yX12_isOwn ws_mb_X12_isOwn ({ frames := 0, cells := 0, slots := 0, locals := 0 } : Room) (dC, dI) (tyA cB cI cJ cZ cQ) (WM cI cJ cZ q) A [.ref (q 0), .long (jI x1)] (fun z u => A = u ∧ r_X12_isOwn x1 A z ∧ ((0 ≤ z ∧ z ≤ 1) ∧ (z = ownz x1))) := by
  refine x_metz (cc := cX12_isOwn) (maxL := 3) WM_adr (by decide +kernel) rfl (Nat.le_of_ble_eq_true rfl) (fun z u h => h.2.2.1) (fun p e s m below meth c Q AS ls hx hb hml hown hts hK hDD hA0 hP hS hl RET => ?_)
  have hown : s.vm.findClass RX12 = some m.cls := hown
  have hl : lv_has ls 3 [(0, .ref (q 0)), (1, .long (jI x1))] := hl
  obtain ⟨H, hHe⟩ : ∃ H : Heap, H = s.heap := ⟨_, rfl⟩
  rw [← hHe] at hP
  have hS : va_S AS s.heap H [] := by rw [hHe]; exact hS
  suffices hgo : ∀ locs : List Loc, va_S AS s.heap H locs → W p l e (headSpec ws_mb_X12_isOwn ({ frames := 0, cells := 0, slots := 0, locals := 0 } : Room)).room s m [.ref (q 0), .long (jI x1)].toArray below meth c H locs 0 0 Q (F0 m 0 ls []) by
    have := hgo [] hS
    rw [hHe] at this
    exact this
  clear hS hHe
  intro locs hS
  refine lv_lload_n hx hb (dk_at dkX12_isOwn_0 0 rfl) rfl (lv_at hl 1 rfl) ?_
  refine lv_ldc2 (v := 482854658917) hx hb hown (hts _ (List.mem_cons_of_mem _ (wl_in_0 _ (List.mem_of_getElem? (i := 44) rfl)))) (dk_at dkX12_isOwn_0 1 rfl) ?_
  refine tp_l (y := jI 482854658917) (by decide +kernel) ?_
  refine x_lcmp hx hb (dk_at dkX12_isOwn_0 2 rfl) (by omega) (by omega) (fun z1 hz1 hz1b hz1c => ?_)
  have gz1 := Hd.mk (And.intro hz1 (And.intro hz1b hz1c))
  refine lv_if_eq (tgt := 40) hx hb (dk_at dkX12_isOwn_0 3 rfl) (by decide) (fun c2 => ?_) (fun c2 => ?_)
  · have c2 : z1 = 0 := (i_eq0 (by omega)).mp c2
    refine lv_iconst (v := iI 1) hx hb (dk_at dkX12_isOwn_1 4 rfl) (by decide +kernel) ?_
    exact RET 1 _ _ _ _ _ ⟨rfl, (u_r_X12_isOwn trivial), ⟨by decide, by unfold ownz; rw [if_pos (by exact Or.inl (hz1b.mp c2))]⟩⟩ hP hS (dk_at dkX12_isOwn_1 5 rfl)
  · have c2 : ¬ z1 = 0 := mt (i_eq0 (by omega)).mpr c2
    have n1 : Hd (¬ x1 = 482854658917) := Hd.mk (fun h9 => c2 (hz1b.mpr h9))
    clear hz1 hz1b hz1c gz1 c2
    refine lv_lload_n hx hb (dk_at dkX12_isOwn_0 4 rfl) rfl (lv_at hl 1 rfl) ?_
    refine lv_ldc2 (v := 1685024626) hx hb hown (hts _ (List.mem_cons_of_mem _ (wl_in_0 _ (List.mem_of_getElem? (i := 45) rfl)))) (dk_at dkX12_isOwn_0 5 rfl) ?_
    refine tp_l (y := jI 1685024626) (by decide +kernel) ?_
    refine x_lcmp hx hb (dk_at dkX12_isOwn_0 6 rfl) (by omega) (by omega) (fun z3 hz3 hz3b hz3c => ?_)
    have gz3 := Hd.mk (And.intro hz3 (And.intro hz3b hz3c))
    refine lv_if_eq (tgt := 40) hx hb (dk_at dkX12_isOwn_0 7 rfl) (by decide) (fun c4 => ?_) (fun c4 => ?_)
    · have c4 : z3 = 0 := (i_eq0 (by omega)).mp c4
      refine lv_iconst (v := iI 1) hx hb (dk_at dkX12_isOwn_1 4 rfl) (by decide +kernel) ?_
      exact RET 1 _ _ _ _ _ ⟨rfl, (u_r_X12_isOwn trivial), ⟨by decide, by unfold ownz; rw [if_pos (by exact Or.inr (Or.inl (hz3b.mp c4)))]⟩⟩ hP hS (dk_at dkX12_isOwn_1 5 rfl)
    · have c4 : ¬ z3 = 0 := mt (i_eq0 (by omega)).mpr c4
      have n3 : Hd (¬ x1 = 1685024626) := Hd.mk (fun h9 => c4 (hz3b.mpr h9))
      clear hz3 hz3b hz3c gz3 c4
      refine lv_lload_n hx hb (dk_at dkX12_isOwn_0 8 rfl) rfl (lv_at hl 1 rfl) ?_
      refine lv_ldc2 (v := 6451064) hx hb hown (hts _ (List.mem_cons_of_mem _ (wl_in_0 _ (List.mem_of_getElem? (i := 46) rfl)))) (dk_at dkX12_isOwn_0 9 rfl) ?_
      refine tp_l (y := jI 6451064) (by decide +kernel) ?_
      refine x_lcmp hx hb (dk_at dkX12_isOwn_0 10 rfl) (by omega) (by omega) (fun z5 hz5 hz5b hz5c => ?_)
      have gz5 := Hd.mk (And.intro hz5 (And.intro hz5b hz5c))
      refine lv_if_eq (tgt := 40) hx hb (dk_at dkX12_isOwn_0 11 rfl) (by decide) (fun c6 => ?_) (fun c6 => ?_)
      · have c6 : z5 = 0 := (i_eq0 (by omega)).mp c6
        refine lv_iconst (v := iI 1) hx hb (dk_at dkX12_isOwn_1 4 rfl) (by decide +kernel) ?_
        exact RET 1 _ _ _ _ _ ⟨rfl, (u_r_X12_isOwn trivial), ⟨by decide, by unfold ownz; rw [if_pos (by exact Or.inr (Or.inr (Or.inl (hz5b.mp c6))))]⟩⟩ hP hS (dk_at dkX12_isOwn_1 5 rfl)
      · have c6 : ¬ z5 = 0 := mt (i_eq0 (by omega)).mpr c6
        have n5 : Hd (¬ x1 = 6451064) := Hd.mk (fun h9 => c6 (hz5b.mpr h9))
        clear hz5 hz5b hz5c gz5 c6
        refine lv_lload_n hx hb (dk_at dkX12_isOwn_0 12 rfl) rfl (lv_at hl 1 rfl) ?_
        refine lv_ldc2 (v := 24948) hx hb hown (hts _ (List.mem_cons_of_mem _ (wl_in_0 _ (List.mem_of_getElem? (i := 47) rfl)))) (dk_at dkX12_isOwn_0 13 rfl) ?_
        refine tp_l (y := jI 24948) (by decide +kernel) ?_
        refine x_lcmp hx hb (dk_at dkX12_isOwn_0 14 rfl) (by omega) (by omega) (fun z7 hz7 hz7b hz7c => ?_)
        have gz7 := Hd.mk (And.intro hz7 (And.intro hz7b hz7c))
        refine lv_if_eq (tgt := 40) hx hb (dk_at dkX12_isOwn_0 15 rfl) (by decide) (fun c8 => ?_) (fun c8 => ?_)
        · have c8 : z7 = 0 := (i_eq0 (by omega)).mp c8
          refine lv_iconst (v := iI 1) hx hb (dk_at dkX12_isOwn_1 4 rfl) (by decide +kernel) ?_
          exact RET 1 _ _ _ _ _ ⟨rfl, (u_r_X12_isOwn trivial), ⟨by decide, by unfold ownz; rw [if_pos (by exact Or.inr (Or.inr (Or.inr (Or.inl (hz7b.mp c8)))))]⟩⟩ hP hS (dk_at dkX12_isOwn_1 5 rfl)
        · have c8 : ¬ z7 = 0 := mt (i_eq0 (by omega)).mpr c8
          have n7 : Hd (¬ x1 = 24948) := Hd.mk (fun h9 => c8 (hz7b.mpr h9))
          clear hz7 hz7b hz7c gz7 c8
          refine lv_lload_n hx hb (dk_at dkX12_isOwn_1 0 rfl) rfl (lv_at hl 1 rfl) ?_
          refine lv_ldc2 (v := 7038329) hx hb hown (hts _ (List.mem_cons_of_mem _ (wl_in_0 _ (List.mem_of_getElem? (i := 48) rfl)))) (dk_at dkX12_isOwn_1 1 rfl) ?_
          refine tp_l (y := jI 7038329) (by decide +kernel) ?_
          refine x_lcmp hx hb (dk_at dkX12_isOwn_1 2 rfl) (by omega) (by omega) (fun z9 hz9 hz9b hz9c => ?_)
          have gz9 := Hd.mk (And.intro hz9 (And.intro hz9b hz9c))
          refine lv_if_ne (tgt := 42) hx hb (dk_at dkX12_isOwn_1 3 rfl) (by decide) (fun c10 => ?_) (fun c10 => ?_)
          · have c10 : ¬ z9 = 0 := mt (i_eq0 (by omega)).mpr c10
            have n9 : Hd (¬ x1 = 7038329) := Hd.mk (fun h9 => c10 (hz9b.mpr h9))
            clear hz9 hz9b hz9c gz9 c10
            refine lv_lload_n hx hb (dk_at dkX12_isOwn_1 6 rfl) rfl (lv_at hl 1 rfl) ?_
            refine lv_ldc2 (v := 26990) hx hb hown (hts _ (List.mem_cons_of_mem _ (wl_in_0 _ (List.mem_of_getElem? (i := 49) rfl)))) (dk_at dkX12_isOwn_1 7 rfl) ?_
            refine tp_l (y := jI 26990) (by decide +kernel) ?_
            refine x_lcmp hx hb (dk_at dkX12_isOwn_1 8 rfl) (by omega) (by omega) (fun z11 hz11 hz11b hz11c => ?_)
            have gz11 := Hd.mk (And.intro hz11 (And.intro hz11b hz11c))
            refine lv_if_eq (tgt := 82) hx hb (dk_at dkX12_isOwn_1 9 rfl) (by decide) (fun c12 => ?_) (fun c12 => ?_)
            · have c12 : z11 = 0 := (i_eq0 (by omega)).mp c12
              refine lv_iconst (v := iI 1) hx hb (dk_at dkX12_isOwn_2 10 rfl) (by decide +kernel) ?_
              exact RET 1 _ _ _ _ _ ⟨rfl, (u_r_X12_isOwn trivial), ⟨by decide, by unfold ownz; rw [if_pos (by exact Or.inr (Or.inr (Or.inr (Or.inr (Or.inr (Or.inl (hz11b.mp c12)))))))]⟩⟩ hP hS (dk_at dkX12_isOwn_2 11 rfl)
            · have c12 : ¬ z11 = 0 := mt (i_eq0 (by omega)).mpr c12
              have n11 : Hd (¬ x1 = 26990) := Hd.mk (fun h9 => c12 (hz11b.mpr h9))
              clear hz11 hz11b hz11c gz11 c12
              refine lv_lload_n hx hb (dk_at dkX12_isOwn_1 10 rfl) rfl (lv_at hl 1 rfl) ?_
              refine lv_ldc2 (v := 123581014175598) hx hb hown (hts _ (List.mem_cons_of_mem _ (wl_in_0 _ (List.mem_of_getElem? (i := 50) rfl)))) (dk_at dkX12_isOwn_1 11 rfl) ?_
              refine tp_l (y := jI 123581014175598) (by decide +kernel) ?_
              refine x_lcmp hx hb (dk_at dkX12_isOwn_1 12 rfl) (by omega) (by omega) (fun z13 hz13 hz13b hz13c => ?_)
              have gz13 := Hd.mk (And.intro hz13 (And.intro hz13b hz13c))
              refine lv_if_eq (tgt := 82) hx hb (dk_at dkX12_isOwn_1 13 rfl) (by decide) (fun c14 => ?_) (fun c14 => ?_)
              · have c14 : z13 = 0 := (i_eq0 (by omega)).mp c14
                refine lv_iconst (v := iI 1) hx hb (dk_at dkX12_isOwn_2 10 rfl) (by decide +kernel) ?_
                exact RET 1 _ _ _ _ _ ⟨rfl, (u_r_X12_isOwn trivial), ⟨by decide, by unfold ownz; rw [if_pos (by exact Or.inr (Or.inr (Or.inr (Or.inr (Or.inr (Or.inr (Or.inl (hz13b.mp c14))))))))]⟩⟩ hP hS (dk_at dkX12_isOwn_2 11 rfl)
              · have c14 : ¬ z13 = 0 := mt (i_eq0 (by omega)).mpr c14
                have n13 : Hd (¬ x1 = 123581014175598) := Hd.mk (fun h9 => c14 (hz13b.mpr h9))
                clear hz13 hz13b hz13c gz13 c14
                refine lv_lload_n hx hb (dk_at dkX12_isOwn_1 14 rfl) rfl (lv_at hl 1 rfl) ?_
                refine lv_ldc2 (v := 6840691) hx hb hown (hts _ (List.mem_cons_of_mem _ (wl_in_0 _ (List.mem_of_getElem? (i := 51) rfl)))) (dk_at dkX12_isOwn_1 15 rfl) ?_
                refine tp_l (y := jI 6840691) (by decide +kernel) ?_
                refine x_lcmp hx hb (dk_at dkX12_isOwn_2 0 rfl) (by omega) (by omega) (fun z15 hz15 hz15b hz15c => ?_)
                have gz15 := Hd.mk (And.intro hz15 (And.intro hz15b hz15c))
                refine lv_if_eq (tgt := 82) hx hb (dk_at dkX12_isOwn_2 1 rfl) (by decide) (fun c16 => ?_) (fun c16 => ?_)
                · have c16 : z15 = 0 := (i_eq0 (by omega)).mp c16
                  refine lv_iconst (v := iI 1) hx hb (dk_at dkX12_isOwn_2 10 rfl) (by decide +kernel) ?_
                  exact RET 1 _ _ _ _ _ ⟨rfl, (u_r_X12_isOwn trivial), ⟨by decide, by unfold ownz; rw [if_pos (by exact Or.inr (Or.inr (Or.inr (Or.inr (Or.inr (Or.inr (Or.inr (Or.inl (hz15b.mp c16)))))))))]⟩⟩ hP hS (dk_at dkX12_isOwn_2 11 rfl)
                · have c16 : ¬ z15 = 0 := mt (i_eq0 (by omega)).mpr c16
                  have n15 : Hd (¬ x1 = 6840691) := Hd.mk (fun h9 => c16 (hz15b.mpr h9))
                  clear hz15 hz15b hz15c gz15 c16
                  refine lv_lload_n hx hb (dk_at dkX12_isOwn_2 2 rfl) rfl (lv_at hl 1 rfl) ?_
                  refine lv_ldc2 (v := 1936225652) hx hb hown (hts _ (List.mem_cons_of_mem _ (wl_in_0 _ (List.mem_of_getElem? (i := 52) rfl)))) (dk_at dkX12_isOwn_2 3 rfl) ?_
                  refine tp_l (y := jI 1936225652) (by decide +kernel) ?_
                  refine x_lcmp hx hb (dk_at dkX12_isOwn_2 4 rfl) (by omega) (by omega) (fun z17 hz17 hz17b hz17c => ?_)
                  have gz17 := Hd.mk (And.intro hz17 (And.intro hz17b hz17c))
                  refine lv_if_eq (tgt := 82) hx hb (dk_at dkX12_isOwn_2 5 rfl) (by decide) (fun c18 => ?_) (fun c18 => ?_)
                  · have c18 : z17 = 0 := (i_eq0 (by omega)).mp c18
                    refine lv_iconst (v := iI 1) hx hb (dk_at dkX12_isOwn_2 10 rfl) (by decide +kernel) ?_
                    exact RET 1 _ _ _ _ _ ⟨rfl, (u_r_X12_isOwn trivial), ⟨by decide, by unfold ownz; rw [if_pos (by exact Or.inr (Or.inr (Or.inr (Or.inr (Or.inr (Or.inr (Or.inr (Or.inr (Or.inl (hz17b.mp c18))))))))))]⟩⟩ hP hS (dk_at dkX12_isOwn_2 11 rfl)
                  · have c18 : ¬ z17 = 0 := mt (i_eq0 (by omega)).mpr c18
                    have n17 : Hd (¬ x1 = 1936225652) := Hd.mk (fun h9 => c18 (hz17b.mpr h9))
                    clear hz17 hz17b hz17c gz17 c18
                    refine lv_lload_n hx hb (dk_at dkX12_isOwn_2 6 rfl) rfl (lv_at hl 1 rfl) ?_
                    refine lv_ldc2 (v := 25209) hx hb hown (hts _ (List.mem_cons_of_mem _ (wl_in_0 _ (List.mem_of_getElem? (i := 53) rfl)))) (dk_at dkX12_isOwn_2 7 rfl) ?_
                    refine tp_l (y := jI 25209) (by decide +kernel) ?_
                    refine x_lcmp hx hb (dk_at dkX12_isOwn_2 8 rfl) (by omega) (by omega) (fun z19 hz19 hz19b hz19c => ?_)
                    have gz19 := Hd.mk (And.intro hz19 (And.intro hz19b hz19c))
                    refine lv_if_ne (tgt := 84) hx hb (dk_at dkX12_isOwn_2 9 rfl) (by decide) (fun c20 => ?_) (fun c20 => ?_)
                    · have c20 : ¬ z19 = 0 := mt (i_eq0 (by omega)).mpr c20
                      have n19 : Hd (¬ x1 = 25209) := Hd.mk (fun h9 => c20 (hz19b.mpr h9))
                      clear hz19 hz19b hz19c gz19 c20
                      refine lv_lload_n hx hb (dk_at dkX12_isOwn_2 12 rfl) rfl (lv_at hl 1 rfl) ?_
                      refine lv_ldc2 (v := 1819243380) hx hb hown (hts _ (List.mem_cons_of_mem _ (wl_in_0 _ (List.mem_of_getElem? (i := 54) rfl)))) (dk_at dkX12_isOwn_2 13 rfl) ?_
                      refine tp_l (y := jI 1819243380) (by decide +kernel) ?_
                      refine x_lcmp hx hb (dk_at dkX12_isOwn_2 14 rfl) (by omega) (by omega) (fun z21 hz21 hz21b hz21c => ?_)
                      have gz21 := Hd.mk (And.intro hz21 (And.intro hz21b hz21c))
                      refine lv_if_eq (tgt := 124) hx hb (dk_at dkX12_isOwn_2 15 rfl) (by decide) (fun c22 => ?_) (fun c22 => ?_)
                      · have c22 : z21 = 0 := (i_eq0 (by omega)).mp c22
                        refine lv_iconst (v := iI 1) hx hb (dk_at dkX12_isOwn_4 0 rfl) (by decide +kernel) ?_
                        exact RET 1 _ _ _ _ _ ⟨rfl, (u_r_X12_isOwn trivial), ⟨by decide, by unfold ownz; rw [if_pos (by exact Or.inr (Or.inr (Or.inr (Or.inr (Or.inr (Or.inr (Or.inr (Or.inr (Or.inr (Or.inr (Or.inl (hz21b.mp c22))))))))))))]⟩⟩ hP hS (dk_at dkX12_isOwn_4 1 rfl)
                      · have c22 : ¬ z21 = 0 := mt (i_eq0 (by omega)).mpr c22
                        have n21 : Hd (¬ x1 = 1819243380) := Hd.mk (fun h9 => c22 (hz21b.mpr h9))
                        clear hz21 hz21b hz21c gz21 c22
                        refine lv_lload_n hx hb (dk_at dkX12_isOwn_3 0 rfl) rfl (lv_at hl 1 rfl) ?_
                        refine lv_ldc2 (v := 499967946343) hx hb hown (hts _ (List.mem_cons_of_mem _ (wl_in_0 _ (List.mem_of_getElem? (i := 55) rfl)))) (dk_at dkX12_isOwn_3 1 rfl) ?_
                        refine tp_l (y := jI 499967946343) (by decide +kernel) ?_
                        refine x_lcmp hx hb (dk_at dkX12_isOwn_3 2 rfl) (by omega) (by omega) (fun z23 hz23 hz23b hz23c => ?_)
                        have gz23 := Hd.mk (And.intro hz23 (And.intro hz23b hz23c))
                        refine lv_if_eq (tgt := 124) hx hb (dk_at dkX12_isOwn_3 3 rfl) (by decide) (fun c24 => ?_) (fun c24 => ?_)
                        · have c24 : z23 = 0 := (i_eq0 (by omega)).mp c24
                          refine lv_iconst (v := iI 1) hx hb (dk_at dkX12_isOwn_4 0 rfl) (by decide +kernel) ?_
                          exact RET 1 _ _ _ _ _ ⟨rfl, (u_r_X12_isOwn trivial), ⟨by decide, by unfold ownz; rw [if_pos (by exact Or.inr (Or.inr (Or.inr (Or.inr (Or.inr (Or.inr (Or.inr (Or.inr (Or.inr (Or.inr (Or.inr (Or.inl (hz23b.mp c24)))))))))))))]⟩⟩ hP hS (dk_at dkX12_isOwn_4 1 rfl)
                        · have c24 : ¬ z23 = 0 := mt (i_eq0 (by omega)).mpr c24
                          have n23 : Hd (¬ x1 = 499967946343) := Hd.mk (fun h9 => c24 (hz23b.mpr h9))
                          clear hz23 hz23b hz23c gz23 c24
                          refine lv_lload_n hx hb (dk_at dkX12_isOwn_3 4 rfl) rfl (lv_at hl 1 rfl) ?_
                          refine lv_ldc2 (v := 512735736947) hx hb hown (hts _ (List.mem_cons_of_mem _ (wl_in_0 _ (List.mem_of_getElem? (i := 56) rfl)))) (dk_at dkX12_isOwn_3 5 rfl) ?_
                          refine tp_l (y := jI 512735736947) (by decide +kernel) ?_
                          refine x_lcmp hx hb (dk_at dkX12_isOwn_3 6 rfl) (by omega) (by omega) (fun z25 hz25 hz25b hz25c => ?_)
                          have gz25 := Hd.mk (And.intro hz25 (And.intro hz25b hz25c))
                          refine lv_if_eq (tgt := 124) hx hb (dk_at dkX12_isOwn_3 7 rfl) (by decide) (fun c26 => ?_) (fun c26 => ?_)
                          · have c26 : z25 = 0 := (i_eq0 (by omega)).mp c26
                            refine lv_iconst (v := iI 1) hx hb (dk_at dkX12_isOwn_4 0 rfl) (by decide +kernel) ?_
                            exact RET 1 _ _ _ _ _ ⟨rfl, (u_r_X12_isOwn trivial), ⟨by decide, by unfold ownz; rw [if_pos (by exact Or.inr (Or.inr (Or.inr (Or.inr (Or.inr (Or.inr (Or.inr (Or.inr (Or.inr (Or.inr (Or.inr (Or.inr (Or.inl (hz25b.mp c26))))))))))))))]⟩⟩ hP hS (dk_at dkX12_isOwn_4 1 rfl)
                          · have c26 : ¬ z25 = 0 := mt (i_eq0 (by omega)).mpr c26
                            have n25 : Hd (¬ x1 = 512735736947) := Hd.mk (fun h9 => c26 (hz25b.mpr h9))
                            clear hz25 hz25b hz25c gz25 c26
                            refine lv_lload_n hx hb (dk_at dkX12_isOwn_3 8 rfl) rfl (lv_at hl 1 rfl) ?_
                            refine lv_ldc2 (v := 1836413812) hx hb hown (hts _ (List.mem_cons_of_mem _ (wl_in_0 _ (List.mem_of_getElem? (i := 57) rfl)))) (dk_at dkX12_isOwn_3 9 rfl) ?_
                            refine tp_l (y := jI 1836413812) (by decide +kernel) ?_
                            refine x_lcmp hx hb (dk_at dkX12_isOwn_3 10 rfl) (by omega) (by omega) (fun z27 hz27 hz27b hz27c => ?_)
                            have gz27 := Hd.mk (And.intro hz27 (And.intro hz27b hz27c))
                            refine lv_if_eq (tgt := 124) hx hb (dk_at dkX12_isOwn_3 11 rfl) (by decide) (fun c28 => ?_) (fun c28 => ?_)
                            · have c28 : z27 = 0 := (i_eq0 (by omega)).mp c28
                              refine lv_iconst (v := iI 1) hx hb (dk_at dkX12_isOwn_4 0 rfl) (by decide +kernel) ?_
                              exact RET 1 _ _ _ _ _ ⟨rfl, (u_r_X12_isOwn trivial), ⟨by decide, by unfold ownz; rw [if_pos (by exact Or.inr (Or.inr (Or.inr (Or.inr (Or.inr (Or.inr (Or.inr (Or.inr (Or.inr (Or.inr (Or.inr (Or.inr (Or.inr (Or.inl (hz27b.mp c28)))))))))))))))]⟩⟩ hP hS (dk_at dkX12_isOwn_4 1 rfl)
                            · have c28 : ¬ z27 = 0 := mt (i_eq0 (by omega)).mpr c28
                              have n27 : Hd (¬ x1 = 1836413812) := Hd.mk (fun h9 => c28 (hz27b.mpr h9))
                              clear hz27 hz27b hz27c gz27 c28
                              refine lv_lload_n hx hb (dk_at dkX12_isOwn_3 12 rfl) rfl (lv_at hl 1 rfl) ?_
                              refine lv_ldc2 (v := 6447474) hx hb hown (hts _ (List.mem_cons_of_mem _ (wl_in_0 _ (List.mem_of_getElem? (i := 58) rfl)))) (dk_at dkX12_isOwn_3 13 rfl) ?_
                              refine tp_l (y := jI 6447474) (by decide +kernel) ?_
                              refine x_lcmp hx hb (dk_at dkX12_isOwn_3 14 rfl) (by omega) (by omega) (fun z29 hz29 hz29b hz29c => ?_)
                              have gz29 := Hd.mk (And.intro hz29 (And.intro hz29b hz29c))
                              refine lv_if_ne (tgt := 126) hx hb (dk_at dkX12_isOwn_3 15 rfl) (by decide) (fun c30 => ?_) (fun c30 => ?_)
                              · have c30 : ¬ z29 = 0 := mt (i_eq0 (by omega)).mpr c30
                                have n29 : Hd (¬ x1 = 6447474) := Hd.mk (fun h9 => c30 (hz29b.mpr h9))
                                clear hz29 hz29b hz29c gz29 c30
                                refine lv_lload_n hx hb (dk_at dkX12_isOwn_4 2 rfl) rfl (lv_at hl 1 rfl) ?_
                                refine lv_ldc2 (v := 2003330414) hx hb hown (hts _ (List.mem_cons_of_mem _ (wl_in_0 _ (List.mem_of_getElem? (i := 59) rfl)))) (dk_at dkX12_isOwn_4 3 rfl) ?_
                                refine tp_l (y := jI 2003330414) (by decide +kernel) ?_
                                refine x_lcmp hx hb (dk_at dkX12_isOwn_4 4 rfl) (by omega) (by omega) (fun z31 hz31 hz31b hz31c => ?_)
                                have gz31 := Hd.mk (And.intro hz31 (And.intro hz31b hz31c))
                                refine lv_if_eq (tgt := 166) hx hb (dk_at dkX12_isOwn_4 5 rfl) (by decide) (fun c32 => ?_) (fun c32 => ?_)
                                · have c32 : z31 = 0 := (i_eq0 (by omega)).mp c32
                                  refine lv_iconst (v := iI 1) hx hb (dk_at dkX12_isOwn_5 6 rfl) (by decide +kernel) ?_
                                  exact RET 1 _ _ _ _ _ ⟨rfl, (u_r_X12_isOwn trivial), ⟨by decide, by unfold ownz; rw [if_pos (by exact Or.inr (Or.inr (Or.inr (Or.inr (Or.inr (Or.inr (Or.inr (Or.inr (Or.inr (Or.inr (Or.inr (Or.inr (Or.inr (Or.inr (Or.inr (Or.inl (hz31b.mp c32)))))))))))))))))]⟩⟩ hP hS (dk_at dkX12_isOwn_5 7 rfl)
                                · have c32 : ¬ z31 = 0 := mt (i_eq0 (by omega)).mpr c32
                                  have n31 : Hd (¬ x1 = 2003330414) := Hd.mk (fun h9 => c32 (hz31b.mpr h9))
                                  clear hz31 hz31b hz31c gz31 c32
                                  refine lv_lload_n hx hb (dk_at dkX12_isOwn_4 6 rfl) rfl (lv_at hl 1 rfl) ?_
                                  refine lv_ldc2 (v := 28530) hx hb hown (hts _ (List.mem_cons_of_mem _ (wl_in_1 _ (List.mem_of_getElem? (i := 0) rfl)))) (dk_at dkX12_isOwn_4 7 rfl) ?_
                                  refine tp_l (y := jI 28530) (by decide +kernel) ?_
                                  refine x_lcmp hx hb (dk_at dkX12_isOwn_4 8 rfl) (by omega) (by omega) (fun z33 hz33 hz33b hz33c => ?_)
                                  have gz33 := Hd.mk (And.intro hz33 (And.intro hz33b hz33c))
                                  refine lv_if_eq (tgt := 166) hx hb (dk_at dkX12_isOwn_4 9 rfl) (by decide) (fun c34 => ?_) (fun c34 => ?_)
                                  · have c34 : z33 = 0 := (i_eq0 (by omega)).mp c34
                                    refine lv_iconst (v := iI 1) hx hb (dk_at dkX12_isOwn_5 6 rfl) (by decide +kernel) ?_
                                    exact RET 1 _ _ _ _ _ ⟨rfl, (u_r_X12_isOwn trivial), ⟨by decide, by unfold ownz; rw [if_pos (by exact Or.inr (Or.inr (Or.inr (Or.inr (Or.inr (Or.inr (Or.inr (Or.inr (Or.inr (Or.inr (Or.inr (Or.inr (Or.inr (Or.inr (Or.inr (Or.inr (Or.inl (hz33b.mp c34))))))))))))))))))]⟩⟩ hP hS (dk_at dkX12_isOwn_5 7 rfl)
                                  · have c34 : ¬ z33 = 0 := mt (i_eq0 (by omega)).mpr c34
                                    have n33 : Hd (¬ x1 = 28530) := Hd.mk (fun h9 => c34 (hz33b.mpr h9))
                                    clear hz33 hz33b hz33c gz33 c34
                                    refine lv_lload_n hx hb (dk_at dkX12_isOwn_4 10 rfl) rfl (lv_at hl 1 rfl) ?_
                                    refine lv_ldc2 (v := 6385252) hx hb hown (hts _ (List.mem_cons_of_mem _ (wl_in_1 _ (List.mem_of_getElem? (i := 1) rfl)))) (dk_at dkX12_isOwn_4 11 rfl) ?_
                                    refine tp_l (y := jI 6385252) (by decide +kernel) ?_
                                    refine x_lcmp hx hb (dk_at dkX12_isOwn_4 12 rfl) (by omega) (by omega) (fun z35 hz35 hz35b hz35c => ?_)
                                    have gz35 := Hd.mk (And.intro hz35 (And.intro hz35b hz35c))
                                    refine lv_if_eq (tgt := 166) hx hb (dk_at dkX12_isOwn_4 13 rfl) (by decide) (fun c36 => ?_) (fun c36 => ?_)
                                    · have c36 : z35 = 0 := (i_eq0 (by omega)).mp c36
                                      refine lv_iconst (v := iI 1) hx hb (dk_at dkX12_isOwn_5 6 rfl) (by decide +kernel) ?_
                                      exact RET 1 _ _ _ _ _ ⟨rfl, (u_r_X12_isOwn trivial), ⟨by decide, by unfold ownz; rw [if_pos (by exact Or.inr (Or.inr (Or.inr (Or.inr (Or.inr (Or.inr (Or.inr (Or.inr (Or.inr (Or.inr (Or.inr (Or.inr (Or.inr (Or.inr (Or.inr (Or.inr (Or.inr (Or.inl (hz35b.mp c36)))))))))))))))))))]⟩⟩ hP hS (dk_at dkX12_isOwn_5 7 rfl)
                                    · have c36 : ¬ z35 = 0 := mt (i_eq0 (by omega)).mpr c36
                                      have n35 : Hd (¬ x1 = 6385252) := Hd.mk (fun h9 => c36 (hz35b.mpr h9))
                                      clear hz35 hz35b hz35c gz35 c36
                                      refine lv_lload_n hx hb (dk_at dkX12_isOwn_4 14 rfl) rfl (lv_at hl 1 rfl) ?_
                                      refine lv_ldc2 (v := 7237492) hx hb hown (hts _ (List.mem_cons_of_mem _ (wl_in_1 _ (List.mem_of_getElem? (i := 2) rfl)))) (dk_at dkX12_isOwn_4 15 rfl) ?_
                                      refine tp_l (y := jI 7237492) (by decide +kernel) ?_
                                      refine x_lcmp hx hb (dk_at dkX12_isOwn_5 0 rfl) (by omega) (by omega) (fun z37 hz37 hz37b hz37c => ?_)
                                      have gz37 := Hd.mk (And.intro hz37 (And.intro hz37b hz37c))
                                      refine lv_if_eq (tgt := 166) hx hb (dk_at dkX12_isOwn_5 1 rfl) (by decide) (fun c38 => ?_) (fun c38 => ?_)
                                      · have c38 : z37 = 0 := (i_eq0 (by omega)).mp c38
                                        refine lv_iconst (v := iI 1) hx hb (dk_at dkX12_isOwn_5 6 rfl) (by decide +kernel) ?_
                                        exact RET 1 _ _ _ _ _ ⟨rfl, (u_r_X12_isOwn trivial), ⟨by decide, by unfold ownz; rw [if_pos (by exact Or.inr (Or.inr (Or.inr (Or.inr (Or.inr (Or.inr (Or.inr (Or.inr (Or.inr (Or.inr (Or.inr (Or.inr (Or.inr (Or.inr (Or.inr (Or.inr (Or.inr (Or.inr (Or.inl (hz37b.mp c38))))))))))))))))))))]⟩⟩ hP hS (dk_at dkX12_isOwn_5 7 rfl)
                                      · have c38 : ¬ z37 = 0 := mt (i_eq0 (by omega)).mpr c38
                                        have n37 : Hd (¬ x1 = 7237492) := Hd.mk (fun h9 => c38 (hz37b.mpr h9))
                                        clear hz37 hz37b hz37c gz37 c38
                                        refine lv_lload_n hx hb (dk_at dkX12_isOwn_5 2 rfl) rfl (lv_at hl 1 rfl) ?_
                                        refine lv_ldc2 (v := 6384748) hx hb hown (hts _ (List.mem_cons_of_mem _ (wl_in_1 _ (List.mem_of_getElem? (i := 3) rfl)))) (dk_at dkX12_isOwn_5 3 rfl) ?_
                                        refine tp_l (y := jI 6384748) (by decide +kernel) ?_
                                        refine x_lcmp hx hb (dk_at dkX12_isOwn_5 4 rfl) (by omega) (by omega) (fun z39 hz39 hz39b hz39c => ?_)
                                        have gz39 := Hd.mk (And.intro hz39 (And.intro hz39b hz39c))
                                        refine lv_if_ne (tgt := 168) hx hb (dk_at dkX12_isOwn_5 5 rfl) (by decide) (fun c40 => ?_) (fun c40 => ?_)
                                        · have c40 : ¬ z39 = 0 := mt (i_eq0 (by omega)).mpr c40
                                          have n39 : Hd (¬ x1 = 6384748) := Hd.mk (fun h9 => c40 (hz39b.mpr h9))
                                          clear hz39 hz39b hz39c gz39 c40
                                          refine lv_lload_n hx hb (dk_at dkX12_isOwn_5 8 rfl) rfl (lv_at hl 1 rfl) ?_
                                          refine lv_ldc2 (v := 7825519) hx hb hown (hts _ (List.mem_cons_of_mem _ (wl_in_1 _ (List.mem_of_getElem? (i := 4) rfl)))) (dk_at dkX12_isOwn_5 9 rfl) ?_
                                          refine tp_l (y := jI 7825519) (by decide +kernel) ?_
                                          refine x_lcmp hx hb (dk_at dkX12_isOwn_5 10 rfl) (by omega) (by omega) (fun z41 hz41 hz41b hz41c => ?_)
                                          have gz41 := Hd.mk (And.intro hz41 (And.intro hz41b hz41c))
                                          refine lv_if_eq (tgt := 208) hx hb (dk_at dkX12_isOwn_5 11 rfl) (by decide) (fun c42 => ?_) (fun c42 => ?_)
                                          · have c42 : z41 = 0 := (i_eq0 (by omega)).mp c42
                                            refine lv_iconst (v := iI 1) hx hb (dk_at dkX12_isOwn_6 12 rfl) (by decide +kernel) ?_
                                            exact RET 1 _ _ _ _ _ ⟨rfl, (u_r_X12_isOwn trivial), ⟨by decide, by unfold ownz; rw [if_pos (by exact Or.inr (Or.inr (Or.inr (Or.inr (Or.inr (Or.inr (Or.inr (Or.inr (Or.inr (Or.inr (Or.inr (Or.inr (Or.inr (Or.inr (Or.inr (Or.inr (Or.inr (Or.inr (Or.inr (Or.inr (Or.inl (hz41b.mp c42))))))))))))))))))))))]⟩⟩ hP hS (dk_at dkX12_isOwn_6 13 rfl)
                                          · have c42 : ¬ z41 = 0 := mt (i_eq0 (by omega)).mpr c42
                                            have n41 : Hd (¬ x1 = 7825519) := Hd.mk (fun h9 => c42 (hz41b.mpr h9))
                                            clear hz41 hz41b hz41c gz41 c42
                                            refine lv_lload_n hx hb (dk_at dkX12_isOwn_5 12 rfl) rfl (lv_at hl 1 rfl) ?_
                                            refine lv_ldc2 (v := 1936748404) hx hb hown (hts _ (List.mem_cons_of_mem _ (wl_in_1 _ (List.mem_of_getElem? (i := 5) rfl)))) (dk_at dkX12_isOwn_5 13 rfl) ?_
                                            refine tp_l (y := jI 1936748404) (by decide +kernel) ?_
                                            refine x_lcmp hx hb (dk_at dkX12_isOwn_5 14 rfl) (by omega) (by omega) (fun z43 hz43 hz43b hz43c => ?_)
                                            have gz43 := Hd.mk (And.intro hz43 (And.intro hz43b hz43c))
                                            refine lv_if_eq (tgt := 208) hx hb (dk_at dkX12_isOwn_5 15 rfl) (by decide) (fun c44 => ?_) (fun c44 => ?_)
                                            · have c44 : z43 = 0 := (i_eq0 (by omega)).mp c44
                                              refine lv_iconst (v := iI 1) hx hb (dk_at dkX12_isOwn_6 12 rfl) (by decide +kernel) ?_
                                              exact RET 1 _ _ _ _ _ ⟨rfl, (u_r_X12_isOwn trivial), ⟨by decide, by unfold ownz; rw [if_pos (by exact Or.inr (Or.inr (Or.inr (Or.inr (Or.inr (Or.inr (Or.inr (Or.inr (Or.inr (Or.inr (Or.inr (Or.inr (Or.inr (Or.inr (Or.inr (Or.inr (Or.inr (Or.inr (Or.inr (Or.inr (Or.inr (Or.inl (hz43b.mp c44)))))))))))))))))))))))]⟩⟩ hP hS (dk_at dkX12_isOwn_6 13 rfl)
                                            · have c44 : ¬ z43 = 0 := mt (i_eq0 (by omega)).mpr c44
                                              have n43 : Hd (¬ x1 = 1936748404) := Hd.mk (fun h9 => c44 (hz43b.mpr h9))
                                              clear hz43 hz43b hz43c gz43 c44
                                              refine lv_lload_n hx hb (dk_at dkX12_isOwn_6 0 rfl) rfl (lv_at hl 1 rfl) ?_
                                              refine lv_ldc2 (v := 1801812339) hx hb hown (hts _ (List.mem_cons_of_mem _ (wl_in_1 _ (List.mem_of_getElem? (i := 6) rfl)))) (dk_at dkX12_isOwn_6 1 rfl) ?_
                                              refine tp_l (y := jI 1801812339) (by decide +kernel) ?_
                                              refine x_lcmp hx hb (dk_at dkX12_isOwn_6 2 rfl) (by omega) (by omega) (fun z45 hz45 hz45b hz45c => ?_)
                                              have gz45 := Hd.mk (And.intro hz45 (And.intro hz45b hz45c))
                                              refine lv_if_eq (tgt := 208) hx hb (dk_at dkX12_isOwn_6 3 rfl) (by decide) (fun c46 => ?_) (fun c46 => ?_)
                                              · have c46 : z45 = 0 := (i_eq0 (by omega)).mp c46
                                                refine lv_iconst (v := iI 1) hx hb (dk_at dkX12_isOwn_6 12 rfl) (by decide +kernel) ?_
                                                exact RET 1 _ _ _ _ _ ⟨rfl, (u_r_X12_isOwn trivial), ⟨by decide, by unfold ownz; rw [if_pos (by exact Or.inr (Or.inr (Or.inr (Or.inr (Or.inr (Or.inr (Or.inr (Or.inr (Or.inr (Or.inr (Or.inr (Or.inr (Or.inr (Or.inr (Or.inr (Or.inr (Or.inr (Or.inr (Or.inr (Or.inr (Or.inr (Or.inr (Or.inl (hz45b.mp c46))))))))))))))))))))))))]⟩⟩ hP hS (dk_at dkX12_isOwn_6 13 rfl)
                                              · have c46 : ¬ z45 = 0 := mt (i_eq0 (by omega)).mpr c46
                                                have n45 : Hd (¬ x1 = 1801812339) := Hd.mk (fun h9 => c46 (hz45b.mpr h9))
                                                clear hz45 hz45b hz45c gz45 c46
                                                refine lv_lload_n hx hb (dk_at dkX12_isOwn_6 4 rfl) rfl (lv_at hl 1 rfl) ?_
                                                refine lv_ldc2 (v := 109317377451364) hx hb hown (hts _ (List.mem_cons_of_mem _ (wl_in_1 _ (List.mem_of_getElem? (i := 7) rfl)))) (dk_at dkX12_isOwn_6 5 rfl) ?_
                                                refine tp_l (y := jI 109317377451364) (by decide +kernel) ?_
                                                refine x_lcmp hx hb (dk_at dkX12_isOwn_6 6 rfl) (by omega) (by omega) (fun z47 hz47 hz47b hz47c => ?_)
                                                have gz47 := Hd.mk (And.intro hz47 (And.intro hz47b hz47c))
                                                refine lv_if_eq (tgt := 208) hx hb (dk_at dkX12_isOwn_6 7 rfl) (by decide) (fun c48 => ?_) (fun c48 => ?_)
                                                · have c48 : z47 = 0 := (i_eq0 (by omega)).mp c48
                                                  refine lv_iconst (v := iI 1) hx hb (dk_at dkX12_isOwn_6 12 rfl) (by decide +kernel) ?_
                                                  exact RET 1 _ _ _ _ _ ⟨rfl, (u_r_X12_isOwn trivial), ⟨by decide, by unfold ownz; rw [if_pos (by exact Or.inr (Or.inr (Or.inr (Or.inr (Or.inr (Or.inr (Or.inr (Or.inr (Or.inr (Or.inr (Or.inr (Or.inr (Or.inr (Or.inr (Or.inr (Or.inr (Or.inr (Or.inr (Or.inr (Or.inr (Or.inr (Or.inr (Or.inr (Or.inl (hz47b.mp c48)))))))))))))))))))))))))]⟩⟩ hP hS (dk_at dkX12_isOwn_6 13 rfl)
                                                · have c48 : ¬ z47 = 0 := mt (i_eq0 (by omega)).mpr c48
                                                  have n47 : Hd (¬ x1 = 109317377451364) := Hd.mk (fun h9 => c48 (hz47b.mpr h9))
                                                  clear hz47 hz47b hz47c gz47 c48
                                                  refine lv_lload_n hx hb (dk_at dkX12_isOwn_6 8 rfl) rfl (lv_at hl 1 rfl) ?_
                                                  refine lv_ldc2 (v := 7170414) hx hb hown (hts _ (List.mem_cons_of_mem _ (wl_in_1 _ (List.mem_of_getElem? (i := 8) rfl)))) (dk_at dkX12_isOwn_6 9 rfl) ?_
                                                  refine tp_l (y := jI 7170414) (by decide +kernel) ?_
                                                  refine x_lcmp hx hb (dk_at dkX12_isOwn_6 10 rfl) (by omega) (by omega) (fun z49 hz49 hz49b hz49c => ?_)
                                                  have gz49 := Hd.mk (And.intro hz49 (And.intro hz49b hz49c))
                                                  refine lv_if_ne (tgt := 210) hx hb (dk_at dkX12_isOwn_6 11 rfl) (by decide) (fun c50 => ?_) (fun c50 => ?_)
                                                  · have c50 : ¬ z49 = 0 := mt (i_eq0 (by omega)).mpr c50
                                                    have n49 : Hd (¬ x1 = 7170414) := Hd.mk (fun h9 => c50 (hz49b.mpr h9))
                                                    clear hz49 hz49b hz49c gz49 c50
                                                    refine lv_lload_n hx hb (dk_at dkX12_isOwn_6 14 rfl) rfl (lv_at hl 1 rfl) ?_
                                                    refine lv_ldc2 (v := 7168376) hx hb hown (hts _ (List.mem_cons_of_mem _ (wl_in_1 _ (List.mem_of_getElem? (i := 9) rfl)))) (dk_at dkX12_isOwn_6 15 rfl) ?_
                                                    refine tp_l (y := jI 7168376) (by decide +kernel) ?_
                                                    refine x_lcmp hx hb (dk_at dkX12_isOwn_7 0 rfl) (by omega) (by omega) (fun z51 hz51 hz51b hz51c => ?_)
                                                    have gz51 := Hd.mk (And.intro hz51 (And.intro hz51b hz51c))
                                                    refine lv_if_ne (tgt := 220) hx hb (dk_at dkX12_isOwn_7 1 rfl) (by decide) (fun c52 => ?_) (fun c52 => ?_)
                                                    · have c52 : ¬ z51 = 0 := mt (i_eq0 (by omega)).mpr c52
                                                      have n51 : Hd (¬ x1 = 7168376) := Hd.mk (fun h9 => c52 (hz51b.mpr h9))
                                                      clear hz51 hz51b hz51c gz51 c52
                                                      refine lv_iconst (v := iI 0) hx hb (dk_at dkX12_isOwn_7 4 rfl) (by decide +kernel) ?_
                                                      exact RET 0 _ _ _ _ _ ⟨rfl, (u_r_X12_isOwn trivial), ⟨by decide, by unfold ownz; rw [if_neg (by intro h9; exact h9.elim n1.out fun h9 => h9.elim n3.out fun h9 => h9.elim n5.out fun h9 => h9.elim n7.out fun h9 => h9.elim n9.out fun h9 => h9.elim n11.out fun h9 => h9.elim n13.out fun h9 => h9.elim n15.out fun h9 => h9.elim n17.out fun h9 => h9.elim n19.out fun h9 => h9.elim n21.out fun h9 => h9.elim n23.out fun h9 => h9.elim n25.out fun h9 => h9.elim n27.out fun h9 => h9.elim n29.out fun h9 => h9.elim n31.out fun h9 => h9.elim n33.out fun h9 => h9.elim n35.out fun h9 => h9.elim n37.out fun h9 => h9.elim n39.out fun h9 => h9.elim n41.out fun h9 => h9.elim n43.out fun h9 => h9.elim n45.out fun h9 => h9.elim n47.out fun h9 => h9.elim n49.out fun h9 => n51.out h9)]⟩⟩ hP hS (dk_at dkX12_isOwn_7 5 rfl)
                                                    · have c52 : z51 = 0 := (i_eq0 (by omega)).mp c52
                                                      refine lv_iconst (v := iI 1) hx hb (dk_at dkX12_isOwn_7 2 rfl) (by decide +kernel) ?_
                                                      exact RET 1 _ _ _ _ _ ⟨rfl, (u_r_X12_isOwn trivial), ⟨by decide, by unfold ownz; rw [if_pos (by exact Or.inr (Or.inr (Or.inr (Or.inr (Or.inr (Or.inr (Or.inr (Or.inr (Or.inr (Or.inr (Or.inr (Or.inr (Or.inr (Or.inr (Or.inr (Or.inr (Or.inr (Or.inr (Or.inr (Or.inr (Or.inr (Or.inr (Or.inr (Or.inr (Or.inr (hz51b.mp c52))))))))))))))))))))))))))]⟩⟩ hP hS (dk_at dkX12_isOwn_7 3 rfl)
                                                  · have c50 : z49 = 0 := (i_eq0 (by omega)).mp c50
                                                    refine lv_iconst (v := iI 1) hx hb (dk_at dkX12_isOwn_6 12 rfl) (by decide +kernel) ?_
                                                    exact RET 1 _ _ _ _ _ ⟨rfl, (u_r_X12_isOwn trivial), ⟨by decide, by unfold ownz; rw [if_pos (by exact Or.inr (Or.inr (Or.inr (Or.inr (Or.inr (Or.inr (Or.inr (Or.inr (Or.inr (Or.inr (Or.inr (Or.inr (Or.inr (Or.inr (Or.inr (Or.inr (Or.inr (Or.inr (Or.inr (Or.inr (Or.inr (Or.inr (Or.inr (Or.inr (Or.inl (hz49b.mp c50))))))))))))))))))))))))))]⟩⟩ hP hS (dk_at dkX12_isOwn_6 13 rfl)
                                        · have c40 : z39 = 0 := (i_eq0 (by omega)).mp c40
                                          refine lv_iconst (v := iI 1) hx hb (dk_at dkX12_isOwn_5 6 rfl) (by decide +kernel) ?_
                                          exact RET 1 _ _ _ _ _ ⟨rfl, (u_r_X12_isOwn trivial), ⟨by decide, by unfold ownz; rw [if_pos (by exact Or.inr (Or.inr (Or.inr (Or.inr (Or.inr (Or.inr (Or.inr (Or.inr (Or.inr (Or.inr (Or.inr (Or.inr (Or.inr (Or.inr (Or.inr (Or.inr (Or.inr (Or.inr (Or.inr (Or.inl (hz39b.mp c40)))))))))))))))))))))]⟩⟩ hP hS (dk_at dkX12_isOwn_5 7 rfl)
                              · have c30 : z29 = 0 := (i_eq0 (by omega)).mp c30
                                refine lv_iconst (v := iI 1) hx hb (dk_at dkX12_isOwn_4 0 rfl) (by decide +kernel) ?_
                                exact RET 1 _ _ _ _ _ ⟨rfl, (u_r_X12_isOwn trivial), ⟨by decide, by unfold ownz; rw [if_pos (by exact Or.inr (Or.inr (Or.inr (Or.inr (Or.inr (Or.inr (Or.inr (Or.inr (Or.inr (Or.inr (Or.inr (Or.inr (Or.inr (Or.inr (Or.inl (hz29b.mp c30))))))))))))))))]⟩⟩ hP hS (dk_at dkX12_isOwn_4 1 rfl)
                    · have c20 : z19 = 0 := (i_eq0 (by omega)).mp c20
                      refine lv_iconst (v := iI 1) hx hb (dk_at dkX12_isOwn_2 10 rfl) (by decide +kernel) ?_
                      exact RET 1 _ _ _ _ _ ⟨rfl, (u_r_X12_isOwn trivial), ⟨by decide, by unfold ownz; rw [if_pos (by exact Or.inr (Or.inr (Or.inr (Or.inr (Or.inr (Or.inr (Or.inr (Or.inr (Or.inr (Or.inl (hz19b.mp c20)))))))))))]⟩⟩ hP hS (dk_at dkX12_isOwn_2 11 rfl)
          · have c10 : z9 = 0 := (i_eq0 (by omega)).mp c10
            refine lv_iconst (v := iI 1) hx hb (dk_at dkX12_isOwn_1 4 rfl) (by decide +kernel) ?_
            exact RET 1 _ _ _ _ _ ⟨rfl, (u_r_X12_isOwn trivial), ⟨by decide, by unfold ownz; rw [if_pos (by exact Or.inr (Or.inr (Or.inr (Or.inr (Or.inl (hz9b.mp c10))))))]⟩⟩ hP hS (dk_at dkX12_isOwn_1 5 rfl)
