abbrev tr_d_X12_within_3 (A1 : St) (z : Int) (u : St) : Prop := (∃ z30 : Int, ∃ A31 : St, q_X12_asked_0 0 A1 z30 A31 ∧ (z = z30 + 10 ∧ u = A31))
def d_X12_within_3 (A1 : St) (z : Int) (u : St) : Prop := tr_d_X12_within_3 A1 z u
theorem u_d_X12_within_3 {A1 : St} {z : Int} {u : St} (h : tr_d_X12_within_3 A1 z u) : d_X12_within_3 A1 z u := h
abbrev tr_d_X12_within_2 (A : St) (A1 : St) (z : Int) (u : St) (z17 : Int) : Prop := ((-1 ≤ z17 ∧ z17 ≤ 9) ∧ (((z17 = (-1)) ∧ (d_X12_within_3 A1 z u)) ∨ ((¬ z17 = (-1)) ∧ (∃ z22 : Int, z22 = A1 8 (10 * (A 0 47) + z17).toNat ∧ (((¬ z22 = 0) ∧ (∃ A24 : St, q_X12_ahead A1 A24 ∧ (z = z17 + 20 ∧ u = A24))) ∨ ((z22 = 0) ∧ (d_X12_within_3 A1 z u)))))))
def d_X12_within_2 (A : St) (A1 : St) (z : Int) (u : St) (z17 : Int) : Prop := tr_d_X12_within_2 A A1 z u z17
theorem u_d_X12_within_2 {A : St} {A1 : St} {z : Int} {u : St} {z17 : Int} (h : tr_d_X12_within_2 A A1 z u z17) : d_X12_within_2 A A1 z u z17 := h
abbrev tr_d_X12_within_1 (A : St) (A1 : St) (z : Int) (u : St) : Prop := (d_X12_within_2 A A1 z u (-1))
def d_X12_within_1 (A : St) (A1 : St) (z : Int) (u : St) : Prop := tr_d_X12_within_1 A A1 z u
theorem u_d_X12_within_1 {A : St} {A1 : St} {z : Int} {u : St} (h : tr_d_X12_within_1 A A1 z u) : d_X12_within_1 A A1 z u := h
abbrev tr_r_X12_within (A : St) (z : Int) (u : St) : Prop := (∃ A1 : St, q_X12_must_ 26990 A A1 ∧ ((((A1 0 8) ≤ 0) ∧ (((¬ (A1 0 3) = 1) ∧ (d_X12_within_1 A A1 z u)) ∨ (((A1 0 3) = 1) ∧ (∃ z9 : Int, q_X12_isOwn (A1 0 7) A1 z9 ∧ (((¬ z9 = 0) ∧ (d_X12_within_1 A A1 z u)) ∨ ((z9 = 0) ∧ (∃ z13 : Int, q_X12_named_1 1 (A1 0 7) A1 z13 ∧ (d_X12_within_2 A A1 z u z13)))))))) ∨ ((¬ (A1 0 8) ≤ 0) ∧ (z = 0 ∧ u = A1))))
def r_X12_within (A : St) (z : Int) (u : St) : Prop := tr_r_X12_within A z u
theorem u_r_X12_within {A : St} {z : Int} {u : St} (h : tr_r_X12_within A z u) : r_X12_within A z u := h
def q_X12_within (A : St) (z : Int) (u : St) : Prop := r_X12_within A z u ∧ IM u ∧ fr [] [3, 4, 5, 6, 7, 8, 9] A u ∧ CB u ∧ (0 ≤ z ∧ z ≤ 29 ∧ A 0 4 ≤ u 0 4)
def ws_mb_X12_within : List Cond := .code yX12_within cX12_within 2 (some .int) :: WX
set_option maxHeartbeats 4000000 in
set_option maxRecDepth 100000 in
theorem mb_X12_within (l : Launch) (dC : Nat → ClassId) (dI : Nat → Nat → Nat) (cB cI cJ cZ cQ : ClassId) (q : Nat → Nat) (A : St) (hI : IM A) (hcCB : CB A) : XMi l yX12_within ws_mb_X12_within ({ frames := 3, cells := 0, slots := 0, locals := 70 } : Room) (dC, dI) (tyA cB cI cJ cZ cQ) (WM cI cJ cZ q) A [.ref (q 0)] (fun z u => r_X12_within A z u ∧ IM u ∧ fr [] [3, 4, 5, 6, 7, 8, 9] A u ∧ CB u ∧ (0 ≤ z ∧ z ≤ 29 ∧ A 0 4 ≤ u 0 4)) := by
  refine x_meti (cc := cX12_within) (maxL := 2) WM_adr (by decide +kernel) rfl (Nat.le_of_ble_eq_true rfl) (fun p e s m below meth c Q AS ls hx hb hml hown hts hK hDD hA0 hP hS hl RET => ?_)
  have hown : s.vm.findClass RX12 = some m.cls := hown
  have hl : lv_has ls 2 [(0, .ref (q 0))] := hl
  have hiX12 : ∀ w ∈ u_ws RX12 TX12 85, w ∈ ws_mb_X12_within := fun w h => List.mem_cons_of_mem _ (wx_lay w h)
  obtain ⟨H, hHe⟩ : ∃ H : Heap, H = s.heap := ⟨_, rfl⟩
  rw [← hHe] at hP
  have hS : va_S AS s.heap H [] := by rw [hHe]; exact hS
  suffices hgo : ∀ locs : List Loc, va_S AS s.heap H locs → W p l e (headSpec ws_mb_X12_within ({ frames := 3, cells := 0, slots := 0, locals := 70 } : Room)).room s m [.ref (q 0)].toArray below meth c H locs 0 0 Q (F0 m 0 ls []) by
    have := hgo [] hS
    rw [hHe] at this
    exact this
  clear hS hHe
  intro locs hS
  have hle := CB.le hcCB
  refine lv_aload_n hx hb (dk_at dkX12_within_0 0 rfl) rfl (lv_at hl 0 rfl) ?_
  refine lv_ldc2 (v := 26990) hx hb hown (hts _ (List.mem_cons_of_mem _ wlq_0_49)) (dk_at dkX12_within_0 1 rfl) ?_
  refine tp_l (y := jI 26990) (by decide +kernel) ?_
  have r_A_0_4 : (0 : Int) ≤ (A 0 4) ∧ (A 0 4) ≤ 1600 := hI 0 4
  refine x_callv (As := [.long (jI 26990)]) (rest := []) ⟨hx, hb, hml, hown, hts⟩ (mb_X12_must_ l dC dI cB cI cJ cZ cQ q _ 26990 hI ⟨by decide, by decide⟩ hcCB) (cwV 1 hts (goodV wlq_2_44 wlq_2_45 wlq_2_46 wlq_0_8 wlq_2_21) rfl rfl rfl (by decide +kernel) ⟨Nat.le_of_ble_eq_true rfl, Nat.le_of_ble_eq_true rfl⟩) hK hDD hA0 hP hS 0 12 wm0 rfl rfl hl.1 (Nat.le_of_ble_eq_true rfl) (dk_at dkX12_within_0 2 rfl) (fun A1 H locs hw2 hP hS => ?_)
  have ghw2 : q_X12_must_ 26990 A A1 := hw2
  obtain ⟨_, hI, hf3, hw2⟩ := hw2
  obtain ⟨hc4, hw2⟩ := hw2
  have r_A1_0_4 : (0 : Int) ≤ (A1 0 4) ∧ (A1 0 4) ≤ 1600 := hI 0 4
  refine lv_aload_n hx hb (dk_at dkX12_within_0 3 rfl) rfl (lv_at hl 0 rfl) ?_
  refine va_get (D := (dC, dI)) (ci := 12) (v := .int (iI (A1 0 8))) (C := RX12) (T := TX12) (N := 85) hx hb hts hiX12 hown hK hP 0 wm0 rfl 8 (by decide) (hts _ (List.mem_cons_of_mem _ wlq_0_16)) (fun _ h9 => h9) rfl (dk_at dkX12_within_0 4 rfl) ?_
  have r_A1_0_8 : (0 : Int) ≤ (A1 0 8) ∧ (A1 0 8) ≤ 5 := hI 0 8
  refine lv_if_le (tgt := 16) hx hb (dk_at dkX12_within_0 5 rfl) (by decide) (fun c5 => ?_) (fun c5 => ?_)
  · have c5 : (A1 0 8) ≤ 0 := (i_le0 (rb r_A1_0_8 (by decide) (by decide))).mp c5
    refine lv_aload_n hx hb (dk_at dkX12_within_0 8 rfl) rfl (lv_at hl 0 rfl) ?_
    refine va_get (D := (dC, dI)) (ci := 12) (v := .int (iI (A1 0 3))) (C := RX12) (T := TX12) (N := 85) hx hb hts hiX12 hown hK hP 0 wm0 rfl 3 (by decide) (hts _ (List.mem_cons_of_mem _ wlq_0_24)) (fun _ h9 => h9) rfl (dk_at dkX12_within_0 9 rfl) ?_
    have r_A1_0_3 : (0 : Int) ≤ (A1 0 3) ∧ (A1 0 3) ≤ 3 := hI 0 3
    refine lv_iconst (v := iI 1) hx hb (dk_at dkX12_within_0 10 rfl) (by decide +kernel) ?_
    have J48_8 : ∀ (z17 : Int) (H : Heap) (locs : List Loc) (ls : Array Slot), (-1 ≤ z17 ∧ z17 ≤ 9) → (∀ (z : Int) (u : St), (d_X12_within_2 A A1 z u z17) → r_X12_within A z u) → va_P (dC, dI) vwCl (WM cI cJ cZ q A1) H → va_S AS s.heap H locs → lv_has ls 2 [(0, .ref (q 0))] → W p l e (headSpec ws_mb_X12_within ({ frames := 3, cells := 0, slots := 0, locals := 70 } : Room)).room s m [.ref (q 0)].toArray below meth c H locs 0 0 Q (F0 m 48 ls [.int (iI z17)]) := by
      intro z17 H locs ls f19 hk2 hP hS hl
      refine lv_istore_n (lv' := [(1, .int (iI z17)), (0, .ref (q 0))]) hx hb (dk_at dkX12_within_1 8 rfl) rfl hl (by decide) rfl (fun ls hl => ?_)
      refine lv_iload_n hx hb (dk_at dkX12_within_1 9 rfl) rfl (lv_at hl 0 rfl) ?_
      refine lv_iconst (v := iI (-1)) hx hb (dk_at dkX12_within_1 10 rfl) (by decide +kernel) ?_
      have J71_21 : ∀ (H : Heap) (locs : List Loc) (ls : Array Slot), (∀ (z : Int) (u : St), (d_X12_within_3 A1 z u) → r_X12_within A z u) → va_P (dC, dI) vwCl (WM cI cJ cZ q A1) H → va_S AS s.heap H locs → lv_has ls 2 [(1, .int (iI z17)), (0, .ref (q 0))] → W p l e (headSpec ws_mb_X12_within ({ frames := 3, cells := 0, slots := 0, locals := 70 } : Room)).room s m [.ref (q 0)].toArray below meth c H locs 0 0 Q (F0 m 71 ls []) := by
        intro H locs ls hk3 hP hS hl
        refine lv_bipush (v := iI 10) hx hb (dk_at dkX12_within_2 6 rfl) (by decide +kernel) ?_
        refine lv_aload_n hx hb (dk_at dkX12_within_2 7 rfl) rfl (lv_at hl 1 rfl) ?_
        refine lv_iconst (v := iI 0) hx hb (dk_at dkX12_within_2 8 rfl) (by decide +kernel) ?_
        have r_A1_0_7 : (-9223372036854775808 : Int) ≤ (A1 0 7) ∧ (A1 0 7) ≤ 9223372036854775807 := hI 0 7
        have e_A1_47 : A1 0 47 = (A 0 47) := (hf3.2 47 rfl)
        have r_A_0_47 : (0 : Int) ≤ (A 0 47) ∧ (A 0 47) ≤ 1 := by rw [← e_A1_47]; exact hI 0 47
        refine x_calli (As := [.int (iI 0)]) (rest := [.int (iI 10)]) ⟨hx, hb, hml, hown, hts⟩ (mb_X12_asked_0 l dC dI cB cI cJ cZ cQ q _ 0 hI ⟨by decide, by decide⟩ hc4) (cwV 1 hts (goodV wlq_2_47 wlq_2_48 wlq_2_49 wlq_0_8 wlq_2_29) rfl rfl rfl (by decide +kernel) ⟨Nat.le_of_ble_eq_true rfl, Nat.le_of_ble_eq_true rfl⟩) hK hDD hA0 hP hS 0 12 wm0 rfl rfl hl.1 (Nat.le_of_ble_eq_true rfl) (dk_at dkX12_within_2 9 rfl) (fun z30 A31 H locs hw32 hP hS => ?_)
        have ghw32 : q_X12_asked_0 0 A1 z30 A31 := hw32
        obtain ⟨_, hI, hf33, hw32⟩ := hw32
        obtain ⟨hc34, hw32⟩ := hw32
        have r_A31_0_4 : (0 : Int) ≤ (A31 0 4) ∧ (A31 0 4) ≤ 1600 := hI 0 4
        have r_A31_0_8 : (0 : Int) ≤ (A31 0 8) ∧ (A31 0 8) ≤ 5 := hI 0 8
        refine x_addv (v := z30 + 10) hx hb (dk_at dkX12_within_2 10 rfl) (by omega) ?_
        exact RET (z30 + 10) _ _ _ _ _ ⟨hk3 _ _ (u_d_X12_within_3 ⟨z30, A31, ghw32, ⟨rfl, rfl⟩⟩), hI, fr.trans (fr.trans (fr.rf) hf3 rfl rfl) hf33 rfl rfl, hc34, by omega⟩ hP hS (dk_at dkX12_within_2 11 rfl)
      refine lv_icmp_eq (tgt := 71) hx hb (dk_at dkX12_within_1 11 rfl) (by decide) (fun c20 => ?_) (fun c20 => ?_)
      · have c20 : z17 = (-1) := (i_eq (rb f19 (by decide) (by decide)) ⟨by decide, by decide⟩).mp c20
        exact J71_21 _ _ _ (fun zq uq hq => hk2 _ _ (u_d_X12_within_2 ⟨f19, (Or.inl ⟨c20, hq⟩)⟩)) hP hS (lv_sub hl [0, 1] rfl)
      · have c20 : ¬ z17 = (-1) := mt (i_eq (rb f19 (by decide) (by decide)) ⟨by decide, by decide⟩).mpr c20
        refine lv_aload_n hx hb (dk_at dkX12_within_1 12 rfl) rfl (lv_at hl 1 rfl) ?_
        refine va_get (D := (dC, dI)) (ci := 12) (v := .ref (q 8)) (C := RX12) (T := TX12) (N := 85) hx hb hts hiX12 hown hK hP 0 wm0 rfl 19 (by decide) (hts _ (List.mem_cons_of_mem _ wlq_2_41)) (fun _ h9 => h9) rfl (dk_at dkX12_within_1 13 rfl) ?_
        refine lv_bipush (v := iI 10) hx hb (dk_at dkX12_within_1 14 rfl) (by decide +kernel) ?_
        refine lv_aload_n hx hb (dk_at dkX12_within_1 15 rfl) rfl (lv_at hl 1 rfl) ?_
        have e_A1_47 : A1 0 47 = (A 0 47) := (hf3.2 47 rfl)
        refine va_get (D := (dC, dI)) (ci := 12) (v := .int (iI (A1 0 47))) (C := RX12) (T := TX12) (N := 85) hx hb hts hiX12 hown hK hP 0 wm0 rfl 47 (by decide) (hts _ (List.mem_cons_of_mem _ wlq_1_12)) (fun _ h9 => h9) rfl (dk_at dkX12_within_2 0 rfl) ?_
        refine tp_i (y := iI (A 0 47)) (congrArg iI e_A1_47) ?_
        have r_A_0_47 : (0 : Int) ≤ (A 0 47) ∧ (A 0 47) ≤ 1 := by rw [← e_A1_47]; exact hI 0 47
        refine x_mulv (v := 10 * (A 0 47)) hx hb (dk_at dkX12_within_2 1 rfl) (by omega) ?_
        refine lv_iload_n hx hb (dk_at dkX12_within_2 2 rfl) rfl (lv_at hl 0 rfl) ?_
        refine x_addv (v := 10 * (A 0 47) + z17) hx hb (dk_at dkX12_within_2 3 rfl) (by omega) ?_
        have a_A1_8 : A1 8 = A 8 := (hf3.1 8 (by decide) rfl)
        refine x_zald hx hb hK hP 8 3 wm8 rfl (by omega) (by decide) (dk_at dkX12_within_2 4 rfl) (fun z22 hz22 => ?_)
        have rz22 : (0 : Int) ≤ z22 ∧ z22 ≤ 1 := by rw [hz22]; exact hI 8 _
        have gz22 := Hd.mk hz22
        have hz22 : z22 = A 8 (10 * (A 0 47) + z17).toNat := hz22.trans (congrFun a_A1_8 _)
        refine lv_if_ne (tgt := 80) hx hb (dk_at dkX12_within_2 5 rfl) (by decide) (fun c23 => ?_) (fun c23 => ?_)
        · have c23 : ¬ z22 = 0 := mt (i_eq0 (rb rz22 (by decide) (by decide))).mpr c23
          refine lv_aload_n hx hb (dk_at dkX12_within_2 12 rfl) rfl (lv_at hl 1 rfl) ?_
          have r_A1_0_5 : (0 : Int) ≤ (A1 0 5) ∧ (A1 0 5) ≤ 1600 := hI 0 5
          refine x_callv (As := []) (rest := []) ⟨hx, hb, hml, hown, hts⟩ (mb_X12_ahead l dC dI cB cI cJ cZ cQ q _ hI) (cwV 0 hts (goodV wlq_0_40 wlq_0_41 wlq_0_42 wlq_0_8 wlq_0_20) rfl rfl rfl (by decide +kernel) ⟨Nat.le_of_ble_eq_true rfl, Nat.le_of_ble_eq_true rfl⟩) hK hDD hA0 hP hS 0 12 wm0 rfl rfl hl.1 (Nat.le_of_ble_eq_true rfl) (dk_at dkX12_within_2 13 rfl) (fun A24 H locs hw25 hP hS => ?_)
          have ghw25 : q_X12_ahead A1 A24 := hw25
          obtain ⟨_, hI, hf26, hw25⟩ := hw25
          have r_A24_0_3 : (0 : Int) ≤ (A24 0 3) ∧ (A24 0 3) ≤ 3 := hI 0 3
          have r_A24_0_4 : (0 : Int) ≤ (A24 0 4) ∧ (A24 0 4) ≤ 1600 := hI 0 4
          have r_A24_0_5 : (0 : Int) ≤ (A24 0 5) ∧ (A24 0 5) ≤ 1600 := hI 0 5
          have r_A24_0_8 : (0 : Int) ≤ (A24 0 8) ∧ (A24 0 8) ≤ 5 := hI 0 8
          have hv27 := CB.le hc4
          have hc28 := CB.ahead hc4 (hf26.2 46 rfl) hw25.1 hw25.2.1 hw25.2.2.1
          refine lv_bipush (v := iI 20) hx hb (dk_at dkX12_within_2 14 rfl) (by decide +kernel) ?_
          refine lv_iload_n hx hb (dk_at dkX12_within_2 15 rfl) rfl (lv_at hl 0 rfl) ?_
          refine x_addv (v := z17 + 20) hx hb (dk_at dkX12_within_3 0 rfl) (by omega) ?_
          exact RET (z17 + 20) _ _ _ _ _ ⟨hk2 _ _ (u_d_X12_within_2 ⟨f19, (Or.inr ⟨c20, ⟨z22, gz22.out, (Or.inl ⟨c23, ⟨A24, ghw25, ⟨rfl, rfl⟩⟩⟩)⟩⟩)⟩), hI, fr.trans (fr.trans (fr.rf) hf3 rfl rfl) hf26 rfl rfl, hc28, by omega⟩ hP hS (dk_at dkX12_within_3 1 rfl)
        · have c23 : z22 = 0 := (i_eq0 (rb rz22 (by decide) (by decide))).mp c23
          exact J71_21 _ _ _ (fun zq uq hq => hk2 _ _ (u_d_X12_within_2 ⟨f19, (Or.inr ⟨c20, ⟨z22, gz22.out, (Or.inr ⟨c23, hq⟩)⟩⟩)⟩)) hP hS (lv_sub hl [0, 1] rfl)
    have J47_7 : ∀ (H : Heap) (locs : List Loc) (ls : Array Slot), (∀ (z : Int) (u : St), (d_X12_within_1 A A1 z u) → r_X12_within A z u) → va_P (dC, dI) vwCl (WM cI cJ cZ q A1) H → va_S AS s.heap H locs → lv_has ls 2 [(0, .ref (q 0))] → W p l e (headSpec ws_mb_X12_within ({ frames := 3, cells := 0, slots := 0, locals := 70 } : Room)).room s m [.ref (q 0)].toArray below meth c H locs 0 0 Q (F0 m 47 ls []) := by
      intro H locs ls hk1 hP hS hl
      refine lv_iconst (v := iI (-1)) hx hb (dk_at dkX12_within_1 7 rfl) (by decide +kernel) ?_
      exact J48_8 (-1) _ _ _ (by omega) (fun zq uq hq => hk1 _ _ (u_d_X12_within_1 hq)) hP hS (lv_sub hl [0] rfl)
    refine lv_icmp_ne (tgt := 47) hx hb (dk_at dkX12_within_0 11 rfl) (by decide) (fun c6 => ?_) (fun c6 => ?_)
    · have c6 : ¬ (A1 0 3) = 1 := mt (i_eq (rb r_A1_0_3 (by decide) (by decide)) ⟨by decide, by decide⟩).mpr c6
      exact J47_7 _ _ _ (fun zq uq hq => (u_r_X12_within ⟨A1, ghw2, (Or.inl ⟨c5, (Or.inl ⟨c6, hq⟩)⟩)⟩)) hP hS (lv_sub hl [0] rfl)
    · have c6 : (A1 0 3) = 1 := (i_eq (rb r_A1_0_3 (by decide) (by decide)) ⟨by decide, by decide⟩).mp c6
      refine lv_aload_n hx hb (dk_at dkX12_within_0 12 rfl) rfl (lv_at hl 0 rfl) ?_
      refine lv_aload_n hx hb (dk_at dkX12_within_0 13 rfl) rfl (lv_at hl 0 rfl) ?_
      refine va_get (D := (dC, dI)) (ci := 12) (v := .long (jI (A1 0 7))) (C := RX12) (T := TX12) (N := 85) hx hb hts hiX12 hown hK hP 0 wm0 rfl 7 (by decide) (hts _ (List.mem_cons_of_mem _ wlq_0_26)) (fun _ h9 => h9) rfl (dk_at dkX12_within_0 14 rfl) ?_
      have r_A1_0_7 : (-9223372036854775808 : Int) ≤ (A1 0 7) ∧ (A1 0 7) ≤ 9223372036854775807 := hI 0 7
      refine x_calli (As := [.long (jI (A1 0 7))]) (rest := []) ⟨hx, hb, hml, hown, hts⟩ (mb_X12_isOwn l dC dI cB cI cJ cZ cQ q _ (A1 0 7) hI r_A1_0_7) (cwV 1 hts (goodV wlq_2_23 wlq_2_24 wlq_2_25 wlq_0_8 wlq_0_43) rfl rfl rfl (by decide +kernel) ⟨Nat.le_of_ble_eq_true rfl, Nat.le_of_ble_eq_true rfl⟩) hK hDD hA0 hP hS 0 12 wm0 rfl rfl hl.1 (Nat.le_of_ble_eq_true rfl) (dk_at dkX12_within_0 15 rfl) (fun z9 A10 H locs hw11 hP hS => ?_)
      obtain ⟨rfl, hw11⟩ := hw11
      have ghw11 : q_X12_isOwn (A1 0 7) A1 z9 := hw11
      have hw11 := hw11.2
      have rz9 : 0 ≤ z9 ∧ z9 ≤ 1 := hw11.1
      refine lv_if_ne (tgt := 47) hx hb (dk_at dkX12_within_1 0 rfl) (by decide) (fun c12 => ?_) (fun c12 => ?_)
      · have c12 : ¬ z9 = 0 := mt (i_eq0 (rb rz9 (by decide) (by decide))).mpr c12
        exact J47_7 _ _ _ (fun zq uq hq => (u_r_X12_within ⟨A1, ghw2, (Or.inl ⟨c5, (Or.inr ⟨c6, ⟨z9, ghw11, (Or.inl ⟨c12, hq⟩)⟩⟩)⟩)⟩)) hP hS (lv_sub hl [0] rfl)
      · have c12 : z9 = 0 := (i_eq0 (rb rz9 (by decide) (by decide))).mp c12
        refine lv_aload_n hx hb (dk_at dkX12_within_1 1 rfl) rfl (lv_at hl 0 rfl) ?_
        refine lv_iconst (v := iI 1) hx hb (dk_at dkX12_within_1 2 rfl) (by decide +kernel) ?_
        refine lv_aload_n hx hb (dk_at dkX12_within_1 3 rfl) rfl (lv_at hl 0 rfl) ?_
        refine va_get (D := (dC, dI)) (ci := 12) (v := .long (jI (A1 0 7))) (C := RX12) (T := TX12) (N := 85) hx hb hts hiX12 hown hK hP 0 wm0 rfl 7 (by decide) (hts _ (List.mem_cons_of_mem _ wlq_0_26)) (fun _ h9 => h9) rfl (dk_at dkX12_within_1 4 rfl) ?_
        have e_A1_47 : A1 0 47 = (A 0 47) := (hf3.2 47 rfl)
        have r_A_0_47 : (0 : Int) ≤ (A 0 47) ∧ (A 0 47) ≤ 1 := by rw [← e_A1_47]; exact hI 0 47
        refine x_calli (As := [.int (iI 1), .long (jI (A1 0 7))]) (rest := []) ⟨hx, hb, hml, hown, hts⟩ (mb_X12_named_1 l dC dI cB cI cJ cZ cQ q _ 1 (A1 0 7) hI ⟨by decide, by decide⟩ r_A1_0_7) (cwV 2 hts (goodV wlq_2_26 wlq_2_27 wlq_2_28 wlq_0_8 wlq_1_10) rfl rfl rfl (by decide +kernel) ⟨Nat.le_of_ble_eq_true rfl, Nat.le_of_ble_eq_true rfl⟩) hK hDD hA0 hP hS 0 12 wm0 rfl rfl hl.1 (Nat.le_of_ble_eq_true rfl) (dk_at dkX12_within_1 5 rfl) (fun z13 A14 H locs hw15 hP hS => ?_)
        obtain ⟨rfl, hw15⟩ := hw15
        have ghw15 : q_X12_named_1 1 (A1 0 7) A1 z13 := hw15
        have hw15 := hw15.2
        have a_A1_5 : A1 5 = A 5 := (hf3.1 5 (by decide) rfl)
        have a_A1_4 : A1 4 = A 4 := (hf3.1 4 (by decide) rfl)
        rw [a_A1_5, a_A1_4, e_A1_47] at hw15
        refine lv_goto (tgt := 48) hx hb (dk_at dkX12_within_1 6 rfl) (by decide) ?_
        exact J48_8 z13 _ _ _ (by omega) (fun zq uq hq => (u_r_X12_within ⟨A1, ghw2, (Or.inl ⟨c5, (Or.inr ⟨c6, ⟨z9, ghw11, (Or.inr ⟨c12, ⟨z13, ghw15, hq⟩⟩)⟩⟩)⟩)⟩)) hP hS (lv_sub hl [0] rfl)
  · have c5 : ¬ (A1 0 8) ≤ 0 := mt (i_le0 (rb r_A1_0_8 (by decide) (by decide))).mpr c5
    refine lv_iconst (v := iI 0) hx hb (dk_at dkX12_within_0 6 rfl) (by decide +kernel) ?_
    exact RET 0 _ _ _ _ _ ⟨(u_r_X12_within ⟨A1, ghw2, (Or.inr ⟨c5, ⟨rfl, rfl⟩⟩)⟩), hI, fr.trans (fr.rf) hf3 rfl rfl, hc4, by omega⟩ hP hS (dk_at dkX12_within_0 7 rfl)

abbrev tr_d_X12_place_1 (A : St) (u : St) (z4 : Int) : Prop := ((0 ≤ z4 ∧ z4 ≤ 1) ∧ (∃ z8 : Int, ∃ A9 : St, q_X12_counts z4 A z8 A9 ∧ (((¬ z8 = 0) ∧ (∃ z14 : Int, z14 = A9 2 ((A 0 47)).toNat ∧ (∃ z15 : Int, ∃ A16 : St, q_X12_fresh A9 z15 A16 ∧ (((¬ (A16 0 8) = 0) ∧ (∃ A21 : St, A21 = (stA A16 3 (8 * (A 0 47) + z14).toNat z15) ∧ (u = A21))) ∨ (((A16 0 8) = 0) ∧ (∃ z22 : Int, z22 = (stA A16 3 (8 * (A 0 47) + z14).toNat z15) 2 ((A 0 47)).toNat ∧ (∃ A23 : St, A23 = (stA (stA A16 3 (8 * (A 0 47) + z14).toNat z15) 2 ((A 0 47)).toNat (z22 + 1)) ∧ (u = A23)))))))) ∨ ((z8 = 0) ∧ (u = A9)))))
def d_X12_place_1 (A : St) (u : St) (z4 : Int) : Prop := tr_d_X12_place_1 A u z4
theorem u_d_X12_place_1 {A : St} {u : St} {z4 : Int} (h : tr_d_X12_place_1 A u z4) : d_X12_place_1 A u z4 := h
abbrev tr_r_X12_place (A : St) (u : St) : Prop := (∃ z1 : Int, z1 = A 2 ((A 0 47)).toNat ∧ (((¬ z1 = 8) ∧ (d_X12_place_1 A u 0)) ∨ ((z1 = 8) ∧ (d_X12_place_1 A u 1))))
def r_X12_place (A : St) (u : St) : Prop := tr_r_X12_place A u
theorem u_r_X12_place {A : St} {u : St} (h : tr_r_X12_place A u) : r_X12_place A u := h
def q_X12_place (A : St) (u : St) : Prop := r_X12_place A u ∧ IM u ∧ fr [2, 3] [3, 4, 5, 6, 7, 8, 9] A u ∧ CB u ∧ ((u 0 8 = 0 → A 0 5 ≤ u 0 4) ∧ A 0 4 ≤ u 0 4)
def ws_mb_X12_place : List Cond := .code yX12_place cX12_place 1 none :: WX
set_option maxHeartbeats 4000000 in
set_option maxRecDepth 100000 in
theorem mb_X12_place (l : Launch) (dC : Nat → ClassId) (dI : Nat → Nat → Nat) (cB cI cJ cZ cQ : ClassId) (q : Nat → Nat) (A : St) (hI : IM A) (hcCB : CB A) : XMv l yX12_place ws_mb_X12_place ({ frames := 3, cells := 0, slots := 0, locals := 70 } : Room) (dC, dI) (tyA cB cI cJ cZ cQ) (WM cI cJ cZ q) A [.ref (q 0)] (fun u => r_X12_place A u ∧ IM u ∧ fr [2, 3] [3, 4, 5, 6, 7, 8, 9] A u ∧ CB u ∧ ((u 0 8 = 0 → A 0 5 ≤ u 0 4) ∧ A 0 4 ≤ u 0 4)) := by
  refine x_metv (cc := cX12_place) (maxL := 1) WM_adr (by decide +kernel) rfl (Nat.le_of_ble_eq_true rfl) (fun p e s m below meth c Q AS ls hx hb hml hown hts hK hDD hA0 hP hS hl RET => ?_)
  have hown : s.vm.findClass RX12 = some m.cls := hown
  have hl : lv_has ls 1 [(0, .ref (q 0))] := hl
  have hiX12 : ∀ w ∈ u_ws RX12 TX12 85, w ∈ ws_mb_X12_place := fun w h => List.mem_cons_of_mem _ (wx_lay w h)
  obtain ⟨H, hHe⟩ : ∃ H : Heap, H = s.heap := ⟨_, rfl⟩
  rw [← hHe] at hP
  have hS : va_S AS s.heap H [] := by rw [hHe]; exact hS
  suffices hgo : ∀ locs : List Loc, va_S AS s.heap H locs → W p l e (headSpec ws_mb_X12_place ({ frames := 3, cells := 0, slots := 0, locals := 70 } : Room)).room s m [.ref (q 0)].toArray below meth c H locs 0 0 Q (F0 m 0 ls []) by
    have := hgo [] hS
    rw [hHe] at this
    exact this
  clear hS hHe
  intro locs hS
  have hle := CB.le hcCB
  refine lv_aload_n hx hb (dk_at dkX12_place_0 0 rfl) rfl (lv_at hl 0 rfl) ?_
  refine lv_aload_n hx hb (dk_at dkX12_place_0 1 rfl) rfl (lv_at hl 0 rfl) ?_
  refine va_get (D := (dC, dI)) (ci := 12) (v := .ref (q 2)) (C := RX12) (T := TX12) (N := 85) hx hb hts hiX12 hown hK hP 0 wm0 rfl 13 (by decide) (hts _ (List.mem_cons_of_mem _ wlq_1_11)) (fun _ h9 => h9) rfl (dk_at dkX12_place_0 2 rfl) ?_
  refine lv_aload_n hx hb (dk_at dkX12_place_0 3 rfl) rfl (lv_at hl 0 rfl) ?_
  refine va_get (D := (dC, dI)) (ci := 12) (v := .int (iI (A 0 47))) (C := RX12) (T := TX12) (N := 85) hx hb hts hiX12 hown hK hP 0 wm0 rfl 47 (by decide) (hts _ (List.mem_cons_of_mem _ wlq_1_12)) (fun _ h9 => h9) rfl (dk_at dkX12_place_0 4 rfl) ?_
  have r_A_0_47 : (0 : Int) ≤ (A 0 47) ∧ (A 0 47) ≤ 1 := hI 0 47
  refine x_iald hx hb hK hP 2 1 wm2 rfl (by omega) (by decide) (dk_at dkX12_place_0 5 rfl) (fun z1 hz1 => ?_)
  have rz1 : (0 : Int) ≤ z1 ∧ z1 ≤ 8 := by rw [hz1]; exact hI 2 _
  have gz1 := Hd.mk hz1
  have hz1 : z1 = A 2 ((A 0 47)).toNat := hz1
  refine lv_bipush (v := iI 8) hx hb (dk_at dkX12_place_0 6 rfl) (by decide +kernel) ?_
  have J20_3 : ∀ (z4 : Int) (H : Heap) (locs : List Loc) (ls : Array Slot), (0 ≤ z4 ∧ z4 ≤ 1) → ((z4 = 0 ∧ ¬ z1 = 8) ∨ (z4 = 1 ∧ z1 = 8)) → (∀ (u : St), (d_X12_place_1 A u z4) → r_X12_place A u) → va_P (dC, dI) vwCl (WM cI cJ cZ q A) H → va_S AS s.heap H locs → lv_has ls 1 [(0, .ref (q 0))] → W p l e (headSpec ws_mb_X12_place ({ frames := 3, cells := 0, slots := 0, locals := 70 } : Room)).room s m [.ref (q 0)].toArray below meth c H locs 0 0 Q (F0 m 20 ls [.int (iI z4), .ref (q 0)]) := by
    intro z4 H locs ls f6 f7 hk1 hP hS hl
    have r_A_0_4 : (0 : Int) ≤ (A 0 4) ∧ (A 0 4) ≤ 1600 := hI 0 4
    have r_A_0_5 : (0 : Int) ≤ (A 0 5) ∧ (A 0 5) ≤ 1600 := hI 0 5
    refine x_calli (As := [.int (iI z4)]) (rest := []) ⟨hx, hb, hml, hown, hts⟩ (mb_X12_counts l dC dI cB cI cJ cZ cQ q _ z4 hI f6 hcCB) (cwV 1 hts (goodV wlq_2_32 wlq_2_33 wlq_2_34 wlq_0_8 wlq_2_20) rfl rfl rfl (by decide +kernel) ⟨Nat.le_of_ble_eq_true rfl, Nat.le_of_ble_eq_true rfl⟩) hK hDD hA0 hP hS 0 12 wm0 rfl rfl hl.1 (Nat.le_of_ble_eq_true rfl) (dk_at dkX12_place_0 11 rfl) (fun z8 A9 H locs hw10 hP hS => ?_)
    have ghw10 : q_X12_counts z4 A z8 A9 := hw10
    obtain ⟨_, hI, hf11, hw10⟩ := hw10
    obtain ⟨hc12, hw10⟩ := hw10
    have r_A9_0_4 : (0 : Int) ≤ (A9 0 4) ∧ (A9 0 4) ≤ 1600 := hI 0 4
    have r_A9_0_8 : (0 : Int) ≤ (A9 0 8) ∧ (A9 0 8) ≤ 5 := hI 0 8
    have rz8 : 0 ≤ z8 ∧ z8 ≤ 1 := hw10.1
    refine lv_if_ne (tgt := 27) hx hb (dk_at dkX12_place_0 12 rfl) (by decide) (fun c13 => ?_) (fun c13 => ?_)
    · have c13 : ¬ z8 = 0 := mt (i_eq0 (rb rz8 (by decide) (by decide))).mpr c13
      refine lv_aload_n hx hb (dk_at dkX12_place_0 14 rfl) rfl (lv_at hl 0 rfl) ?_
      refine va_get (D := (dC, dI)) (ci := 12) (v := .ref (q 3)) (C := RX12) (T := TX12) (N := 85) hx hb hts hiX12 hown hK hP 0 wm0 rfl 14 (by decide) (hts _ (List.mem_cons_of_mem _ wlq_1_21)) (fun _ h9 => h9) rfl (dk_at dkX12_place_0 15 rfl) ?_
      refine lv_bipush (v := iI 8) hx hb (dk_at dkX12_place_1 0 rfl) (by decide +kernel) ?_
      refine lv_aload_n hx hb (dk_at dkX12_place_1 1 rfl) rfl (lv_at hl 0 rfl) ?_
      have e_A9_47 : A9 0 47 = (A 0 47) := (hf11.2 47 rfl)
      refine va_get (D := (dC, dI)) (ci := 12) (v := .int (iI (A9 0 47))) (C := RX12) (T := TX12) (N := 85) hx hb hts hiX12 hown hK hP 0 wm0 rfl 47 (by decide) (hts _ (List.mem_cons_of_mem _ wlq_1_12)) (fun _ h9 => h9) rfl (dk_at dkX12_place_1 2 rfl) ?_
      refine tp_i (y := iI (A 0 47)) (congrArg iI e_A9_47) ?_
      refine x_mulv (v := 8 * (A 0 47)) hx hb (dk_at dkX12_place_1 3 rfl) (by omega) ?_
      refine lv_aload_n hx hb (dk_at dkX12_place_1 4 rfl) rfl (lv_at hl 0 rfl) ?_
      refine va_get (D := (dC, dI)) (ci := 12) (v := .ref (q 2)) (C := RX12) (T := TX12) (N := 85) hx hb hts hiX12 hown hK hP 0 wm0 rfl 13 (by decide) (hts _ (List.mem_cons_of_mem _ wlq_1_11)) (fun _ h9 => h9) rfl (dk_at dkX12_place_1 5 rfl) ?_
      refine lv_aload_n hx hb (dk_at dkX12_place_1 6 rfl) rfl (lv_at hl 0 rfl) ?_
      refine va_get (D := (dC, dI)) (ci := 12) (v := .int (iI (A9 0 47))) (C := RX12) (T := TX12) (N := 85) hx hb hts hiX12 hown hK hP 0 wm0 rfl 47 (by decide) (hts _ (List.mem_cons_of_mem _ wlq_1_12)) (fun _ h9 => h9) rfl (dk_at dkX12_place_1 7 rfl) ?_
      refine tp_i (y := iI (A 0 47)) (congrArg iI e_A9_47) ?_
      have a_A9_2 : A9 2 = A 2 := (hf11.1 2 (by decide) rfl)
      refine x_iald hx hb hK hP 2 1 wm2 rfl (by omega) (by decide) (dk_at dkX12_place_1 8 rfl) (fun z14 hz14 => ?_)
      have rz14 : (0 : Int) ≤ z14 ∧ z14 ≤ 8 := by rw [hz14]; exact hI 2 _
      have gz14 := Hd.mk hz14
      have hz14 : z14 = A 2 ((A 0 47)).toNat := hz14.trans (congrFun a_A9_2 _)
      have ez14 : z14 = z1 := hz14.trans hz1.symm
      refine x_addv (v := 8 * (A 0 47) + z14) hx hb (dk_at dkX12_place_1 9 rfl) (by omega) ?_
      refine lv_aload_n hx hb (dk_at dkX12_place_1 10 rfl) rfl (lv_at hl 0 rfl) ?_
      refine x_calll (As := []) (rest := [.int (iI (8 * (A 0 47) + z14)), .ref (q 3)]) ⟨hx, hb, hml, hown, hts⟩ (mb_X12_fresh l dC dI cB cI cJ cZ cQ q _ hI hc12) (cwV 0 hts (goodV wlq_2_35 wlq_2_36 wlq_2_37 wlq_0_8 wlq_2_22) rfl rfl rfl (by decide +kernel) ⟨Nat.le_of_ble_eq_true rfl, Nat.le_of_ble_eq_true rfl⟩) hK hDD hA0 hP hS 0 12 wm0 rfl rfl hl.1 (Nat.le_of_ble_eq_true rfl) (dk_at dkX12_place_1 11 rfl) (fun z15 A16 H locs hw17 hP hS => ?_)
      have ghw17 : q_X12_fresh A9 z15 A16 := hw17
      obtain ⟨_, hI, hf18, hw17⟩ := hw17
      obtain ⟨hc19, hw17⟩ := hw17
      have r_A16_0_4 : (0 : Int) ≤ (A16 0 4) ∧ (A16 0 4) ≤ 1600 := hI 0 4
      refine x_last hx hb hK hP hDD hS 3 2 wm3 rfl (by omega) (by decide) (dk_at dkX12_place_1 12 rfl) ws3 (fun H locs hP hS => ?_)
      have hI := hI.st (j := 3) (i := (8 * (A 0 47) + z14).toNat) (v := z15) (show (-9223372036854775808 : Int) ≤ z15 ∧ z15 ≤ 9223372036854775807 from (by omega))
      refine lv_aload_n hx hb (dk_at dkX12_place_1 13 rfl) rfl (lv_at hl 0 rfl) ?_
      refine va_get (D := (dC, dI)) (ci := 12) (v := .int (iI (A16 0 8))) (C := RX12) (T := TX12) (N := 85) hx hb hts hiX12 hown hK hP 0 wm0 rfl 8 (by decide) (hts _ (List.mem_cons_of_mem _ wlq_0_16)) (fun _ h9 => h9) rfl (dk_at dkX12_place_1 14 rfl) ?_
      have r_A16_0_8 : (0 : Int) ≤ (A16 0 8) ∧ (A16 0 8) ≤ 5 := hI 0 8
      refine lv_if_ne (tgt := 73) hx hb (dk_at dkX12_place_1 15 rfl) (by decide) (fun c20 => ?_) (fun c20 => ?_)
      · have c20 : ¬ (A16 0 8) = 0 := mt (i_eq0 (rb r_A16_0_8 (by decide) (by decide))).mpr c20
        obtain ⟨A21, hA21⟩ : ∃ A21 : St, A21 = (stA A16 3 (8 * (A 0 47) + z14).toNat z15) := ⟨_, rfl⟩
        rw [← hA21] at hP hI
        have e_A21_4 : A21 0 4 = (A16 0 4) := by rw [hA21]; exact rfl
        have e_A21_8 : A21 0 8 = (A16 0 8) := by rw [hA21]; exact rfl
        exact RET _ _ _ _ _ ⟨hk1 _ (u_d_X12_place_1 ⟨f6, ⟨z8, A9, ghw10, (Or.inl ⟨c13, ⟨z14, gz14.out, ⟨z15, A16, ghw17, (Or.inl ⟨c20, ⟨A21, hA21, rfl⟩⟩)⟩⟩⟩)⟩⟩), hI, fr_def hA21 (fr.st (fr.trans (fr.trans (fr.rf) hf11 rfl rfl) hf18 rfl rfl) (by decide) rfl), (CB.fr hc19 (fr_def hA21 (fr.st (fr.rf (M := [3]) (N := [])) (by decide) rfl)) rfl rfl), by omega⟩ hP hS (dk_at dkX12_place_2 9 rfl)
      · have c20 : (A16 0 8) = 0 := (i_eq0 (rb r_A16_0_8 (by decide) (by decide))).mp c20
        refine lv_aload_n hx hb (dk_at dkX12_place_2 0 rfl) rfl (lv_at hl 0 rfl) ?_
        refine va_get (D := (dC, dI)) (ci := 12) (v := .ref (q 2)) (C := RX12) (T := TX12) (N := 85) hx hb hts hiX12 hown hK hP 0 wm0 rfl 13 (by decide) (hts _ (List.mem_cons_of_mem _ wlq_1_11)) (fun _ h9 => h9) rfl (dk_at dkX12_place_2 1 rfl) ?_
        refine lv_aload_n hx hb (dk_at dkX12_place_2 2 rfl) rfl (lv_at hl 0 rfl) ?_
        have e_A16_47 : A16 0 47 = (A 0 47) := (hf18.2 47 rfl).trans e_A9_47
        refine va_get (D := (dC, dI)) (ci := 12) (v := .int (iI (A16 0 47))) (C := RX12) (T := TX12) (N := 85) hx hb hts hiX12 hown hK hP 0 wm0 rfl 47 (by decide) (hts _ (List.mem_cons_of_mem _ wlq_1_12)) (fun _ h9 => h9) rfl (dk_at dkX12_place_2 3 rfl) ?_
        refine tp_i (y := iI (A 0 47)) (congrArg iI e_A16_47) ?_
        refine lv_dup2_11 hx hb (dk_at dkX12_place_2 4 rfl) rfl rfl ?_
        have a_A16_2 : A16 2 = A 2 := (hf18.1 2 (by decide) rfl).trans a_A9_2
        refine x_iald hx hb hK hP 2 1 wm2 rfl (by omega) (by decide) (dk_at dkX12_place_2 5 rfl) (fun z22 hz22 => ?_)
        have rz22 : (0 : Int) ≤ z22 ∧ z22 ≤ 8 := by rw [hz22]; exact hI 2 _
        have gz22 := Hd.mk hz22
        have hz22 : z22 = A 2 ((A 0 47)).toNat := hz22.trans (congrFun a_A16_2 _)
        have ez22 : z22 = z1 := hz22.trans hz1.symm
        refine lv_iconst (v := iI 1) hx hb (dk_at dkX12_place_2 6 rfl) (by decide +kernel) ?_
        refine x_addv (v := z22 + 1) hx hb (dk_at dkX12_place_2 7 rfl) (by omega) ?_
        refine x_iast hx hb hK hP hDD hS 2 1 wm2 rfl (by omega) (by decide) (dk_at dkX12_place_2 8 rfl) ws2 (fun H locs hP hS => ?_)
        have hI := hI.st (j := 2) (i := ((A 0 47)).toNat) (v := z22 + 1) (show (0 : Int) ≤ z22 + 1 ∧ z22 + 1 ≤ 8 from (by omega))
        obtain ⟨A23, hA23⟩ : ∃ A23 : St, A23 = (stA (stA A16 3 (8 * (A 0 47) + z14).toNat z15) 2 ((A 0 47)).toNat (z22 + 1)) := ⟨_, rfl⟩
        rw [← hA23] at hP hI
        have e_A23_4 : A23 0 4 = (A16 0 4) := by rw [hA23]; exact rfl
        have e_A23_8 : A23 0 8 = (A16 0 8) := by rw [hA23]; exact rfl
        exact RET _ _ _ _ _ ⟨hk1 _ (u_d_X12_place_1 ⟨f6, ⟨z8, A9, ghw10, (Or.inl ⟨c13, ⟨z14, gz14.out, ⟨z15, A16, ghw17, (Or.inr ⟨c20, ⟨z22, gz22.out, ⟨A23, hA23, rfl⟩⟩⟩)⟩⟩⟩)⟩⟩), hI, fr_def hA23 (fr.st (fr.st (fr.trans (fr.trans (fr.rf) hf11 rfl rfl) hf18 rfl rfl) (by decide) rfl) (by decide) rfl), (CB.fr hc19 (fr_def hA23 (fr.st (fr.st (fr.rf (M := [2, 3]) (N := [])) (by decide) rfl) (by decide) rfl)) rfl rfl), by omega⟩ hP hS (dk_at dkX12_place_2 9 rfl)
    · have c13 : z8 = 0 := (i_eq0 (rb rz8 (by decide) (by decide))).mp c13
      exact RET _ _ _ _ _ ⟨hk1 _ (u_d_X12_place_1 ⟨f6, ⟨z8, A9, ghw10, (Or.inr ⟨c13, rfl⟩)⟩⟩), hI, fr.trans (fr.rf) hf11 rfl rfl, hc12, by omega⟩ hP hS (dk_at dkX12_place_0 13 rfl)
  refine lv_icmp_ne (tgt := 19) hx hb (dk_at dkX12_place_0 7 rfl) (by decide) (fun c2 => ?_) (fun c2 => ?_)
  · have c2 : ¬ z1 = 8 := mt (i_eq (rb rz1 (by decide) (by decide)) ⟨by decide, by decide⟩).mpr c2
    refine lv_iconst (v := iI 0) hx hb (dk_at dkX12_place_0 10 rfl) (by decide +kernel) ?_
    exact J20_3 0 _ _ _ (by omega) (by omega) (fun uq hq => (u_r_X12_place ⟨z1, gz1.out, (Or.inl ⟨c2, hq⟩)⟩)) hP hS (lv_sub hl [0] rfl)
  · have c2 : z1 = 8 := (i_eq (rb rz1 (by decide) (by decide)) ⟨by decide, by decide⟩).mp c2
    refine lv_iconst (v := iI 1) hx hb (dk_at dkX12_place_0 8 rfl) (by decide +kernel) ?_
    refine lv_goto (tgt := 20) hx hb (dk_at dkX12_place_0 9 rfl) (by decide) ?_
    exact J20_3 1 _ _ _ (by omega) (by omega) (fun uq hq => (u_r_X12_place ⟨z1, gz1.out, (Or.inr ⟨c2, hq⟩)⟩)) hP hS (lv_sub hl [0] rfl)

abbrev tr_d_X12_key_1 (A : St) (u : St) (z4 : Int) : Prop := ((0 ≤ z4 ∧ z4 ≤ 1) ∧ (∃ z8 : Int, ∃ A9 : St, q_X12_counts z4 A z8 A9 ∧ (((¬ z8 = 0) ∧ (∃ z14 : Int, z14 = A9 11 ((A 0 47)).toNat ∧ (∃ z15 : Int, ∃ A16 : St, q_X12_fresh A9 z15 A16 ∧ (∃ A20 : St, A20 = (stA A16 12 (4 * (A 0 47) + z14).toNat z15) ∧ (∃ z21 : Int, ∃ A22 : St, q_X12_within A20 z21 A22 ∧ (((¬ (A22 0 8) = 0) ∧ (∃ A27 : St, A27 = (stA (stA A22 13 (4 * (A 0 47) + z14).toNat z21) 14 (4 * (A 0 47) + z14).toNat 0) ∧ (u = A27))) ∨ (((A22 0 8) = 0) ∧ (∃ z28 : Int, z28 = (stA (stA A22 13 (4 * (A 0 47) + z14).toNat z21) 14 (4 * (A 0 47) + z14).toNat 0) 11 ((A 0 47)).toNat ∧ (∃ A29 : St, A29 = (stA (stA (stA A22 13 (4 * (A 0 47) + z14).toNat z21) 14 (4 * (A 0 47) + z14).toNat 0) 11 ((A 0 47)).toNat (z28 + 1)) ∧ (u = A29)))))))))) ∨ ((z8 = 0) ∧ (u = A9)))))
def d_X12_key_1 (A : St) (u : St) (z4 : Int) : Prop := tr_d_X12_key_1 A u z4
theorem u_d_X12_key_1 {A : St} {u : St} {z4 : Int} (h : tr_d_X12_key_1 A u z4) : d_X12_key_1 A u z4 := h
abbrev tr_r_X12_key (A : St) (u : St) : Prop := (∃ z1 : Int, z1 = A 11 ((A 0 47)).toNat ∧ (((¬ z1 = 4) ∧ (d_X12_key_1 A u 0)) ∨ ((z1 = 4) ∧ (d_X12_key_1 A u 1))))
def r_X12_key (A : St) (u : St) : Prop := tr_r_X12_key A u
theorem u_r_X12_key {A : St} {u : St} (h : tr_r_X12_key A u) : r_X12_key A u := h
def q_X12_key (A : St) (u : St) : Prop := r_X12_key A u ∧ IM u ∧ fr [11, 12, 13, 14] [3, 4, 5, 6, 7, 8, 9] A u ∧ CB u ∧ ((u 0 8 = 0 → A 0 5 ≤ u 0 4) ∧ A 0 4 ≤ u 0 4)
def ws_mb_X12_key : List Cond := .code yX12_key cX12_key 2 none :: WX
set_option maxHeartbeats 4000000 in
set_option maxRecDepth 100000 in
theorem mb_X12_key (l : Launch) (dC : Nat → ClassId) (dI : Nat → Nat → Nat) (cB cI cJ cZ cQ : ClassId) (q : Nat → Nat) (A : St) (hI : IM A) (hcCB : CB A) : XMv l yX12_key ws_mb_X12_key ({ frames := 4, cells := 0, slots := 0, locals := 91 } : Room) (dC, dI) (tyA cB cI cJ cZ cQ) (WM cI cJ cZ q) A [.ref (q 0)] (fun u => r_X12_key A u ∧ IM u ∧ fr [11, 12, 13, 14] [3, 4, 5, 6, 7, 8, 9] A u ∧ CB u ∧ ((u 0 8 = 0 → A 0 5 ≤ u 0 4) ∧ A 0 4 ≤ u 0 4)) := by
  refine x_metv (cc := cX12_key) (maxL := 2) WM_adr (by decide +kernel) rfl (Nat.le_of_ble_eq_true rfl) (fun p e s m below meth c Q AS ls hx hb hml hown hts hK hDD hA0 hP hS hl RET => ?_)
  have hown : s.vm.findClass RX12 = some m.cls := hown
  have hl : lv_has ls 2 [(0, .ref (q 0))] := hl
  have hiX12 : ∀ w ∈ u_ws RX12 TX12 85, w ∈ ws_mb_X12_key := fun w h => List.mem_cons_of_mem _ (wx_lay w h)
  obtain ⟨H, hHe⟩ : ∃ H : Heap, H = s.heap := ⟨_, rfl⟩
  rw [← hHe] at hP
  have hS : va_S AS s.heap H [] := by rw [hHe]; exact hS
  suffices hgo : ∀ locs : List Loc, va_S AS s.heap H locs → W p l e (headSpec ws_mb_X12_key ({ frames := 4, cells := 0, slots := 0, locals := 91 } : Room)).room s m [.ref (q 0)].toArray below meth c H locs 0 0 Q (F0 m 0 ls []) by
    have := hgo [] hS
    rw [hHe] at this
    exact this
  clear hS hHe
  intro locs hS
  have hle := CB.le hcCB
  refine lv_aload_n hx hb (dk_at dkX12_key_0 0 rfl) rfl (lv_at hl 0 rfl) ?_
  refine lv_aload_n hx hb (dk_at dkX12_key_0 1 rfl) rfl (lv_at hl 0 rfl) ?_
  refine va_get (D := (dC, dI)) (ci := 12) (v := .ref (q 11)) (C := RX12) (T := TX12) (N := 85) hx hb hts hiX12 hown hK hP 0 wm0 rfl 22 (by decide) (hts _ (List.mem_cons_of_mem _ wlq_1_14)) (fun _ h9 => h9) rfl (dk_at dkX12_key_0 2 rfl) ?_
  refine lv_aload_n hx hb (dk_at dkX12_key_0 3 rfl) rfl (lv_at hl 0 rfl) ?_
  refine va_get (D := (dC, dI)) (ci := 12) (v := .int (iI (A 0 47))) (C := RX12) (T := TX12) (N := 85) hx hb hts hiX12 hown hK hP 0 wm0 rfl 47 (by decide) (hts _ (List.mem_cons_of_mem _ wlq_1_12)) (fun _ h9 => h9) rfl (dk_at dkX12_key_0 4 rfl) ?_
  have r_A_0_47 : (0 : Int) ≤ (A 0 47) ∧ (A 0 47) ≤ 1 := hI 0 47
  refine x_iald hx hb hK hP 11 1 wm11 rfl (by omega) (by decide) (dk_at dkX12_key_0 5 rfl) (fun z1 hz1 => ?_)
  have rz1 : (0 : Int) ≤ z1 ∧ z1 ≤ 4 := by rw [hz1]; exact hI 11 _
  have gz1 := Hd.mk hz1
  have hz1 : z1 = A 11 ((A 0 47)).toNat := hz1
  refine lv_iconst (v := iI 4) hx hb (dk_at dkX12_key_0 6 rfl) (by decide +kernel) ?_
  have J19_3 : ∀ (z4 : Int) (H : Heap) (locs : List Loc) (ls : Array Slot), (0 ≤ z4 ∧ z4 ≤ 1) → ((z4 = 0 ∧ ¬ z1 = 4) ∨ (z4 = 1 ∧ z1 = 4)) → (∀ (u : St), (d_X12_key_1 A u z4) → r_X12_key A u) → va_P (dC, dI) vwCl (WM cI cJ cZ q A) H → va_S AS s.heap H locs → lv_has ls 2 [(0, .ref (q 0))] → W p l e (headSpec ws_mb_X12_key ({ frames := 4, cells := 0, slots := 0, locals := 91 } : Room)).room s m [.ref (q 0)].toArray below meth c H locs 0 0 Q (F0 m 19 ls [.int (iI z4), .ref (q 0)]) := by
    intro z4 H locs ls f6 f7 hk1 hP hS hl
    have r_A_0_4 : (0 : Int) ≤ (A 0 4) ∧ (A 0 4) ≤ 1600 := hI 0 4
    have r_A_0_5 : (0 : Int) ≤ (A 0 5) ∧ (A 0 5) ≤ 1600 := hI 0 5
    refine x_calli (As := [.int (iI z4)]) (rest := []) ⟨hx, hb, hml, hown, hts⟩ (mb_X12_counts l dC dI cB cI cJ cZ cQ q _ z4 hI f6 hcCB) (cwV 1 hts (goodV wlq_2_32 wlq_2_33 wlq_2_34 wlq_0_8 wlq_2_20) rfl rfl rfl (by decide +kernel) ⟨Nat.le_of_ble_eq_true rfl, Nat.le_of_ble_eq_true rfl⟩) hK hDD hA0 hP hS 0 12 wm0 rfl rfl hl.1 (Nat.le_of_ble_eq_true rfl) (dk_at dkX12_key_0 11 rfl) (fun z8 A9 H locs hw10 hP hS => ?_)
    have ghw10 : q_X12_counts z4 A z8 A9 := hw10
    obtain ⟨_, hI, hf11, hw10⟩ := hw10
    obtain ⟨hc12, hw10⟩ := hw10
    have r_A9_0_4 : (0 : Int) ≤ (A9 0 4) ∧ (A9 0 4) ≤ 1600 := hI 0 4
    have r_A9_0_8 : (0 : Int) ≤ (A9 0 8) ∧ (A9 0 8) ≤ 5 := hI 0 8
    have rz8 : 0 ≤ z8 ∧ z8 ≤ 1 := hw10.1
    refine lv_if_ne (tgt := 26) hx hb (dk_at dkX12_key_0 12 rfl) (by decide) (fun c13 => ?_) (fun c13 => ?_)
    · have c13 : ¬ z8 = 0 := mt (i_eq0 (rb rz8 (by decide) (by decide))).mpr c13
      refine lv_iconst (v := iI 4) hx hb (dk_at dkX12_key_0 14 rfl) (by decide +kernel) ?_
      refine lv_aload_n hx hb (dk_at dkX12_key_0 15 rfl) rfl (lv_at hl 0 rfl) ?_
      have e_A9_47 : A9 0 47 = (A 0 47) := (hf11.2 47 rfl)
      refine va_get (D := (dC, dI)) (ci := 12) (v := .int (iI (A9 0 47))) (C := RX12) (T := TX12) (N := 85) hx hb hts hiX12 hown hK hP 0 wm0 rfl 47 (by decide) (hts _ (List.mem_cons_of_mem _ wlq_1_12)) (fun _ h9 => h9) rfl (dk_at dkX12_key_1 0 rfl) ?_
      refine tp_i (y := iI (A 0 47)) (congrArg iI e_A9_47) ?_
      refine x_mulv (v := 4 * (A 0 47)) hx hb (dk_at dkX12_key_1 1 rfl) (by omega) ?_
      refine lv_aload_n hx hb (dk_at dkX12_key_1 2 rfl) rfl (lv_at hl 0 rfl) ?_
      refine va_get (D := (dC, dI)) (ci := 12) (v := .ref (q 11)) (C := RX12) (T := TX12) (N := 85) hx hb hts hiX12 hown hK hP 0 wm0 rfl 22 (by decide) (hts _ (List.mem_cons_of_mem _ wlq_1_14)) (fun _ h9 => h9) rfl (dk_at dkX12_key_1 3 rfl) ?_
      refine lv_aload_n hx hb (dk_at dkX12_key_1 4 rfl) rfl (lv_at hl 0 rfl) ?_
      refine va_get (D := (dC, dI)) (ci := 12) (v := .int (iI (A9 0 47))) (C := RX12) (T := TX12) (N := 85) hx hb hts hiX12 hown hK hP 0 wm0 rfl 47 (by decide) (hts _ (List.mem_cons_of_mem _ wlq_1_12)) (fun _ h9 => h9) rfl (dk_at dkX12_key_1 5 rfl) ?_
      refine tp_i (y := iI (A 0 47)) (congrArg iI e_A9_47) ?_
      have a_A9_11 : A9 11 = A 11 := (hf11.1 11 (by decide) rfl)
      refine x_iald hx hb hK hP 11 1 wm11 rfl (by omega) (by decide) (dk_at dkX12_key_1 6 rfl) (fun z14 hz14 => ?_)
      have rz14 : (0 : Int) ≤ z14 ∧ z14 ≤ 4 := by rw [hz14]; exact hI 11 _
      have gz14 := Hd.mk hz14
      have hz14 : z14 = A 11 ((A 0 47)).toNat := hz14.trans (congrFun a_A9_11 _)
      have ez14 : z14 = z1 := hz14.trans hz1.symm
      refine x_addv (v := 4 * (A 0 47) + z14) hx hb (dk_at dkX12_key_1 7 rfl) (by omega) ?_
      refine lv_istore_n (lv' := [(1, .int (iI (4 * (A 0 47) + z14))), (0, .ref (q 0))]) hx hb (dk_at dkX12_key_1 8 rfl) rfl hl (by decide) rfl (fun ls hl => ?_)
      refine lv_aload_n hx hb (dk_at dkX12_key_1 9 rfl) rfl (lv_at hl 1 rfl) ?_
      refine va_get (D := (dC, dI)) (ci := 12) (v := .ref (q 12)) (C := RX12) (T := TX12) (N := 85) hx hb hts hiX12 hown hK hP 0 wm0 rfl 23 (by decide) (hts _ (List.mem_cons_of_mem _ wlq_1_23)) (fun _ h9 => h9) rfl (dk_at dkX12_key_1 10 rfl) ?_
      refine lv_iload_n hx hb (dk_at dkX12_key_1 11 rfl) rfl (lv_at hl 0 rfl) ?_
      refine lv_aload_n hx hb (dk_at dkX12_key_1 12 rfl) rfl (lv_at hl 1 rfl) ?_
      refine x_calll (As := []) (rest := [.int (iI (4 * (A 0 47) + z14)), .ref (q 12)]) ⟨hx, hb, hml, hown, hts⟩ (mb_X12_fresh l dC dI cB cI cJ cZ cQ q _ hI hc12) (cwV 0 hts (goodV wlq_2_35 wlq_2_36 wlq_2_37 wlq_0_8 wlq_2_22) rfl rfl rfl (by decide +kernel) ⟨Nat.le_of_ble_eq_true rfl, Nat.le_of_ble_eq_true rfl⟩) hK hDD hA0 hP hS 0 12 wm0 rfl rfl hl.1 (Nat.le_of_ble_eq_true rfl) (dk_at dkX12_key_1 13 rfl) (fun z15 A16 H locs hw17 hP hS => ?_)
      have ghw17 : q_X12_fresh A9 z15 A16 := hw17
      obtain ⟨_, hI, hf18, hw17⟩ := hw17
      obtain ⟨hc19, hw17⟩ := hw17
      have r_A16_0_4 : (0 : Int) ≤ (A16 0 4) ∧ (A16 0 4) ≤ 1600 := hI 0 4
      refine x_last hx hb hK hP hDD hS 12 2 wm12 rfl (by omega) (by decide) (dk_at dkX12_key_1 14 rfl) ws12 (fun H locs hP hS => ?_)
      have hI := hI.st (j := 12) (i := (4 * (A 0 47) + z14).toNat) (v := z15) (show (-9223372036854775808 : Int) ≤ z15 ∧ z15 ≤ 9223372036854775807 from (by omega))
      refine lv_aload_n hx hb (dk_at dkX12_key_1 15 rfl) rfl (lv_at hl 1 rfl) ?_
      refine va_get (D := (dC, dI)) (ci := 12) (v := .ref (q 13)) (C := RX12) (T := TX12) (N := 85) hx hb hts hiX12 hown hK hP 0 wm0 rfl 24 (by decide) (hts _ (List.mem_cons_of_mem _ wlq_2_58)) (fun _ h9 => h9) rfl (dk_at dkX12_key_2 0 rfl) ?_
      refine lv_iload_n hx hb (dk_at dkX12_key_2 1 rfl) rfl (lv_at hl 0 rfl) ?_
      refine lv_aload_n hx hb (dk_at dkX12_key_2 2 rfl) rfl (lv_at hl 1 rfl) ?_
      obtain ⟨A20, hA20⟩ : ∃ A20 : St, A20 = (stA A16 12 (4 * (A 0 47) + z14).toNat z15) := ⟨_, rfl⟩
      rw [← hA20] at hP hI
      have e_A20_4 : A20 0 4 = (A16 0 4) := by rw [hA20]; exact rfl
      refine x_calli (As := []) (rest := [.int (iI (4 * (A 0 47) + z14)), .ref (q 13)]) ⟨hx, hb, hml, hown, hts⟩ (mb_X12_within l dC dI cB cI cJ cZ cQ q _ hI (CB.fr hc19 (fr_def hA20 (fr.st (fr.rf (M := [12]) (N := [])) (by decide) rfl)) rfl rfl)) (cwV 0 hts (goodV wlq_3_0 wlq_3_1 wlq_3_2 wlq_0_8 wlq_2_56) rfl rfl rfl (by decide +kernel) ⟨Nat.le_of_ble_eq_true rfl, Nat.le_of_ble_eq_true rfl⟩) hK hDD hA0 hP hS 0 12 wm0 rfl rfl hl.1 (Nat.le_of_ble_eq_true rfl) (dk_at dkX12_key_2 3 rfl) (fun z21 A22 H locs hw23 hP hS => ?_)
      have ghw23 : q_X12_within A20 z21 A22 := hw23
      obtain ⟨_, hI, hf24, hw23⟩ := hw23
      obtain ⟨hc25, hw23⟩ := hw23
      have r_A22_0_4 : (0 : Int) ≤ (A22 0 4) ∧ (A22 0 4) ≤ 1600 := hI 0 4
      refine x_iast hx hb hK hP hDD hS 13 1 wm13 rfl (by omega) (by decide) (dk_at dkX12_key_2 4 rfl) ws13 (fun H locs hP hS => ?_)
      have hI := hI.st (j := 13) (i := (4 * (A 0 47) + z14).toNat) (v := z21) (show (0 : Int) ≤ z21 ∧ z21 ≤ 40 from (by omega))
      refine lv_aload_n hx hb (dk_at dkX12_key_2 5 rfl) rfl (lv_at hl 1 rfl) ?_
      refine va_get (D := (dC, dI)) (ci := 12) (v := .ref (q 14)) (C := RX12) (T := TX12) (N := 85) hx hb hts hiX12 hown hK hP 0 wm0 rfl 25 (by decide) (hts _ (List.mem_cons_of_mem _ wlq_2_59)) (fun _ h9 => h9) rfl (dk_at dkX12_key_2 6 rfl) ?_
      refine lv_iload_n hx hb (dk_at dkX12_key_2 7 rfl) rfl (lv_at hl 0 rfl) ?_
      refine lv_iconst (v := iI 0) hx hb (dk_at dkX12_key_2 8 rfl) (by decide +kernel) ?_
      refine x_iast hx hb hK hP hDD hS 14 1 wm14 rfl (by omega) (by decide) (dk_at dkX12_key_2 9 rfl) ws14 (fun H locs hP hS => ?_)
      have hI := hI.st (j := 14) (i := (4 * (A 0 47) + z14).toNat) (v := 0) (show (0 : Int) ≤ 0 ∧ 0 ≤ 6 from (by omega))
      refine lv_aload_n hx hb (dk_at dkX12_key_2 10 rfl) rfl (lv_at hl 1 rfl) ?_
      refine va_get (D := (dC, dI)) (ci := 12) (v := .int (iI (A22 0 8))) (C := RX12) (T := TX12) (N := 85) hx hb hts hiX12 hown hK hP 0 wm0 rfl 8 (by decide) (hts _ (List.mem_cons_of_mem _ wlq_0_16)) (fun _ h9 => h9) rfl (dk_at dkX12_key_2 11 rfl) ?_
      have r_A22_0_8 : (0 : Int) ≤ (A22 0 8) ∧ (A22 0 8) ≤ 5 := hI 0 8
      refine lv_if_ne (tgt := 90) hx hb (dk_at dkX12_key_2 12 rfl) (by decide) (fun c26 => ?_) (fun c26 => ?_)
      · have c26 : ¬ (A22 0 8) = 0 := mt (i_eq0 (rb r_A22_0_8 (by decide) (by decide))).mpr c26
        obtain ⟨A27, hA27⟩ : ∃ A27 : St, A27 = (stA (stA A22 13 (4 * (A 0 47) + z14).toNat z21) 14 (4 * (A 0 47) + z14).toNat 0) := ⟨_, rfl⟩
        rw [← hA27] at hP hI
        have e_A27_4 : A27 0 4 = (A22 0 4) := by rw [hA27]; exact rfl
        have e_A27_8 : A27 0 8 = (A22 0 8) := by rw [hA27]; exact rfl
        exact RET _ _ _ _ _ ⟨hk1 _ (u_d_X12_key_1 ⟨f6, ⟨z8, A9, ghw10, (Or.inl ⟨c13, ⟨z14, gz14.out, ⟨z15, A16, ghw17, ⟨A20, hA20, ⟨z21, A22, ghw23, (Or.inl ⟨c26, ⟨A27, hA27, rfl⟩⟩)⟩⟩⟩⟩⟩)⟩⟩), hI, fr_def hA27 (fr.st (fr.st (fr.trans (fr_def hA20 (fr.st (fr.trans (fr.trans (fr.rf) hf11 rfl rfl) hf18 rfl rfl) (by decide) rfl)) hf24 rfl rfl) (by decide) rfl) (by decide) rfl), (CB.fr hc25 (fr_def hA27 (fr.st (fr.st (fr.rf (M := [13, 14]) (N := [])) (by decide) rfl) (by decide) rfl)) rfl rfl), by omega⟩ hP hS (dk_at dkX12_key_3 6 rfl)
      · have c26 : (A22 0 8) = 0 := (i_eq0 (rb r_A22_0_8 (by decide) (by decide))).mp c26
        refine lv_aload_n hx hb (dk_at dkX12_key_2 13 rfl) rfl (lv_at hl 1 rfl) ?_
        refine va_get (D := (dC, dI)) (ci := 12) (v := .ref (q 11)) (C := RX12) (T := TX12) (N := 85) hx hb hts hiX12 hown hK hP 0 wm0 rfl 22 (by decide) (hts _ (List.mem_cons_of_mem _ wlq_1_14)) (fun _ h9 => h9) rfl (dk_at dkX12_key_2 14 rfl) ?_
        refine lv_aload_n hx hb (dk_at dkX12_key_2 15 rfl) rfl (lv_at hl 1 rfl) ?_
        have e_A16_47 : A16 0 47 = (A 0 47) := (hf18.2 47 rfl).trans e_A9_47
        have e_A20_47 : A20 0 47 = (A 0 47) := by rw [hA20]; exact e_A16_47
        have e_A22_47 : A22 0 47 = (A 0 47) := (hf24.2 47 rfl).trans e_A20_47
        refine va_get (D := (dC, dI)) (ci := 12) (v := .int (iI (A22 0 47))) (C := RX12) (T := TX12) (N := 85) hx hb hts hiX12 hown hK hP 0 wm0 rfl 47 (by decide) (hts _ (List.mem_cons_of_mem _ wlq_1_12)) (fun _ h9 => h9) rfl (dk_at dkX12_key_3 0 rfl) ?_
        refine tp_i (y := iI (A 0 47)) (congrArg iI e_A22_47) ?_
        refine lv_dup2_11 hx hb (dk_at dkX12_key_3 1 rfl) rfl rfl ?_
        have a_A16_11 : A16 11 = A 11 := (hf18.1 11 (by decide) rfl).trans a_A9_11
        have a_A20_11 : A20 11 = A 11 := by rw [hA20]; exact a_A16_11
        have a_A22_11 : A22 11 = A 11 := (hf24.1 11 (by decide) rfl).trans a_A20_11
        refine x_iald hx hb hK hP 11 1 wm11 rfl (by omega) (by decide) (dk_at dkX12_key_3 2 rfl) (fun z28 hz28 => ?_)
        have rz28 : (0 : Int) ≤ z28 ∧ z28 ≤ 4 := by rw [hz28]; exact hI 11 _
        have gz28 := Hd.mk hz28
        have hz28 : z28 = A 11 ((A 0 47)).toNat := hz28.trans (congrFun a_A22_11 _)
        have ez28 : z28 = z1 := hz28.trans hz1.symm
        refine lv_iconst (v := iI 1) hx hb (dk_at dkX12_key_3 3 rfl) (by decide +kernel) ?_
        refine x_addv (v := z28 + 1) hx hb (dk_at dkX12_key_3 4 rfl) (by omega) ?_
        refine x_iast hx hb hK hP hDD hS 11 1 wm11 rfl (by omega) (by decide) (dk_at dkX12_key_3 5 rfl) ws11 (fun H locs hP hS => ?_)
        have hI := hI.st (j := 11) (i := ((A 0 47)).toNat) (v := z28 + 1) (show (0 : Int) ≤ z28 + 1 ∧ z28 + 1 ≤ 4 from (by omega))
        obtain ⟨A29, hA29⟩ : ∃ A29 : St, A29 = (stA (stA (stA A22 13 (4 * (A 0 47) + z14).toNat z21) 14 (4 * (A 0 47) + z14).toNat 0) 11 ((A 0 47)).toNat (z28 + 1)) := ⟨_, rfl⟩
        rw [← hA29] at hP hI
        have e_A29_4 : A29 0 4 = (A22 0 4) := by rw [hA29]; exact rfl
        have e_A29_8 : A29 0 8 = (A22 0 8) := by rw [hA29]; exact rfl
        exact RET _ _ _ _ _ ⟨hk1 _ (u_d_X12_key_1 ⟨f6, ⟨z8, A9, ghw10, (Or.inl ⟨c13, ⟨z14, gz14.out, ⟨z15, A16, ghw17, ⟨A20, hA20, ⟨z21, A22, ghw23, (Or.inr ⟨c26, ⟨z28, gz28.out, ⟨A29, hA29, rfl⟩⟩⟩)⟩⟩⟩⟩⟩)⟩⟩), hI, fr_def hA29 (fr.st (fr.st (fr.st (fr.trans (fr_def hA20 (fr.st (fr.trans (fr.trans (fr.rf) hf11 rfl rfl) hf18 rfl rfl) (by decide) rfl)) hf24 rfl rfl) (by decide) rfl) (by decide) rfl) (by decide) rfl), (CB.fr hc25 (fr_def hA29 (fr.st (fr.st (fr.st (fr.rf (M := [11, 13, 14]) (N := [])) (by decide) rfl) (by decide) rfl) (by decide) rfl)) rfl rfl), by omega⟩ hP hS (dk_at dkX12_key_3 6 rfl)
    · have c13 : z8 = 0 := (i_eq0 (rb rz8 (by decide) (by decide))).mp c13
      exact RET _ _ _ _ _ ⟨hk1 _ (u_d_X12_key_1 ⟨f6, ⟨z8, A9, ghw10, (Or.inr ⟨c13, rfl⟩)⟩⟩), hI, fr.trans (fr.rf) hf11 rfl rfl, hc12, by omega⟩ hP hS (dk_at dkX12_key_0 13 rfl)
  refine lv_icmp_ne (tgt := 18) hx hb (dk_at dkX12_key_0 7 rfl) (by decide) (fun c2 => ?_) (fun c2 => ?_)
  · have c2 : ¬ z1 = 4 := mt (i_eq (rb rz1 (by decide) (by decide)) ⟨by decide, by decide⟩).mpr c2
    refine lv_iconst (v := iI 0) hx hb (dk_at dkX12_key_0 10 rfl) (by decide +kernel) ?_
    exact J19_3 0 _ _ _ (by omega) (by omega) (fun uq hq => (u_r_X12_key ⟨z1, gz1.out, (Or.inl ⟨c2, hq⟩)⟩)) hP hS (lv_sub hl [0] rfl)
  · have c2 : z1 = 4 := (i_eq (rb rz1 (by decide) (by decide)) ⟨by decide, by decide⟩).mp c2
    refine lv_iconst (v := iI 1) hx hb (dk_at dkX12_key_0 8 rfl) (by decide +kernel) ?_
    refine lv_goto (tgt := 19) hx hb (dk_at dkX12_key_0 9 rfl) (by decide) ?_
    exact J19_3 1 _ _ _ (by omega) (by omega) (fun uq hq => (u_r_X12_key ⟨z1, gz1.out, (Or.inr ⟨c2, hq⟩)⟩)) hP hS (lv_sub hl [0] rfl)

abbrev tr_d_X12_person_1 (A : St) (u : St) (z4 : Int) : Prop := ((0 ≤ z4 ∧ z4 ≤ 1) ∧ (∃ z8 : Int, ∃ A9 : St, q_X12_counts z4 A z8 A9 ∧ (((¬ z8 = 0) ∧ (∃ z14 : Int, z14 = A9 16 ((A 0 47)).toNat ∧ (∃ z15 : Int, ∃ A16 : St, q_X12_fresh A9 z15 A16 ∧ (∃ A20 : St, A20 = (stA A16 17 (3 * (A 0 47) + z14).toNat z15) ∧ (∃ A21 : St, q_X12_must_ 24948 A20 A21 ∧ (∃ z25 : Int, ∃ A26 : St, q_X12_asked_0 0 A21 z25 A26 ∧ (((¬ (A26 0 8) = 0) ∧ (∃ A31 : St, A31 = (stA A26 18 (3 * (A 0 47) + z14).toNat z25) ∧ (u = A31))) ∨ (((A26 0 8) = 0) ∧ (∃ z32 : Int, z32 = (stA A26 18 (3 * (A 0 47) + z14).toNat z25) 16 ((A 0 47)).toNat ∧ (∃ A33 : St, A33 = (stA (stA A26 18 (3 * (A 0 47) + z14).toNat z25) 16 ((A 0 47)).toNat (z32 + 1)) ∧ (u = A33))))))))))) ∨ ((z8 = 0) ∧ (u = A9)))))
def d_X12_person_1 (A : St) (u : St) (z4 : Int) : Prop := tr_d_X12_person_1 A u z4
theorem u_d_X12_person_1 {A : St} {u : St} {z4 : Int} (h : tr_d_X12_person_1 A u z4) : d_X12_person_1 A u z4 := h
abbrev tr_r_X12_person (A : St) (u : St) : Prop := (∃ z1 : Int, z1 = A 16 ((A 0 47)).toNat ∧ (((¬ z1 = 3) ∧ (d_X12_person_1 A u 0)) ∨ ((z1 = 3) ∧ (d_X12_person_1 A u 1))))
def r_X12_person (A : St) (u : St) : Prop := tr_r_X12_person A u
theorem u_r_X12_person {A : St} {u : St} (h : tr_r_X12_person A u) : r_X12_person A u := h
def q_X12_person (A : St) (u : St) : Prop := r_X12_person A u ∧ IM u ∧ fr [16, 17, 18] [3, 4, 5, 6, 7, 8, 9] A u ∧ CB u ∧ ((u 0 8 = 0 → A 0 5 ≤ u 0 4) ∧ A 0 4 ≤ u 0 4)
def ws_mb_X12_person : List Cond := .code yX12_person cX12_person 2 none :: WX
set_option maxHeartbeats 4000000 in
set_option maxRecDepth 100000 in
theorem mb_X12_person (l : Launch) (dC : Nat → ClassId) (dI : Nat → Nat → Nat) (cB cI cJ cZ cQ : ClassId) (q : Nat → Nat) (A : St) (hI : IM A) (hcCB : CB A) : XMv l yX12_person ws_mb_X12_person ({ frames := 3, cells := 0, slots := 0, locals := 70 } : Room) (dC, dI) (tyA cB cI cJ cZ cQ) (WM cI cJ cZ q) A [.ref (q 0)] (fun u => r_X12_person A u ∧ IM u ∧ fr [16, 17, 18] [3, 4, 5, 6, 7, 8, 9] A u ∧ CB u ∧ ((u 0 8 = 0 → A 0 5 ≤ u 0 4) ∧ A 0 4 ≤ u 0 4)) := by
  refine x_metv (cc := cX12_person) (maxL := 2) WM_adr (by decide +kernel) rfl (Nat.le_of_ble_eq_true rfl) (fun p e s m below meth c Q AS ls hx hb hml hown hts hK hDD hA0 hP hS hl RET => ?_)
  have hown : s.vm.findClass RX12 = some m.cls := hown
  have hl : lv_has ls 2 [(0, .ref (q 0))] := hl
  have hiX12 : ∀ w ∈ u_ws RX12 TX12 85, w ∈ ws_mb_X12_person := fun w h => List.mem_cons_of_mem _ (wx_lay w h)
  obtain ⟨H, hHe⟩ : ∃ H : Heap, H = s.heap := ⟨_, rfl⟩
  rw [← hHe] at hP
  have hS : va_S AS s.heap H [] := by rw [hHe]; exact hS
  suffices hgo : ∀ locs : List Loc, va_S AS s.heap H locs → W p l e (headSpec ws_mb_X12_person ({ frames := 3, cells := 0, slots := 0, locals := 70 } : Room)).room s m [.ref (q 0)].toArray below meth c H locs 0 0 Q (F0 m 0 ls []) by
    have := hgo [] hS
    rw [hHe] at this
    exact this
  clear hS hHe
  intro locs hS
  have hle := CB.le hcCB
  refine lv_aload_n hx hb (dk_at dkX12_person_0 0 rfl) rfl (lv_at hl 0 rfl) ?_
  refine lv_aload_n hx hb (dk_at dkX12_person_0 1 rfl) rfl (lv_at hl 0 rfl) ?_
  refine va_get (D := (dC, dI)) (ci := 12) (v := .ref (q 16)) (C := RX12) (T := TX12) (N := 85) hx hb hts hiX12 hown hK hP 0 wm0 rfl 27 (by decide) (hts _ (List.mem_cons_of_mem _ wlq_1_15)) (fun _ h9 => h9) rfl (dk_at dkX12_person_0 2 rfl) ?_
  refine lv_aload_n hx hb (dk_at dkX12_person_0 3 rfl) rfl (lv_at hl 0 rfl) ?_
  refine va_get (D := (dC, dI)) (ci := 12) (v := .int (iI (A 0 47))) (C := RX12) (T := TX12) (N := 85) hx hb hts hiX12 hown hK hP 0 wm0 rfl 47 (by decide) (hts _ (List.mem_cons_of_mem _ wlq_1_12)) (fun _ h9 => h9) rfl (dk_at dkX12_person_0 4 rfl) ?_
  have r_A_0_47 : (0 : Int) ≤ (A 0 47) ∧ (A 0 47) ≤ 1 := hI 0 47
  refine x_iald hx hb hK hP 16 1 wm16 rfl (by omega) (by decide) (dk_at dkX12_person_0 5 rfl) (fun z1 hz1 => ?_)
  have rz1 : (0 : Int) ≤ z1 ∧ z1 ≤ 3 := by rw [hz1]; exact hI 16 _
  have gz1 := Hd.mk hz1
  have hz1 : z1 = A 16 ((A 0 47)).toNat := hz1
  refine lv_iconst (v := iI 3) hx hb (dk_at dkX12_person_0 6 rfl) (by decide +kernel) ?_
  have J19_3 : ∀ (z4 : Int) (H : Heap) (locs : List Loc) (ls : Array Slot), (0 ≤ z4 ∧ z4 ≤ 1) → ((z4 = 0 ∧ ¬ z1 = 3) ∨ (z4 = 1 ∧ z1 = 3)) → (∀ (u : St), (d_X12_person_1 A u z4) → r_X12_person A u) → va_P (dC, dI) vwCl (WM cI cJ cZ q A) H → va_S AS s.heap H locs → lv_has ls 2 [(0, .ref (q 0))] → W p l e (headSpec ws_mb_X12_person ({ frames := 3, cells := 0, slots := 0, locals := 70 } : Room)).room s m [.ref (q 0)].toArray below meth c H locs 0 0 Q (F0 m 19 ls [.int (iI z4), .ref (q 0)]) := by
    intro z4 H locs ls f6 f7 hk1 hP hS hl
    have r_A_0_4 : (0 : Int) ≤ (A 0 4) ∧ (A 0 4) ≤ 1600 := hI 0 4
    have r_A_0_5 : (0 : Int) ≤ (A 0 5) ∧ (A 0 5) ≤ 1600 := hI 0 5
    refine x_calli (As := [.int (iI z4)]) (rest := []) ⟨hx, hb, hml, hown, hts⟩ (mb_X12_counts l dC dI cB cI cJ cZ cQ q _ z4 hI f6 hcCB) (cwV 1 hts (goodV wlq_2_32 wlq_2_33 wlq_2_34 wlq_0_8 wlq_2_20) rfl rfl rfl (by decide +kernel) ⟨Nat.le_of_ble_eq_true rfl, Nat.le_of_ble_eq_true rfl⟩) hK hDD hA0 hP hS 0 12 wm0 rfl rfl hl.1 (Nat.le_of_ble_eq_true rfl) (dk_at dkX12_person_0 11 rfl) (fun z8 A9 H locs hw10 hP hS => ?_)
    have ghw10 : q_X12_counts z4 A z8 A9 := hw10
    obtain ⟨_, hI, hf11, hw10⟩ := hw10
    obtain ⟨hc12, hw10⟩ := hw10
    have r_A9_0_4 : (0 : Int) ≤ (A9 0 4) ∧ (A9 0 4) ≤ 1600 := hI 0 4
    have r_A9_0_8 : (0 : Int) ≤ (A9 0 8) ∧ (A9 0 8) ≤ 5 := hI 0 8
    have rz8 : 0 ≤ z8 ∧ z8 ≤ 1 := hw10.1
    refine lv_if_ne (tgt := 26) hx hb (dk_at dkX12_person_0 12 rfl) (by decide) (fun c13 => ?_) (fun c13 => ?_)
    · have c13 : ¬ z8 = 0 := mt (i_eq0 (rb rz8 (by decide) (by decide))).mpr c13
      refine lv_iconst (v := iI 3) hx hb (dk_at dkX12_person_0 14 rfl) (by decide +kernel) ?_
      refine lv_aload_n hx hb (dk_at dkX12_person_0 15 rfl) rfl (lv_at hl 0 rfl) ?_
      have e_A9_47 : A9 0 47 = (A 0 47) := (hf11.2 47 rfl)
      refine va_get (D := (dC, dI)) (ci := 12) (v := .int (iI (A9 0 47))) (C := RX12) (T := TX12) (N := 85) hx hb hts hiX12 hown hK hP 0 wm0 rfl 47 (by decide) (hts _ (List.mem_cons_of_mem _ wlq_1_12)) (fun _ h9 => h9) rfl (dk_at dkX12_person_1 0 rfl) ?_
      refine tp_i (y := iI (A 0 47)) (congrArg iI e_A9_47) ?_
      refine x_mulv (v := 3 * (A 0 47)) hx hb (dk_at dkX12_person_1 1 rfl) (by omega) ?_
      refine lv_aload_n hx hb (dk_at dkX12_person_1 2 rfl) rfl (lv_at hl 0 rfl) ?_
      refine va_get (D := (dC, dI)) (ci := 12) (v := .ref (q 16)) (C := RX12) (T := TX12) (N := 85) hx hb hts hiX12 hown hK hP 0 wm0 rfl 27 (by decide) (hts _ (List.mem_cons_of_mem _ wlq_1_15)) (fun _ h9 => h9) rfl (dk_at dkX12_person_1 3 rfl) ?_
      refine lv_aload_n hx hb (dk_at dkX12_person_1 4 rfl) rfl (lv_at hl 0 rfl) ?_
      refine va_get (D := (dC, dI)) (ci := 12) (v := .int (iI (A9 0 47))) (C := RX12) (T := TX12) (N := 85) hx hb hts hiX12 hown hK hP 0 wm0 rfl 47 (by decide) (hts _ (List.mem_cons_of_mem _ wlq_1_12)) (fun _ h9 => h9) rfl (dk_at dkX12_person_1 5 rfl) ?_
      refine tp_i (y := iI (A 0 47)) (congrArg iI e_A9_47) ?_
      have a_A9_16 : A9 16 = A 16 := (hf11.1 16 (by decide) rfl)
      refine x_iald hx hb hK hP 16 1 wm16 rfl (by omega) (by decide) (dk_at dkX12_person_1 6 rfl) (fun z14 hz14 => ?_)
      have rz14 : (0 : Int) ≤ z14 ∧ z14 ≤ 3 := by rw [hz14]; exact hI 16 _
      have gz14 := Hd.mk hz14
      have hz14 : z14 = A 16 ((A 0 47)).toNat := hz14.trans (congrFun a_A9_16 _)
      have ez14 : z14 = z1 := hz14.trans hz1.symm
      refine x_addv (v := 3 * (A 0 47) + z14) hx hb (dk_at dkX12_person_1 7 rfl) (by omega) ?_
      refine lv_istore_n (lv' := [(1, .int (iI (3 * (A 0 47) + z14))), (0, .ref (q 0))]) hx hb (dk_at dkX12_person_1 8 rfl) rfl hl (by decide) rfl (fun ls hl => ?_)
      refine lv_aload_n hx hb (dk_at dkX12_person_1 9 rfl) rfl (lv_at hl 1 rfl) ?_
      refine va_get (D := (dC, dI)) (ci := 12) (v := .ref (q 17)) (C := RX12) (T := TX12) (N := 85) hx hb hts hiX12 hown hK hP 0 wm0 rfl 28 (by decide) (hts _ (List.mem_cons_of_mem _ wlq_1_24)) (fun _ h9 => h9) rfl (dk_at dkX12_person_1 10 rfl) ?_
      refine lv_iload_n hx hb (dk_at dkX12_person_1 11 rfl) rfl (lv_at hl 0 rfl) ?_
      refine lv_aload_n hx hb (dk_at dkX12_person_1 12 rfl) rfl (lv_at hl 1 rfl) ?_
      refine x_calll (As := []) (rest := [.int (iI (3 * (A 0 47) + z14)), .ref (q 17)]) ⟨hx, hb, hml, hown, hts⟩ (mb_X12_fresh l dC dI cB cI cJ cZ cQ q _ hI hc12) (cwV 0 hts (goodV wlq_2_35 wlq_2_36 wlq_2_37 wlq_0_8 wlq_2_22) rfl rfl rfl (by decide +kernel) ⟨Nat.le_of_ble_eq_true rfl, Nat.le_of_ble_eq_true rfl⟩) hK hDD hA0 hP hS 0 12 wm0 rfl rfl hl.1 (Nat.le_of_ble_eq_true rfl) (dk_at dkX12_person_1 13 rfl) (fun z15 A16 H locs hw17 hP hS => ?_)
      have ghw17 : q_X12_fresh A9 z15 A16 := hw17
      obtain ⟨_, hI, hf18, hw17⟩ := hw17
      obtain ⟨hc19, hw17⟩ := hw17
      have r_A16_0_4 : (0 : Int) ≤ (A16 0 4) ∧ (A16 0 4) ≤ 1600 := hI 0 4
      refine x_last hx hb hK hP hDD hS 17 2 wm17 rfl (by omega) (by decide) (dk_at dkX12_person_1 14 rfl) ws17 (fun H locs hP hS => ?_)
      have hI := hI.st (j := 17) (i := (3 * (A 0 47) + z14).toNat) (v := z15) (show (-9223372036854775808 : Int) ≤ z15 ∧ z15 ≤ 9223372036854775807 from (by omega))
      refine lv_aload_n hx hb (dk_at dkX12_person_1 15 rfl) rfl (lv_at hl 1 rfl) ?_
      refine lv_ldc2 (v := 24948) hx hb hown (hts _ (List.mem_cons_of_mem _ wlq_0_47)) (dk_at dkX12_person_2 0 rfl) ?_
      refine tp_l (y := jI 24948) (by decide +kernel) ?_
      obtain ⟨A20, hA20⟩ : ∃ A20 : St, A20 = (stA A16 17 (3 * (A 0 47) + z14).toNat z15) := ⟨_, rfl⟩
      rw [← hA20] at hP hI
      have e_A20_4 : A20 0 4 = (A16 0 4) := by rw [hA20]; exact rfl
      refine x_callv (As := [.long (jI 24948)]) (rest := []) ⟨hx, hb, hml, hown, hts⟩ (mb_X12_must_ l dC dI cB cI cJ cZ cQ q _ 24948 hI ⟨by decide, by decide⟩ (CB.fr hc19 (fr_def hA20 (fr.st (fr.rf (M := [17]) (N := [])) (by decide) rfl)) rfl rfl)) (cwV 1 hts (goodV wlq_2_44 wlq_2_45 wlq_2_46 wlq_0_8 wlq_2_21) rfl rfl rfl (by decide +kernel) ⟨Nat.le_of_ble_eq_true rfl, Nat.le_of_ble_eq_true rfl⟩) hK hDD hA0 hP hS 0 12 wm0 rfl rfl hl.1 (Nat.le_of_ble_eq_true rfl) (dk_at dkX12_person_2 1 rfl) (fun A21 H locs hw22 hP hS => ?_)
      have ghw22 : q_X12_must_ 24948 A20 A21 := hw22
      obtain ⟨_, hI, hf23, hw22⟩ := hw22
      obtain ⟨hc24, hw22⟩ := hw22
      have r_A21_0_4 : (0 : Int) ≤ (A21 0 4) ∧ (A21 0 4) ≤ 1600 := hI 0 4
      refine lv_aload_n hx hb (dk_at dkX12_person_2 2 rfl) rfl (lv_at hl 1 rfl) ?_
      refine va_get (D := (dC, dI)) (ci := 12) (v := .ref (q 18)) (C := RX12) (T := TX12) (N := 85) hx hb hts hiX12 hown hK hP 0 wm0 rfl 29 (by decide) (hts _ (List.mem_cons_of_mem _ wlq_3_4)) (fun _ h9 => h9) rfl (dk_at dkX12_person_2 3 rfl) ?_
      refine lv_iload_n hx hb (dk_at dkX12_person_2 4 rfl) rfl (lv_at hl 0 rfl) ?_
      refine lv_aload_n hx hb (dk_at dkX12_person_2 5 rfl) rfl (lv_at hl 1 rfl) ?_
      refine lv_iconst (v := iI 0) hx hb (dk_at dkX12_person_2 6 rfl) (by decide +kernel) ?_
      have r_A21_0_3 : (0 : Int) ≤ (A21 0 3) ∧ (A21 0 3) ≤ 3 := hI 0 3
      have r_A21_0_7 : (-9223372036854775808 : Int) ≤ (A21 0 7) ∧ (A21 0 7) ≤ 9223372036854775807 := hI 0 7
      have r_A21_0_8 : (0 : Int) ≤ (A21 0 8) ∧ (A21 0 8) ≤ 5 := hI 0 8
      have e_A16_47 : A16 0 47 = (A 0 47) := (hf18.2 47 rfl).trans e_A9_47
      have e_A20_47 : A20 0 47 = (A 0 47) := by rw [hA20]; exact e_A16_47
      have e_A21_47 : A21 0 47 = (A 0 47) := (hf23.2 47 rfl).trans e_A20_47
      refine x_calli (As := [.int (iI 0)]) (rest := [.int (iI (3 * (A 0 47) + z14)), .ref (q 18)]) ⟨hx, hb, hml, hown, hts⟩ (mb_X12_asked_0 l dC dI cB cI cJ cZ cQ q _ 0 hI ⟨by decide, by decide⟩ hc24) (cwV 1 hts (goodV wlq_2_47 wlq_2_48 wlq_2_49 wlq_0_8 wlq_2_29) rfl rfl rfl (by decide +kernel) ⟨Nat.le_of_ble_eq_true rfl, Nat.le_of_ble_eq_true rfl⟩) hK hDD hA0 hP hS 0 12 wm0 rfl rfl hl.1 (Nat.le_of_ble_eq_true rfl) (dk_at dkX12_person_2 7 rfl) (fun z25 A26 H locs hw27 hP hS => ?_)
      have ghw27 : q_X12_asked_0 0 A21 z25 A26 := hw27
      obtain ⟨_, hI, hf28, hw27⟩ := hw27
      obtain ⟨hc29, hw27⟩ := hw27
      have r_A26_0_4 : (0 : Int) ≤ (A26 0 4) ∧ (A26 0 4) ≤ 1600 := hI 0 4
      have r_A26_0_8 : (0 : Int) ≤ (A26 0 8) ∧ (A26 0 8) ≤ 5 := hI 0 8
      refine x_iast hx hb hK hP hDD hS 18 1 wm18 rfl (by omega) (by decide) (dk_at dkX12_person_2 8 rfl) ws18 (fun H locs hP hS => ?_)
      have hI := hI.st (j := 18) (i := (3 * (A 0 47) + z14).toNat) (v := z25) (show (0 : Int) ≤ z25 ∧ z25 ≤ 7 from (by omega))
      refine lv_aload_n hx hb (dk_at dkX12_person_2 9 rfl) rfl (lv_at hl 1 rfl) ?_
      refine va_get (D := (dC, dI)) (ci := 12) (v := .int (iI (A26 0 8))) (C := RX12) (T := TX12) (N := 85) hx hb hts hiX12 hown hK hP 0 wm0 rfl 8 (by decide) (hts _ (List.mem_cons_of_mem _ wlq_0_16)) (fun _ h9 => h9) rfl (dk_at dkX12_person_2 10 rfl) ?_
      refine lv_if_ne (tgt := 91) hx hb (dk_at dkX12_person_2 11 rfl) (by decide) (fun c30 => ?_) (fun c30 => ?_)
      · have c30 : ¬ (A26 0 8) = 0 := mt (i_eq0 (rb r_A26_0_8 (by decide) (by decide))).mpr c30
        obtain ⟨A31, hA31⟩ : ∃ A31 : St, A31 = (stA A26 18 (3 * (A 0 47) + z14).toNat z25) := ⟨_, rfl⟩
        rw [← hA31] at hP hI
        have e_A31_4 : A31 0 4 = (A26 0 4) := by rw [hA31]; exact rfl
        have e_A31_8 : A31 0 8 = (A26 0 8) := by rw [hA31]; exact rfl
        exact RET _ _ _ _ _ ⟨hk1 _ (u_d_X12_person_1 ⟨f6, ⟨z8, A9, ghw10, (Or.inl ⟨c13, ⟨z14, gz14.out, ⟨z15, A16, ghw17, ⟨A20, hA20, ⟨A21, ghw22, ⟨z25, A26, ghw27, (Or.inl ⟨c30, ⟨A31, hA31, rfl⟩⟩)⟩⟩⟩⟩⟩⟩)⟩⟩), hI, fr_def hA31 (fr.st (fr.trans (fr.trans (fr_def hA20 (fr.st (fr.trans (fr.trans (fr.rf) hf11 rfl rfl) hf18 rfl rfl) (by decide) rfl)) hf23 rfl rfl) hf28 rfl rfl) (by decide) rfl), (CB.fr hc29 (fr_def hA31 (fr.st (fr.rf (M := [18]) (N := [])) (by decide) rfl)) rfl rfl), by omega⟩ hP hS (dk_at dkX12_person_3 5 rfl)
      · have c30 : (A26 0 8) = 0 := (i_eq0 (rb r_A26_0_8 (by decide) (by decide))).mp c30
        refine lv_aload_n hx hb (dk_at dkX12_person_2 12 rfl) rfl (lv_at hl 1 rfl) ?_
        refine va_get (D := (dC, dI)) (ci := 12) (v := .ref (q 16)) (C := RX12) (T := TX12) (N := 85) hx hb hts hiX12 hown hK hP 0 wm0 rfl 27 (by decide) (hts _ (List.mem_cons_of_mem _ wlq_1_15)) (fun _ h9 => h9) rfl (dk_at dkX12_person_2 13 rfl) ?_
        refine lv_aload_n hx hb (dk_at dkX12_person_2 14 rfl) rfl (lv_at hl 1 rfl) ?_
        have e_A26_47 : A26 0 47 = (A 0 47) := (hf28.2 47 rfl).trans e_A21_47
        refine va_get (D := (dC, dI)) (ci := 12) (v := .int (iI (A26 0 47))) (C := RX12) (T := TX12) (N := 85) hx hb hts hiX12 hown hK hP 0 wm0 rfl 47 (by decide) (hts _ (List.mem_cons_of_mem _ wlq_1_12)) (fun _ h9 => h9) rfl (dk_at dkX12_person_2 15 rfl) ?_
        refine tp_i (y := iI (A 0 47)) (congrArg iI e_A26_47) ?_
        refine lv_dup2_11 hx hb (dk_at dkX12_person_3 0 rfl) rfl rfl ?_
        have a_A16_16 : A16 16 = A 16 := (hf18.1 16 (by decide) rfl).trans a_A9_16
        have a_A20_16 : A20 16 = A 16 := by rw [hA20]; exact a_A16_16
        have a_A21_16 : A21 16 = A 16 := (hf23.1 16 (by decide) rfl).trans a_A20_16
        have a_A26_16 : A26 16 = A 16 := (hf28.1 16 (by decide) rfl).trans a_A21_16
        refine x_iald hx hb hK hP 16 1 wm16 rfl (by omega) (by decide) (dk_at dkX12_person_3 1 rfl) (fun z32 hz32 => ?_)
        have rz32 : (0 : Int) ≤ z32 ∧ z32 ≤ 3 := by rw [hz32]; exact hI 16 _
        have gz32 := Hd.mk hz32
        have hz32 : z32 = A 16 ((A 0 47)).toNat := hz32.trans (congrFun a_A26_16 _)
        have ez32 : z32 = z1 := hz32.trans hz1.symm
        refine lv_iconst (v := iI 1) hx hb (dk_at dkX12_person_3 2 rfl) (by decide +kernel) ?_
        refine x_addv (v := z32 + 1) hx hb (dk_at dkX12_person_3 3 rfl) (by omega) ?_
        refine x_iast hx hb hK hP hDD hS 16 1 wm16 rfl (by omega) (by decide) (dk_at dkX12_person_3 4 rfl) ws16 (fun H locs hP hS => ?_)
        have hI := hI.st (j := 16) (i := ((A 0 47)).toNat) (v := z32 + 1) (show (0 : Int) ≤ z32 + 1 ∧ z32 + 1 ≤ 3 from (by omega))
        obtain ⟨A33, hA33⟩ : ∃ A33 : St, A33 = (stA (stA A26 18 (3 * (A 0 47) + z14).toNat z25) 16 ((A 0 47)).toNat (z32 + 1)) := ⟨_, rfl⟩
        rw [← hA33] at hP hI
        have e_A33_4 : A33 0 4 = (A26 0 4) := by rw [hA33]; exact rfl
        have e_A33_8 : A33 0 8 = (A26 0 8) := by rw [hA33]; exact rfl
        exact RET _ _ _ _ _ ⟨hk1 _ (u_d_X12_person_1 ⟨f6, ⟨z8, A9, ghw10, (Or.inl ⟨c13, ⟨z14, gz14.out, ⟨z15, A16, ghw17, ⟨A20, hA20, ⟨A21, ghw22, ⟨z25, A26, ghw27, (Or.inr ⟨c30, ⟨z32, gz32.out, ⟨A33, hA33, rfl⟩⟩⟩)⟩⟩⟩⟩⟩⟩)⟩⟩), hI, fr_def hA33 (fr.st (fr.st (fr.trans (fr.trans (fr_def hA20 (fr.st (fr.trans (fr.trans (fr.rf) hf11 rfl rfl) hf18 rfl rfl) (by decide) rfl)) hf23 rfl rfl) hf28 rfl rfl) (by decide) rfl) (by decide) rfl), (CB.fr hc29 (fr_def hA33 (fr.st (fr.st (fr.rf (M := [16, 18]) (N := [])) (by decide) rfl) (by decide) rfl)) rfl rfl), by omega⟩ hP hS (dk_at dkX12_person_3 5 rfl)
    · have c13 : z8 = 0 := (i_eq0 (rb rz8 (by decide) (by decide))).mp c13
      exact RET _ _ _ _ _ ⟨hk1 _ (u_d_X12_person_1 ⟨f6, ⟨z8, A9, ghw10, (Or.inr ⟨c13, rfl⟩)⟩⟩), hI, fr.trans (fr.rf) hf11 rfl rfl, hc12, by omega⟩ hP hS (dk_at dkX12_person_0 13 rfl)
  refine lv_icmp_ne (tgt := 18) hx hb (dk_at dkX12_person_0 7 rfl) (by decide) (fun c2 => ?_) (fun c2 => ?_)
  · have c2 : ¬ z1 = 3 := mt (i_eq (rb rz1 (by decide) (by decide)) ⟨by decide, by decide⟩).mpr c2
    refine lv_iconst (v := iI 0) hx hb (dk_at dkX12_person_0 10 rfl) (by decide +kernel) ?_
    exact J19_3 0 _ _ _ (by omega) (by omega) (fun uq hq => (u_r_X12_person ⟨z1, gz1.out, (Or.inl ⟨c2, hq⟩)⟩)) hP hS (lv_sub hl [0] rfl)
  · have c2 : z1 = 3 := (i_eq (rb rz1 (by decide) (by decide)) ⟨by decide, by decide⟩).mp c2
    refine lv_iconst (v := iI 1) hx hb (dk_at dkX12_person_0 8 rfl) (by decide +kernel) ?_
    refine lv_goto (tgt := 19) hx hb (dk_at dkX12_person_0 9 rfl) (by decide) ?_
    exact J19_3 1 _ _ _ (by omega) (by omega) (fun uq hq => (u_r_X12_person ⟨z1, gz1.out, (Or.inr ⟨c2, hq⟩)⟩)) hP hS (lv_sub hl [0] rfl)

abbrev tr_d_X12_having_3 (z7 : Int) (A : St) (u : St) (A35 : St) : Prop := ((IM A35) ∧ (∃ z37 : Int, ∃ A38 : St, q_X12_asked_2 2 A35 z37 A38 ∧ (((¬ (A38 0 8) = 0) ∧ (u = A38)) ∨ (((A38 0 8) = 0) ∧ (∃ A43 : St, A43 = (stA A38 13 (4 * (A 0 47) + z37).toNat z7) ∧ (u = A43))))))
def d_X12_having_3 (z7 : Int) (A : St) (u : St) (A35 : St) : Prop := tr_d_X12_having_3 z7 A u A35
theorem u_d_X12_having_3 {z7 : Int} {A : St} {u : St} {A35 : St} (h : tr_d_X12_having_3 z7 A u A35) : d_X12_having_3 z7 A u A35 := h
abbrev tr_d_X12_having_2 (z7 : Int) (A : St) (A8 : St) (u : St) (z24 : Int) : Prop := ((-1 ≤ z24 ∧ z24 ≤ 3) ∧ (((z24 = (-1)) ∧ (d_X12_having_3 z7 A u A8)) ∨ ((¬ z24 = (-1)) ∧ (∃ z29 : Int, z29 = A8 13 (4 * (A 0 47) + z24).toNat ∧ (((10 ≤ z29) ∧ (d_X12_having_3 z7 A u A8)) ∨ ((¬ 10 ≤ z29) ∧ (∃ A31 : St, q_X12_blame 3 (A8 0 4) A8 A31 ∧ (d_X12_having_3 z7 A u A31))))))))
def d_X12_having_2 (z7 : Int) (A : St) (A8 : St) (u : St) (z24 : Int) : Prop := tr_d_X12_having_2 z7 A A8 u z24
theorem u_d_X12_having_2 {z7 : Int} {A : St} {A8 : St} {u : St} {z24 : Int} (h : tr_d_X12_having_2 z7 A A8 u z24) : d_X12_having_2 z7 A A8 u z24 := h
abbrev tr_d_X12_having_1 (z7 : Int) (A : St) (A8 : St) (u : St) : Prop := (d_X12_having_2 z7 A A8 u (-1))
def d_X12_having_1 (z7 : Int) (A : St) (A8 : St) (u : St) : Prop := tr_d_X12_having_1 z7 A A8 u
theorem u_d_X12_having_1 {z7 : Int} {A : St} {A8 : St} {u : St} (h : tr_d_X12_having_1 z7 A A8 u) : d_X12_having_1 z7 A A8 u := h
abbrev tr_r_X12_having (A : St) (u : St) : Prop := (∃ z1 : Int, ∃ A2 : St, q_X12_counts 0 A z1 A2 ∧ (((¬ z1 = 0) ∧ (∃ z7 : Int, ∃ A8 : St, q_X12_asked_3 3 A2 z7 A8 ∧ (((¬ (A8 0 8) = 0) ∧ (d_X12_having_1 z7 A A8 u)) ∨ (((A8 0 8) = 0) ∧ (((¬ (A8 0 3) = 1) ∧ (d_X12_having_1 z7 A A8 u)) ∨ (((A8 0 3) = 1) ∧ (∃ z16 : Int, q_X12_isOwn (A8 0 7) A8 z16 ∧ (((¬ z16 = 0) ∧ (d_X12_having_1 z7 A A8 u)) ∨ ((z16 = 0) ∧ (∃ z20 : Int, q_X12_named_2 2 (A8 0 7) A8 z20 ∧ (d_X12_having_2 z7 A A8 u z20))))))))))) ∨ ((z1 = 0) ∧ (u = A2))))
def r_X12_having (A : St) (u : St) : Prop := tr_r_X12_having A u
theorem u_r_X12_having {A : St} {u : St} (h : tr_r_X12_having A u) : r_X12_having A u := h
def q_X12_having (A : St) (u : St) : Prop := r_X12_having A u ∧ IM u ∧ fr [13] [3, 4, 5, 6, 7, 8, 9] A u ∧ CB u ∧ ((u 0 8 = 0 → A 0 5 ≤ u 0 4) ∧ A 0 4 ≤ u 0 4)
def ws_mb_X12_having : List Cond := .code yX12_having cX12_having 3 none :: WX
set_option maxHeartbeats 4000000 in
set_option maxRecDepth 100000 in
theorem mb_X12_having (l : Launch) (dC : Nat → ClassId) (dI : Nat → Nat → Nat) (cB cI cJ cZ cQ : ClassId) (q : Nat → Nat) (A : St) (hI : IM A) (hcCB : CB A) : XMv l yX12_having ws_mb_X12_having ({ frames := 3, cells := 0, slots := 0, locals := 70 } : Room) (dC, dI) (tyA cB cI cJ cZ cQ) (WM cI cJ cZ q) A [.ref (q 0)] (fun u => r_X12_having A u ∧ IM u ∧ fr [13] [3, 4, 5, 6, 7, 8, 9] A u ∧ CB u ∧ ((u 0 8 = 0 → A 0 5 ≤ u 0 4) ∧ A 0 4 ≤ u 0 4)) := by
  refine x_metv (cc := cX12_having) (maxL := 3) WM_adr (by decide +kernel) rfl (Nat.le_of_ble_eq_true rfl) (fun p e s m below meth c Q AS ls hx hb hml hown hts hK hDD hA0 hP hS hl RET => ?_)
  have hown : s.vm.findClass RX12 = some m.cls := hown
  have hl : lv_has ls 3 [(0, .ref (q 0))] := hl
  have hiX12 : ∀ w ∈ u_ws RX12 TX12 85, w ∈ ws_mb_X12_having := fun w h => List.mem_cons_of_mem _ (wx_lay w h)
  obtain ⟨H, hHe⟩ : ∃ H : Heap, H = s.heap := ⟨_, rfl⟩
  rw [← hHe] at hP
  have hS : va_S AS s.heap H [] := by rw [hHe]; exact hS
  suffices hgo : ∀ locs : List Loc, va_S AS s.heap H locs → W p l e (headSpec ws_mb_X12_having ({ frames := 3, cells := 0, slots := 0, locals := 70 } : Room)).room s m [.ref (q 0)].toArray below meth c H locs 0 0 Q (F0 m 0 ls []) by
    have := hgo [] hS
    rw [hHe] at this
    exact this
  clear hS hHe
  intro locs hS
  have hle := CB.le hcCB
  refine lv_aload_n hx hb (dk_at dkX12_having_0 0 rfl) rfl (lv_at hl 0 rfl) ?_
  refine lv_iconst (v := iI 0) hx hb (dk_at dkX12_having_0 1 rfl) (by decide +kernel) ?_
  have r_A_0_4 : (0 : Int) ≤ (A 0 4) ∧ (A 0 4) ≤ 1600 := hI 0 4
  have r_A_0_5 : (0 : Int) ≤ (A 0 5) ∧ (A 0 5) ≤ 1600 := hI 0 5
  refine x_calli (As := [.int (iI 0)]) (rest := []) ⟨hx, hb, hml, hown, hts⟩ (mb_X12_counts l dC dI cB cI cJ cZ cQ q _ 0 hI ⟨by decide, by decide⟩ hcCB) (cwV 1 hts (goodV wlq_2_32 wlq_2_33 wlq_2_34 wlq_0_8 wlq_2_20) rfl rfl rfl (by decide +kernel) ⟨Nat.le_of_ble_eq_true rfl, Nat.le_of_ble_eq_true rfl⟩) hK hDD hA0 hP hS 0 12 wm0 rfl rfl hl.1 (Nat.le_of_ble_eq_true rfl) (dk_at dkX12_having_0 2 rfl) (fun z1 A2 H locs hw3 hP hS => ?_)
  have ghw3 : q_X12_counts 0 A z1 A2 := hw3
  obtain ⟨_, hI, hf4, hw3⟩ := hw3
  obtain ⟨hc5, hw3⟩ := hw3
  have r_A2_0_4 : (0 : Int) ≤ (A2 0 4) ∧ (A2 0 4) ≤ 1600 := hI 0 4
  have r_A2_0_8 : (0 : Int) ≤ (A2 0 8) ∧ (A2 0 8) ≤ 5 := hI 0 8
  have rz1 : 0 ≤ z1 ∧ z1 ≤ 1 := hw3.1
  refine lv_if_ne (tgt := 9) hx hb (dk_at dkX12_having_0 3 rfl) (by decide) (fun c6 => ?_) (fun c6 => ?_)
  · have c6 : ¬ z1 = 0 := mt (i_eq0 (rb rz1 (by decide) (by decide))).mpr c6
    refine lv_aload_n hx hb (dk_at dkX12_having_0 5 rfl) rfl (lv_at hl 0 rfl) ?_
    refine lv_iconst (v := iI 3) hx hb (dk_at dkX12_having_0 6 rfl) (by decide +kernel) ?_
    have r_A2_0_3 : (0 : Int) ≤ (A2 0 3) ∧ (A2 0 3) ≤ 3 := hI 0 3
    have r_A2_0_7 : (-9223372036854775808 : Int) ≤ (A2 0 7) ∧ (A2 0 7) ≤ 9223372036854775807 := hI 0 7
    have e_A2_47 : A2 0 47 = (A 0 47) := (hf4.2 47 rfl)
    have r_A_0_47 : (0 : Int) ≤ (A 0 47) ∧ (A 0 47) ≤ 1 := by rw [← e_A2_47]; exact hI 0 47
    refine x_calli (As := [.int (iI 3)]) (rest := []) ⟨hx, hb, hml, hown, hts⟩ (mb_X12_asked_3 l dC dI cB cI cJ cZ cQ q _ 3 hI ⟨by decide, by decide⟩ hc5) (cwV 1 hts (goodV wlq_2_47 wlq_2_48 wlq_2_49 wlq_0_8 wlq_2_29) rfl rfl rfl (by decide +kernel) ⟨Nat.le_of_ble_eq_true rfl, Nat.le_of_ble_eq_true rfl⟩) hK hDD hA0 hP hS 0 12 wm0 rfl rfl hl.1 (Nat.le_of_ble_eq_true rfl) (dk_at dkX12_having_0 7 rfl) (fun z7 A8 H locs hw9 hP hS => ?_)
    have ghw9 : q_X12_asked_3 3 A2 z7 A8 := hw9
    obtain ⟨_, hI, hf10, hw9⟩ := hw9
    obtain ⟨hc11, hw9⟩ := hw9
    have r_A8_0_4 : (0 : Int) ≤ (A8 0 4) ∧ (A8 0 4) ≤ 1600 := hI 0 4
    have r_A8_0_8 : (0 : Int) ≤ (A8 0 8) ∧ (A8 0 8) ≤ 5 := hI 0 8
    refine lv_istore_n (lv' := [(1, .int (iI z7)), (0, .ref (q 0))]) hx hb (dk_at dkX12_having_0 8 rfl) rfl hl (by decide) rfl (fun ls hl => ?_)
    refine lv_aload_n hx hb (dk_at dkX12_having_0 9 rfl) rfl (lv_at hl 1 rfl) ?_
    refine va_get (D := (dC, dI)) (ci := 12) (v := .int (iI (A8 0 8))) (C := RX12) (T := TX12) (N := 85) hx hb hts hiX12 hown hK hP 0 wm0 rfl 8 (by decide) (hts _ (List.mem_cons_of_mem _ wlq_0_16)) (fun _ h9 => h9) rfl (dk_at dkX12_having_0 10 rfl) ?_
    have J54_14 : ∀ (z24 : Int) (H : Heap) (locs : List Loc) (ls : Array Slot), (-1 ≤ z24 ∧ z24 ≤ 3) → (∀ (u : St), (d_X12_having_2 z7 A A8 u z24) → r_X12_having A u) → va_P (dC, dI) vwCl (WM cI cJ cZ q A8) H → va_S AS s.heap H locs → lv_has ls 3 [(1, .int (iI z7)), (0, .ref (q 0))] → W p l e (headSpec ws_mb_X12_having ({ frames := 3, cells := 0, slots := 0, locals := 70 } : Room)).room s m [.ref (q 0)].toArray below meth c H locs 0 0 Q (F0 m 54 ls [.int (iI z24)]) := by
      intro z24 H locs ls f26 hk2 hP hS hl
      refine lv_istore_n (lv' := [(2, .int (iI z24)), (1, .int (iI z7)), (0, .ref (q 0))]) hx hb (dk_at dkX12_having_1 12 rfl) rfl hl (by decide) rfl (fun ls hl => ?_)
      refine lv_iload_n hx hb (dk_at dkX12_having_1 13 rfl) rfl (lv_at hl 0 rfl) ?_
      refine lv_iconst (v := iI (-1)) hx hb (dk_at dkX12_having_1 14 rfl) (by decide +kernel) ?_
      have J87_28 : ∀ (A35 : St) (H : Heap) (locs : List Loc) (ls : Array Slot), (∀ (u : St), (d_X12_having_3 z7 A u A35) → r_X12_having A u) → IM A35 → fr [] [8, 9] A8 A35 → va_P (dC, dI) vwCl (WM cI cJ cZ q A35) H → va_S AS s.heap H locs → lv_has ls 3 [(2, .int (iI z24)), (1, .int (iI z7)), (0, .ref (q 0))] → W p l e (headSpec ws_mb_X12_having ({ frames := 3, cells := 0, slots := 0, locals := 70 } : Room)).room s m [.ref (q 0)].toArray below meth c H locs 0 0 Q (F0 m 87 ls []) := by
        intro A35 H locs ls hk3 hI hj34 hP hS hl
        have gI36 : Hd (IM A35) := Hd.mk hI
        refine lv_aload_n hx hb (dk_at dkX12_having_3 0 rfl) rfl (lv_at hl 2 rfl) ?_
        refine lv_iconst (v := iI 2) hx hb (dk_at dkX12_having_3 1 rfl) (by decide +kernel) ?_
        have e_A35_3 : A35 0 3 = (A8 0 3) := (hj34.2 3 rfl)
        have r_A8_0_3 : (0 : Int) ≤ (A8 0 3) ∧ (A8 0 3) ≤ 3 := by rw [← e_A35_3]; exact hI 0 3
        have e_A35_4 : A35 0 4 = (A8 0 4) := (hj34.2 4 rfl)
        have e_A35_7 : A35 0 7 = (A8 0 7) := (hj34.2 7 rfl)
        have r_A8_0_7 : (-9223372036854775808 : Int) ≤ (A8 0 7) ∧ (A8 0 7) ≤ 9223372036854775807 := by rw [← e_A35_7]; exact hI 0 7
        have r_A35_0_8 : (0 : Int) ≤ (A35 0 8) ∧ (A35 0 8) ≤ 5 := hI 0 8
        have e_A8_47 : A8 0 47 = (A 0 47) := (hf10.2 47 rfl).trans e_A2_47
        have e_A35_47 : A35 0 47 = (A 0 47) := (hj34.2 47 rfl).trans e_A8_47
        refine x_calli (As := [.int (iI 2)]) (rest := []) ⟨hx, hb, hml, hown, hts⟩ (mb_X12_asked_2 l dC dI cB cI cJ cZ cQ q _ 2 hI ⟨by decide, by decide⟩ (CB.fr hc11 hj34 rfl rfl)) (cwV 1 hts (goodV wlq_2_47 wlq_2_48 wlq_2_49 wlq_0_8 wlq_2_29) rfl rfl rfl (by decide +kernel) ⟨Nat.le_of_ble_eq_true rfl, Nat.le_of_ble_eq_true rfl⟩) hK hDD hA0 hP hS 0 12 wm0 rfl rfl hl.1 (Nat.le_of_ble_eq_true rfl) (dk_at dkX12_having_3 2 rfl) (fun z37 A38 H locs hw39 hP hS => ?_)
        have ghw39 : q_X12_asked_2 2 A35 z37 A38 := hw39
        obtain ⟨_, hI, hf40, hw39⟩ := hw39
        obtain ⟨hc41, hw39⟩ := hw39
        have r_A38_0_4 : (0 : Int) ≤ (A38 0 4) ∧ (A38 0 4) ≤ 1600 := hI 0 4
        have r_A38_0_8 : (0 : Int) ≤ (A38 0 8) ∧ (A38 0 8) ≤ 5 := hI 0 8
        refine lv_istore_n (lv' := [(2, .int (iI z37)), (1, .int (iI z7)), (0, .ref (q 0))]) hx hb (dk_at dkX12_having_3 3 rfl) rfl hl (by decide) rfl (fun ls hl => ?_)
        refine lv_aload_n hx hb (dk_at dkX12_having_3 4 rfl) rfl (lv_at hl 2 rfl) ?_
        refine va_get (D := (dC, dI)) (ci := 12) (v := .int (iI (A38 0 8))) (C := RX12) (T := TX12) (N := 85) hx hb hts hiX12 hown hK hP 0 wm0 rfl 8 (by decide) (hts _ (List.mem_cons_of_mem _ wlq_0_16)) (fun _ h9 => h9) rfl (dk_at dkX12_having_3 5 rfl) ?_
        refine lv_if_ne (tgt := 114) hx hb (dk_at dkX12_having_3 6 rfl) (by decide) (fun c42 => ?_) (fun c42 => ?_)
        · have c42 : ¬ (A38 0 8) = 0 := mt (i_eq0 (rb r_A38_0_8 (by decide) (by decide))).mpr c42
          exact RET _ _ _ _ _ ⟨hk3 _ (u_d_X12_having_3 ⟨gI36.out, ⟨z37, A38, ghw39, (Or.inl ⟨c42, rfl⟩)⟩⟩), hI, fr.trans (fr.trans (fr.trans (fr.trans (fr.rf) hf4 rfl rfl) hf10 rfl rfl) hj34 rfl rfl) hf40 rfl rfl, hc41, by omega⟩ hP hS (dk_at dkX12_having_4 1 rfl)
        · have c42 : (A38 0 8) = 0 := (i_eq0 (rb r_A38_0_8 (by decide) (by decide))).mp c42
          refine lv_aload_n hx hb (dk_at dkX12_having_3 7 rfl) rfl (lv_at hl 2 rfl) ?_
          refine va_get (D := (dC, dI)) (ci := 12) (v := .ref (q 13)) (C := RX12) (T := TX12) (N := 85) hx hb hts hiX12 hown hK hP 0 wm0 rfl 24 (by decide) (hts _ (List.mem_cons_of_mem _ wlq_2_58)) (fun _ h9 => h9) rfl (dk_at dkX12_having_3 8 rfl) ?_
          refine lv_iconst (v := iI 4) hx hb (dk_at dkX12_having_3 9 rfl) (by decide +kernel) ?_
          refine lv_aload_n hx hb (dk_at dkX12_having_3 10 rfl) rfl (lv_at hl 2 rfl) ?_
          have e_A38_47 : A38 0 47 = (A 0 47) := (hf40.2 47 rfl).trans e_A35_47
          refine va_get (D := (dC, dI)) (ci := 12) (v := .int (iI (A38 0 47))) (C := RX12) (T := TX12) (N := 85) hx hb hts hiX12 hown hK hP 0 wm0 rfl 47 (by decide) (hts _ (List.mem_cons_of_mem _ wlq_1_12)) (fun _ h9 => h9) rfl (dk_at dkX12_having_3 11 rfl) ?_
          refine tp_i (y := iI (A 0 47)) (congrArg iI e_A38_47) ?_
          refine x_mulv (v := 4 * (A 0 47)) hx hb (dk_at dkX12_having_3 12 rfl) (by omega) ?_
          refine lv_iload_n hx hb (dk_at dkX12_having_3 13 rfl) rfl (lv_at hl 0 rfl) ?_
          refine x_addv (v := 4 * (A 0 47) + z37) hx hb (dk_at dkX12_having_3 14 rfl) (by omega) ?_
          refine lv_iload_n hx hb (dk_at dkX12_having_3 15 rfl) rfl (lv_at hl 1 rfl) ?_
          refine x_iast hx hb hK hP hDD hS 13 1 wm13 rfl (by omega) (by decide) (dk_at dkX12_having_4 0 rfl) ws13 (fun H locs hP hS => ?_)
          have hI := hI.st (j := 13) (i := (4 * (A 0 47) + z37).toNat) (v := z7) (show (0 : Int) ≤ z7 ∧ z7 ≤ 40 from (by omega))
          obtain ⟨A43, hA43⟩ : ∃ A43 : St, A43 = (stA A38 13 (4 * (A 0 47) + z37).toNat z7) := ⟨_, rfl⟩
          rw [← hA43] at hP hI
          have e_A43_4 : A43 0 4 = (A38 0 4) := by rw [hA43]; exact rfl
          have e_A43_8 : A43 0 8 = (A38 0 8) := by rw [hA43]; exact rfl
          exact RET _ _ _ _ _ ⟨hk3 _ (u_d_X12_having_3 ⟨gI36.out, ⟨z37, A38, ghw39, (Or.inr ⟨c42, ⟨A43, hA43, rfl⟩⟩)⟩⟩), hI, fr_def hA43 (fr.st (fr.trans (fr.trans (fr.trans (fr.trans (fr.rf) hf4 rfl rfl) hf10 rfl rfl) hj34 rfl rfl) hf40 rfl rfl) (by decide) rfl), (CB.fr hc41 (fr_def hA43 (fr.st (fr.rf (M := [13]) (N := [])) (by decide) rfl)) rfl rfl), by omega⟩ hP hS (dk_at dkX12_having_4 1 rfl)
      refine lv_icmp_eq (tgt := 87) hx hb (dk_at dkX12_having_1 15 rfl) (by decide) (fun c27 => ?_) (fun c27 => ?_)
      · have c27 : z24 = (-1) := (i_eq (rb f26 (by decide) (by decide)) ⟨by decide, by decide⟩).mp c27
        exact J87_28 _ _ _ _ (fun uq hq => hk2 _ (u_d_X12_having_2 ⟨f26, (Or.inl ⟨c27, hq⟩)⟩)) hI (fr.rf) hP hS (lv_sub hl [0, 1, 2] rfl)
      · have c27 : ¬ z24 = (-1) := mt (i_eq (rb f26 (by decide) (by decide)) ⟨by decide, by decide⟩).mpr c27
        refine lv_aload_n hx hb (dk_at dkX12_having_2 0 rfl) rfl (lv_at hl 2 rfl) ?_
        refine va_get (D := (dC, dI)) (ci := 12) (v := .ref (q 13)) (C := RX12) (T := TX12) (N := 85) hx hb hts hiX12 hown hK hP 0 wm0 rfl 24 (by decide) (hts _ (List.mem_cons_of_mem _ wlq_2_58)) (fun _ h9 => h9) rfl (dk_at dkX12_having_2 1 rfl) ?_
        refine lv_iconst (v := iI 4) hx hb (dk_at dkX12_having_2 2 rfl) (by decide +kernel) ?_
        refine lv_aload_n hx hb (dk_at dkX12_having_2 3 rfl) rfl (lv_at hl 2 rfl) ?_
        have e_A8_47 : A8 0 47 = (A 0 47) := (hf10.2 47 rfl).trans e_A2_47
        refine va_get (D := (dC, dI)) (ci := 12) (v := .int (iI (A8 0 47))) (C := RX12) (T := TX12) (N := 85) hx hb hts hiX12 hown hK hP 0 wm0 rfl 47 (by decide) (hts _ (List.mem_cons_of_mem _ wlq_1_12)) (fun _ h9 => h9) rfl (dk_at dkX12_having_2 4 rfl) ?_
        refine tp_i (y := iI (A 0 47)) (congrArg iI e_A8_47) ?_
        refine x_mulv (v := 4 * (A 0 47)) hx hb (dk_at dkX12_having_2 5 rfl) (by omega) ?_
        refine lv_iload_n hx hb (dk_at dkX12_having_2 6 rfl) rfl (lv_at hl 0 rfl) ?_
        refine x_addv (v := 4 * (A 0 47) + z24) hx hb (dk_at dkX12_having_2 7 rfl) (by omega) ?_
        have a_A2_13 : A2 13 = A 13 := (hf4.1 13 (by decide) rfl)
        have a_A8_13 : A8 13 = A 13 := (hf10.1 13 (by decide) rfl).trans a_A2_13
        refine x_iald hx hb hK hP 13 1 wm13 rfl (by omega) (by decide) (dk_at dkX12_having_2 8 rfl) (fun z29 hz29 => ?_)
        have rz29 : (0 : Int) ≤ z29 ∧ z29 ≤ 40 := by rw [hz29]; exact hI 13 _
        have gz29 := Hd.mk hz29
        have hz29 : z29 = A 13 (4 * (A 0 47) + z24).toNat := hz29.trans (congrFun a_A8_13 _)
        refine lv_bipush (v := iI 10) hx hb (dk_at dkX12_having_2 9 rfl) (by decide +kernel) ?_
        refine lv_icmp_ge (tgt := 87) hx hb (dk_at dkX12_having_2 10 rfl) (by decide) (fun c30 => ?_) (fun c30 => ?_)
        · have c30 : 10 ≤ z29 := (i_le ⟨by decide, by decide⟩ (rb rz29 (by decide) (by decide))).mp c30
          exact J87_28 _ _ _ _ (fun uq hq => hk2 _ (u_d_X12_having_2 ⟨f26, (Or.inr ⟨c27, ⟨z29, gz29.out, (Or.inl ⟨c30, hq⟩)⟩⟩)⟩)) hI (fr.rf) hP hS (lv_sub hl [0, 1, 2] rfl)
        · have c30 : ¬ 10 ≤ z29 := mt (i_le ⟨by decide, by decide⟩ (rb rz29 (by decide) (by decide))).mpr c30
          refine lv_aload_n hx hb (dk_at dkX12_having_2 11 rfl) rfl (lv_at hl 2 rfl) ?_
          refine lv_iconst (v := iI 3) hx hb (dk_at dkX12_having_2 12 rfl) (by decide +kernel) ?_
          refine lv_aload_n hx hb (dk_at dkX12_having_2 13 rfl) rfl (lv_at hl 2 rfl) ?_
          refine va_get (D := (dC, dI)) (ci := 12) (v := .int (iI (A8 0 4))) (C := RX12) (T := TX12) (N := 85) hx hb hts hiX12 hown hK hP 0 wm0 rfl 4 (by decide) (hts _ (List.mem_cons_of_mem _ wlq_0_23)) (fun _ h9 => h9) rfl (dk_at dkX12_having_2 14 rfl) ?_
          refine x_callv (As := [.int (iI 3), .int (iI (A8 0 4))]) (rest := []) ⟨hx, hb, hml, hown, hts⟩ (mc_X12_blame l dC dI cB cI cJ cZ cQ q _ 3 (A8 0 4) hI ⟨by decide, by decide⟩ r_A8_0_4) (cwV 2 hts (goodV wlq_0_31 wlq_0_32 wlq_0_33 wlq_0_8 wlq_0_15) rfl rfl rfl (by decide +kernel) ⟨Nat.le_of_ble_eq_true rfl, Nat.le_of_ble_eq_true rfl⟩) hK hDD hA0 hP hS 0 12 wm0 rfl rfl hl.1 (Nat.le_of_ble_eq_true rfl) (dk_at dkX12_having_2 15 rfl) (fun A31 H locs hw32 hP hS => ?_)
          have ghw32 : q_X12_blame 3 (A8 0 4) A8 A31 := hw32
          obtain ⟨_, hI, hf33, hw32⟩ := hw32
          have r_A31_0_8 : (0 : Int) ≤ (A31 0 8) ∧ (A31 0 8) ≤ 5 := hI 0 8
          exact J87_28 _ _ _ _ (fun uq hq => hk2 _ (u_d_X12_having_2 ⟨f26, (Or.inr ⟨c27, ⟨z29, gz29.out, (Or.inr ⟨c30, ⟨A31, ghw32, hq⟩⟩)⟩⟩)⟩)) hI (fr.trans (fr.rf) hf33 rfl rfl) hP hS (lv_sub hl [0, 1, 2] rfl)
    have J53_13 : ∀ (H : Heap) (locs : List Loc) (ls : Array Slot), (∀ (u : St), (d_X12_having_1 z7 A A8 u) → r_X12_having A u) → va_P (dC, dI) vwCl (WM cI cJ cZ q A8) H → va_S AS s.heap H locs → lv_has ls 3 [(1, .int (iI z7)), (0, .ref (q 0))] → W p l e (headSpec ws_mb_X12_having ({ frames := 3, cells := 0, slots := 0, locals := 70 } : Room)).room s m [.ref (q 0)].toArray below meth c H locs 0 0 Q (F0 m 53 ls []) := by
      intro H locs ls hk1 hP hS hl
      refine lv_iconst (v := iI (-1)) hx hb (dk_at dkX12_having_1 11 rfl) (by decide +kernel) ?_
      exact J54_14 (-1) _ _ _ (by omega) (fun uq hq => hk1 _ (u_d_X12_having_1 hq)) hP hS (lv_sub hl [0, 1] rfl)
    refine lv_if_ne (tgt := 53) hx hb (dk_at dkX12_having_0 11 rfl) (by decide) (fun c12 => ?_) (fun c12 => ?_)
    · have c12 : ¬ (A8 0 8) = 0 := mt (i_eq0 (rb r_A8_0_8 (by decide) (by decide))).mpr c12
      exact J53_13 _ _ _ (fun uq hq => (u_r_X12_having ⟨z1, A2, ghw3, (Or.inl ⟨c6, ⟨z7, A8, ghw9, (Or.inl ⟨c12, hq⟩)⟩⟩)⟩)) hP hS (lv_sub hl [0, 1] rfl)
    · have c12 : (A8 0 8) = 0 := (i_eq0 (rb r_A8_0_8 (by decide) (by decide))).mp c12
      refine lv_aload_n hx hb (dk_at dkX12_having_0 12 rfl) rfl (lv_at hl 1 rfl) ?_
      refine va_get (D := (dC, dI)) (ci := 12) (v := .int (iI (A8 0 3))) (C := RX12) (T := TX12) (N := 85) hx hb hts hiX12 hown hK hP 0 wm0 rfl 3 (by decide) (hts _ (List.mem_cons_of_mem _ wlq_0_24)) (fun _ h9 => h9) rfl (dk_at dkX12_having_0 13 rfl) ?_
      have r_A8_0_3 : (0 : Int) ≤ (A8 0 3) ∧ (A8 0 3) ≤ 3 := hI 0 3
      refine lv_iconst (v := iI 1) hx hb (dk_at dkX12_having_0 14 rfl) (by decide +kernel) ?_
      refine lv_icmp_ne (tgt := 53) hx hb (dk_at dkX12_having_0 15 rfl) (by decide) (fun c15 => ?_) (fun c15 => ?_)
      · have c15 : ¬ (A8 0 3) = 1 := mt (i_eq (rb r_A8_0_3 (by decide) (by decide)) ⟨by decide, by decide⟩).mpr c15
        exact J53_13 _ _ _ (fun uq hq => (u_r_X12_having ⟨z1, A2, ghw3, (Or.inl ⟨c6, ⟨z7, A8, ghw9, (Or.inr ⟨c12, (Or.inl ⟨c15, hq⟩)⟩)⟩⟩)⟩)) hP hS (lv_sub hl [0, 1] rfl)
      · have c15 : (A8 0 3) = 1 := (i_eq (rb r_A8_0_3 (by decide) (by decide)) ⟨by decide, by decide⟩).mp c15
        refine lv_aload_n hx hb (dk_at dkX12_having_1 0 rfl) rfl (lv_at hl 1 rfl) ?_
        refine lv_aload_n hx hb (dk_at dkX12_having_1 1 rfl) rfl (lv_at hl 1 rfl) ?_
        refine va_get (D := (dC, dI)) (ci := 12) (v := .long (jI (A8 0 7))) (C := RX12) (T := TX12) (N := 85) hx hb hts hiX12 hown hK hP 0 wm0 rfl 7 (by decide) (hts _ (List.mem_cons_of_mem _ wlq_0_26)) (fun _ h9 => h9) rfl (dk_at dkX12_having_1 2 rfl) ?_
        have r_A8_0_7 : (-9223372036854775808 : Int) ≤ (A8 0 7) ∧ (A8 0 7) ≤ 9223372036854775807 := hI 0 7
        refine x_calli (As := [.long (jI (A8 0 7))]) (rest := []) ⟨hx, hb, hml, hown, hts⟩ (mb_X12_isOwn l dC dI cB cI cJ cZ cQ q _ (A8 0 7) hI r_A8_0_7) (cwV 1 hts (goodV wlq_2_23 wlq_2_24 wlq_2_25 wlq_0_8 wlq_0_43) rfl rfl rfl (by decide +kernel) ⟨Nat.le_of_ble_eq_true rfl, Nat.le_of_ble_eq_true rfl⟩) hK hDD hA0 hP hS 0 12 wm0 rfl rfl hl.1 (Nat.le_of_ble_eq_true rfl) (dk_at dkX12_having_1 3 rfl) (fun z16 A17 H locs hw18 hP hS => ?_)
        obtain ⟨rfl, hw18⟩ := hw18
        have ghw18 : q_X12_isOwn (A8 0 7) A8 z16 := hw18
        have hw18 := hw18.2
        have rz16 : 0 ≤ z16 ∧ z16 ≤ 1 := hw18.1
        refine lv_if_ne (tgt := 53) hx hb (dk_at dkX12_having_1 4 rfl) (by decide) (fun c19 => ?_) (fun c19 => ?_)
        · have c19 : ¬ z16 = 0 := mt (i_eq0 (rb rz16 (by decide) (by decide))).mpr c19
          exact J53_13 _ _ _ (fun uq hq => (u_r_X12_having ⟨z1, A2, ghw3, (Or.inl ⟨c6, ⟨z7, A8, ghw9, (Or.inr ⟨c12, (Or.inr ⟨c15, ⟨z16, ghw18, (Or.inl ⟨c19, hq⟩)⟩⟩)⟩)⟩⟩)⟩)) hP hS (lv_sub hl [0, 1] rfl)
        · have c19 : z16 = 0 := (i_eq0 (rb rz16 (by decide) (by decide))).mp c19
          refine lv_aload_n hx hb (dk_at dkX12_having_1 5 rfl) rfl (lv_at hl 1 rfl) ?_
          refine lv_iconst (v := iI 2) hx hb (dk_at dkX12_having_1 6 rfl) (by decide +kernel) ?_
          refine lv_aload_n hx hb (dk_at dkX12_having_1 7 rfl) rfl (lv_at hl 1 rfl) ?_
          refine va_get (D := (dC, dI)) (ci := 12) (v := .long (jI (A8 0 7))) (C := RX12) (T := TX12) (N := 85) hx hb hts hiX12 hown hK hP 0 wm0 rfl 7 (by decide) (hts _ (List.mem_cons_of_mem _ wlq_0_26)) (fun _ h9 => h9) rfl (dk_at dkX12_having_1 8 rfl) ?_
          have e_A8_47 : A8 0 47 = (A 0 47) := (hf10.2 47 rfl).trans e_A2_47
          refine x_calli (As := [.int (iI 2), .long (jI (A8 0 7))]) (rest := []) ⟨hx, hb, hml, hown, hts⟩ (mb_X12_named_2 l dC dI cB cI cJ cZ cQ q _ 2 (A8 0 7) hI ⟨by decide, by decide⟩ r_A8_0_7) (cwV 2 hts (goodV wlq_2_26 wlq_2_27 wlq_2_28 wlq_0_8 wlq_1_10) rfl rfl rfl (by decide +kernel) ⟨Nat.le_of_ble_eq_true rfl, Nat.le_of_ble_eq_true rfl⟩) hK hDD hA0 hP hS 0 12 wm0 rfl rfl hl.1 (Nat.le_of_ble_eq_true rfl) (dk_at dkX12_having_1 9 rfl) (fun z20 A21 H locs hw22 hP hS => ?_)
          obtain ⟨rfl, hw22⟩ := hw22
          have ghw22 : q_X12_named_2 2 (A8 0 7) A8 z20 := hw22
          have hw22 := hw22.2
          have a_A2_12 : A2 12 = A 12 := (hf4.1 12 (by decide) rfl)
          have a_A8_12 : A8 12 = A 12 := (hf10.1 12 (by decide) rfl).trans a_A2_12
          have a_A2_11 : A2 11 = A 11 := (hf4.1 11 (by decide) rfl)
          have a_A8_11 : A8 11 = A 11 := (hf10.1 11 (by decide) rfl).trans a_A2_11
          rw [a_A8_12, a_A8_11, e_A8_47] at hw22
          refine lv_goto (tgt := 54) hx hb (dk_at dkX12_having_1 10 rfl) (by decide) ?_
          exact J54_14 z20 _ _ _ (by omega) (fun uq hq => (u_r_X12_having ⟨z1, A2, ghw3, (Or.inl ⟨c6, ⟨z7, A8, ghw9, (Or.inr ⟨c12, (Or.inr ⟨c15, ⟨z16, ghw18, (Or.inr ⟨c19, ⟨z20, ghw22, hq⟩⟩)⟩⟩)⟩)⟩⟩)⟩)) hP hS (lv_sub hl [0, 1] rfl)
  · have c6 : z1 = 0 := (i_eq0 (rb rz1 (by decide) (by decide))).mp c6
    exact RET _ _ _ _ _ ⟨(u_r_X12_having ⟨z1, A2, ghw3, (Or.inr ⟨c6, rfl⟩)⟩), hI, fr.trans (fr.rf) hf4 rfl rfl, hc5, by omega⟩ hP hS (dk_at dkX12_having_0 4 rfl)

abbrev tr_d_X12_losing_3 (A : St) (u : St) (A30 : St) : Prop := ((IM A30) ∧ (∃ z32 : Int, ∃ A33 : St, q_X12_asked_1 1 A30 z32 A33 ∧ (((¬ (A33 0 8) = 0) ∧ (u = A33)) ∨ (((A33 0 8) = 0) ∧ (∃ A38 : St, A38 = (stA A33 10 (10 * (A 0 47) + z32).toNat 1) ∧ (u = A38))))))
def d_X12_losing_3 (A : St) (u : St) (A30 : St) : Prop := tr_d_X12_losing_3 A u A30
theorem u_d_X12_losing_3 {A : St} {u : St} {A30 : St} (h : tr_d_X12_losing_3 A u A30) : d_X12_losing_3 A u A30 := h
abbrev tr_d_X12_losing_2 (A : St) (A2 : St) (u : St) (z19 : Int) : Prop := ((-1 ≤ z19 ∧ z19 ≤ 9) ∧ (((z19 = (-1)) ∧ (d_X12_losing_3 A u A2)) ∨ ((¬ z19 = (-1)) ∧ (∃ z24 : Int, z24 = A2 10 (10 * (A 0 47) + z19).toNat ∧ (((z24 = 0) ∧ (d_X12_losing_3 A u A2)) ∨ ((¬ z24 = 0) ∧ (∃ A26 : St, q_X12_blame 3 (A2 0 4) A2 A26 ∧ (d_X12_losing_3 A u A26))))))))
def d_X12_losing_2 (A : St) (A2 : St) (u : St) (z19 : Int) : Prop := tr_d_X12_losing_2 A A2 u z19
theorem u_d_X12_losing_2 {A : St} {A2 : St} {u : St} {z19 : Int} (h : tr_d_X12_losing_2 A A2 u z19) : d_X12_losing_2 A A2 u z19 := h
abbrev tr_d_X12_losing_1 (A : St) (A2 : St) (u : St) : Prop := (d_X12_losing_2 A A2 u (-1))
def d_X12_losing_1 (A : St) (A2 : St) (u : St) : Prop := tr_d_X12_losing_1 A A2 u
theorem u_d_X12_losing_1 {A : St} {A2 : St} {u : St} (h : tr_d_X12_losing_1 A A2 u) : d_X12_losing_1 A A2 u := h
abbrev tr_r_X12_losing (A : St) (u : St) : Prop := (∃ z1 : Int, ∃ A2 : St, q_X12_counts 0 A z1 A2 ∧ (((¬ z1 = 0) ∧ (((¬ (A2 0 8) = 0) ∧ (d_X12_losing_1 A A2 u)) ∨ (((A2 0 8) = 0) ∧ (((¬ (A2 0 3) = 1) ∧ (d_X12_losing_1 A A2 u)) ∨ (((A2 0 3) = 1) ∧ (∃ z11 : Int, q_X12_isOwn (A2 0 7) A2 z11 ∧ (((¬ z11 = 0) ∧ (d_X12_losing_1 A A2 u)) ∨ ((z11 = 0) ∧ (∃ z15 : Int, q_X12_named_1 1 (A2 0 7) A2 z15 ∧ (d_X12_losing_2 A A2 u z15)))))))))) ∨ ((z1 = 0) ∧ (u = A2))))
def r_X12_losing (A : St) (u : St) : Prop := tr_r_X12_losing A u
theorem u_r_X12_losing {A : St} {u : St} (h : tr_r_X12_losing A u) : r_X12_losing A u := h
def q_X12_losing (A : St) (u : St) : Prop := r_X12_losing A u ∧ IM u ∧ fr [10] [3, 4, 5, 6, 7, 8, 9] A u ∧ CB u ∧ ((u 0 8 = 0 → A 0 5 ≤ u 0 4) ∧ A 0 4 ≤ u 0 4)
def ws_mb_X12_losing : List Cond := .code yX12_losing cX12_losing 2 none :: WX
set_option maxHeartbeats 4000000 in
set_option maxRecDepth 100000 in
theorem mb_X12_losing (l : Launch) (dC : Nat → ClassId) (dI : Nat → Nat → Nat) (cB cI cJ cZ cQ : ClassId) (q : Nat → Nat) (A : St) (hI : IM A) (hcCB : CB A) : XMv l yX12_losing ws_mb_X12_losing ({ frames := 3, cells := 0, slots := 0, locals := 70 } : Room) (dC, dI) (tyA cB cI cJ cZ cQ) (WM cI cJ cZ q) A [.ref (q 0)] (fun u => r_X12_losing A u ∧ IM u ∧ fr [10] [3, 4, 5, 6, 7, 8, 9] A u ∧ CB u ∧ ((u 0 8 = 0 → A 0 5 ≤ u 0 4) ∧ A 0 4 ≤ u 0 4)) := by
  refine x_metv (cc := cX12_losing) (maxL := 2) WM_adr (by decide +kernel) rfl (Nat.le_of_ble_eq_true rfl) (fun p e s m below meth c Q AS ls hx hb hml hown hts hK hDD hA0 hP hS hl RET => ?_)
  have hown : s.vm.findClass RX12 = some m.cls := hown
  have hl : lv_has ls 2 [(0, .ref (q 0))] := hl
  have hiX12 : ∀ w ∈ u_ws RX12 TX12 85, w ∈ ws_mb_X12_losing := fun w h => List.mem_cons_of_mem _ (wx_lay w h)
  obtain ⟨H, hHe⟩ : ∃ H : Heap, H = s.heap := ⟨_, rfl⟩
  rw [← hHe] at hP
  have hS : va_S AS s.heap H [] := by rw [hHe]; exact hS
  suffices hgo : ∀ locs : List Loc, va_S AS s.heap H locs → W p l e (headSpec ws_mb_X12_losing ({ frames := 3, cells := 0, slots := 0, locals := 70 } : Room)).room s m [.ref (q 0)].toArray below meth c H locs 0 0 Q (F0 m 0 ls []) by
    have := hgo [] hS
    rw [hHe] at this
    exact this
  clear hS hHe
  intro locs hS
  have hle := CB.le hcCB
  refine lv_aload_n hx hb (dk_at dkX12_losing_0 0 rfl) rfl (lv_at hl 0 rfl) ?_
  refine lv_iconst (v := iI 0) hx hb (dk_at dkX12_losing_0 1 rfl) (by decide +kernel) ?_
  have r_A_0_4 : (0 : Int) ≤ (A 0 4) ∧ (A 0 4) ≤ 1600 := hI 0 4
  have r_A_0_5 : (0 : Int) ≤ (A 0 5) ∧ (A 0 5) ≤ 1600 := hI 0 5
  refine x_calli (As := [.int (iI 0)]) (rest := []) ⟨hx, hb, hml, hown, hts⟩ (mb_X12_counts l dC dI cB cI cJ cZ cQ q _ 0 hI ⟨by decide, by decide⟩ hcCB) (cwV 1 hts (goodV wlq_2_32 wlq_2_33 wlq_2_34 wlq_0_8 wlq_2_20) rfl rfl rfl (by decide +kernel) ⟨Nat.le_of_ble_eq_true rfl, Nat.le_of_ble_eq_true rfl⟩) hK hDD hA0 hP hS 0 12 wm0 rfl rfl hl.1 (Nat.le_of_ble_eq_true rfl) (dk_at dkX12_losing_0 2 rfl) (fun z1 A2 H locs hw3 hP hS => ?_)
  have ghw3 : q_X12_counts 0 A z1 A2 := hw3
  obtain ⟨_, hI, hf4, hw3⟩ := hw3
  obtain ⟨hc5, hw3⟩ := hw3
  have r_A2_0_4 : (0 : Int) ≤ (A2 0 4) ∧ (A2 0 4) ≤ 1600 := hI 0 4
  have r_A2_0_8 : (0 : Int) ≤ (A2 0 8) ∧ (A2 0 8) ≤ 5 := hI 0 8
  have rz1 : 0 ≤ z1 ∧ z1 ≤ 1 := hw3.1
  refine lv_if_ne (tgt := 9) hx hb (dk_at dkX12_losing_0 3 rfl) (by decide) (fun c6 => ?_) (fun c6 => ?_)
  · have c6 : ¬ z1 = 0 := mt (i_eq0 (rb rz1 (by decide) (by decide))).mpr c6
    refine lv_aload_n hx hb (dk_at dkX12_losing_0 5 rfl) rfl (lv_at hl 0 rfl) ?_
    refine va_get (D := (dC, dI)) (ci := 12) (v := .int (iI (A2 0 8))) (C := RX12) (T := TX12) (N := 85) hx hb hts hiX12 hown hK hP 0 wm0 rfl 8 (by decide) (hts _ (List.mem_cons_of_mem _ wlq_0_16)) (fun _ h9 => h9) rfl (dk_at dkX12_losing_0 6 rfl) ?_
    have J48_9 : ∀ (z19 : Int) (H : Heap) (locs : List Loc) (ls : Array Slot), (-1 ≤ z19 ∧ z19 ≤ 9) → (∀ (u : St), (d_X12_losing_2 A A2 u z19) → r_X12_losing A u) → va_P (dC, dI) vwCl (WM cI cJ cZ q A2) H → va_S AS s.heap H locs → lv_has ls 2 [(0, .ref (q 0))] → W p l e (headSpec ws_mb_X12_losing ({ frames := 3, cells := 0, slots := 0, locals := 70 } : Room)).room s m [.ref (q 0)].toArray below meth c H locs 0 0 Q (F0 m 48 ls [.int (iI z19)]) := by
      intro z19 H locs ls f21 hk2 hP hS hl
      refine lv_istore_n (lv' := [(1, .int (iI z19)), (0, .ref (q 0))]) hx hb (dk_at dkX12_losing_1 8 rfl) rfl hl (by decide) rfl (fun ls hl => ?_)
      refine lv_iload_n hx hb (dk_at dkX12_losing_1 9 rfl) rfl (lv_at hl 0 rfl) ?_
      refine lv_iconst (v := iI (-1)) hx hb (dk_at dkX12_losing_1 10 rfl) (by decide +kernel) ?_
      have J80_23 : ∀ (A30 : St) (H : Heap) (locs : List Loc) (ls : Array Slot), (∀ (u : St), (d_X12_losing_3 A u A30) → r_X12_losing A u) → IM A30 → fr [] [8, 9] A2 A30 → va_P (dC, dI) vwCl (WM cI cJ cZ q A30) H → va_S AS s.heap H locs → lv_has ls 2 [(1, .int (iI z19)), (0, .ref (q 0))] → W p l e (headSpec ws_mb_X12_losing ({ frames := 3, cells := 0, slots := 0, locals := 70 } : Room)).room s m [.ref (q 0)].toArray below meth c H locs 0 0 Q (F0 m 80 ls []) := by
        intro A30 H locs ls hk3 hI hj29 hP hS hl
        have gI31 : Hd (IM A30) := Hd.mk hI
        refine lv_aload_n hx hb (dk_at dkX12_losing_2 11 rfl) rfl (lv_at hl 1 rfl) ?_
        refine lv_iconst (v := iI 1) hx hb (dk_at dkX12_losing_2 12 rfl) (by decide +kernel) ?_
        have e_A30_3 : A30 0 3 = (A2 0 3) := (hj29.2 3 rfl)
        have r_A2_0_3 : (0 : Int) ≤ (A2 0 3) ∧ (A2 0 3) ≤ 3 := by rw [← e_A30_3]; exact hI 0 3
        have e_A30_4 : A30 0 4 = (A2 0 4) := (hj29.2 4 rfl)
        have e_A30_7 : A30 0 7 = (A2 0 7) := (hj29.2 7 rfl)
        have r_A2_0_7 : (-9223372036854775808 : Int) ≤ (A2 0 7) ∧ (A2 0 7) ≤ 9223372036854775807 := by rw [← e_A30_7]; exact hI 0 7
        have r_A30_0_8 : (0 : Int) ≤ (A30 0 8) ∧ (A30 0 8) ≤ 5 := hI 0 8
        have e_A2_47 : A2 0 47 = (A 0 47) := (hf4.2 47 rfl)
        have e_A30_47 : A30 0 47 = (A 0 47) := (hj29.2 47 rfl).trans e_A2_47
        have r_A_0_47 : (0 : Int) ≤ (A 0 47) ∧ (A 0 47) ≤ 1 := by rw [← e_A30_47]; exact hI 0 47
        refine x_calli (As := [.int (iI 1)]) (rest := []) ⟨hx, hb, hml, hown, hts⟩ (mb_X12_asked_1 l dC dI cB cI cJ cZ cQ q _ 1 hI ⟨by decide, by decide⟩ (CB.fr hc5 hj29 rfl rfl)) (cwV 1 hts (goodV wlq_2_47 wlq_2_48 wlq_2_49 wlq_0_8 wlq_2_29) rfl rfl rfl (by decide +kernel) ⟨Nat.le_of_ble_eq_true rfl, Nat.le_of_ble_eq_true rfl⟩) hK hDD hA0 hP hS 0 12 wm0 rfl rfl hl.1 (Nat.le_of_ble_eq_true rfl) (dk_at dkX12_losing_2 13 rfl) (fun z32 A33 H locs hw34 hP hS => ?_)
        have ghw34 : q_X12_asked_1 1 A30 z32 A33 := hw34
        obtain ⟨_, hI, hf35, hw34⟩ := hw34
        obtain ⟨hc36, hw34⟩ := hw34
        have r_A33_0_4 : (0 : Int) ≤ (A33 0 4) ∧ (A33 0 4) ≤ 1600 := hI 0 4
        have r_A33_0_8 : (0 : Int) ≤ (A33 0 8) ∧ (A33 0 8) ≤ 5 := hI 0 8
        refine lv_istore_n (lv' := [(1, .int (iI z32)), (0, .ref (q 0))]) hx hb (dk_at dkX12_losing_2 14 rfl) rfl hl (by decide) rfl (fun ls hl => ?_)
        refine lv_aload_n hx hb (dk_at dkX12_losing_2 15 rfl) rfl (lv_at hl 1 rfl) ?_
        refine va_get (D := (dC, dI)) (ci := 12) (v := .int (iI (A33 0 8))) (C := RX12) (T := TX12) (N := 85) hx hb hts hiX12 hown hK hP 0 wm0 rfl 8 (by decide) (hts _ (List.mem_cons_of_mem _ wlq_0_16)) (fun _ h9 => h9) rfl (dk_at dkX12_losing_3 0 rfl) ?_
        refine lv_if_ne (tgt := 108) hx hb (dk_at dkX12_losing_3 1 rfl) (by decide) (fun c37 => ?_) (fun c37 => ?_)
        · have c37 : ¬ (A33 0 8) = 0 := mt (i_eq0 (rb r_A33_0_8 (by decide) (by decide))).mpr c37
          exact RET _ _ _ _ _ ⟨hk3 _ (u_d_X12_losing_3 ⟨gI31.out, ⟨z32, A33, ghw34, (Or.inl ⟨c37, rfl⟩)⟩⟩), hI, fr.trans (fr.trans (fr.trans (fr.rf) hf4 rfl rfl) hj29 rfl rfl) hf35 rfl rfl, hc36, by omega⟩ hP hS (dk_at dkX12_losing_3 12 rfl)
        · have c37 : (A33 0 8) = 0 := (i_eq0 (rb r_A33_0_8 (by decide) (by decide))).mp c37
          refine lv_aload_n hx hb (dk_at dkX12_losing_3 2 rfl) rfl (lv_at hl 1 rfl) ?_
          refine va_get (D := (dC, dI)) (ci := 12) (v := .ref (q 10)) (C := RX12) (T := TX12) (N := 85) hx hb hts hiX12 hown hK hP 0 wm0 rfl 21 (by decide) (hts _ (List.mem_cons_of_mem _ wlq_2_43)) (fun _ h9 => h9) rfl (dk_at dkX12_losing_3 3 rfl) ?_
          refine lv_bipush (v := iI 10) hx hb (dk_at dkX12_losing_3 4 rfl) (by decide +kernel) ?_
          refine lv_aload_n hx hb (dk_at dkX12_losing_3 5 rfl) rfl (lv_at hl 1 rfl) ?_
          have e_A33_47 : A33 0 47 = (A 0 47) := (hf35.2 47 rfl).trans e_A30_47
          refine va_get (D := (dC, dI)) (ci := 12) (v := .int (iI (A33 0 47))) (C := RX12) (T := TX12) (N := 85) hx hb hts hiX12 hown hK hP 0 wm0 rfl 47 (by decide) (hts _ (List.mem_cons_of_mem _ wlq_1_12)) (fun _ h9 => h9) rfl (dk_at dkX12_losing_3 6 rfl) ?_
          refine tp_i (y := iI (A 0 47)) (congrArg iI e_A33_47) ?_
          refine x_mulv (v := 10 * (A 0 47)) hx hb (dk_at dkX12_losing_3 7 rfl) (by omega) ?_
          refine lv_iload_n hx hb (dk_at dkX12_losing_3 8 rfl) rfl (lv_at hl 0 rfl) ?_
          refine x_addv (v := 10 * (A 0 47) + z32) hx hb (dk_at dkX12_losing_3 9 rfl) (by omega) ?_
          refine lv_iconst (v := iI 1) hx hb (dk_at dkX12_losing_3 10 rfl) (by decide +kernel) ?_
          refine x_zast hx hb hK hP hDD hS 10 3 wm10 rfl (by omega) (by decide) (dk_at dkX12_losing_3 11 rfl) (by omega) ws10 (fun H locs hP hS => ?_)
          have hI := hI.st (j := 10) (i := (10 * (A 0 47) + z32).toNat) (v := 1) (show (0 : Int) ≤ 1 ∧ 1 ≤ 1 from (by omega))
          obtain ⟨A38, hA38⟩ : ∃ A38 : St, A38 = (stA A33 10 (10 * (A 0 47) + z32).toNat 1) := ⟨_, rfl⟩
          rw [← hA38] at hP hI
          have e_A38_4 : A38 0 4 = (A33 0 4) := by rw [hA38]; exact rfl
          have e_A38_8 : A38 0 8 = (A33 0 8) := by rw [hA38]; exact rfl
          exact RET _ _ _ _ _ ⟨hk3 _ (u_d_X12_losing_3 ⟨gI31.out, ⟨z32, A33, ghw34, (Or.inr ⟨c37, ⟨A38, hA38, rfl⟩⟩)⟩⟩), hI, fr_def hA38 (fr.st (fr.trans (fr.trans (fr.trans (fr.rf) hf4 rfl rfl) hj29 rfl rfl) hf35 rfl rfl) (by decide) rfl), (CB.fr hc36 (fr_def hA38 (fr.st (fr.rf (M := [10]) (N := [])) (by decide) rfl)) rfl rfl), by omega⟩ hP hS (dk_at dkX12_losing_3 12 rfl)
      refine lv_icmp_eq (tgt := 80) hx hb (dk_at dkX12_losing_1 11 rfl) (by decide) (fun c22 => ?_) (fun c22 => ?_)
      · have c22 : z19 = (-1) := (i_eq (rb f21 (by decide) (by decide)) ⟨by decide, by decide⟩).mp c22
        exact J80_23 _ _ _ _ (fun uq hq => hk2 _ (u_d_X12_losing_2 ⟨f21, (Or.inl ⟨c22, hq⟩)⟩)) hI (fr.rf) hP hS (lv_sub hl [0, 1] rfl)
      · have c22 : ¬ z19 = (-1) := mt (i_eq (rb f21 (by decide) (by decide)) ⟨by decide, by decide⟩).mpr c22
        refine lv_aload_n hx hb (dk_at dkX12_losing_1 12 rfl) rfl (lv_at hl 1 rfl) ?_
        refine va_get (D := (dC, dI)) (ci := 12) (v := .ref (q 10)) (C := RX12) (T := TX12) (N := 85) hx hb hts hiX12 hown hK hP 0 wm0 rfl 21 (by decide) (hts _ (List.mem_cons_of_mem _ wlq_2_43)) (fun _ h9 => h9) rfl (dk_at dkX12_losing_1 13 rfl) ?_
        refine lv_bipush (v := iI 10) hx hb (dk_at dkX12_losing_1 14 rfl) (by decide +kernel) ?_
        refine lv_aload_n hx hb (dk_at dkX12_losing_1 15 rfl) rfl (lv_at hl 1 rfl) ?_
        have e_A2_47 : A2 0 47 = (A 0 47) := (hf4.2 47 rfl)
        refine va_get (D := (dC, dI)) (ci := 12) (v := .int (iI (A2 0 47))) (C := RX12) (T := TX12) (N := 85) hx hb hts hiX12 hown hK hP 0 wm0 rfl 47 (by decide) (hts _ (List.mem_cons_of_mem _ wlq_1_12)) (fun _ h9 => h9) rfl (dk_at dkX12_losing_2 0 rfl) ?_
        refine tp_i (y := iI (A 0 47)) (congrArg iI e_A2_47) ?_
        have r_A_0_47 : (0 : Int) ≤ (A 0 47) ∧ (A 0 47) ≤ 1 := by rw [← e_A2_47]; exact hI 0 47
        refine x_mulv (v := 10 * (A 0 47)) hx hb (dk_at dkX12_losing_2 1 rfl) (by omega) ?_
        refine lv_iload_n hx hb (dk_at dkX12_losing_2 2 rfl) rfl (lv_at hl 0 rfl) ?_
        refine x_addv (v := 10 * (A 0 47) + z19) hx hb (dk_at dkX12_losing_2 3 rfl) (by omega) ?_
        have a_A2_10 : A2 10 = A 10 := (hf4.1 10 (by decide) rfl)
        refine x_zald hx hb hK hP 10 3 wm10 rfl (by omega) (by decide) (dk_at dkX12_losing_2 4 rfl) (fun z24 hz24 => ?_)
        have rz24 : (0 : Int) ≤ z24 ∧ z24 ≤ 1 := by rw [hz24]; exact hI 10 _
        have gz24 := Hd.mk hz24
        have hz24 : z24 = A 10 (10 * (A 0 47) + z19).toNat := hz24.trans (congrFun a_A2_10 _)
        refine lv_if_eq (tgt := 80) hx hb (dk_at dkX12_losing_2 5 rfl) (by decide) (fun c25 => ?_) (fun c25 => ?_)
        · have c25 : z24 = 0 := (i_eq0 (rb rz24 (by decide) (by decide))).mp c25
          exact J80_23 _ _ _ _ (fun uq hq => hk2 _ (u_d_X12_losing_2 ⟨f21, (Or.inr ⟨c22, ⟨z24, gz24.out, (Or.inl ⟨c25, hq⟩)⟩⟩)⟩)) hI (fr.rf) hP hS (lv_sub hl [0, 1] rfl)
        · have c25 : ¬ z24 = 0 := mt (i_eq0 (rb rz24 (by decide) (by decide))).mpr c25
          refine lv_aload_n hx hb (dk_at dkX12_losing_2 6 rfl) rfl (lv_at hl 1 rfl) ?_
          refine lv_iconst (v := iI 3) hx hb (dk_at dkX12_losing_2 7 rfl) (by decide +kernel) ?_
          refine lv_aload_n hx hb (dk_at dkX12_losing_2 8 rfl) rfl (lv_at hl 1 rfl) ?_
          refine va_get (D := (dC, dI)) (ci := 12) (v := .int (iI (A2 0 4))) (C := RX12) (T := TX12) (N := 85) hx hb hts hiX12 hown hK hP 0 wm0 rfl 4 (by decide) (hts _ (List.mem_cons_of_mem _ wlq_0_23)) (fun _ h9 => h9) rfl (dk_at dkX12_losing_2 9 rfl) ?_
          refine x_callv (As := [.int (iI 3), .int (iI (A2 0 4))]) (rest := []) ⟨hx, hb, hml, hown, hts⟩ (mc_X12_blame l dC dI cB cI cJ cZ cQ q _ 3 (A2 0 4) hI ⟨by decide, by decide⟩ r_A2_0_4) (cwV 2 hts (goodV wlq_0_31 wlq_0_32 wlq_0_33 wlq_0_8 wlq_0_15) rfl rfl rfl (by decide +kernel) ⟨Nat.le_of_ble_eq_true rfl, Nat.le_of_ble_eq_true rfl⟩) hK hDD hA0 hP hS 0 12 wm0 rfl rfl hl.1 (Nat.le_of_ble_eq_true rfl) (dk_at dkX12_losing_2 10 rfl) (fun A26 H locs hw27 hP hS => ?_)
          have ghw27 : q_X12_blame 3 (A2 0 4) A2 A26 := hw27
          obtain ⟨_, hI, hf28, hw27⟩ := hw27
          have r_A26_0_8 : (0 : Int) ≤ (A26 0 8) ∧ (A26 0 8) ≤ 5 := hI 0 8
          exact J80_23 _ _ _ _ (fun uq hq => hk2 _ (u_d_X12_losing_2 ⟨f21, (Or.inr ⟨c22, ⟨z24, gz24.out, (Or.inr ⟨c25, ⟨A26, ghw27, hq⟩⟩)⟩⟩)⟩)) hI (fr.trans (fr.rf) hf28 rfl rfl) hP hS (lv_sub hl [0, 1] rfl)
    have J47_8 : ∀ (H : Heap) (locs : List Loc) (ls : Array Slot), (∀ (u : St), (d_X12_losing_1 A A2 u) → r_X12_losing A u) → va_P (dC, dI) vwCl (WM cI cJ cZ q A2) H → va_S AS s.heap H locs → lv_has ls 2 [(0, .ref (q 0))] → W p l e (headSpec ws_mb_X12_losing ({ frames := 3, cells := 0, slots := 0, locals := 70 } : Room)).room s m [.ref (q 0)].toArray below meth c H locs 0 0 Q (F0 m 47 ls []) := by
      intro H locs ls hk1 hP hS hl
      refine lv_iconst (v := iI (-1)) hx hb (dk_at dkX12_losing_1 7 rfl) (by decide +kernel) ?_
      exact J48_9 (-1) _ _ _ (by omega) (fun uq hq => hk1 _ (u_d_X12_losing_1 hq)) hP hS (lv_sub hl [0] rfl)
    refine lv_if_ne (tgt := 47) hx hb (dk_at dkX12_losing_0 7 rfl) (by decide) (fun c7 => ?_) (fun c7 => ?_)
    · have c7 : ¬ (A2 0 8) = 0 := mt (i_eq0 (rb r_A2_0_8 (by decide) (by decide))).mpr c7
      exact J47_8 _ _ _ (fun uq hq => (u_r_X12_losing ⟨z1, A2, ghw3, (Or.inl ⟨c6, (Or.inl ⟨c7, hq⟩)⟩)⟩)) hP hS (lv_sub hl [0] rfl)
    · have c7 : (A2 0 8) = 0 := (i_eq0 (rb r_A2_0_8 (by decide) (by decide))).mp c7
      refine lv_aload_n hx hb (dk_at dkX12_losing_0 8 rfl) rfl (lv_at hl 0 rfl) ?_
      refine va_get (D := (dC, dI)) (ci := 12) (v := .int (iI (A2 0 3))) (C := RX12) (T := TX12) (N := 85) hx hb hts hiX12 hown hK hP 0 wm0 rfl 3 (by decide) (hts _ (List.mem_cons_of_mem _ wlq_0_24)) (fun _ h9 => h9) rfl (dk_at dkX12_losing_0 9 rfl) ?_
      have r_A2_0_3 : (0 : Int) ≤ (A2 0 3) ∧ (A2 0 3) ≤ 3 := hI 0 3
      refine lv_iconst (v := iI 1) hx hb (dk_at dkX12_losing_0 10 rfl) (by decide +kernel) ?_
      refine lv_icmp_ne (tgt := 47) hx hb (dk_at dkX12_losing_0 11 rfl) (by decide) (fun c10 => ?_) (fun c10 => ?_)
      · have c10 : ¬ (A2 0 3) = 1 := mt (i_eq (rb r_A2_0_3 (by decide) (by decide)) ⟨by decide, by decide⟩).mpr c10
        exact J47_8 _ _ _ (fun uq hq => (u_r_X12_losing ⟨z1, A2, ghw3, (Or.inl ⟨c6, (Or.inr ⟨c7, (Or.inl ⟨c10, hq⟩)⟩)⟩)⟩)) hP hS (lv_sub hl [0] rfl)
      · have c10 : (A2 0 3) = 1 := (i_eq (rb r_A2_0_3 (by decide) (by decide)) ⟨by decide, by decide⟩).mp c10
        refine lv_aload_n hx hb (dk_at dkX12_losing_0 12 rfl) rfl (lv_at hl 0 rfl) ?_
        refine lv_aload_n hx hb (dk_at dkX12_losing_0 13 rfl) rfl (lv_at hl 0 rfl) ?_
        refine va_get (D := (dC, dI)) (ci := 12) (v := .long (jI (A2 0 7))) (C := RX12) (T := TX12) (N := 85) hx hb hts hiX12 hown hK hP 0 wm0 rfl 7 (by decide) (hts _ (List.mem_cons_of_mem _ wlq_0_26)) (fun _ h9 => h9) rfl (dk_at dkX12_losing_0 14 rfl) ?_
        have r_A2_0_7 : (-9223372036854775808 : Int) ≤ (A2 0 7) ∧ (A2 0 7) ≤ 9223372036854775807 := hI 0 7
        refine x_calli (As := [.long (jI (A2 0 7))]) (rest := []) ⟨hx, hb, hml, hown, hts⟩ (mb_X12_isOwn l dC dI cB cI cJ cZ cQ q _ (A2 0 7) hI r_A2_0_7) (cwV 1 hts (goodV wlq_2_23 wlq_2_24 wlq_2_25 wlq_0_8 wlq_0_43) rfl rfl rfl (by decide +kernel) ⟨Nat.le_of_ble_eq_true rfl, Nat.le_of_ble_eq_true rfl⟩) hK hDD hA0 hP hS 0 12 wm0 rfl rfl hl.1 (Nat.le_of_ble_eq_true rfl) (dk_at dkX12_losing_0 15 rfl) (fun z11 A12 H locs hw13 hP hS => ?_)
        obtain ⟨rfl, hw13⟩ := hw13
        have ghw13 : q_X12_isOwn (A2 0 7) A2 z11 := hw13
        have hw13 := hw13.2
        have rz11 : 0 ≤ z11 ∧ z11 ≤ 1 := hw13.1
        refine lv_if_ne (tgt := 47) hx hb (dk_at dkX12_losing_1 0 rfl) (by decide) (fun c14 => ?_) (fun c14 => ?_)
        · have c14 : ¬ z11 = 0 := mt (i_eq0 (rb rz11 (by decide) (by decide))).mpr c14
          exact J47_8 _ _ _ (fun uq hq => (u_r_X12_losing ⟨z1, A2, ghw3, (Or.inl ⟨c6, (Or.inr ⟨c7, (Or.inr ⟨c10, ⟨z11, ghw13, (Or.inl ⟨c14, hq⟩)⟩⟩)⟩)⟩)⟩)) hP hS (lv_sub hl [0] rfl)
        · have c14 : z11 = 0 := (i_eq0 (rb rz11 (by decide) (by decide))).mp c14
          refine lv_aload_n hx hb (dk_at dkX12_losing_1 1 rfl) rfl (lv_at hl 0 rfl) ?_
          refine lv_iconst (v := iI 1) hx hb (dk_at dkX12_losing_1 2 rfl) (by decide +kernel) ?_
          refine lv_aload_n hx hb (dk_at dkX12_losing_1 3 rfl) rfl (lv_at hl 0 rfl) ?_
          refine va_get (D := (dC, dI)) (ci := 12) (v := .long (jI (A2 0 7))) (C := RX12) (T := TX12) (N := 85) hx hb hts hiX12 hown hK hP 0 wm0 rfl 7 (by decide) (hts _ (List.mem_cons_of_mem _ wlq_0_26)) (fun _ h9 => h9) rfl (dk_at dkX12_losing_1 4 rfl) ?_
          have e_A2_47 : A2 0 47 = (A 0 47) := (hf4.2 47 rfl)
          have r_A_0_47 : (0 : Int) ≤ (A 0 47) ∧ (A 0 47) ≤ 1 := by rw [← e_A2_47]; exact hI 0 47
          refine x_calli (As := [.int (iI 1), .long (jI (A2 0 7))]) (rest := []) ⟨hx, hb, hml, hown, hts⟩ (mb_X12_named_1 l dC dI cB cI cJ cZ cQ q _ 1 (A2 0 7) hI ⟨by decide, by decide⟩ r_A2_0_7) (cwV 2 hts (goodV wlq_2_26 wlq_2_27 wlq_2_28 wlq_0_8 wlq_1_10) rfl rfl rfl (by decide +kernel) ⟨Nat.le_of_ble_eq_true rfl, Nat.le_of_ble_eq_true rfl⟩) hK hDD hA0 hP hS 0 12 wm0 rfl rfl hl.1 (Nat.le_of_ble_eq_true rfl) (dk_at dkX12_losing_1 5 rfl) (fun z15 A16 H locs hw17 hP hS => ?_)
          obtain ⟨rfl, hw17⟩ := hw17
          have ghw17 : q_X12_named_1 1 (A2 0 7) A2 z15 := hw17
          have hw17 := hw17.2
          have a_A2_5 : A2 5 = A 5 := (hf4.1 5 (by decide) rfl)
          have a_A2_4 : A2 4 = A 4 := (hf4.1 4 (by decide) rfl)
          rw [a_A2_5, a_A2_4, e_A2_47] at hw17
          refine lv_goto (tgt := 48) hx hb (dk_at dkX12_losing_1 6 rfl) (by decide) ?_
          exact J48_9 z15 _ _ _ (by omega) (fun uq hq => (u_r_X12_losing ⟨z1, A2, ghw3, (Or.inl ⟨c6, (Or.inr ⟨c7, (Or.inr ⟨c10, ⟨z11, ghw13, (Or.inr ⟨c14, ⟨z15, ghw17, hq⟩⟩)⟩⟩)⟩)⟩)⟩)) hP hS (lv_sub hl [0] rfl)
  · have c6 : z1 = 0 := (i_eq0 (rb rz1 (by decide) (by decide))).mp c6
    exact RET _ _ _ _ _ ⟨(u_r_X12_losing ⟨z1, A2, ghw3, (Or.inr ⟨c6, rfl⟩)⟩), hI, fr.trans (fr.rf) hf4 rfl rfl, hc5, by omega⟩ hP hS (dk_at dkX12_losing_0 4 rfl)

abbrev tr_d_X12_thing_1 (A : St) (u : St) (z4 : Int) : Prop := ((0 ≤ z4 ∧ z4 ≤ 1) ∧ (∃ z8 : Int, ∃ A9 : St, q_X12_counts z4 A z8 A9 ∧ (((¬ z8 = 0) ∧ (∃ z14 : Int, z14 = A9 19 ((A 0 47)).toNat ∧ (∃ z15 : Int, ∃ A16 : St, q_X12_fresh A9 z15 A16 ∧ (∃ A20 : St, A20 = (stA A16 20 (4 * (A 0 47) + z14).toNat z15) ∧ (∃ z21 : Int, ∃ A22 : St, q_X12_within A20 z21 A22 ∧ (((¬ (A22 0 8) = 0) ∧ (∃ A27 : St, A27 = (stA A22 21 (4 * (A 0 47) + z14).toNat z21) ∧ (u = A27))) ∨ (((A22 0 8) = 0) ∧ (∃ z28 : Int, z28 = (stA A22 21 (4 * (A 0 47) + z14).toNat z21) 19 ((A 0 47)).toNat ∧ (∃ A29 : St, A29 = (stA (stA A22 21 (4 * (A 0 47) + z14).toNat z21) 19 ((A 0 47)).toNat (z28 + 1)) ∧ (u = A29)))))))))) ∨ ((z8 = 0) ∧ (u = A9)))))
def d_X12_thing_1 (A : St) (u : St) (z4 : Int) : Prop := tr_d_X12_thing_1 A u z4
theorem u_d_X12_thing_1 {A : St} {u : St} {z4 : Int} (h : tr_d_X12_thing_1 A u z4) : d_X12_thing_1 A u z4 := h
abbrev tr_r_X12_thing (A : St) (u : St) : Prop := (∃ z1 : Int, z1 = A 19 ((A 0 47)).toNat ∧ (((¬ z1 = 4) ∧ (d_X12_thing_1 A u 0)) ∨ ((z1 = 4) ∧ (d_X12_thing_1 A u 1))))
def r_X12_thing (A : St) (u : St) : Prop := tr_r_X12_thing A u
theorem u_r_X12_thing {A : St} {u : St} (h : tr_r_X12_thing A u) : r_X12_thing A u := h
def q_X12_thing (A : St) (u : St) : Prop := r_X12_thing A u ∧ IM u ∧ fr [19, 20, 21] [3, 4, 5, 6, 7, 8, 9] A u ∧ CB u ∧ ((u 0 8 = 0 → A 0 5 ≤ u 0 4) ∧ A 0 4 ≤ u 0 4)
def ws_mb_X12_thing : List Cond := .code yX12_thing cX12_thing 2 none :: WX
set_option maxHeartbeats 4000000 in
set_option maxRecDepth 100000 in
theorem mb_X12_thing (l : Launch) (dC : Nat → ClassId) (dI : Nat → Nat → Nat) (cB cI cJ cZ cQ : ClassId) (q : Nat → Nat) (A : St) (hI : IM A) (hcCB : CB A) : XMv l yX12_thing ws_mb_X12_thing ({ frames := 4, cells := 0, slots := 0, locals := 91 } : Room) (dC, dI) (tyA cB cI cJ cZ cQ) (WM cI cJ cZ q) A [.ref (q 0)] (fun u => r_X12_thing A u ∧ IM u ∧ fr [19, 20, 21] [3, 4, 5, 6, 7, 8, 9] A u ∧ CB u ∧ ((u 0 8 = 0 → A 0 5 ≤ u 0 4) ∧ A 0 4 ≤ u 0 4)) := by
  refine x_metv (cc := cX12_thing) (maxL := 2) WM_adr (by decide +kernel) rfl (Nat.le_of_ble_eq_true rfl) (fun p e s m below meth c Q AS ls hx hb hml hown hts hK hDD hA0 hP hS hl RET => ?_)
  have hown : s.vm.findClass RX12 = some m.cls := hown
  have hl : lv_has ls 2 [(0, .ref (q 0))] := hl
  have hiX12 : ∀ w ∈ u_ws RX12 TX12 85, w ∈ ws_mb_X12_thing := fun w h => List.mem_cons_of_mem _ (wx_lay w h)
  obtain ⟨H, hHe⟩ : ∃ H : Heap, H = s.heap := ⟨_, rfl⟩
  rw [← hHe] at hP
  have hS : va_S AS s.heap H [] := by rw [hHe]; exact hS
  suffices hgo : ∀ locs : List Loc, va_S AS s.heap H locs → W p l e (headSpec ws_mb_X12_thing ({ frames := 4, cells := 0, slots := 0, locals := 91 } : Room)).room s m [.ref (q 0)].toArray below meth c H locs 0 0 Q (F0 m 0 ls []) by
    have := hgo [] hS
    rw [hHe] at this
    exact this
  clear hS hHe
  intro locs hS
  have hle := CB.le hcCB
  refine lv_aload_n hx hb (dk_at dkX12_thing_0 0 rfl) rfl (lv_at hl 0 rfl) ?_
  refine lv_aload_n hx hb (dk_at dkX12_thing_0 1 rfl) rfl (lv_at hl 0 rfl) ?_
  refine va_get (D := (dC, dI)) (ci := 12) (v := .ref (q 19)) (C := RX12) (T := TX12) (N := 85) hx hb hts hiX12 hown hK hP 0 wm0 rfl 30 (by decide) (hts _ (List.mem_cons_of_mem _ wlq_1_16)) (fun _ h9 => h9) rfl (dk_at dkX12_thing_0 2 rfl) ?_
  refine lv_aload_n hx hb (dk_at dkX12_thing_0 3 rfl) rfl (lv_at hl 0 rfl) ?_
  refine va_get (D := (dC, dI)) (ci := 12) (v := .int (iI (A 0 47))) (C := RX12) (T := TX12) (N := 85) hx hb hts hiX12 hown hK hP 0 wm0 rfl 47 (by decide) (hts _ (List.mem_cons_of_mem _ wlq_1_12)) (fun _ h9 => h9) rfl (dk_at dkX12_thing_0 4 rfl) ?_
  have r_A_0_47 : (0 : Int) ≤ (A 0 47) ∧ (A 0 47) ≤ 1 := hI 0 47
  refine x_iald hx hb hK hP 19 1 wm19 rfl (by omega) (by decide) (dk_at dkX12_thing_0 5 rfl) (fun z1 hz1 => ?_)
  have rz1 : (0 : Int) ≤ z1 ∧ z1 ≤ 4 := by rw [hz1]; exact hI 19 _
  have gz1 := Hd.mk hz1
  have hz1 : z1 = A 19 ((A 0 47)).toNat := hz1
  refine lv_iconst (v := iI 4) hx hb (dk_at dkX12_thing_0 6 rfl) (by decide +kernel) ?_
  have J19_3 : ∀ (z4 : Int) (H : Heap) (locs : List Loc) (ls : Array Slot), (0 ≤ z4 ∧ z4 ≤ 1) → ((z4 = 0 ∧ ¬ z1 = 4) ∨ (z4 = 1 ∧ z1 = 4)) → (∀ (u : St), (d_X12_thing_1 A u z4) → r_X12_thing A u) → va_P (dC, dI) vwCl (WM cI cJ cZ q A) H → va_S AS s.heap H locs → lv_has ls 2 [(0, .ref (q 0))] → W p l e (headSpec ws_mb_X12_thing ({ frames := 4, cells := 0, slots := 0, locals := 91 } : Room)).room s m [.ref (q 0)].toArray below meth c H locs 0 0 Q (F0 m 19 ls [.int (iI z4), .ref (q 0)]) := by
    intro z4 H locs ls f6 f7 hk1 hP hS hl
    have r_A_0_4 : (0 : Int) ≤ (A 0 4) ∧ (A 0 4) ≤ 1600 := hI 0 4
    have r_A_0_5 : (0 : Int) ≤ (A 0 5) ∧ (A 0 5) ≤ 1600 := hI 0 5
    refine x_calli (As := [.int (iI z4)]) (rest := []) ⟨hx, hb, hml, hown, hts⟩ (mb_X12_counts l dC dI cB cI cJ cZ cQ q _ z4 hI f6 hcCB) (cwV 1 hts (goodV wlq_2_32 wlq_2_33 wlq_2_34 wlq_0_8 wlq_2_20) rfl rfl rfl (by decide +kernel) ⟨Nat.le_of_ble_eq_true rfl, Nat.le_of_ble_eq_true rfl⟩) hK hDD hA0 hP hS 0 12 wm0 rfl rfl hl.1 (Nat.le_of_ble_eq_true rfl) (dk_at dkX12_thing_0 11 rfl) (fun z8 A9 H locs hw10 hP hS => ?_)
    have ghw10 : q_X12_counts z4 A z8 A9 := hw10
    obtain ⟨_, hI, hf11, hw10⟩ := hw10
    obtain ⟨hc12, hw10⟩ := hw10
    have r_A9_0_4 : (0 : Int) ≤ (A9 0 4) ∧ (A9 0 4) ≤ 1600 := hI 0 4
    have r_A9_0_8 : (0 : Int) ≤ (A9 0 8) ∧ (A9 0 8) ≤ 5 := hI 0 8
    have rz8 : 0 ≤ z8 ∧ z8 ≤ 1 := hw10.1
    refine lv_if_ne (tgt := 26) hx hb (dk_at dkX12_thing_0 12 rfl) (by decide) (fun c13 => ?_) (fun c13 => ?_)
    · have c13 : ¬ z8 = 0 := mt (i_eq0 (rb rz8 (by decide) (by decide))).mpr c13
      refine lv_iconst (v := iI 4) hx hb (dk_at dkX12_thing_0 14 rfl) (by decide +kernel) ?_
      refine lv_aload_n hx hb (dk_at dkX12_thing_0 15 rfl) rfl (lv_at hl 0 rfl) ?_
      have e_A9_47 : A9 0 47 = (A 0 47) := (hf11.2 47 rfl)
      refine va_get (D := (dC, dI)) (ci := 12) (v := .int (iI (A9 0 47))) (C := RX12) (T := TX12) (N := 85) hx hb hts hiX12 hown hK hP 0 wm0 rfl 47 (by decide) (hts _ (List.mem_cons_of_mem _ wlq_1_12)) (fun _ h9 => h9) rfl (dk_at dkX12_thing_1 0 rfl) ?_
      refine tp_i (y := iI (A 0 47)) (congrArg iI e_A9_47) ?_
      refine x_mulv (v := 4 * (A 0 47)) hx hb (dk_at dkX12_thing_1 1 rfl) (by omega) ?_
      refine lv_aload_n hx hb (dk_at dkX12_thing_1 2 rfl) rfl (lv_at hl 0 rfl) ?_
      refine va_get (D := (dC, dI)) (ci := 12) (v := .ref (q 19)) (C := RX12) (T := TX12) (N := 85) hx hb hts hiX12 hown hK hP 0 wm0 rfl 30 (by decide) (hts _ (List.mem_cons_of_mem _ wlq_1_16)) (fun _ h9 => h9) rfl (dk_at dkX12_thing_1 3 rfl) ?_
      refine lv_aload_n hx hb (dk_at dkX12_thing_1 4 rfl) rfl (lv_at hl 0 rfl) ?_
      refine va_get (D := (dC, dI)) (ci := 12) (v := .int (iI (A9 0 47))) (C := RX12) (T := TX12) (N := 85) hx hb hts hiX12 hown hK hP 0 wm0 rfl 47 (by decide) (hts _ (List.mem_cons_of_mem _ wlq_1_12)) (fun _ h9 => h9) rfl (dk_at dkX12_thing_1 5 rfl) ?_
      refine tp_i (y := iI (A 0 47)) (congrArg iI e_A9_47) ?_
      have a_A9_19 : A9 19 = A 19 := (hf11.1 19 (by decide) rfl)
      refine x_iald hx hb hK hP 19 1 wm19 rfl (by omega) (by decide) (dk_at dkX12_thing_1 6 rfl) (fun z14 hz14 => ?_)
      have rz14 : (0 : Int) ≤ z14 ∧ z14 ≤ 4 := by rw [hz14]; exact hI 19 _
      have gz14 := Hd.mk hz14
      have hz14 : z14 = A 19 ((A 0 47)).toNat := hz14.trans (congrFun a_A9_19 _)
      have ez14 : z14 = z1 := hz14.trans hz1.symm
      refine x_addv (v := 4 * (A 0 47) + z14) hx hb (dk_at dkX12_thing_1 7 rfl) (by omega) ?_
      refine lv_istore_n (lv' := [(1, .int (iI (4 * (A 0 47) + z14))), (0, .ref (q 0))]) hx hb (dk_at dkX12_thing_1 8 rfl) rfl hl (by decide) rfl (fun ls hl => ?_)
      refine lv_aload_n hx hb (dk_at dkX12_thing_1 9 rfl) rfl (lv_at hl 1 rfl) ?_
      refine va_get (D := (dC, dI)) (ci := 12) (v := .ref (q 20)) (C := RX12) (T := TX12) (N := 85) hx hb hts hiX12 hown hK hP 0 wm0 rfl 31 (by decide) (hts _ (List.mem_cons_of_mem _ wlq_1_25)) (fun _ h9 => h9) rfl (dk_at dkX12_thing_1 10 rfl) ?_
      refine lv_iload_n hx hb (dk_at dkX12_thing_1 11 rfl) rfl (lv_at hl 0 rfl) ?_
      refine lv_aload_n hx hb (dk_at dkX12_thing_1 12 rfl) rfl (lv_at hl 1 rfl) ?_
      refine x_calll (As := []) (rest := [.int (iI (4 * (A 0 47) + z14)), .ref (q 20)]) ⟨hx, hb, hml, hown, hts⟩ (mb_X12_fresh l dC dI cB cI cJ cZ cQ q _ hI hc12) (cwV 0 hts (goodV wlq_2_35 wlq_2_36 wlq_2_37 wlq_0_8 wlq_2_22) rfl rfl rfl (by decide +kernel) ⟨Nat.le_of_ble_eq_true rfl, Nat.le_of_ble_eq_true rfl⟩) hK hDD hA0 hP hS 0 12 wm0 rfl rfl hl.1 (Nat.le_of_ble_eq_true rfl) (dk_at dkX12_thing_1 13 rfl) (fun z15 A16 H locs hw17 hP hS => ?_)
      have ghw17 : q_X12_fresh A9 z15 A16 := hw17
      obtain ⟨_, hI, hf18, hw17⟩ := hw17
      obtain ⟨hc19, hw17⟩ := hw17
      have r_A16_0_4 : (0 : Int) ≤ (A16 0 4) ∧ (A16 0 4) ≤ 1600 := hI 0 4
      refine x_last hx hb hK hP hDD hS 20 2 wm20 rfl (by omega) (by decide) (dk_at dkX12_thing_1 14 rfl) ws20 (fun H locs hP hS => ?_)
      have hI := hI.st (j := 20) (i := (4 * (A 0 47) + z14).toNat) (v := z15) (show (-9223372036854775808 : Int) ≤ z15 ∧ z15 ≤ 9223372036854775807 from (by omega))
      refine lv_aload_n hx hb (dk_at dkX12_thing_1 15 rfl) rfl (lv_at hl 1 rfl) ?_
      refine va_get (D := (dC, dI)) (ci := 12) (v := .ref (q 21)) (C := RX12) (T := TX12) (N := 85) hx hb hts hiX12 hown hK hP 0 wm0 rfl 32 (by decide) (hts _ (List.mem_cons_of_mem _ wlq_3_14)) (fun _ h9 => h9) rfl (dk_at dkX12_thing_2 0 rfl) ?_
      refine lv_iload_n hx hb (dk_at dkX12_thing_2 1 rfl) rfl (lv_at hl 0 rfl) ?_
      refine lv_aload_n hx hb (dk_at dkX12_thing_2 2 rfl) rfl (lv_at hl 1 rfl) ?_
      obtain ⟨A20, hA20⟩ : ∃ A20 : St, A20 = (stA A16 20 (4 * (A 0 47) + z14).toNat z15) := ⟨_, rfl⟩
      rw [← hA20] at hP hI
      have e_A20_4 : A20 0 4 = (A16 0 4) := by rw [hA20]; exact rfl
      refine x_calli (As := []) (rest := [.int (iI (4 * (A 0 47) + z14)), .ref (q 21)]) ⟨hx, hb, hml, hown, hts⟩ (mb_X12_within l dC dI cB cI cJ cZ cQ q _ hI (CB.fr hc19 (fr_def hA20 (fr.st (fr.rf (M := [20]) (N := [])) (by decide) rfl)) rfl rfl)) (cwV 0 hts (goodV wlq_3_0 wlq_3_1 wlq_3_2 wlq_0_8 wlq_2_56) rfl rfl rfl (by decide +kernel) ⟨Nat.le_of_ble_eq_true rfl, Nat.le_of_ble_eq_true rfl⟩) hK hDD hA0 hP hS 0 12 wm0 rfl rfl hl.1 (Nat.le_of_ble_eq_true rfl) (dk_at dkX12_thing_2 3 rfl) (fun z21 A22 H locs hw23 hP hS => ?_)
      have ghw23 : q_X12_within A20 z21 A22 := hw23
      obtain ⟨_, hI, hf24, hw23⟩ := hw23
      obtain ⟨hc25, hw23⟩ := hw23
      have r_A22_0_4 : (0 : Int) ≤ (A22 0 4) ∧ (A22 0 4) ≤ 1600 := hI 0 4
      refine x_iast hx hb hK hP hDD hS 21 1 wm21 rfl (by omega) (by decide) (dk_at dkX12_thing_2 4 rfl) ws21 (fun H locs hP hS => ?_)
      have hI := hI.st (j := 21) (i := (4 * (A 0 47) + z14).toNat) (v := z21) (show (0 : Int) ≤ z21 ∧ z21 ≤ 29 from (by omega))
      refine lv_aload_n hx hb (dk_at dkX12_thing_2 5 rfl) rfl (lv_at hl 1 rfl) ?_
      refine va_get (D := (dC, dI)) (ci := 12) (v := .int (iI (A22 0 8))) (C := RX12) (T := TX12) (N := 85) hx hb hts hiX12 hown hK hP 0 wm0 rfl 8 (by decide) (hts _ (List.mem_cons_of_mem _ wlq_0_16)) (fun _ h9 => h9) rfl (dk_at dkX12_thing_2 6 rfl) ?_
      have r_A22_0_8 : (0 : Int) ≤ (A22 0 8) ∧ (A22 0 8) ≤ 5 := hI 0 8
      refine lv_if_ne (tgt := 83) hx hb (dk_at dkX12_thing_2 7 rfl) (by decide) (fun c26 => ?_) (fun c26 => ?_)
      · have c26 : ¬ (A22 0 8) = 0 := mt (i_eq0 (rb r_A22_0_8 (by decide) (by decide))).mpr c26
        obtain ⟨A27, hA27⟩ : ∃ A27 : St, A27 = (stA A22 21 (4 * (A 0 47) + z14).toNat z21) := ⟨_, rfl⟩
        rw [← hA27] at hP hI
        have e_A27_4 : A27 0 4 = (A22 0 4) := by rw [hA27]; exact rfl
        have e_A27_8 : A27 0 8 = (A22 0 8) := by rw [hA27]; exact rfl
        exact RET _ _ _ _ _ ⟨hk1 _ (u_d_X12_thing_1 ⟨f6, ⟨z8, A9, ghw10, (Or.inl ⟨c13, ⟨z14, gz14.out, ⟨z15, A16, ghw17, ⟨A20, hA20, ⟨z21, A22, ghw23, (Or.inl ⟨c26, ⟨A27, hA27, rfl⟩⟩)⟩⟩⟩⟩⟩)⟩⟩), hI, fr_def hA27 (fr.st (fr.trans (fr_def hA20 (fr.st (fr.trans (fr.trans (fr.rf) hf11 rfl rfl) hf18 rfl rfl) (by decide) rfl)) hf24 rfl rfl) (by decide) rfl), (CB.fr hc25 (fr_def hA27 (fr.st (fr.rf (M := [21]) (N := [])) (by decide) rfl)) rfl rfl), by omega⟩ hP hS (dk_at dkX12_thing_3 1 rfl)
      · have c26 : (A22 0 8) = 0 := (i_eq0 (rb r_A22_0_8 (by decide) (by decide))).mp c26
        refine lv_aload_n hx hb (dk_at dkX12_thing_2 8 rfl) rfl (lv_at hl 1 rfl) ?_
        refine va_get (D := (dC, dI)) (ci := 12) (v := .ref (q 19)) (C := RX12) (T := TX12) (N := 85) hx hb hts hiX12 hown hK hP 0 wm0 rfl 30 (by decide) (hts _ (List.mem_cons_of_mem _ wlq_1_16)) (fun _ h9 => h9) rfl (dk_at dkX12_thing_2 9 rfl) ?_
        refine lv_aload_n hx hb (dk_at dkX12_thing_2 10 rfl) rfl (lv_at hl 1 rfl) ?_
        have e_A16_47 : A16 0 47 = (A 0 47) := (hf18.2 47 rfl).trans e_A9_47
        have e_A20_47 : A20 0 47 = (A 0 47) := by rw [hA20]; exact e_A16_47
        have e_A22_47 : A22 0 47 = (A 0 47) := (hf24.2 47 rfl).trans e_A20_47
        refine va_get (D := (dC, dI)) (ci := 12) (v := .int (iI (A22 0 47))) (C := RX12) (T := TX12) (N := 85) hx hb hts hiX12 hown hK hP 0 wm0 rfl 47 (by decide) (hts _ (List.mem_cons_of_mem _ wlq_1_12)) (fun _ h9 => h9) rfl (dk_at dkX12_thing_2 11 rfl) ?_
        refine tp_i (y := iI (A 0 47)) (congrArg iI e_A22_47) ?_
        refine lv_dup2_11 hx hb (dk_at dkX12_thing_2 12 rfl) rfl rfl ?_
        have a_A16_19 : A16 19 = A 19 := (hf18.1 19 (by decide) rfl).trans a_A9_19
        have a_A20_19 : A20 19 = A 19 := by rw [hA20]; exact a_A16_19
        have a_A22_19 : A22 19 = A 19 := (hf24.1 19 (by decide) rfl).trans a_A20_19
        refine x_iald hx hb hK hP 19 1 wm19 rfl (by omega) (by decide) (dk_at dkX12_thing_2 13 rfl) (fun z28 hz28 => ?_)
        have rz28 : (0 : Int) ≤ z28 ∧ z28 ≤ 4 := by rw [hz28]; exact hI 19 _
        have gz28 := Hd.mk hz28
        have hz28 : z28 = A 19 ((A 0 47)).toNat := hz28.trans (congrFun a_A22_19 _)
        have ez28 : z28 = z1 := hz28.trans hz1.symm
        refine lv_iconst (v := iI 1) hx hb (dk_at dkX12_thing_2 14 rfl) (by decide +kernel) ?_
        refine x_addv (v := z28 + 1) hx hb (dk_at dkX12_thing_2 15 rfl) (by omega) ?_
        refine x_iast hx hb hK hP hDD hS 19 1 wm19 rfl (by omega) (by decide) (dk_at dkX12_thing_3 0 rfl) ws19 (fun H locs hP hS => ?_)
        have hI := hI.st (j := 19) (i := ((A 0 47)).toNat) (v := z28 + 1) (show (0 : Int) ≤ z28 + 1 ∧ z28 + 1 ≤ 4 from (by omega))
        obtain ⟨A29, hA29⟩ : ∃ A29 : St, A29 = (stA (stA A22 21 (4 * (A 0 47) + z14).toNat z21) 19 ((A 0 47)).toNat (z28 + 1)) := ⟨_, rfl⟩
        rw [← hA29] at hP hI
        have e_A29_4 : A29 0 4 = (A22 0 4) := by rw [hA29]; exact rfl
        have e_A29_8 : A29 0 8 = (A22 0 8) := by rw [hA29]; exact rfl
        exact RET _ _ _ _ _ ⟨hk1 _ (u_d_X12_thing_1 ⟨f6, ⟨z8, A9, ghw10, (Or.inl ⟨c13, ⟨z14, gz14.out, ⟨z15, A16, ghw17, ⟨A20, hA20, ⟨z21, A22, ghw23, (Or.inr ⟨c26, ⟨z28, gz28.out, ⟨A29, hA29, rfl⟩⟩⟩)⟩⟩⟩⟩⟩)⟩⟩), hI, fr_def hA29 (fr.st (fr.st (fr.trans (fr_def hA20 (fr.st (fr.trans (fr.trans (fr.rf) hf11 rfl rfl) hf18 rfl rfl) (by decide) rfl)) hf24 rfl rfl) (by decide) rfl) (by decide) rfl), (CB.fr hc25 (fr_def hA29 (fr.st (fr.st (fr.rf (M := [19, 21]) (N := [])) (by decide) rfl) (by decide) rfl)) rfl rfl), by omega⟩ hP hS (dk_at dkX12_thing_3 1 rfl)
    · have c13 : z8 = 0 := (i_eq0 (rb rz8 (by decide) (by decide))).mp c13
      exact RET _ _ _ _ _ ⟨hk1 _ (u_d_X12_thing_1 ⟨f6, ⟨z8, A9, ghw10, (Or.inr ⟨c13, rfl⟩)⟩⟩), hI, fr.trans (fr.rf) hf11 rfl rfl, hc12, by omega⟩ hP hS (dk_at dkX12_thing_0 13 rfl)
  refine lv_icmp_ne (tgt := 18) hx hb (dk_at dkX12_thing_0 7 rfl) (by decide) (fun c2 => ?_) (fun c2 => ?_)
  · have c2 : ¬ z1 = 4 := mt (i_eq (rb rz1 (by decide) (by decide)) ⟨by decide, by decide⟩).mpr c2
    refine lv_iconst (v := iI 0) hx hb (dk_at dkX12_thing_0 10 rfl) (by decide +kernel) ?_
    exact J19_3 0 _ _ _ (by omega) (by omega) (fun uq hq => (u_r_X12_thing ⟨z1, gz1.out, (Or.inl ⟨c2, hq⟩)⟩)) hP hS (lv_sub hl [0] rfl)
  · have c2 : z1 = 4 := (i_eq (rb rz1 (by decide) (by decide)) ⟨by decide, by decide⟩).mp c2
    refine lv_iconst (v := iI 1) hx hb (dk_at dkX12_thing_0 8 rfl) (by decide +kernel) ?_
    refine lv_goto (tgt := 19) hx hb (dk_at dkX12_thing_0 9 rfl) (by decide) ?_
    exact J19_3 1 _ _ _ (by omega) (by omega) (fun uq hq => (u_r_X12_thing ⟨z1, gz1.out, (Or.inr ⟨c2, hq⟩)⟩)) hP hS (lv_sub hl [0] rfl)

abbrev tr_d_X12_mustBe_1 (A : St) (u : St) (z4 : Int) : Prop := ((0 ≤ z4 ∧ z4 ≤ 1) ∧ (∃ z8 : Int, ∃ A9 : St, q_X12_counts z4 A z8 A9 ∧ (((¬ z8 = 0) ∧ (∃ z14 : Int, z14 = A9 25 ((A 0 47)).toNat ∧ (∃ z15 : Int, ∃ A16 : St, q_X12_asked_1 1 A9 z15 A16 ∧ (∃ A20 : St, A20 = (stA A16 26 (6 * (A 0 47) + z14).toNat z15) ∧ (∃ z21 : Int, ∃ A22 : St, q_X12_number 0 1439 A20 z21 A22 ∧ (∃ z26 : Int, z26 = (stA A22 27 (6 * (A 0 47) + z14).toNat z21) 27 (6 * (A 0 47) + z14).toNat ∧ (∃ A27 : St, A27 = (stA A22 27 (6 * (A 0 47) + z14).toNat z21) ∧ (∃ z28 : Int, ∃ A29 : St, q_X12_number z26 1439 A27 z28 A29 ∧ (((¬ (A29 0 8) = 0) ∧ (∃ A34 : St, A34 = (stA A29 28 (6 * (A 0 47) + z14).toNat z28) ∧ (u = A34))) ∨ (((A29 0 8) = 0) ∧ (∃ z35 : Int, z35 = (stA A29 28 (6 * (A 0 47) + z14).toNat z28) 25 ((A 0 47)).toNat ∧ (∃ A36 : St, A36 = (stA (stA A29 28 (6 * (A 0 47) + z14).toNat z28) 25 ((A 0 47)).toNat (z35 + 1)) ∧ (u = A36))))))))))))) ∨ ((z8 = 0) ∧ (u = A9)))))
def d_X12_mustBe_1 (A : St) (u : St) (z4 : Int) : Prop := tr_d_X12_mustBe_1 A u z4
theorem u_d_X12_mustBe_1 {A : St} {u : St} {z4 : Int} (h : tr_d_X12_mustBe_1 A u z4) : d_X12_mustBe_1 A u z4 := h
abbrev tr_r_X12_mustBe (A : St) (u : St) : Prop := (∃ z1 : Int, z1 = A 25 ((A 0 47)).toNat ∧ (((¬ z1 = 6) ∧ (d_X12_mustBe_1 A u 0)) ∨ ((z1 = 6) ∧ (d_X12_mustBe_1 A u 1))))
def r_X12_mustBe (A : St) (u : St) : Prop := tr_r_X12_mustBe A u
theorem u_r_X12_mustBe {A : St} {u : St} (h : tr_r_X12_mustBe A u) : r_X12_mustBe A u := h
def q_X12_mustBe (A : St) (u : St) : Prop := r_X12_mustBe A u ∧ IM u ∧ fr [25, 26, 27, 28] [3, 4, 5, 6, 7, 8, 9] A u ∧ CB u ∧ ((u 0 8 = 0 → A 0 5 ≤ u 0 4) ∧ A 0 4 ≤ u 0 4)
def ws_mb_X12_mustBe : List Cond := .code yX12_mustBe cX12_mustBe 2 none :: WX
set_option maxHeartbeats 4000000 in
set_option maxRecDepth 100000 in
theorem mb_X12_mustBe (l : Launch) (dC : Nat → ClassId) (dI : Nat → Nat → Nat) (cB cI cJ cZ cQ : ClassId) (q : Nat → Nat) (A : St) (hI : IM A) (hcCB : CB A) : XMv l yX12_mustBe ws_mb_X12_mustBe ({ frames := 3, cells := 0, slots := 0, locals := 70 } : Room) (dC, dI) (tyA cB cI cJ cZ cQ) (WM cI cJ cZ q) A [.ref (q 0)] (fun u => r_X12_mustBe A u ∧ IM u ∧ fr [25, 26, 27, 28] [3, 4, 5, 6, 7, 8, 9] A u ∧ CB u ∧ ((u 0 8 = 0 → A 0 5 ≤ u 0 4) ∧ A 0 4 ≤ u 0 4)) := by
  refine x_metv (cc := cX12_mustBe) (maxL := 2) WM_adr (by decide +kernel) rfl (Nat.le_of_ble_eq_true rfl) (fun p e s m below meth c Q AS ls hx hb hml hown hts hK hDD hA0 hP hS hl RET => ?_)
  have hown : s.vm.findClass RX12 = some m.cls := hown
  have hl : lv_has ls 2 [(0, .ref (q 0))] := hl
  have hiX12 : ∀ w ∈ u_ws RX12 TX12 85, w ∈ ws_mb_X12_mustBe := fun w h => List.mem_cons_of_mem _ (wx_lay w h)
  obtain ⟨H, hHe⟩ : ∃ H : Heap, H = s.heap := ⟨_, rfl⟩
  rw [← hHe] at hP
  have hS : va_S AS s.heap H [] := by rw [hHe]; exact hS
  suffices hgo : ∀ locs : List Loc, va_S AS s.heap H locs → W p l e (headSpec ws_mb_X12_mustBe ({ frames := 3, cells := 0, slots := 0, locals := 70 } : Room)).room s m [.ref (q 0)].toArray below meth c H locs 0 0 Q (F0 m 0 ls []) by
    have := hgo [] hS
    rw [hHe] at this
    exact this
  clear hS hHe
  intro locs hS
  have hle := CB.le hcCB
  refine lv_aload_n hx hb (dk_at dkX12_mustBe_0 0 rfl) rfl (lv_at hl 0 rfl) ?_
  refine lv_aload_n hx hb (dk_at dkX12_mustBe_0 1 rfl) rfl (lv_at hl 0 rfl) ?_
  refine va_get (D := (dC, dI)) (ci := 12) (v := .ref (q 25)) (C := RX12) (T := TX12) (N := 85) hx hb hts hiX12 hown hK hP 0 wm0 rfl 36 (by decide) (hts _ (List.mem_cons_of_mem _ wlq_3_20)) (fun _ h9 => h9) rfl (dk_at dkX12_mustBe_0 2 rfl) ?_
  refine lv_aload_n hx hb (dk_at dkX12_mustBe_0 3 rfl) rfl (lv_at hl 0 rfl) ?_
  refine va_get (D := (dC, dI)) (ci := 12) (v := .int (iI (A 0 47))) (C := RX12) (T := TX12) (N := 85) hx hb hts hiX12 hown hK hP 0 wm0 rfl 47 (by decide) (hts _ (List.mem_cons_of_mem _ wlq_1_12)) (fun _ h9 => h9) rfl (dk_at dkX12_mustBe_0 4 rfl) ?_
  have r_A_0_47 : (0 : Int) ≤ (A 0 47) ∧ (A 0 47) ≤ 1 := hI 0 47
  refine x_iald hx hb hK hP 25 1 wm25 rfl (by omega) (by decide) (dk_at dkX12_mustBe_0 5 rfl) (fun z1 hz1 => ?_)
  have rz1 : (0 : Int) ≤ z1 ∧ z1 ≤ 6 := by rw [hz1]; exact hI 25 _
  have gz1 := Hd.mk hz1
  have hz1 : z1 = A 25 ((A 0 47)).toNat := hz1
  refine lv_bipush (v := iI 6) hx hb (dk_at dkX12_mustBe_0 6 rfl) (by decide +kernel) ?_
  have J20_3 : ∀ (z4 : Int) (H : Heap) (locs : List Loc) (ls : Array Slot), (0 ≤ z4 ∧ z4 ≤ 1) → ((z4 = 0 ∧ ¬ z1 = 6) ∨ (z4 = 1 ∧ z1 = 6)) → (∀ (u : St), (d_X12_mustBe_1 A u z4) → r_X12_mustBe A u) → va_P (dC, dI) vwCl (WM cI cJ cZ q A) H → va_S AS s.heap H locs → lv_has ls 2 [(0, .ref (q 0))] → W p l e (headSpec ws_mb_X12_mustBe ({ frames := 3, cells := 0, slots := 0, locals := 70 } : Room)).room s m [.ref (q 0)].toArray below meth c H locs 0 0 Q (F0 m 20 ls [.int (iI z4), .ref (q 0)]) := by
    intro z4 H locs ls f6 f7 hk1 hP hS hl
    have r_A_0_4 : (0 : Int) ≤ (A 0 4) ∧ (A 0 4) ≤ 1600 := hI 0 4
    have r_A_0_5 : (0 : Int) ≤ (A 0 5) ∧ (A 0 5) ≤ 1600 := hI 0 5
    refine x_calli (As := [.int (iI z4)]) (rest := []) ⟨hx, hb, hml, hown, hts⟩ (mb_X12_counts l dC dI cB cI cJ cZ cQ q _ z4 hI f6 hcCB) (cwV 1 hts (goodV wlq_2_32 wlq_2_33 wlq_2_34 wlq_0_8 wlq_2_20) rfl rfl rfl (by decide +kernel) ⟨Nat.le_of_ble_eq_true rfl, Nat.le_of_ble_eq_true rfl⟩) hK hDD hA0 hP hS 0 12 wm0 rfl rfl hl.1 (Nat.le_of_ble_eq_true rfl) (dk_at dkX12_mustBe_0 11 rfl) (fun z8 A9 H locs hw10 hP hS => ?_)
    have ghw10 : q_X12_counts z4 A z8 A9 := hw10
    obtain ⟨_, hI, hf11, hw10⟩ := hw10
    obtain ⟨hc12, hw10⟩ := hw10
    have r_A9_0_4 : (0 : Int) ≤ (A9 0 4) ∧ (A9 0 4) ≤ 1600 := hI 0 4
    have r_A9_0_8 : (0 : Int) ≤ (A9 0 8) ∧ (A9 0 8) ≤ 5 := hI 0 8
    have rz8 : 0 ≤ z8 ∧ z8 ≤ 1 := hw10.1
    refine lv_if_ne (tgt := 27) hx hb (dk_at dkX12_mustBe_0 12 rfl) (by decide) (fun c13 => ?_) (fun c13 => ?_)
    · have c13 : ¬ z8 = 0 := mt (i_eq0 (rb rz8 (by decide) (by decide))).mpr c13
      refine lv_bipush (v := iI 6) hx hb (dk_at dkX12_mustBe_0 14 rfl) (by decide +kernel) ?_
      refine lv_aload_n hx hb (dk_at dkX12_mustBe_0 15 rfl) rfl (lv_at hl 0 rfl) ?_
      have e_A9_47 : A9 0 47 = (A 0 47) := (hf11.2 47 rfl)
      refine va_get (D := (dC, dI)) (ci := 12) (v := .int (iI (A9 0 47))) (C := RX12) (T := TX12) (N := 85) hx hb hts hiX12 hown hK hP 0 wm0 rfl 47 (by decide) (hts _ (List.mem_cons_of_mem _ wlq_1_12)) (fun _ h9 => h9) rfl (dk_at dkX12_mustBe_1 0 rfl) ?_
      refine tp_i (y := iI (A 0 47)) (congrArg iI e_A9_47) ?_
      refine x_mulv (v := 6 * (A 0 47)) hx hb (dk_at dkX12_mustBe_1 1 rfl) (by omega) ?_
      refine lv_aload_n hx hb (dk_at dkX12_mustBe_1 2 rfl) rfl (lv_at hl 0 rfl) ?_
      refine va_get (D := (dC, dI)) (ci := 12) (v := .ref (q 25)) (C := RX12) (T := TX12) (N := 85) hx hb hts hiX12 hown hK hP 0 wm0 rfl 36 (by decide) (hts _ (List.mem_cons_of_mem _ wlq_3_20)) (fun _ h9 => h9) rfl (dk_at dkX12_mustBe_1 3 rfl) ?_
      refine lv_aload_n hx hb (dk_at dkX12_mustBe_1 4 rfl) rfl (lv_at hl 0 rfl) ?_
      refine va_get (D := (dC, dI)) (ci := 12) (v := .int (iI (A9 0 47))) (C := RX12) (T := TX12) (N := 85) hx hb hts hiX12 hown hK hP 0 wm0 rfl 47 (by decide) (hts _ (List.mem_cons_of_mem _ wlq_1_12)) (fun _ h9 => h9) rfl (dk_at dkX12_mustBe_1 5 rfl) ?_
      refine tp_i (y := iI (A 0 47)) (congrArg iI e_A9_47) ?_
      have a_A9_25 : A9 25 = A 25 := (hf11.1 25 (by decide) rfl)
      refine x_iald hx hb hK hP 25 1 wm25 rfl (by omega) (by decide) (dk_at dkX12_mustBe_1 6 rfl) (fun z14 hz14 => ?_)
      have rz14 : (0 : Int) ≤ z14 ∧ z14 ≤ 6 := by rw [hz14]; exact hI 25 _
      have gz14 := Hd.mk hz14
      have hz14 : z14 = A 25 ((A 0 47)).toNat := hz14.trans (congrFun a_A9_25 _)
      have ez14 : z14 = z1 := hz14.trans hz1.symm
      refine x_addv (v := 6 * (A 0 47) + z14) hx hb (dk_at dkX12_mustBe_1 7 rfl) (by omega) ?_
      refine lv_istore_n (lv' := [(1, .int (iI (6 * (A 0 47) + z14))), (0, .ref (q 0))]) hx hb (dk_at dkX12_mustBe_1 8 rfl) rfl hl (by decide) rfl (fun ls hl => ?_)
      refine lv_aload_n hx hb (dk_at dkX12_mustBe_1 9 rfl) rfl (lv_at hl 1 rfl) ?_
      refine va_get (D := (dC, dI)) (ci := 12) (v := .ref (q 26)) (C := RX12) (T := TX12) (N := 85) hx hb hts hiX12 hown hK hP 0 wm0 rfl 37 (by decide) (hts _ (List.mem_cons_of_mem _ wlq_3_21)) (fun _ h9 => h9) rfl (dk_at dkX12_mustBe_1 10 rfl) ?_
      refine lv_iload_n hx hb (dk_at dkX12_mustBe_1 11 rfl) rfl (lv_at hl 0 rfl) ?_
      refine lv_aload_n hx hb (dk_at dkX12_mustBe_1 12 rfl) rfl (lv_at hl 1 rfl) ?_
      refine lv_iconst (v := iI 1) hx hb (dk_at dkX12_mustBe_1 13 rfl) (by decide +kernel) ?_
      have r_A9_0_3 : (0 : Int) ≤ (A9 0 3) ∧ (A9 0 3) ≤ 3 := hI 0 3
      have r_A9_0_7 : (-9223372036854775808 : Int) ≤ (A9 0 7) ∧ (A9 0 7) ≤ 9223372036854775807 := hI 0 7
      refine x_calli (As := [.int (iI 1)]) (rest := [.int (iI (6 * (A 0 47) + z14)), .ref (q 26)]) ⟨hx, hb, hml, hown, hts⟩ (mb_X12_asked_1 l dC dI cB cI cJ cZ cQ q _ 1 hI ⟨by decide, by decide⟩ hc12) (cwV 1 hts (goodV wlq_2_47 wlq_2_48 wlq_2_49 wlq_0_8 wlq_2_29) rfl rfl rfl (by decide +kernel) ⟨Nat.le_of_ble_eq_true rfl, Nat.le_of_ble_eq_true rfl⟩) hK hDD hA0 hP hS 0 12 wm0 rfl rfl hl.1 (Nat.le_of_ble_eq_true rfl) (dk_at dkX12_mustBe_1 14 rfl) (fun z15 A16 H locs hw17 hP hS => ?_)
      have ghw17 : q_X12_asked_1 1 A9 z15 A16 := hw17
      obtain ⟨_, hI, hf18, hw17⟩ := hw17
      obtain ⟨hc19, hw17⟩ := hw17
      have r_A16_0_4 : (0 : Int) ≤ (A16 0 4) ∧ (A16 0 4) ≤ 1600 := hI 0 4
      have r_A16_0_8 : (0 : Int) ≤ (A16 0 8) ∧ (A16 0 8) ≤ 5 := hI 0 8
      refine x_iast hx hb hK hP hDD hS 26 1 wm26 rfl (by omega) (by decide) (dk_at dkX12_mustBe_1 15 rfl) ws26 (fun H locs hP hS => ?_)
      have hI := hI.st (j := 26) (i := (6 * (A 0 47) + z14).toNat) (v := z15) (show (0 : Int) ≤ z15 ∧ z15 ≤ 9 from (by omega))
      refine lv_aload_n hx hb (dk_at dkX12_mustBe_2 0 rfl) rfl (lv_at hl 1 rfl) ?_
      refine va_get (D := (dC, dI)) (ci := 12) (v := .ref (q 27)) (C := RX12) (T := TX12) (N := 85) hx hb hts hiX12 hown hK hP 0 wm0 rfl 38 (by decide) (hts _ (List.mem_cons_of_mem _ wlq_3_22)) (fun _ h9 => h9) rfl (dk_at dkX12_mustBe_2 1 rfl) ?_
      refine lv_iload_n hx hb (dk_at dkX12_mustBe_2 2 rfl) rfl (lv_at hl 0 rfl) ?_
      refine lv_aload_n hx hb (dk_at dkX12_mustBe_2 3 rfl) rfl (lv_at hl 1 rfl) ?_
      refine lv_iconst (v := iI 0) hx hb (dk_at dkX12_mustBe_2 4 rfl) (by decide +kernel) ?_
      refine lv_sipush (v := iI 1439) hx hb (dk_at dkX12_mustBe_2 5 rfl) (by decide +kernel) ?_
      obtain ⟨A20, hA20⟩ : ∃ A20 : St, A20 = (stA A16 26 (6 * (A 0 47) + z14).toNat z15) := ⟨_, rfl⟩
      rw [← hA20] at hP hI
      have e_A20_4 : A20 0 4 = (A16 0 4) := by rw [hA20]; exact rfl
      refine x_calli (As := [.int (iI 0), .int (iI 1439)]) (rest := [.int (iI (6 * (A 0 47) + z14)), .ref (q 27)]) ⟨hx, hb, hml, hown, hts⟩ (mb_X12_number l dC dI cB cI cJ cZ cQ q _ 0 1439 hI ⟨by decide, by decide⟩ ⟨by decide, by decide⟩ (CB.fr hc19 (fr_def hA20 (fr.st (fr.rf (M := [26]) (N := [])) (by decide) rfl)) rfl rfl)) (cwV 2 hts (goodV wlq_2_53 wlq_2_54 wlq_2_55 wlq_0_8 wlq_1_26) rfl rfl rfl (by decide +kernel) ⟨Nat.le_of_ble_eq_true rfl, Nat.le_of_ble_eq_true rfl⟩) hK hDD hA0 hP hS 0 12 wm0 rfl rfl hl.1 (Nat.le_of_ble_eq_true rfl) (dk_at dkX12_mustBe_2 6 rfl) (fun z21 A22 H locs hw23 hP hS => ?_)
      have ghw23 : q_X12_number 0 1439 A20 z21 A22 := hw23
      obtain ⟨_, hI, hf24, hw23⟩ := hw23
      obtain ⟨hc25, hw23⟩ := hw23
      have r_A22_0_4 : (0 : Int) ≤ (A22 0 4) ∧ (A22 0 4) ≤ 1600 := hI 0 4
      refine x_iast hx hb hK hP hDD hS 27 1 wm27 rfl (by omega) (by decide) (dk_at dkX12_mustBe_2 7 rfl) ws27 (fun H locs hP hS => ?_)
      have hI := hI.st (j := 27) (i := (6 * (A 0 47) + z14).toNat) (v := z21) (show (-2147483648 : Int) ≤ z21 ∧ z21 ≤ 2147483647 from (by omega))
      refine lv_aload_n hx hb (dk_at dkX12_mustBe_2 8 rfl) rfl (lv_at hl 1 rfl) ?_
      refine va_get (D := (dC, dI)) (ci := 12) (v := .ref (q 28)) (C := RX12) (T := TX12) (N := 85) hx hb hts hiX12 hown hK hP 0 wm0 rfl 39 (by decide) (hts _ (List.mem_cons_of_mem _ wlq_3_23)) (fun _ h9 => h9) rfl (dk_at dkX12_mustBe_2 9 rfl) ?_
      refine lv_iload_n hx hb (dk_at dkX12_mustBe_2 10 rfl) rfl (lv_at hl 0 rfl) ?_
      refine lv_aload_n hx hb (dk_at dkX12_mustBe_2 11 rfl) rfl (lv_at hl 1 rfl) ?_
      refine lv_aload_n hx hb (dk_at dkX12_mustBe_2 12 rfl) rfl (lv_at hl 1 rfl) ?_
      refine va_get (D := (dC, dI)) (ci := 12) (v := .ref (q 27)) (C := RX12) (T := TX12) (N := 85) hx hb hts hiX12 hown hK hP 0 wm0 rfl 38 (by decide) (hts _ (List.mem_cons_of_mem _ wlq_3_22)) (fun _ h9 => h9) rfl (dk_at dkX12_mustBe_2 13 rfl) ?_
      refine lv_iload_n hx hb (dk_at dkX12_mustBe_2 14 rfl) rfl (lv_at hl 0 rfl) ?_
      refine x_iald hx hb hK hP 27 1 wm27 rfl (by omega) (by decide) (dk_at dkX12_mustBe_2 15 rfl) (fun z26 hz26 => ?_)
      have rz26 : (-2147483648 : Int) ≤ z26 ∧ z26 ≤ 2147483647 := by rw [hz26]; exact hI 27 _
      have gz26 := Hd.mk hz26
      have ez26 : z26 = z21 := by rw [hz26]; simp [stA, up]
      clear hz26
      refine lv_sipush (v := iI 1439) hx hb (dk_at dkX12_mustBe_3 0 rfl) (by decide +kernel) ?_
      obtain ⟨A27, hA27⟩ : ∃ A27 : St, A27 = (stA A22 27 (6 * (A 0 47) + z14).toNat z21) := ⟨_, rfl⟩
      rw [← hA27] at hP hI
      have e_A27_4 : A27 0 4 = (A22 0 4) := by rw [hA27]; exact rfl
      refine x_calli (As := [.int (iI z26), .int (iI 1439)]) (rest := [.int (iI (6 * (A 0 47) + z14)), .ref (q 28)]) ⟨hx, hb, hml, hown, hts⟩ (mb_X12_number l dC dI cB cI cJ cZ cQ q _ z26 1439 hI rz26 ⟨by decide, by decide⟩ (CB.fr hc25 (fr_def hA27 (fr.st (fr.rf (M := [27]) (N := [])) (by decide) rfl)) rfl rfl)) (cwV 2 hts (goodV wlq_2_53 wlq_2_54 wlq_2_55 wlq_0_8 wlq_1_26) rfl rfl rfl (by decide +kernel) ⟨Nat.le_of_ble_eq_true rfl, Nat.le_of_ble_eq_true rfl⟩) hK hDD hA0 hP hS 0 12 wm0 rfl rfl hl.1 (Nat.le_of_ble_eq_true rfl) (dk_at dkX12_mustBe_3 1 rfl) (fun z28 A29 H locs hw30 hP hS => ?_)
      have ghw30 : q_X12_number z26 1439 A27 z28 A29 := hw30
      obtain ⟨_, hI, hf31, hw30⟩ := hw30
      obtain ⟨hc32, hw30⟩ := hw30
      have r_A29_0_4 : (0 : Int) ≤ (A29 0 4) ∧ (A29 0 4) ≤ 1600 := hI 0 4
      refine x_iast hx hb hK hP hDD hS 28 1 wm28 rfl (by omega) (by decide) (dk_at dkX12_mustBe_3 2 rfl) ws28 (fun H locs hP hS => ?_)
      have hI := hI.st (j := 28) (i := (6 * (A 0 47) + z14).toNat) (v := z28) (show (-2147483648 : Int) ≤ z28 ∧ z28 ≤ 2147483647 from (by omega))
      refine lv_aload_n hx hb (dk_at dkX12_mustBe_3 3 rfl) rfl (lv_at hl 1 rfl) ?_
      refine va_get (D := (dC, dI)) (ci := 12) (v := .int (iI (A29 0 8))) (C := RX12) (T := TX12) (N := 85) hx hb hts hiX12 hown hK hP 0 wm0 rfl 8 (by decide) (hts _ (List.mem_cons_of_mem _ wlq_0_16)) (fun _ h9 => h9) rfl (dk_at dkX12_mustBe_3 4 rfl) ?_
      have r_A29_0_8 : (0 : Int) ≤ (A29 0 8) ∧ (A29 0 8) ≤ 5 := hI 0 8
      refine lv_if_ne (tgt := 109) hx hb (dk_at dkX12_mustBe_3 5 rfl) (by decide) (fun c33 => ?_) (fun c33 => ?_)
      · have c33 : ¬ (A29 0 8) = 0 := mt (i_eq0 (rb r_A29_0_8 (by decide) (by decide))).mpr c33
        obtain ⟨A34, hA34⟩ : ∃ A34 : St, A34 = (stA A29 28 (6 * (A 0 47) + z14).toNat z28) := ⟨_, rfl⟩
        rw [← hA34] at hP hI
        have e_A34_4 : A34 0 4 = (A29 0 4) := by rw [hA34]; exact rfl
        have e_A34_8 : A34 0 8 = (A29 0 8) := by rw [hA34]; exact rfl
        exact RET _ _ _ _ _ ⟨hk1 _ (u_d_X12_mustBe_1 ⟨f6, ⟨z8, A9, ghw10, (Or.inl ⟨c13, ⟨z14, gz14.out, ⟨z15, A16, ghw17, ⟨A20, hA20, ⟨z21, A22, ghw23, ⟨z26, gz26.out, ⟨A27, hA27, ⟨z28, A29, ghw30, (Or.inl ⟨c33, ⟨A34, hA34, rfl⟩⟩)⟩⟩⟩⟩⟩⟩⟩⟩)⟩⟩), hI, fr_def hA34 (fr.st (fr.trans (fr_def hA27 (fr.st (fr.trans (fr_def hA20 (fr.st (fr.trans (fr.trans (fr.rf) hf11 rfl rfl) hf18 rfl rfl) (by decide) rfl)) hf24 rfl rfl) (by decide) rfl)) hf31 rfl rfl) (by decide) rfl), (CB.fr hc32 (fr_def hA34 (fr.st (fr.rf (M := [28]) (N := [])) (by decide) rfl)) rfl rfl), by omega⟩ hP hS (dk_at dkX12_mustBe_3 15 rfl)
      · have c33 : (A29 0 8) = 0 := (i_eq0 (rb r_A29_0_8 (by decide) (by decide))).mp c33
        refine lv_aload_n hx hb (dk_at dkX12_mustBe_3 6 rfl) rfl (lv_at hl 1 rfl) ?_
        refine va_get (D := (dC, dI)) (ci := 12) (v := .ref (q 25)) (C := RX12) (T := TX12) (N := 85) hx hb hts hiX12 hown hK hP 0 wm0 rfl 36 (by decide) (hts _ (List.mem_cons_of_mem _ wlq_3_20)) (fun _ h9 => h9) rfl (dk_at dkX12_mustBe_3 7 rfl) ?_
        refine lv_aload_n hx hb (dk_at dkX12_mustBe_3 8 rfl) rfl (lv_at hl 1 rfl) ?_
        have e_A16_47 : A16 0 47 = (A 0 47) := (hf18.2 47 rfl).trans e_A9_47
        have e_A20_47 : A20 0 47 = (A 0 47) := by rw [hA20]; exact e_A16_47
        have e_A22_47 : A22 0 47 = (A 0 47) := (hf24.2 47 rfl).trans e_A20_47
        have e_A27_47 : A27 0 47 = (A 0 47) := by rw [hA27]; exact e_A22_47
        have e_A29_47 : A29 0 47 = (A 0 47) := (hf31.2 47 rfl).trans e_A27_47
        refine va_get (D := (dC, dI)) (ci := 12) (v := .int (iI (A29 0 47))) (C := RX12) (T := TX12) (N := 85) hx hb hts hiX12 hown hK hP 0 wm0 rfl 47 (by decide) (hts _ (List.mem_cons_of_mem _ wlq_1_12)) (fun _ h9 => h9) rfl (dk_at dkX12_mustBe_3 9 rfl) ?_
        refine tp_i (y := iI (A 0 47)) (congrArg iI e_A29_47) ?_
        refine lv_dup2_11 hx hb (dk_at dkX12_mustBe_3 10 rfl) rfl rfl ?_
        have a_A16_25 : A16 25 = A 25 := (hf18.1 25 (by decide) rfl).trans a_A9_25
        have a_A20_25 : A20 25 = A 25 := by rw [hA20]; exact a_A16_25
        have a_A22_25 : A22 25 = A 25 := (hf24.1 25 (by decide) rfl).trans a_A20_25
        have a_A27_25 : A27 25 = A 25 := by rw [hA27]; exact a_A22_25
        have a_A29_25 : A29 25 = A 25 := (hf31.1 25 (by decide) rfl).trans a_A27_25
        refine x_iald hx hb hK hP 25 1 wm25 rfl (by omega) (by decide) (dk_at dkX12_mustBe_3 11 rfl) (fun z35 hz35 => ?_)
        have rz35 : (0 : Int) ≤ z35 ∧ z35 ≤ 6 := by rw [hz35]; exact hI 25 _
        have gz35 := Hd.mk hz35
        have hz35 : z35 = A 25 ((A 0 47)).toNat := hz35.trans (congrFun a_A29_25 _)
        have ez35 : z35 = z1 := hz35.trans hz1.symm
        refine lv_iconst (v := iI 1) hx hb (dk_at dkX12_mustBe_3 12 rfl) (by decide +kernel) ?_
        refine x_addv (v := z35 + 1) hx hb (dk_at dkX12_mustBe_3 13 rfl) (by omega) ?_
        refine x_iast hx hb hK hP hDD hS 25 1 wm25 rfl (by omega) (by decide) (dk_at dkX12_mustBe_3 14 rfl) ws25 (fun H locs hP hS => ?_)
        have hI := hI.st (j := 25) (i := ((A 0 47)).toNat) (v := z35 + 1) (show (0 : Int) ≤ z35 + 1 ∧ z35 + 1 ≤ 6 from (by omega))
        obtain ⟨A36, hA36⟩ : ∃ A36 : St, A36 = (stA (stA A29 28 (6 * (A 0 47) + z14).toNat z28) 25 ((A 0 47)).toNat (z35 + 1)) := ⟨_, rfl⟩
        rw [← hA36] at hP hI
        have e_A36_4 : A36 0 4 = (A29 0 4) := by rw [hA36]; exact rfl
        have e_A36_8 : A36 0 8 = (A29 0 8) := by rw [hA36]; exact rfl
        exact RET _ _ _ _ _ ⟨hk1 _ (u_d_X12_mustBe_1 ⟨f6, ⟨z8, A9, ghw10, (Or.inl ⟨c13, ⟨z14, gz14.out, ⟨z15, A16, ghw17, ⟨A20, hA20, ⟨z21, A22, ghw23, ⟨z26, gz26.out, ⟨A27, hA27, ⟨z28, A29, ghw30, (Or.inr ⟨c33, ⟨z35, gz35.out, ⟨A36, hA36, rfl⟩⟩⟩)⟩⟩⟩⟩⟩⟩⟩⟩)⟩⟩), hI, fr_def hA36 (fr.st (fr.st (fr.trans (fr_def hA27 (fr.st (fr.trans (fr_def hA20 (fr.st (fr.trans (fr.trans (fr.rf) hf11 rfl rfl) hf18 rfl rfl) (by decide) rfl)) hf24 rfl rfl) (by decide) rfl)) hf31 rfl rfl) (by decide) rfl) (by decide) rfl), (CB.fr hc32 (fr_def hA36 (fr.st (fr.st (fr.rf (M := [25, 28]) (N := [])) (by decide) rfl) (by decide) rfl)) rfl rfl), by omega⟩ hP hS (dk_at dkX12_mustBe_3 15 rfl)
    · have c13 : z8 = 0 := (i_eq0 (rb rz8 (by decide) (by decide))).mp c13
      exact RET _ _ _ _ _ ⟨hk1 _ (u_d_X12_mustBe_1 ⟨f6, ⟨z8, A9, ghw10, (Or.inr ⟨c13, rfl⟩)⟩⟩), hI, fr.trans (fr.rf) hf11 rfl rfl, hc12, by omega⟩ hP hS (dk_at dkX12_mustBe_0 13 rfl)
  refine lv_icmp_ne (tgt := 19) hx hb (dk_at dkX12_mustBe_0 7 rfl) (by decide) (fun c2 => ?_) (fun c2 => ?_)
  · have c2 : ¬ z1 = 6 := mt (i_eq (rb rz1 (by decide) (by decide)) ⟨by decide, by decide⟩).mpr c2
    refine lv_iconst (v := iI 0) hx hb (dk_at dkX12_mustBe_0 10 rfl) (by decide +kernel) ?_
    exact J20_3 0 _ _ _ (by omega) (by omega) (fun uq hq => (u_r_X12_mustBe ⟨z1, gz1.out, (Or.inl ⟨c2, hq⟩)⟩)) hP hS (lv_sub hl [0] rfl)
  · have c2 : z1 = 6 := (i_eq (rb rz1 (by decide) (by decide)) ⟨by decide, by decide⟩).mp c2
    refine lv_iconst (v := iI 1) hx hb (dk_at dkX12_mustBe_0 8 rfl) (by decide +kernel) ?_
    refine lv_goto (tgt := 20) hx hb (dk_at dkX12_mustBe_0 9 rfl) (by decide) ?_
    exact J20_3 1 _ _ _ (by omega) (by omega) (fun uq hq => (u_r_X12_mustBe ⟨z1, gz1.out, (Or.inr ⟨c2, hq⟩)⟩)) hP hS (lv_sub hl [0] rfl)
