abbrev tr_d_X12_asked_0_5 (z22 : Int) (z : Int) (u : St) (A44 : St) : Prop := ((IM A44) ∧ ((((A44 0 8) ≤ 0) ∧ (z = z22 ∧ u = A44)) ∨ ((¬ (A44 0 8) ≤ 0) ∧ (z = 0 ∧ u = A44))))
def d_X12_asked_0_5 (z22 : Int) (z : Int) (u : St) (A44 : St) : Prop := tr_d_X12_asked_0_5 z22 z u A44
theorem u_d_X12_asked_0_5 {z22 : Int} {z : Int} {u : St} {A44 : St} (h : tr_d_X12_asked_0_5 z22 z u A44) : d_X12_asked_0_5 z22 z u A44 := h
abbrev tr_d_X12_asked_0_4 (z22 : Int) (z : Int) (u : St) (A33 : St) : Prop := ((IM A33) ∧ (((¬ (A33 0 8) = 0) ∧ (d_X12_asked_0_5 z22 z u A33)) ∨ (((A33 0 8) = 0) ∧ (∃ A38 : St, q_X12_ahead A33 A38 ∧ (d_X12_asked_0_5 z22 z u A38)))))
def d_X12_asked_0_4 (z22 : Int) (z : Int) (u : St) (A33 : St) : Prop := tr_d_X12_asked_0_4 z22 z u A33
theorem u_d_X12_asked_0_4 {z22 : Int} {z : Int} {u : St} {A33 : St} (h : tr_d_X12_asked_0_4 z22 z u A33) : d_X12_asked_0_4 z22 z u A33 := h
abbrev tr_d_X12_asked_0_3 (A : St) (A14 : St) (z : Int) (u : St) (z22 : Int) : Prop := ((-1 ≤ z22 ∧ z22 ≤ 7) ∧ (((¬ (A14 0 8) = 0) ∧ (d_X12_asked_0_4 z22 z u A14)) ∨ (((A14 0 8) = 0) ∧ (((¬ z22 = (-1)) ∧ (d_X12_asked_0_4 z22 z u A14)) ∨ ((z22 = (-1)) ∧ (∃ A29 : St, q_X12_blame 3 (A 0 4) A14 A29 ∧ (d_X12_asked_0_4 z22 z u A29)))))))
def d_X12_asked_0_3 (A : St) (A14 : St) (z : Int) (u : St) (z22 : Int) : Prop := tr_d_X12_asked_0_3 A A14 z u z22
theorem u_d_X12_asked_0_3 {A : St} {A14 : St} {z : Int} {u : St} {z22 : Int} (h : tr_d_X12_asked_0_3 A A14 z u z22) : d_X12_asked_0_3 A A14 z u z22 := h
abbrev tr_d_X12_asked_0_2 (x1 : Int) (A : St) (z : Int) (u : St) (A14 : St) : Prop := ((IM A14) ∧ ((((A14 0 8) ≤ 0) ∧ (∃ z19 : Int, q_X12_named_0 x1 (A 0 7) A14 z19 ∧ (d_X12_asked_0_3 A A14 z u z19))) ∨ ((¬ (A14 0 8) ≤ 0) ∧ (d_X12_asked_0_3 A A14 z u 0))))
def d_X12_asked_0_2 (x1 : Int) (A : St) (z : Int) (u : St) (A14 : St) : Prop := tr_d_X12_asked_0_2 x1 A z u A14
theorem u_d_X12_asked_0_2 {x1 : Int} {A : St} {z : Int} {u : St} {A14 : St} (h : tr_d_X12_asked_0_2 x1 A z u A14) : d_X12_asked_0_2 x1 A z u A14 := h
abbrev tr_d_X12_asked_0_1 (x1 : Int) (A : St) (z : Int) (u : St) : Prop := (∃ A10 : St, q_X12_blame 1 (A 0 4) A A10 ∧ (d_X12_asked_0_2 x1 A z u A10))
def d_X12_asked_0_1 (x1 : Int) (A : St) (z : Int) (u : St) : Prop := tr_d_X12_asked_0_1 x1 A z u
theorem u_d_X12_asked_0_1 {x1 : Int} {A : St} {z : Int} {u : St} (h : tr_d_X12_asked_0_1 x1 A z u) : d_X12_asked_0_1 x1 A z u := h
abbrev tr_r_X12_asked_0 (x1 : Int) (A : St) (z : Int) (u : St) : Prop := ((((A 0 8) ≤ 0) ∧ (((¬ (A 0 3) = 1) ∧ (d_X12_asked_0_1 x1 A z u)) ∨ (((A 0 3) = 1) ∧ (∃ z5 : Int, q_X12_isOwn (A 0 7) A z5 ∧ (((z5 = 0) ∧ (d_X12_asked_0_2 x1 A z u A)) ∨ ((¬ z5 = 0) ∧ (d_X12_asked_0_1 x1 A z u))))))) ∨ ((¬ (A 0 8) ≤ 0) ∧ (z = 0 ∧ u = A)))
def r_X12_asked_0 (x1 : Int) (A : St) (z : Int) (u : St) : Prop := tr_r_X12_asked_0 x1 A z u
theorem u_r_X12_asked_0 {x1 : Int} {A : St} {z : Int} {u : St} (h : tr_r_X12_asked_0 x1 A z u) : r_X12_asked_0 x1 A z u := h
def q_X12_asked_0 (x1 : Int) (A : St) (z : Int) (u : St) : Prop := r_X12_asked_0 x1 A z u ∧ IM u ∧ fr [] [3, 4, 5, 6, 7, 8, 9] A u ∧ CB u ∧ (0 ≤ z ∧ z ≤ 7 ∧ A 0 4 ≤ u 0 4 ∧ Hd (u 0 8 = 0 → A 0 8 = 0 ∧ A 0 3 = 1 ∧ ownz (A 0 7) = 0 ∧ z = lk (A 3) (8 * A 0 47).toNat (A 0 7) (A 2 (A 0 47).toNat).toNat))
def ws_mb_X12_asked_0 : List Cond := .code yX12_asked cX12_asked 3 (some .int) :: WX
set_option maxHeartbeats 4000000 in
set_option maxRecDepth 100000 in
theorem mb_X12_asked_0 (l : Launch) (dC : Nat → ClassId) (dI : Nat → Nat → Nat) (cB cI cJ cZ cQ : ClassId) (q : Nat → Nat) (A : St) (x1 : Int) (hI : IM A) (hx1 : (0 : Int) ≤ x1 ∧ x1 ≤ 0) (hcCB : CB A) : XMi l yX12_asked ws_mb_X12_asked_0 ({ frames := 2, cells := 0, slots := 0, locals := 48 } : Room) (dC, dI) (tyA cB cI cJ cZ cQ) (WM cI cJ cZ q) A [.ref (q 0), .int (iI x1)] (fun z u => r_X12_asked_0 x1 A z u ∧ IM u ∧ fr [] [3, 4, 5, 6, 7, 8, 9] A u ∧ CB u ∧ (0 ≤ z ∧ z ≤ 7 ∧ A 0 4 ≤ u 0 4 ∧ Hd (u 0 8 = 0 → A 0 8 = 0 ∧ A 0 3 = 1 ∧ ownz (A 0 7) = 0 ∧ z = lk (A 3) (8 * A 0 47).toNat (A 0 7) (A 2 (A 0 47).toNat).toNat))) := by
  refine x_meti (cc := cX12_asked) (maxL := 3) WM_adr (by decide +kernel) rfl (Nat.le_of_ble_eq_true rfl) (fun p e s m below meth c Q AS ls hx hb hml hown hts hK hDD hA0 hP hS hl RET => ?_)
  have hown : s.vm.findClass RX12 = some m.cls := hown
  have hl : lv_has ls 3 [(0, .ref (q 0)), (1, .int (iI x1))] := hl
  have hiX12 : ∀ w ∈ u_ws RX12 TX12 85, w ∈ ws_mb_X12_asked_0 := fun w h => List.mem_cons_of_mem _ (wx_lay w h)
  obtain ⟨H, hHe⟩ : ∃ H : Heap, H = s.heap := ⟨_, rfl⟩
  rw [← hHe] at hP
  have hS : va_S AS s.heap H [] := by rw [hHe]; exact hS
  suffices hgo : ∀ locs : List Loc, va_S AS s.heap H locs → W p l e (headSpec ws_mb_X12_asked_0 ({ frames := 2, cells := 0, slots := 0, locals := 48 } : Room)).room s m [.ref (q 0), .int (iI x1)].toArray below meth c H locs 0 0 Q (F0 m 0 ls []) by
    have := hgo [] hS
    rw [hHe] at this
    exact this
  clear hS hHe
  intro locs hS
  have hle := CB.le hcCB
  refine lv_aload_n hx hb (dk_at dkX12_asked_0 0 rfl) rfl (lv_at hl 0 rfl) ?_
  refine va_get (D := (dC, dI)) (ci := 12) (v := .int (iI (A 0 8))) (C := RX12) (T := TX12) (N := 85) hx hb hts hiX12 hown hK hP 0 wm0 rfl 8 (by decide) (hts _ (List.mem_cons_of_mem _ wlq_0_16)) (fun _ h9 => h9) rfl (dk_at dkX12_asked_0 1 rfl) ?_
  have r_A_0_8 : (0 : Int) ≤ (A 0 8) ∧ (A 0 8) ≤ 5 := hI 0 8
  refine lv_if_le (tgt := 9) hx hb (dk_at dkX12_asked_0 2 rfl) (by decide) (fun c1 => ?_) (fun c1 => ?_)
  · have c1 : (A 0 8) ≤ 0 := (i_le0 (rb r_A_0_8 (by decide) (by decide))).mp c1
    refine lv_aload_n hx hb (dk_at dkX12_asked_0 5 rfl) rfl (lv_at hl 0 rfl) ?_
    refine va_get (D := (dC, dI)) (ci := 12) (v := .int (iI (A 0 3))) (C := RX12) (T := TX12) (N := 85) hx hb hts hiX12 hown hK hP 0 wm0 rfl 3 (by decide) (hts _ (List.mem_cons_of_mem _ wlq_0_24)) (fun _ h9 => h9) rfl (dk_at dkX12_asked_0 6 rfl) ?_
    have r_A_0_3 : (0 : Int) ≤ (A 0 3) ∧ (A 0 3) ≤ 3 := hI 0 3
    refine lv_iconst (v := iI 1) hx hb (dk_at dkX12_asked_0 7 rfl) (by decide +kernel) ?_
    have J37_4 : ∀ (A14 : St) (H : Heap) (locs : List Loc) (ls : Array Slot), (Hd ((A14 0 8) = 0 → A 0 3 = 1 ∧ ownz (A 0 7) = 0)) → (∀ (z : Int) (u : St), (d_X12_asked_0_2 x1 A z u A14) → r_X12_asked_0 x1 A z u) → IM A14 → fr [] [8, 9] A A14 → va_P (dC, dI) vwCl (WM cI cJ cZ q A14) H → va_S AS s.heap H locs → lv_has ls 3 [(0, .ref (q 0)), (1, .int (iI x1))] → W p l e (headSpec ws_mb_X12_asked_0 ({ frames := 2, cells := 0, slots := 0, locals := 48 } : Room)).room s m [.ref (q 0), .int (iI x1)].toArray below meth c H locs 0 0 Q (F0 m 37 ls []) := by
      intro A14 H locs ls f15 hk2 hI hj13 hP hS hl
      have gI16 : Hd (IM A14) := Hd.mk hI
      refine lv_aload_n hx hb (dk_at dkX12_asked_1 3 rfl) rfl (lv_at hl 0 rfl) ?_
      refine va_get (D := (dC, dI)) (ci := 12) (v := .int (iI (A14 0 8))) (C := RX12) (T := TX12) (N := 85) hx hb hts hiX12 hown hK hP 0 wm0 rfl 8 (by decide) (hts _ (List.mem_cons_of_mem _ wlq_0_16)) (fun _ h9 => h9) rfl (dk_at dkX12_asked_1 4 rfl) ?_
      have r_A14_0_8 : (0 : Int) ≤ (A14 0 8) ∧ (A14 0 8) ≤ 5 := hI 0 8
      have J57_18 : ∀ (z22 : Int) (H : Heap) (locs : List Loc) (ls : Array Slot), (-1 ≤ z22 ∧ z22 ≤ 7) → (Hd ((A14 0 8) = 0 → z22 = lk (A 3) (8 * A 0 47).toNat (A 0 7) (A 2 (A 0 47).toNat).toNat)) → (∀ (z : Int) (u : St), (d_X12_asked_0_3 A A14 z u z22) → r_X12_asked_0 x1 A z u) → va_P (dC, dI) vwCl (WM cI cJ cZ q A14) H → va_S AS s.heap H locs → lv_has ls 3 [(0, .ref (q 0)), (1, .int (iI x1))] → W p l e (headSpec ws_mb_X12_asked_0 ({ frames := 2, cells := 0, slots := 0, locals := 48 } : Room)).room s m [.ref (q 0), .int (iI x1)].toArray below meth c H locs 0 0 Q (F0 m 57 ls [.int (iI z22)]) := by
        intro z22 H locs ls f24 f25 hk3 hP hS hl
        refine lv_istore_n (lv' := [(2, .int (iI z22)), (0, .ref (q 0)), (1, .int (iI x1))]) hx hb (dk_at dkX12_asked_1 13 rfl) rfl hl (by decide) rfl (fun ls hl => ?_)
        refine lv_aload_n hx hb (dk_at dkX12_asked_1 14 rfl) rfl (lv_at hl 1 rfl) ?_
        refine va_get (D := (dC, dI)) (ci := 12) (v := .int (iI (A14 0 8))) (C := RX12) (T := TX12) (N := 85) hx hb hts hiX12 hown hK hP 0 wm0 rfl 8 (by decide) (hts _ (List.mem_cons_of_mem _ wlq_0_16)) (fun _ h9 => h9) rfl (dk_at dkX12_asked_1 15 rfl) ?_
        have J79_27 : ∀ (A33 : St) (H : Heap) (locs : List Loc) (ls : Array Slot), (Hd ((A33 0 8) = 0 → (A14 0 8 = 0 ∧ 0 ≤ z22))) → (∀ (z : Int) (u : St), (d_X12_asked_0_4 z22 z u A33) → r_X12_asked_0 x1 A z u) → IM A33 → fr [] [8, 9] A14 A33 → va_P (dC, dI) vwCl (WM cI cJ cZ q A33) H → va_S AS s.heap H locs → lv_has ls 3 [(2, .int (iI z22)), (0, .ref (q 0)), (1, .int (iI x1))] → W p l e (headSpec ws_mb_X12_asked_0 ({ frames := 2, cells := 0, slots := 0, locals := 48 } : Room)).room s m [.ref (q 0), .int (iI x1)].toArray below meth c H locs 0 0 Q (F0 m 79 ls []) := by
          intro A33 H locs ls f34 hk4 hI hj32 hP hS hl
          have gI35 : Hd (IM A33) := Hd.mk hI
          refine lv_aload_n hx hb (dk_at dkX12_asked_2 9 rfl) rfl (lv_at hl 1 rfl) ?_
          refine va_get (D := (dC, dI)) (ci := 12) (v := .int (iI (A33 0 8))) (C := RX12) (T := TX12) (N := 85) hx hb hts hiX12 hown hK hP 0 wm0 rfl 8 (by decide) (hts _ (List.mem_cons_of_mem _ wlq_0_16)) (fun _ h9 => h9) rfl (dk_at dkX12_asked_2 10 rfl) ?_
          have r_A33_0_8 : (0 : Int) ≤ (A33 0 8) ∧ (A33 0 8) ≤ 5 := hI 0 8
          have J90_37 : ∀ (A44 : St) (H : Heap) (locs : List Loc) (ls : Array Slot), (A 0 4 ≤ (A44 0 4)) → (Hd ((A44 0 8) = 0 → A33 0 8 = 0)) → (CB A44) → (∀ (z : Int) (u : St), (d_X12_asked_0_5 z22 z u A44) → r_X12_asked_0 x1 A z u) → IM A44 → fr [] [3, 4, 5, 6, 7, 8, 9] A33 A44 → va_P (dC, dI) vwCl (WM cI cJ cZ q A44) H → va_S AS s.heap H locs → lv_has ls 3 [(2, .int (iI z22)), (0, .ref (q 0)), (1, .int (iI x1))] → W p l e (headSpec ws_mb_X12_asked_0 ({ frames := 2, cells := 0, slots := 0, locals := 48 } : Room)).room s m [.ref (q 0), .int (iI x1)].toArray below meth c H locs 0 0 Q (F0 m 90 ls []) := by
            intro A44 H locs ls f45 f46 hc47 hk5 hI hj43 hP hS hl
            have gI48 : Hd (IM A44) := Hd.mk hI
            refine lv_aload_n hx hb (dk_at dkX12_asked_2 14 rfl) rfl (lv_at hl 1 rfl) ?_
            refine va_get (D := (dC, dI)) (ci := 12) (v := .int (iI (A44 0 8))) (C := RX12) (T := TX12) (N := 85) hx hb hts hiX12 hown hK hP 0 wm0 rfl 8 (by decide) (hts _ (List.mem_cons_of_mem _ wlq_0_16)) (fun _ h9 => h9) rfl (dk_at dkX12_asked_2 15 rfl) ?_
            have r_A44_0_8 : (0 : Int) ≤ (A44 0 8) ∧ (A44 0 8) ≤ 5 := hI 0 8
            refine lv_if_le (tgt := 101) hx hb (dk_at dkX12_asked_3 0 rfl) (by decide) (fun c49 => ?_) (fun c49 => ?_)
            · have c49 : (A44 0 8) ≤ 0 := (i_le0 (rb r_A44_0_8 (by decide) (by decide))).mp c49
              refine lv_iload_n hx hb (dk_at dkX12_asked_3 3 rfl) rfl (lv_at hl 0 rfl) ?_
              have r_A44_0_4 : (0 : Int) ≤ (A44 0 4) ∧ (A44 0 4) ≤ 1600 := hI 0 4
              have hq : Hd (A44 0 8 = 0 → (0 ≤ z22 ∧ A 0 8 = 0 ∧ A 0 3 = 1 ∧ ownz (A 0 7) = 0 ∧ z22 = lk (A 3) (8 * A 0 47).toNat (A 0 7) (A 2 (A 0 47).toNat).toNat)) := Hd.mk (fun h0 => by
                have g4 := f46.out (by omega)
                have g3 := f34.out (by omega)
                have g2 := f25.out (by omega)
                have g1 := f15.out (by omega)
                exact ⟨by omega, by omega, g1.1, g1.2, by omega⟩)
              have hq0 : 0 ≤ z22 := (hq.out (by omega)).1
              exact RET z22 _ _ _ _ _ ⟨hk5 _ _ (u_d_X12_asked_0_5 ⟨gI48.out, (Or.inl ⟨c49, ⟨rfl, rfl⟩⟩)⟩), hI, fr.trans (fr.trans (fr.trans (fr.rf) hj13 rfl rfl) hj32 rfl rfl) hj43 rfl rfl, hc47, ⟨by omega, by omega, by omega, Hd.mk (fun h => (hq.out h).2)⟩⟩ hP hS (dk_at dkX12_asked_3 4 rfl)
            · have c49 : ¬ (A44 0 8) ≤ 0 := mt (i_le0 (rb r_A44_0_8 (by decide) (by decide))).mpr c49
              refine lv_iconst (v := iI 0) hx hb (dk_at dkX12_asked_3 1 rfl) (by decide +kernel) ?_
              refine lv_goto (tgt := 102) hx hb (dk_at dkX12_asked_3 2 rfl) (by decide) ?_
              have r_A44_0_4 : (0 : Int) ≤ (A44 0 4) ∧ (A44 0 4) ≤ 1600 := hI 0 4
              have hq : Hd (A44 0 8 = 0 → (0 ≤ 0 ∧ A 0 8 = 0 ∧ A 0 3 = 1 ∧ ownz (A 0 7) = 0 ∧ 0 = lk (A 3) (8 * A 0 47).toNat (A 0 7) (A 2 (A 0 47).toNat).toNat)) := Hd.mk (fun h0 => by
                have g4 := f46.out (by omega)
                have g3 := f34.out (by omega)
                have g2 := f25.out (by omega)
                have g1 := f15.out (by omega)
                exact ⟨by omega, by omega, g1.1, g1.2, by omega⟩)
              exact RET 0 _ _ _ _ _ ⟨hk5 _ _ (u_d_X12_asked_0_5 ⟨gI48.out, (Or.inr ⟨c49, ⟨rfl, rfl⟩⟩)⟩), hI, fr.trans (fr.trans (fr.trans (fr.rf) hj13 rfl rfl) hj32 rfl rfl) hj43 rfl rfl, hc47, ⟨by omega, by omega, by omega, Hd.mk (fun h => (hq.out h).2)⟩⟩ hP hS (dk_at dkX12_asked_3 4 rfl)
          refine lv_if_ne (tgt := 90) hx hb (dk_at dkX12_asked_2 11 rfl) (by decide) (fun c36 => ?_) (fun c36 => ?_)
          · have c36 : ¬ (A33 0 8) = 0 := mt (i_eq0 (rb r_A33_0_8 (by decide) (by decide))).mpr c36
            have e_A14_4 : A14 0 4 = (A 0 4) := (hj13.2 4 rfl)
            have e_A33_4 : A33 0 4 = (A 0 4) := (hj32.2 4 rfl).trans e_A14_4
            have r_A_0_4 : (0 : Int) ≤ (A 0 4) ∧ (A 0 4) ≤ 1600 := by rw [← e_A33_4]; exact hI 0 4
            exact J90_37 _ _ _ _ (by omega) (by exact Hd.mk (by  omega)) (CB.fr (CB.fr hcCB hj13 rfl rfl) hj32 rfl rfl) (fun zq uq hq => hk4 _ _ (u_d_X12_asked_0_4 ⟨gI35.out, (Or.inl ⟨c36, hq⟩)⟩)) hI (fr.rf) hP hS (lv_sub hl [0, 1, 2] rfl)
          · have c36 : (A33 0 8) = 0 := (i_eq0 (rb r_A33_0_8 (by decide) (by decide))).mp c36
            refine lv_aload_n hx hb (dk_at dkX12_asked_2 12 rfl) rfl (lv_at hl 1 rfl) ?_
            have e_A14_4 : A14 0 4 = (A 0 4) := (hj13.2 4 rfl)
            have e_A33_4 : A33 0 4 = (A 0 4) := (hj32.2 4 rfl).trans e_A14_4
            have r_A_0_4 : (0 : Int) ≤ (A 0 4) ∧ (A 0 4) ≤ 1600 := by rw [← e_A33_4]; exact hI 0 4
            have e_A14_5 : A14 0 5 = (A 0 5) := (hj13.2 5 rfl)
            have e_A33_5 : A33 0 5 = (A 0 5) := (hj32.2 5 rfl).trans e_A14_5
            have r_A_0_5 : (0 : Int) ≤ (A 0 5) ∧ (A 0 5) ≤ 1600 := by rw [← e_A33_5]; exact hI 0 5
            refine x_callv (As := []) (rest := []) ⟨hx, hb, hml, hown, hts⟩ (mb_X12_ahead l dC dI cB cI cJ cZ cQ q _ hI) (cwV 0 hts (goodV wlq_0_40 wlq_0_41 wlq_0_42 wlq_0_8 wlq_0_20) rfl rfl rfl (by decide +kernel) ⟨Nat.le_of_ble_eq_true rfl, Nat.le_of_ble_eq_true rfl⟩) hK hDD hA0 hP hS 0 12 wm0 rfl rfl hl.1 (Nat.le_of_ble_eq_true rfl) (dk_at dkX12_asked_2 13 rfl) (fun A38 H locs hw39 hP hS => ?_)
            have ghw39 : q_X12_ahead A33 A38 := hw39
            obtain ⟨_, hI, hf40, hw39⟩ := hw39
            have r_A38_0_3 : (0 : Int) ≤ (A38 0 3) ∧ (A38 0 3) ≤ 3 := hI 0 3
            have r_A38_0_4 : (0 : Int) ≤ (A38 0 4) ∧ (A38 0 4) ≤ 1600 := hI 0 4
            have r_A38_0_5 : (0 : Int) ≤ (A38 0 5) ∧ (A38 0 5) ≤ 1600 := hI 0 5
            have r_A38_0_8 : (0 : Int) ≤ (A38 0 8) ∧ (A38 0 8) ≤ 5 := hI 0 8
            have hv41 := CB.le (CB.fr (CB.fr hcCB hj13 rfl rfl) hj32 rfl rfl)
            have hc42 := CB.ahead (CB.fr (CB.fr hcCB hj13 rfl rfl) hj32 rfl rfl) (hf40.2 46 rfl) hw39.1 hw39.2.1 hw39.2.2.1
            exact J90_37 _ _ _ _ (by omega) (by exact Hd.mk (by  omega)) hc42 (fun zq uq hq => hk4 _ _ (u_d_X12_asked_0_4 ⟨gI35.out, (Or.inr ⟨c36, ⟨A38, ghw39, hq⟩⟩)⟩)) hI (fr.trans (fr.rf) hf40 rfl rfl) hP hS (lv_sub hl [0, 1, 2] rfl)
        refine lv_if_ne (tgt := 79) hx hb (dk_at dkX12_asked_2 0 rfl) (by decide) (fun c26 => ?_) (fun c26 => ?_)
        · have c26 : ¬ (A14 0 8) = 0 := mt (i_eq0 (rb r_A14_0_8 (by decide) (by decide))).mpr c26
          exact J79_27 _ _ _ _ (by exact Hd.mk (by  omega)) (fun zq uq hq => hk3 _ _ (u_d_X12_asked_0_3 ⟨f24, (Or.inl ⟨c26, hq⟩)⟩)) hI (fr.rf) hP hS (lv_sub hl [0, 1, 2] rfl)
        · have c26 : (A14 0 8) = 0 := (i_eq0 (rb r_A14_0_8 (by decide) (by decide))).mp c26
          refine lv_iload_n hx hb (dk_at dkX12_asked_2 1 rfl) rfl (lv_at hl 0 rfl) ?_
          refine lv_iconst (v := iI (-1)) hx hb (dk_at dkX12_asked_2 2 rfl) (by decide +kernel) ?_
          refine lv_icmp_ne (tgt := 79) hx hb (dk_at dkX12_asked_2 3 rfl) (by decide) (fun c28 => ?_) (fun c28 => ?_)
          · have c28 : ¬ z22 = (-1) := mt (i_eq (rb f24 (by decide) (by decide)) ⟨by decide, by decide⟩).mpr c28
            exact J79_27 _ _ _ _ (by exact Hd.mk (by  omega)) (fun zq uq hq => hk3 _ _ (u_d_X12_asked_0_3 ⟨f24, (Or.inr ⟨c26, (Or.inl ⟨c28, hq⟩)⟩)⟩)) hI (fr.rf) hP hS (lv_sub hl [0, 1, 2] rfl)
          · have c28 : z22 = (-1) := (i_eq (rb f24 (by decide) (by decide)) ⟨by decide, by decide⟩).mp c28
            refine lv_aload_n hx hb (dk_at dkX12_asked_2 4 rfl) rfl (lv_at hl 1 rfl) ?_
            refine lv_iconst (v := iI 3) hx hb (dk_at dkX12_asked_2 5 rfl) (by decide +kernel) ?_
            refine lv_aload_n hx hb (dk_at dkX12_asked_2 6 rfl) rfl (lv_at hl 1 rfl) ?_
            have e_A14_4 : A14 0 4 = (A 0 4) := (hj13.2 4 rfl)
            refine va_get (D := (dC, dI)) (ci := 12) (v := .int (iI (A14 0 4))) (C := RX12) (T := TX12) (N := 85) hx hb hts hiX12 hown hK hP 0 wm0 rfl 4 (by decide) (hts _ (List.mem_cons_of_mem _ wlq_0_23)) (fun _ h9 => h9) rfl (dk_at dkX12_asked_2 7 rfl) ?_
            refine tp_i (y := iI (A 0 4)) (congrArg iI e_A14_4) ?_
            have r_A_0_4 : (0 : Int) ≤ (A 0 4) ∧ (A 0 4) ≤ 1600 := by rw [← e_A14_4]; exact hI 0 4
            refine x_callv (As := [.int (iI 3), .int (iI (A 0 4))]) (rest := []) ⟨hx, hb, hml, hown, hts⟩ (mc_X12_blame l dC dI cB cI cJ cZ cQ q _ 3 (A 0 4) hI ⟨by decide, by decide⟩ r_A_0_4) (cwV 2 hts (goodV wlq_0_31 wlq_0_32 wlq_0_33 wlq_0_8 wlq_0_15) rfl rfl rfl (by decide +kernel) ⟨Nat.le_of_ble_eq_true rfl, Nat.le_of_ble_eq_true rfl⟩) hK hDD hA0 hP hS 0 12 wm0 rfl rfl hl.1 (Nat.le_of_ble_eq_true rfl) (dk_at dkX12_asked_2 8 rfl) (fun A29 H locs hw30 hP hS => ?_)
            have ghw30 : q_X12_blame 3 (A 0 4) A14 A29 := hw30
            obtain ⟨_, hI, hf31, hw30⟩ := hw30
            have r_A29_0_8 : (0 : Int) ≤ (A29 0 8) ∧ (A29 0 8) ≤ 5 := hI 0 8
            exact J79_27 _ _ _ _ (by exact Hd.mk (by  omega)) (fun zq uq hq => hk3 _ _ (u_d_X12_asked_0_3 ⟨f24, (Or.inr ⟨c26, (Or.inr ⟨c28, ⟨A29, ghw30, hq⟩⟩)⟩)⟩)) hI (fr.trans (fr.rf) hf31 rfl rfl) hP hS (lv_sub hl [0, 1, 2] rfl)
      refine lv_if_le (tgt := 48) hx hb (dk_at dkX12_asked_1 5 rfl) (by decide) (fun c17 => ?_) (fun c17 => ?_)
      · have c17 : (A14 0 8) ≤ 0 := (i_le0 (rb r_A14_0_8 (by decide) (by decide))).mp c17
        refine lv_aload_n hx hb (dk_at dkX12_asked_1 8 rfl) rfl (lv_at hl 0 rfl) ?_
        refine lv_iload_n hx hb (dk_at dkX12_asked_1 9 rfl) rfl (lv_at hl 1 rfl) ?_
        refine lv_aload_n hx hb (dk_at dkX12_asked_1 10 rfl) rfl (lv_at hl 0 rfl) ?_
        have e_A14_7 : A14 0 7 = (A 0 7) := (hj13.2 7 rfl)
        refine va_get (D := (dC, dI)) (ci := 12) (v := .long (jI (A14 0 7))) (C := RX12) (T := TX12) (N := 85) hx hb hts hiX12 hown hK hP 0 wm0 rfl 7 (by decide) (hts _ (List.mem_cons_of_mem _ wlq_0_26)) (fun _ h9 => h9) rfl (dk_at dkX12_asked_1 11 rfl) ?_
        refine tp_l (y := jI (A 0 7)) (congrArg jI e_A14_7) ?_
        have r_A_0_7 : (-9223372036854775808 : Int) ≤ (A 0 7) ∧ (A 0 7) ≤ 9223372036854775807 := by rw [← e_A14_7]; exact hI 0 7
        have e_A14_47 : A14 0 47 = (A 0 47) := (hj13.2 47 rfl)
        have r_A_0_47 : (0 : Int) ≤ (A 0 47) ∧ (A 0 47) ≤ 1 := by rw [← e_A14_47]; exact hI 0 47
        refine x_calli (As := [.int (iI x1), .long (jI (A 0 7))]) (rest := []) ⟨hx, hb, hml, hown, hts⟩ (mb_X12_named_0 l dC dI cB cI cJ cZ cQ q _ x1 (A 0 7) hI hx1 r_A_0_7) (cwV 2 hts (goodV wlq_2_26 wlq_2_27 wlq_2_28 wlq_0_8 wlq_1_10) rfl rfl rfl (by decide +kernel) ⟨Nat.le_of_ble_eq_true rfl, Nat.le_of_ble_eq_true rfl⟩) hK hDD hA0 hP hS 0 12 wm0 rfl rfl hl.1 (Nat.le_of_ble_eq_true rfl) (dk_at dkX12_asked_1 12 rfl) (fun z19 A20 H locs hw21 hP hS => ?_)
        obtain ⟨rfl, hw21⟩ := hw21
        have ghw21 : q_X12_named_0 x1 (A 0 7) A14 z19 := hw21
        have hw21 := hw21.2
        have a_A14_3 : A14 3 = A 3 := (hj13.1 3 (by decide) rfl)
        have a_A14_2 : A14 2 = A 2 := (hj13.1 2 (by decide) rfl)
        rw [a_A14_3, a_A14_2, e_A14_47] at hw21
        exact J57_18 z19 _ _ _ (by omega) (by exact Hd.mk (by  omega)) (fun zq uq hq => hk2 _ _ (u_d_X12_asked_0_2 ⟨gI16.out, (Or.inl ⟨c17, ⟨z19, ghw21, hq⟩⟩)⟩)) hP hS (lv_sub hl [0, 1] rfl)
      · have c17 : ¬ (A14 0 8) ≤ 0 := mt (i_le0 (rb r_A14_0_8 (by decide) (by decide))).mpr c17
        refine lv_iconst (v := iI 0) hx hb (dk_at dkX12_asked_1 6 rfl) (by decide +kernel) ?_
        refine lv_goto (tgt := 57) hx hb (dk_at dkX12_asked_1 7 rfl) (by decide) ?_
        exact J57_18 0 _ _ _ (by omega) (by exact Hd.mk (by  omega)) (fun zq uq hq => hk2 _ _ (u_d_X12_asked_0_2 ⟨gI16.out, (Or.inr ⟨c17, hq⟩)⟩)) hP hS (lv_sub hl [0, 1] rfl)
    have J28_3 : ∀ (H : Heap) (locs : List Loc) (ls : Array Slot), (∀ (z : Int) (u : St), (d_X12_asked_0_1 x1 A z u) → r_X12_asked_0 x1 A z u) → va_P (dC, dI) vwCl (WM cI cJ cZ q A) H → va_S AS s.heap H locs → lv_has ls 3 [(0, .ref (q 0)), (1, .int (iI x1))] → W p l e (headSpec ws_mb_X12_asked_0 ({ frames := 2, cells := 0, slots := 0, locals := 48 } : Room)).room s m [.ref (q 0), .int (iI x1)].toArray below meth c H locs 0 0 Q (F0 m 28 ls []) := by
      intro H locs ls hk1 hP hS hl
      refine lv_aload_n hx hb (dk_at dkX12_asked_0 14 rfl) rfl (lv_at hl 0 rfl) ?_
      refine lv_iconst (v := iI 1) hx hb (dk_at dkX12_asked_0 15 rfl) (by decide +kernel) ?_
      refine lv_aload_n hx hb (dk_at dkX12_asked_1 0 rfl) rfl (lv_at hl 0 rfl) ?_
      refine va_get (D := (dC, dI)) (ci := 12) (v := .int (iI (A 0 4))) (C := RX12) (T := TX12) (N := 85) hx hb hts hiX12 hown hK hP 0 wm0 rfl 4 (by decide) (hts _ (List.mem_cons_of_mem _ wlq_0_23)) (fun _ h9 => h9) rfl (dk_at dkX12_asked_1 1 rfl) ?_
      have r_A_0_4 : (0 : Int) ≤ (A 0 4) ∧ (A 0 4) ≤ 1600 := hI 0 4
      refine x_callv (As := [.int (iI 1), .int (iI (A 0 4))]) (rest := []) ⟨hx, hb, hml, hown, hts⟩ (mc_X12_blame l dC dI cB cI cJ cZ cQ q _ 1 (A 0 4) hI ⟨by decide, by decide⟩ r_A_0_4) (cwV 2 hts (goodV wlq_0_31 wlq_0_32 wlq_0_33 wlq_0_8 wlq_0_15) rfl rfl rfl (by decide +kernel) ⟨Nat.le_of_ble_eq_true rfl, Nat.le_of_ble_eq_true rfl⟩) hK hDD hA0 hP hS 0 12 wm0 rfl rfl hl.1 (Nat.le_of_ble_eq_true rfl) (dk_at dkX12_asked_1 2 rfl) (fun A10 H locs hw11 hP hS => ?_)
      have ghw11 : q_X12_blame 1 (A 0 4) A A10 := hw11
      obtain ⟨_, hI, hf12, hw11⟩ := hw11
      have r_A10_0_8 : (0 : Int) ≤ (A10 0 8) ∧ (A10 0 8) ≤ 5 := hI 0 8
      exact J37_4 _ _ _ _ (by exact Hd.mk (by  omega)) (fun zq uq hq => hk1 _ _ (u_d_X12_asked_0_1 ⟨A10, ghw11, hq⟩)) hI (fr.trans (fr.rf) hf12 rfl rfl) hP hS (lv_sub hl [0, 1] rfl)
    refine lv_icmp_ne (tgt := 28) hx hb (dk_at dkX12_asked_0 8 rfl) (by decide) (fun c2 => ?_) (fun c2 => ?_)
    · have c2 : ¬ (A 0 3) = 1 := mt (i_eq (rb r_A_0_3 (by decide) (by decide)) ⟨by decide, by decide⟩).mpr c2
      exact J28_3 _ _ _ (fun zq uq hq => (u_r_X12_asked_0 (Or.inl ⟨c1, (Or.inl ⟨c2, hq⟩)⟩))) hP hS (lv_sub hl [0, 1] rfl)
    · have c2 : (A 0 3) = 1 := (i_eq (rb r_A_0_3 (by decide) (by decide)) ⟨by decide, by decide⟩).mp c2
      refine lv_aload_n hx hb (dk_at dkX12_asked_0 9 rfl) rfl (lv_at hl 0 rfl) ?_
      refine lv_aload_n hx hb (dk_at dkX12_asked_0 10 rfl) rfl (lv_at hl 0 rfl) ?_
      refine va_get (D := (dC, dI)) (ci := 12) (v := .long (jI (A 0 7))) (C := RX12) (T := TX12) (N := 85) hx hb hts hiX12 hown hK hP 0 wm0 rfl 7 (by decide) (hts _ (List.mem_cons_of_mem _ wlq_0_26)) (fun _ h9 => h9) rfl (dk_at dkX12_asked_0 11 rfl) ?_
      have r_A_0_7 : (-9223372036854775808 : Int) ≤ (A 0 7) ∧ (A 0 7) ≤ 9223372036854775807 := hI 0 7
      refine x_calli (As := [.long (jI (A 0 7))]) (rest := []) ⟨hx, hb, hml, hown, hts⟩ (mb_X12_isOwn l dC dI cB cI cJ cZ cQ q _ (A 0 7) hI r_A_0_7) (cwV 1 hts (goodV wlq_2_23 wlq_2_24 wlq_2_25 wlq_0_8 wlq_0_43) rfl rfl rfl (by decide +kernel) ⟨Nat.le_of_ble_eq_true rfl, Nat.le_of_ble_eq_true rfl⟩) hK hDD hA0 hP hS 0 12 wm0 rfl rfl hl.1 (Nat.le_of_ble_eq_true rfl) (dk_at dkX12_asked_0 12 rfl) (fun z5 A6 H locs hw7 hP hS => ?_)
      obtain ⟨rfl, hw7⟩ := hw7
      have ghw7 : q_X12_isOwn (A 0 7) A z5 := hw7
      have hw7 := hw7.2
      have rz5 : 0 ≤ z5 ∧ z5 ≤ 1 := hw7.1
      refine lv_if_eq (tgt := 37) hx hb (dk_at dkX12_asked_0 13 rfl) (by decide) (fun c8 => ?_) (fun c8 => ?_)
      · have c8 : z5 = 0 := (i_eq0 (rb rz5 (by decide) (by decide))).mp c8
        exact J37_4 _ _ _ _ (by exact Hd.mk (by  omega)) (fun zq uq hq => (u_r_X12_asked_0 (Or.inl ⟨c1, (Or.inr ⟨c2, ⟨z5, ghw7, (Or.inl ⟨c8, hq⟩)⟩⟩)⟩))) hI (fr.rf) hP hS (lv_sub hl [0, 1] rfl)
      · have c8 : ¬ z5 = 0 := mt (i_eq0 (rb rz5 (by decide) (by decide))).mpr c8
        exact J28_3 _ _ _ (fun zq uq hq => (u_r_X12_asked_0 (Or.inl ⟨c1, (Or.inr ⟨c2, ⟨z5, ghw7, (Or.inr ⟨c8, hq⟩)⟩⟩)⟩))) hP hS (lv_sub hl [0, 1] rfl)
  · have c1 : ¬ (A 0 8) ≤ 0 := mt (i_le0 (rb r_A_0_8 (by decide) (by decide))).mpr c1
    refine lv_iconst (v := iI 0) hx hb (dk_at dkX12_asked_0 3 rfl) (by decide +kernel) ?_
    have r_A_0_4 : (0 : Int) ≤ (A 0 4) ∧ (A 0 4) ≤ 1600 := hI 0 4
    exact RET 0 _ _ _ _ _ ⟨(u_r_X12_asked_0 (Or.inr ⟨c1, ⟨rfl, rfl⟩⟩)), hI, fr.rf, hcCB, ⟨by omega, by omega, by omega, Hd.mk (fun h => absurd h (by omega))⟩⟩ hP hS (dk_at dkX12_asked_0 4 rfl)

abbrev tr_d_X12_asked_1_5 (z22 : Int) (z : Int) (u : St) (A44 : St) : Prop := ((IM A44) ∧ ((((A44 0 8) ≤ 0) ∧ (z = z22 ∧ u = A44)) ∨ ((¬ (A44 0 8) ≤ 0) ∧ (z = 0 ∧ u = A44))))
def d_X12_asked_1_5 (z22 : Int) (z : Int) (u : St) (A44 : St) : Prop := tr_d_X12_asked_1_5 z22 z u A44
theorem u_d_X12_asked_1_5 {z22 : Int} {z : Int} {u : St} {A44 : St} (h : tr_d_X12_asked_1_5 z22 z u A44) : d_X12_asked_1_5 z22 z u A44 := h
abbrev tr_d_X12_asked_1_4 (z22 : Int) (z : Int) (u : St) (A33 : St) : Prop := ((IM A33) ∧ (((¬ (A33 0 8) = 0) ∧ (d_X12_asked_1_5 z22 z u A33)) ∨ (((A33 0 8) = 0) ∧ (∃ A38 : St, q_X12_ahead A33 A38 ∧ (d_X12_asked_1_5 z22 z u A38)))))
def d_X12_asked_1_4 (z22 : Int) (z : Int) (u : St) (A33 : St) : Prop := tr_d_X12_asked_1_4 z22 z u A33
theorem u_d_X12_asked_1_4 {z22 : Int} {z : Int} {u : St} {A33 : St} (h : tr_d_X12_asked_1_4 z22 z u A33) : d_X12_asked_1_4 z22 z u A33 := h
abbrev tr_d_X12_asked_1_3 (A : St) (A14 : St) (z : Int) (u : St) (z22 : Int) : Prop := ((-1 ≤ z22 ∧ z22 ≤ 9) ∧ (((¬ (A14 0 8) = 0) ∧ (d_X12_asked_1_4 z22 z u A14)) ∨ (((A14 0 8) = 0) ∧ (((¬ z22 = (-1)) ∧ (d_X12_asked_1_4 z22 z u A14)) ∨ ((z22 = (-1)) ∧ (∃ A29 : St, q_X12_blame 3 (A 0 4) A14 A29 ∧ (d_X12_asked_1_4 z22 z u A29)))))))
def d_X12_asked_1_3 (A : St) (A14 : St) (z : Int) (u : St) (z22 : Int) : Prop := tr_d_X12_asked_1_3 A A14 z u z22
theorem u_d_X12_asked_1_3 {A : St} {A14 : St} {z : Int} {u : St} {z22 : Int} (h : tr_d_X12_asked_1_3 A A14 z u z22) : d_X12_asked_1_3 A A14 z u z22 := h
abbrev tr_d_X12_asked_1_2 (x1 : Int) (A : St) (z : Int) (u : St) (A14 : St) : Prop := ((IM A14) ∧ ((((A14 0 8) ≤ 0) ∧ (∃ z19 : Int, q_X12_named_1 x1 (A 0 7) A14 z19 ∧ (d_X12_asked_1_3 A A14 z u z19))) ∨ ((¬ (A14 0 8) ≤ 0) ∧ (d_X12_asked_1_3 A A14 z u 0))))
def d_X12_asked_1_2 (x1 : Int) (A : St) (z : Int) (u : St) (A14 : St) : Prop := tr_d_X12_asked_1_2 x1 A z u A14
theorem u_d_X12_asked_1_2 {x1 : Int} {A : St} {z : Int} {u : St} {A14 : St} (h : tr_d_X12_asked_1_2 x1 A z u A14) : d_X12_asked_1_2 x1 A z u A14 := h
abbrev tr_d_X12_asked_1_1 (x1 : Int) (A : St) (z : Int) (u : St) : Prop := (∃ A10 : St, q_X12_blame 1 (A 0 4) A A10 ∧ (d_X12_asked_1_2 x1 A z u A10))
def d_X12_asked_1_1 (x1 : Int) (A : St) (z : Int) (u : St) : Prop := tr_d_X12_asked_1_1 x1 A z u
theorem u_d_X12_asked_1_1 {x1 : Int} {A : St} {z : Int} {u : St} (h : tr_d_X12_asked_1_1 x1 A z u) : d_X12_asked_1_1 x1 A z u := h
abbrev tr_r_X12_asked_1 (x1 : Int) (A : St) (z : Int) (u : St) : Prop := ((((A 0 8) ≤ 0) ∧ (((¬ (A 0 3) = 1) ∧ (d_X12_asked_1_1 x1 A z u)) ∨ (((A 0 3) = 1) ∧ (∃ z5 : Int, q_X12_isOwn (A 0 7) A z5 ∧ (((z5 = 0) ∧ (d_X12_asked_1_2 x1 A z u A)) ∨ ((¬ z5 = 0) ∧ (d_X12_asked_1_1 x1 A z u))))))) ∨ ((¬ (A 0 8) ≤ 0) ∧ (z = 0 ∧ u = A)))
def r_X12_asked_1 (x1 : Int) (A : St) (z : Int) (u : St) : Prop := tr_r_X12_asked_1 x1 A z u
theorem u_r_X12_asked_1 {x1 : Int} {A : St} {z : Int} {u : St} (h : tr_r_X12_asked_1 x1 A z u) : r_X12_asked_1 x1 A z u := h
def q_X12_asked_1 (x1 : Int) (A : St) (z : Int) (u : St) : Prop := r_X12_asked_1 x1 A z u ∧ IM u ∧ fr [] [3, 4, 5, 6, 7, 8, 9] A u ∧ CB u ∧ (0 ≤ z ∧ z ≤ 9 ∧ A 0 4 ≤ u 0 4 ∧ Hd (u 0 8 = 0 → A 0 8 = 0 ∧ A 0 3 = 1 ∧ ownz (A 0 7) = 0 ∧ z = lk (A 5) (10 * A 0 47).toNat (A 0 7) (A 4 (A 0 47).toNat).toNat))
def ws_mb_X12_asked_1 : List Cond := .code yX12_asked cX12_asked 3 (some .int) :: WX
set_option maxHeartbeats 4000000 in
set_option maxRecDepth 100000 in
theorem mb_X12_asked_1 (l : Launch) (dC : Nat → ClassId) (dI : Nat → Nat → Nat) (cB cI cJ cZ cQ : ClassId) (q : Nat → Nat) (A : St) (x1 : Int) (hI : IM A) (hx1 : (1 : Int) ≤ x1 ∧ x1 ≤ 1) (hcCB : CB A) : XMi l yX12_asked ws_mb_X12_asked_1 ({ frames := 2, cells := 0, slots := 0, locals := 48 } : Room) (dC, dI) (tyA cB cI cJ cZ cQ) (WM cI cJ cZ q) A [.ref (q 0), .int (iI x1)] (fun z u => r_X12_asked_1 x1 A z u ∧ IM u ∧ fr [] [3, 4, 5, 6, 7, 8, 9] A u ∧ CB u ∧ (0 ≤ z ∧ z ≤ 9 ∧ A 0 4 ≤ u 0 4 ∧ Hd (u 0 8 = 0 → A 0 8 = 0 ∧ A 0 3 = 1 ∧ ownz (A 0 7) = 0 ∧ z = lk (A 5) (10 * A 0 47).toNat (A 0 7) (A 4 (A 0 47).toNat).toNat))) := by
  refine x_meti (cc := cX12_asked) (maxL := 3) WM_adr (by decide +kernel) rfl (Nat.le_of_ble_eq_true rfl) (fun p e s m below meth c Q AS ls hx hb hml hown hts hK hDD hA0 hP hS hl RET => ?_)
  have hown : s.vm.findClass RX12 = some m.cls := hown
  have hl : lv_has ls 3 [(0, .ref (q 0)), (1, .int (iI x1))] := hl
  have hiX12 : ∀ w ∈ u_ws RX12 TX12 85, w ∈ ws_mb_X12_asked_1 := fun w h => List.mem_cons_of_mem _ (wx_lay w h)
  obtain ⟨H, hHe⟩ : ∃ H : Heap, H = s.heap := ⟨_, rfl⟩
  rw [← hHe] at hP
  have hS : va_S AS s.heap H [] := by rw [hHe]; exact hS
  suffices hgo : ∀ locs : List Loc, va_S AS s.heap H locs → W p l e (headSpec ws_mb_X12_asked_1 ({ frames := 2, cells := 0, slots := 0, locals := 48 } : Room)).room s m [.ref (q 0), .int (iI x1)].toArray below meth c H locs 0 0 Q (F0 m 0 ls []) by
    have := hgo [] hS
    rw [hHe] at this
    exact this
  clear hS hHe
  intro locs hS
  have hle := CB.le hcCB
  refine lv_aload_n hx hb (dk_at dkX12_asked_0 0 rfl) rfl (lv_at hl 0 rfl) ?_
  refine va_get (D := (dC, dI)) (ci := 12) (v := .int (iI (A 0 8))) (C := RX12) (T := TX12) (N := 85) hx hb hts hiX12 hown hK hP 0 wm0 rfl 8 (by decide) (hts _ (List.mem_cons_of_mem _ wlq_0_16)) (fun _ h9 => h9) rfl (dk_at dkX12_asked_0 1 rfl) ?_
  have r_A_0_8 : (0 : Int) ≤ (A 0 8) ∧ (A 0 8) ≤ 5 := hI 0 8
  refine lv_if_le (tgt := 9) hx hb (dk_at dkX12_asked_0 2 rfl) (by decide) (fun c1 => ?_) (fun c1 => ?_)
  · have c1 : (A 0 8) ≤ 0 := (i_le0 (rb r_A_0_8 (by decide) (by decide))).mp c1
    refine lv_aload_n hx hb (dk_at dkX12_asked_0 5 rfl) rfl (lv_at hl 0 rfl) ?_
    refine va_get (D := (dC, dI)) (ci := 12) (v := .int (iI (A 0 3))) (C := RX12) (T := TX12) (N := 85) hx hb hts hiX12 hown hK hP 0 wm0 rfl 3 (by decide) (hts _ (List.mem_cons_of_mem _ wlq_0_24)) (fun _ h9 => h9) rfl (dk_at dkX12_asked_0 6 rfl) ?_
    have r_A_0_3 : (0 : Int) ≤ (A 0 3) ∧ (A 0 3) ≤ 3 := hI 0 3
    refine lv_iconst (v := iI 1) hx hb (dk_at dkX12_asked_0 7 rfl) (by decide +kernel) ?_
    have J37_4 : ∀ (A14 : St) (H : Heap) (locs : List Loc) (ls : Array Slot), (Hd ((A14 0 8) = 0 → A 0 3 = 1 ∧ ownz (A 0 7) = 0)) → (∀ (z : Int) (u : St), (d_X12_asked_1_2 x1 A z u A14) → r_X12_asked_1 x1 A z u) → IM A14 → fr [] [8, 9] A A14 → va_P (dC, dI) vwCl (WM cI cJ cZ q A14) H → va_S AS s.heap H locs → lv_has ls 3 [(0, .ref (q 0)), (1, .int (iI x1))] → W p l e (headSpec ws_mb_X12_asked_1 ({ frames := 2, cells := 0, slots := 0, locals := 48 } : Room)).room s m [.ref (q 0), .int (iI x1)].toArray below meth c H locs 0 0 Q (F0 m 37 ls []) := by
      intro A14 H locs ls f15 hk2 hI hj13 hP hS hl
      have gI16 : Hd (IM A14) := Hd.mk hI
      refine lv_aload_n hx hb (dk_at dkX12_asked_1 3 rfl) rfl (lv_at hl 0 rfl) ?_
      refine va_get (D := (dC, dI)) (ci := 12) (v := .int (iI (A14 0 8))) (C := RX12) (T := TX12) (N := 85) hx hb hts hiX12 hown hK hP 0 wm0 rfl 8 (by decide) (hts _ (List.mem_cons_of_mem _ wlq_0_16)) (fun _ h9 => h9) rfl (dk_at dkX12_asked_1 4 rfl) ?_
      have r_A14_0_8 : (0 : Int) ≤ (A14 0 8) ∧ (A14 0 8) ≤ 5 := hI 0 8
      have J57_18 : ∀ (z22 : Int) (H : Heap) (locs : List Loc) (ls : Array Slot), (-1 ≤ z22 ∧ z22 ≤ 9) → (Hd ((A14 0 8) = 0 → z22 = lk (A 5) (10 * A 0 47).toNat (A 0 7) (A 4 (A 0 47).toNat).toNat)) → (∀ (z : Int) (u : St), (d_X12_asked_1_3 A A14 z u z22) → r_X12_asked_1 x1 A z u) → va_P (dC, dI) vwCl (WM cI cJ cZ q A14) H → va_S AS s.heap H locs → lv_has ls 3 [(0, .ref (q 0)), (1, .int (iI x1))] → W p l e (headSpec ws_mb_X12_asked_1 ({ frames := 2, cells := 0, slots := 0, locals := 48 } : Room)).room s m [.ref (q 0), .int (iI x1)].toArray below meth c H locs 0 0 Q (F0 m 57 ls [.int (iI z22)]) := by
        intro z22 H locs ls f24 f25 hk3 hP hS hl
        refine lv_istore_n (lv' := [(2, .int (iI z22)), (0, .ref (q 0)), (1, .int (iI x1))]) hx hb (dk_at dkX12_asked_1 13 rfl) rfl hl (by decide) rfl (fun ls hl => ?_)
        refine lv_aload_n hx hb (dk_at dkX12_asked_1 14 rfl) rfl (lv_at hl 1 rfl) ?_
        refine va_get (D := (dC, dI)) (ci := 12) (v := .int (iI (A14 0 8))) (C := RX12) (T := TX12) (N := 85) hx hb hts hiX12 hown hK hP 0 wm0 rfl 8 (by decide) (hts _ (List.mem_cons_of_mem _ wlq_0_16)) (fun _ h9 => h9) rfl (dk_at dkX12_asked_1 15 rfl) ?_
        have J79_27 : ∀ (A33 : St) (H : Heap) (locs : List Loc) (ls : Array Slot), (Hd ((A33 0 8) = 0 → (A14 0 8 = 0 ∧ 0 ≤ z22))) → (∀ (z : Int) (u : St), (d_X12_asked_1_4 z22 z u A33) → r_X12_asked_1 x1 A z u) → IM A33 → fr [] [8, 9] A14 A33 → va_P (dC, dI) vwCl (WM cI cJ cZ q A33) H → va_S AS s.heap H locs → lv_has ls 3 [(2, .int (iI z22)), (0, .ref (q 0)), (1, .int (iI x1))] → W p l e (headSpec ws_mb_X12_asked_1 ({ frames := 2, cells := 0, slots := 0, locals := 48 } : Room)).room s m [.ref (q 0), .int (iI x1)].toArray below meth c H locs 0 0 Q (F0 m 79 ls []) := by
          intro A33 H locs ls f34 hk4 hI hj32 hP hS hl
          have gI35 : Hd (IM A33) := Hd.mk hI
          refine lv_aload_n hx hb (dk_at dkX12_asked_2 9 rfl) rfl (lv_at hl 1 rfl) ?_
          refine va_get (D := (dC, dI)) (ci := 12) (v := .int (iI (A33 0 8))) (C := RX12) (T := TX12) (N := 85) hx hb hts hiX12 hown hK hP 0 wm0 rfl 8 (by decide) (hts _ (List.mem_cons_of_mem _ wlq_0_16)) (fun _ h9 => h9) rfl (dk_at dkX12_asked_2 10 rfl) ?_
          have r_A33_0_8 : (0 : Int) ≤ (A33 0 8) ∧ (A33 0 8) ≤ 5 := hI 0 8
          have J90_37 : ∀ (A44 : St) (H : Heap) (locs : List Loc) (ls : Array Slot), (A 0 4 ≤ (A44 0 4)) → (Hd ((A44 0 8) = 0 → A33 0 8 = 0)) → (CB A44) → (∀ (z : Int) (u : St), (d_X12_asked_1_5 z22 z u A44) → r_X12_asked_1 x1 A z u) → IM A44 → fr [] [3, 4, 5, 6, 7, 8, 9] A33 A44 → va_P (dC, dI) vwCl (WM cI cJ cZ q A44) H → va_S AS s.heap H locs → lv_has ls 3 [(2, .int (iI z22)), (0, .ref (q 0)), (1, .int (iI x1))] → W p l e (headSpec ws_mb_X12_asked_1 ({ frames := 2, cells := 0, slots := 0, locals := 48 } : Room)).room s m [.ref (q 0), .int (iI x1)].toArray below meth c H locs 0 0 Q (F0 m 90 ls []) := by
            intro A44 H locs ls f45 f46 hc47 hk5 hI hj43 hP hS hl
            have gI48 : Hd (IM A44) := Hd.mk hI
            refine lv_aload_n hx hb (dk_at dkX12_asked_2 14 rfl) rfl (lv_at hl 1 rfl) ?_
            refine va_get (D := (dC, dI)) (ci := 12) (v := .int (iI (A44 0 8))) (C := RX12) (T := TX12) (N := 85) hx hb hts hiX12 hown hK hP 0 wm0 rfl 8 (by decide) (hts _ (List.mem_cons_of_mem _ wlq_0_16)) (fun _ h9 => h9) rfl (dk_at dkX12_asked_2 15 rfl) ?_
            have r_A44_0_8 : (0 : Int) ≤ (A44 0 8) ∧ (A44 0 8) ≤ 5 := hI 0 8
            refine lv_if_le (tgt := 101) hx hb (dk_at dkX12_asked_3 0 rfl) (by decide) (fun c49 => ?_) (fun c49 => ?_)
            · have c49 : (A44 0 8) ≤ 0 := (i_le0 (rb r_A44_0_8 (by decide) (by decide))).mp c49
              refine lv_iload_n hx hb (dk_at dkX12_asked_3 3 rfl) rfl (lv_at hl 0 rfl) ?_
              have r_A44_0_4 : (0 : Int) ≤ (A44 0 4) ∧ (A44 0 4) ≤ 1600 := hI 0 4
              have hq : Hd (A44 0 8 = 0 → (0 ≤ z22 ∧ A 0 8 = 0 ∧ A 0 3 = 1 ∧ ownz (A 0 7) = 0 ∧ z22 = lk (A 5) (10 * A 0 47).toNat (A 0 7) (A 4 (A 0 47).toNat).toNat)) := Hd.mk (fun h0 => by
                have g4 := f46.out (by omega)
                have g3 := f34.out (by omega)
                have g2 := f25.out (by omega)
                have g1 := f15.out (by omega)
                exact ⟨by omega, by omega, g1.1, g1.2, by omega⟩)
              have hq0 : 0 ≤ z22 := (hq.out (by omega)).1
              exact RET z22 _ _ _ _ _ ⟨hk5 _ _ (u_d_X12_asked_1_5 ⟨gI48.out, (Or.inl ⟨c49, ⟨rfl, rfl⟩⟩)⟩), hI, fr.trans (fr.trans (fr.trans (fr.rf) hj13 rfl rfl) hj32 rfl rfl) hj43 rfl rfl, hc47, ⟨by omega, by omega, by omega, Hd.mk (fun h => (hq.out h).2)⟩⟩ hP hS (dk_at dkX12_asked_3 4 rfl)
            · have c49 : ¬ (A44 0 8) ≤ 0 := mt (i_le0 (rb r_A44_0_8 (by decide) (by decide))).mpr c49
              refine lv_iconst (v := iI 0) hx hb (dk_at dkX12_asked_3 1 rfl) (by decide +kernel) ?_
              refine lv_goto (tgt := 102) hx hb (dk_at dkX12_asked_3 2 rfl) (by decide) ?_
              have r_A44_0_4 : (0 : Int) ≤ (A44 0 4) ∧ (A44 0 4) ≤ 1600 := hI 0 4
              have hq : Hd (A44 0 8 = 0 → (0 ≤ 0 ∧ A 0 8 = 0 ∧ A 0 3 = 1 ∧ ownz (A 0 7) = 0 ∧ 0 = lk (A 5) (10 * A 0 47).toNat (A 0 7) (A 4 (A 0 47).toNat).toNat)) := Hd.mk (fun h0 => by
                have g4 := f46.out (by omega)
                have g3 := f34.out (by omega)
                have g2 := f25.out (by omega)
                have g1 := f15.out (by omega)
                exact ⟨by omega, by omega, g1.1, g1.2, by omega⟩)
              exact RET 0 _ _ _ _ _ ⟨hk5 _ _ (u_d_X12_asked_1_5 ⟨gI48.out, (Or.inr ⟨c49, ⟨rfl, rfl⟩⟩)⟩), hI, fr.trans (fr.trans (fr.trans (fr.rf) hj13 rfl rfl) hj32 rfl rfl) hj43 rfl rfl, hc47, ⟨by omega, by omega, by omega, Hd.mk (fun h => (hq.out h).2)⟩⟩ hP hS (dk_at dkX12_asked_3 4 rfl)
          refine lv_if_ne (tgt := 90) hx hb (dk_at dkX12_asked_2 11 rfl) (by decide) (fun c36 => ?_) (fun c36 => ?_)
          · have c36 : ¬ (A33 0 8) = 0 := mt (i_eq0 (rb r_A33_0_8 (by decide) (by decide))).mpr c36
            have e_A14_4 : A14 0 4 = (A 0 4) := (hj13.2 4 rfl)
            have e_A33_4 : A33 0 4 = (A 0 4) := (hj32.2 4 rfl).trans e_A14_4
            have r_A_0_4 : (0 : Int) ≤ (A 0 4) ∧ (A 0 4) ≤ 1600 := by rw [← e_A33_4]; exact hI 0 4
            exact J90_37 _ _ _ _ (by omega) (by exact Hd.mk (by  omega)) (CB.fr (CB.fr hcCB hj13 rfl rfl) hj32 rfl rfl) (fun zq uq hq => hk4 _ _ (u_d_X12_asked_1_4 ⟨gI35.out, (Or.inl ⟨c36, hq⟩)⟩)) hI (fr.rf) hP hS (lv_sub hl [0, 1, 2] rfl)
          · have c36 : (A33 0 8) = 0 := (i_eq0 (rb r_A33_0_8 (by decide) (by decide))).mp c36
            refine lv_aload_n hx hb (dk_at dkX12_asked_2 12 rfl) rfl (lv_at hl 1 rfl) ?_
            have e_A14_4 : A14 0 4 = (A 0 4) := (hj13.2 4 rfl)
            have e_A33_4 : A33 0 4 = (A 0 4) := (hj32.2 4 rfl).trans e_A14_4
            have r_A_0_4 : (0 : Int) ≤ (A 0 4) ∧ (A 0 4) ≤ 1600 := by rw [← e_A33_4]; exact hI 0 4
            have e_A14_5 : A14 0 5 = (A 0 5) := (hj13.2 5 rfl)
            have e_A33_5 : A33 0 5 = (A 0 5) := (hj32.2 5 rfl).trans e_A14_5
            have r_A_0_5 : (0 : Int) ≤ (A 0 5) ∧ (A 0 5) ≤ 1600 := by rw [← e_A33_5]; exact hI 0 5
            refine x_callv (As := []) (rest := []) ⟨hx, hb, hml, hown, hts⟩ (mb_X12_ahead l dC dI cB cI cJ cZ cQ q _ hI) (cwV 0 hts (goodV wlq_0_40 wlq_0_41 wlq_0_42 wlq_0_8 wlq_0_20) rfl rfl rfl (by decide +kernel) ⟨Nat.le_of_ble_eq_true rfl, Nat.le_of_ble_eq_true rfl⟩) hK hDD hA0 hP hS 0 12 wm0 rfl rfl hl.1 (Nat.le_of_ble_eq_true rfl) (dk_at dkX12_asked_2 13 rfl) (fun A38 H locs hw39 hP hS => ?_)
            have ghw39 : q_X12_ahead A33 A38 := hw39
            obtain ⟨_, hI, hf40, hw39⟩ := hw39
            have r_A38_0_3 : (0 : Int) ≤ (A38 0 3) ∧ (A38 0 3) ≤ 3 := hI 0 3
            have r_A38_0_4 : (0 : Int) ≤ (A38 0 4) ∧ (A38 0 4) ≤ 1600 := hI 0 4
            have r_A38_0_5 : (0 : Int) ≤ (A38 0 5) ∧ (A38 0 5) ≤ 1600 := hI 0 5
            have r_A38_0_8 : (0 : Int) ≤ (A38 0 8) ∧ (A38 0 8) ≤ 5 := hI 0 8
            have hv41 := CB.le (CB.fr (CB.fr hcCB hj13 rfl rfl) hj32 rfl rfl)
            have hc42 := CB.ahead (CB.fr (CB.fr hcCB hj13 rfl rfl) hj32 rfl rfl) (hf40.2 46 rfl) hw39.1 hw39.2.1 hw39.2.2.1
            exact J90_37 _ _ _ _ (by omega) (by exact Hd.mk (by  omega)) hc42 (fun zq uq hq => hk4 _ _ (u_d_X12_asked_1_4 ⟨gI35.out, (Or.inr ⟨c36, ⟨A38, ghw39, hq⟩⟩)⟩)) hI (fr.trans (fr.rf) hf40 rfl rfl) hP hS (lv_sub hl [0, 1, 2] rfl)
        refine lv_if_ne (tgt := 79) hx hb (dk_at dkX12_asked_2 0 rfl) (by decide) (fun c26 => ?_) (fun c26 => ?_)
        · have c26 : ¬ (A14 0 8) = 0 := mt (i_eq0 (rb r_A14_0_8 (by decide) (by decide))).mpr c26
          exact J79_27 _ _ _ _ (by exact Hd.mk (by  omega)) (fun zq uq hq => hk3 _ _ (u_d_X12_asked_1_3 ⟨f24, (Or.inl ⟨c26, hq⟩)⟩)) hI (fr.rf) hP hS (lv_sub hl [0, 1, 2] rfl)
        · have c26 : (A14 0 8) = 0 := (i_eq0 (rb r_A14_0_8 (by decide) (by decide))).mp c26
          refine lv_iload_n hx hb (dk_at dkX12_asked_2 1 rfl) rfl (lv_at hl 0 rfl) ?_
          refine lv_iconst (v := iI (-1)) hx hb (dk_at dkX12_asked_2 2 rfl) (by decide +kernel) ?_
          refine lv_icmp_ne (tgt := 79) hx hb (dk_at dkX12_asked_2 3 rfl) (by decide) (fun c28 => ?_) (fun c28 => ?_)
          · have c28 : ¬ z22 = (-1) := mt (i_eq (rb f24 (by decide) (by decide)) ⟨by decide, by decide⟩).mpr c28
            exact J79_27 _ _ _ _ (by exact Hd.mk (by  omega)) (fun zq uq hq => hk3 _ _ (u_d_X12_asked_1_3 ⟨f24, (Or.inr ⟨c26, (Or.inl ⟨c28, hq⟩)⟩)⟩)) hI (fr.rf) hP hS (lv_sub hl [0, 1, 2] rfl)
          · have c28 : z22 = (-1) := (i_eq (rb f24 (by decide) (by decide)) ⟨by decide, by decide⟩).mp c28
            refine lv_aload_n hx hb (dk_at dkX12_asked_2 4 rfl) rfl (lv_at hl 1 rfl) ?_
            refine lv_iconst (v := iI 3) hx hb (dk_at dkX12_asked_2 5 rfl) (by decide +kernel) ?_
            refine lv_aload_n hx hb (dk_at dkX12_asked_2 6 rfl) rfl (lv_at hl 1 rfl) ?_
            have e_A14_4 : A14 0 4 = (A 0 4) := (hj13.2 4 rfl)
            refine va_get (D := (dC, dI)) (ci := 12) (v := .int (iI (A14 0 4))) (C := RX12) (T := TX12) (N := 85) hx hb hts hiX12 hown hK hP 0 wm0 rfl 4 (by decide) (hts _ (List.mem_cons_of_mem _ wlq_0_23)) (fun _ h9 => h9) rfl (dk_at dkX12_asked_2 7 rfl) ?_
            refine tp_i (y := iI (A 0 4)) (congrArg iI e_A14_4) ?_
            have r_A_0_4 : (0 : Int) ≤ (A 0 4) ∧ (A 0 4) ≤ 1600 := by rw [← e_A14_4]; exact hI 0 4
            refine x_callv (As := [.int (iI 3), .int (iI (A 0 4))]) (rest := []) ⟨hx, hb, hml, hown, hts⟩ (mc_X12_blame l dC dI cB cI cJ cZ cQ q _ 3 (A 0 4) hI ⟨by decide, by decide⟩ r_A_0_4) (cwV 2 hts (goodV wlq_0_31 wlq_0_32 wlq_0_33 wlq_0_8 wlq_0_15) rfl rfl rfl (by decide +kernel) ⟨Nat.le_of_ble_eq_true rfl, Nat.le_of_ble_eq_true rfl⟩) hK hDD hA0 hP hS 0 12 wm0 rfl rfl hl.1 (Nat.le_of_ble_eq_true rfl) (dk_at dkX12_asked_2 8 rfl) (fun A29 H locs hw30 hP hS => ?_)
            have ghw30 : q_X12_blame 3 (A 0 4) A14 A29 := hw30
            obtain ⟨_, hI, hf31, hw30⟩ := hw30
            have r_A29_0_8 : (0 : Int) ≤ (A29 0 8) ∧ (A29 0 8) ≤ 5 := hI 0 8
            exact J79_27 _ _ _ _ (by exact Hd.mk (by  omega)) (fun zq uq hq => hk3 _ _ (u_d_X12_asked_1_3 ⟨f24, (Or.inr ⟨c26, (Or.inr ⟨c28, ⟨A29, ghw30, hq⟩⟩)⟩)⟩)) hI (fr.trans (fr.rf) hf31 rfl rfl) hP hS (lv_sub hl [0, 1, 2] rfl)
      refine lv_if_le (tgt := 48) hx hb (dk_at dkX12_asked_1 5 rfl) (by decide) (fun c17 => ?_) (fun c17 => ?_)
      · have c17 : (A14 0 8) ≤ 0 := (i_le0 (rb r_A14_0_8 (by decide) (by decide))).mp c17
        refine lv_aload_n hx hb (dk_at dkX12_asked_1 8 rfl) rfl (lv_at hl 0 rfl) ?_
        refine lv_iload_n hx hb (dk_at dkX12_asked_1 9 rfl) rfl (lv_at hl 1 rfl) ?_
        refine lv_aload_n hx hb (dk_at dkX12_asked_1 10 rfl) rfl (lv_at hl 0 rfl) ?_
        have e_A14_7 : A14 0 7 = (A 0 7) := (hj13.2 7 rfl)
        refine va_get (D := (dC, dI)) (ci := 12) (v := .long (jI (A14 0 7))) (C := RX12) (T := TX12) (N := 85) hx hb hts hiX12 hown hK hP 0 wm0 rfl 7 (by decide) (hts _ (List.mem_cons_of_mem _ wlq_0_26)) (fun _ h9 => h9) rfl (dk_at dkX12_asked_1 11 rfl) ?_
        refine tp_l (y := jI (A 0 7)) (congrArg jI e_A14_7) ?_
        have r_A_0_7 : (-9223372036854775808 : Int) ≤ (A 0 7) ∧ (A 0 7) ≤ 9223372036854775807 := by rw [← e_A14_7]; exact hI 0 7
        have e_A14_47 : A14 0 47 = (A 0 47) := (hj13.2 47 rfl)
        have r_A_0_47 : (0 : Int) ≤ (A 0 47) ∧ (A 0 47) ≤ 1 := by rw [← e_A14_47]; exact hI 0 47
        refine x_calli (As := [.int (iI x1), .long (jI (A 0 7))]) (rest := []) ⟨hx, hb, hml, hown, hts⟩ (mb_X12_named_1 l dC dI cB cI cJ cZ cQ q _ x1 (A 0 7) hI hx1 r_A_0_7) (cwV 2 hts (goodV wlq_2_26 wlq_2_27 wlq_2_28 wlq_0_8 wlq_1_10) rfl rfl rfl (by decide +kernel) ⟨Nat.le_of_ble_eq_true rfl, Nat.le_of_ble_eq_true rfl⟩) hK hDD hA0 hP hS 0 12 wm0 rfl rfl hl.1 (Nat.le_of_ble_eq_true rfl) (dk_at dkX12_asked_1 12 rfl) (fun z19 A20 H locs hw21 hP hS => ?_)
        obtain ⟨rfl, hw21⟩ := hw21
        have ghw21 : q_X12_named_1 x1 (A 0 7) A14 z19 := hw21
        have hw21 := hw21.2
        have a_A14_5 : A14 5 = A 5 := (hj13.1 5 (by decide) rfl)
        have a_A14_4 : A14 4 = A 4 := (hj13.1 4 (by decide) rfl)
        rw [a_A14_5, a_A14_4, e_A14_47] at hw21
        exact J57_18 z19 _ _ _ (by omega) (by exact Hd.mk (by  omega)) (fun zq uq hq => hk2 _ _ (u_d_X12_asked_1_2 ⟨gI16.out, (Or.inl ⟨c17, ⟨z19, ghw21, hq⟩⟩)⟩)) hP hS (lv_sub hl [0, 1] rfl)
      · have c17 : ¬ (A14 0 8) ≤ 0 := mt (i_le0 (rb r_A14_0_8 (by decide) (by decide))).mpr c17
        refine lv_iconst (v := iI 0) hx hb (dk_at dkX12_asked_1 6 rfl) (by decide +kernel) ?_
        refine lv_goto (tgt := 57) hx hb (dk_at dkX12_asked_1 7 rfl) (by decide) ?_
        exact J57_18 0 _ _ _ (by omega) (by exact Hd.mk (by  omega)) (fun zq uq hq => hk2 _ _ (u_d_X12_asked_1_2 ⟨gI16.out, (Or.inr ⟨c17, hq⟩)⟩)) hP hS (lv_sub hl [0, 1] rfl)
    have J28_3 : ∀ (H : Heap) (locs : List Loc) (ls : Array Slot), (∀ (z : Int) (u : St), (d_X12_asked_1_1 x1 A z u) → r_X12_asked_1 x1 A z u) → va_P (dC, dI) vwCl (WM cI cJ cZ q A) H → va_S AS s.heap H locs → lv_has ls 3 [(0, .ref (q 0)), (1, .int (iI x1))] → W p l e (headSpec ws_mb_X12_asked_1 ({ frames := 2, cells := 0, slots := 0, locals := 48 } : Room)).room s m [.ref (q 0), .int (iI x1)].toArray below meth c H locs 0 0 Q (F0 m 28 ls []) := by
      intro H locs ls hk1 hP hS hl
      refine lv_aload_n hx hb (dk_at dkX12_asked_0 14 rfl) rfl (lv_at hl 0 rfl) ?_
      refine lv_iconst (v := iI 1) hx hb (dk_at dkX12_asked_0 15 rfl) (by decide +kernel) ?_
      refine lv_aload_n hx hb (dk_at dkX12_asked_1 0 rfl) rfl (lv_at hl 0 rfl) ?_
      refine va_get (D := (dC, dI)) (ci := 12) (v := .int (iI (A 0 4))) (C := RX12) (T := TX12) (N := 85) hx hb hts hiX12 hown hK hP 0 wm0 rfl 4 (by decide) (hts _ (List.mem_cons_of_mem _ wlq_0_23)) (fun _ h9 => h9) rfl (dk_at dkX12_asked_1 1 rfl) ?_
      have r_A_0_4 : (0 : Int) ≤ (A 0 4) ∧ (A 0 4) ≤ 1600 := hI 0 4
      refine x_callv (As := [.int (iI 1), .int (iI (A 0 4))]) (rest := []) ⟨hx, hb, hml, hown, hts⟩ (mc_X12_blame l dC dI cB cI cJ cZ cQ q _ 1 (A 0 4) hI ⟨by decide, by decide⟩ r_A_0_4) (cwV 2 hts (goodV wlq_0_31 wlq_0_32 wlq_0_33 wlq_0_8 wlq_0_15) rfl rfl rfl (by decide +kernel) ⟨Nat.le_of_ble_eq_true rfl, Nat.le_of_ble_eq_true rfl⟩) hK hDD hA0 hP hS 0 12 wm0 rfl rfl hl.1 (Nat.le_of_ble_eq_true rfl) (dk_at dkX12_asked_1 2 rfl) (fun A10 H locs hw11 hP hS => ?_)
      have ghw11 : q_X12_blame 1 (A 0 4) A A10 := hw11
      obtain ⟨_, hI, hf12, hw11⟩ := hw11
      have r_A10_0_8 : (0 : Int) ≤ (A10 0 8) ∧ (A10 0 8) ≤ 5 := hI 0 8
      exact J37_4 _ _ _ _ (by exact Hd.mk (by  omega)) (fun zq uq hq => hk1 _ _ (u_d_X12_asked_1_1 ⟨A10, ghw11, hq⟩)) hI (fr.trans (fr.rf) hf12 rfl rfl) hP hS (lv_sub hl [0, 1] rfl)
    refine lv_icmp_ne (tgt := 28) hx hb (dk_at dkX12_asked_0 8 rfl) (by decide) (fun c2 => ?_) (fun c2 => ?_)
    · have c2 : ¬ (A 0 3) = 1 := mt (i_eq (rb r_A_0_3 (by decide) (by decide)) ⟨by decide, by decide⟩).mpr c2
      exact J28_3 _ _ _ (fun zq uq hq => (u_r_X12_asked_1 (Or.inl ⟨c1, (Or.inl ⟨c2, hq⟩)⟩))) hP hS (lv_sub hl [0, 1] rfl)
    · have c2 : (A 0 3) = 1 := (i_eq (rb r_A_0_3 (by decide) (by decide)) ⟨by decide, by decide⟩).mp c2
      refine lv_aload_n hx hb (dk_at dkX12_asked_0 9 rfl) rfl (lv_at hl 0 rfl) ?_
      refine lv_aload_n hx hb (dk_at dkX12_asked_0 10 rfl) rfl (lv_at hl 0 rfl) ?_
      refine va_get (D := (dC, dI)) (ci := 12) (v := .long (jI (A 0 7))) (C := RX12) (T := TX12) (N := 85) hx hb hts hiX12 hown hK hP 0 wm0 rfl 7 (by decide) (hts _ (List.mem_cons_of_mem _ wlq_0_26)) (fun _ h9 => h9) rfl (dk_at dkX12_asked_0 11 rfl) ?_
      have r_A_0_7 : (-9223372036854775808 : Int) ≤ (A 0 7) ∧ (A 0 7) ≤ 9223372036854775807 := hI 0 7
      refine x_calli (As := [.long (jI (A 0 7))]) (rest := []) ⟨hx, hb, hml, hown, hts⟩ (mb_X12_isOwn l dC dI cB cI cJ cZ cQ q _ (A 0 7) hI r_A_0_7) (cwV 1 hts (goodV wlq_2_23 wlq_2_24 wlq_2_25 wlq_0_8 wlq_0_43) rfl rfl rfl (by decide +kernel) ⟨Nat.le_of_ble_eq_true rfl, Nat.le_of_ble_eq_true rfl⟩) hK hDD hA0 hP hS 0 12 wm0 rfl rfl hl.1 (Nat.le_of_ble_eq_true rfl) (dk_at dkX12_asked_0 12 rfl) (fun z5 A6 H locs hw7 hP hS => ?_)
      obtain ⟨rfl, hw7⟩ := hw7
      have ghw7 : q_X12_isOwn (A 0 7) A z5 := hw7
      have hw7 := hw7.2
      have rz5 : 0 ≤ z5 ∧ z5 ≤ 1 := hw7.1
      refine lv_if_eq (tgt := 37) hx hb (dk_at dkX12_asked_0 13 rfl) (by decide) (fun c8 => ?_) (fun c8 => ?_)
      · have c8 : z5 = 0 := (i_eq0 (rb rz5 (by decide) (by decide))).mp c8
        exact J37_4 _ _ _ _ (by exact Hd.mk (by  omega)) (fun zq uq hq => (u_r_X12_asked_1 (Or.inl ⟨c1, (Or.inr ⟨c2, ⟨z5, ghw7, (Or.inl ⟨c8, hq⟩)⟩⟩)⟩))) hI (fr.rf) hP hS (lv_sub hl [0, 1] rfl)
      · have c8 : ¬ z5 = 0 := mt (i_eq0 (rb rz5 (by decide) (by decide))).mpr c8
        exact J28_3 _ _ _ (fun zq uq hq => (u_r_X12_asked_1 (Or.inl ⟨c1, (Or.inr ⟨c2, ⟨z5, ghw7, (Or.inr ⟨c8, hq⟩)⟩⟩)⟩))) hP hS (lv_sub hl [0, 1] rfl)
  · have c1 : ¬ (A 0 8) ≤ 0 := mt (i_le0 (rb r_A_0_8 (by decide) (by decide))).mpr c1
    refine lv_iconst (v := iI 0) hx hb (dk_at dkX12_asked_0 3 rfl) (by decide +kernel) ?_
    have r_A_0_4 : (0 : Int) ≤ (A 0 4) ∧ (A 0 4) ≤ 1600 := hI 0 4
    exact RET 0 _ _ _ _ _ ⟨(u_r_X12_asked_1 (Or.inr ⟨c1, ⟨rfl, rfl⟩⟩)), hI, fr.rf, hcCB, ⟨by omega, by omega, by omega, Hd.mk (fun h => absurd h (by omega))⟩⟩ hP hS (dk_at dkX12_asked_0 4 rfl)

abbrev tr_d_X12_asked_2_5 (z22 : Int) (z : Int) (u : St) (A44 : St) : Prop := ((IM A44) ∧ ((((A44 0 8) ≤ 0) ∧ (z = z22 ∧ u = A44)) ∨ ((¬ (A44 0 8) ≤ 0) ∧ (z = 0 ∧ u = A44))))
def d_X12_asked_2_5 (z22 : Int) (z : Int) (u : St) (A44 : St) : Prop := tr_d_X12_asked_2_5 z22 z u A44
theorem u_d_X12_asked_2_5 {z22 : Int} {z : Int} {u : St} {A44 : St} (h : tr_d_X12_asked_2_5 z22 z u A44) : d_X12_asked_2_5 z22 z u A44 := h
abbrev tr_d_X12_asked_2_4 (z22 : Int) (z : Int) (u : St) (A33 : St) : Prop := ((IM A33) ∧ (((¬ (A33 0 8) = 0) ∧ (d_X12_asked_2_5 z22 z u A33)) ∨ (((A33 0 8) = 0) ∧ (∃ A38 : St, q_X12_ahead A33 A38 ∧ (d_X12_asked_2_5 z22 z u A38)))))
def d_X12_asked_2_4 (z22 : Int) (z : Int) (u : St) (A33 : St) : Prop := tr_d_X12_asked_2_4 z22 z u A33
theorem u_d_X12_asked_2_4 {z22 : Int} {z : Int} {u : St} {A33 : St} (h : tr_d_X12_asked_2_4 z22 z u A33) : d_X12_asked_2_4 z22 z u A33 := h
abbrev tr_d_X12_asked_2_3 (A : St) (A14 : St) (z : Int) (u : St) (z22 : Int) : Prop := ((-1 ≤ z22 ∧ z22 ≤ 3) ∧ (((¬ (A14 0 8) = 0) ∧ (d_X12_asked_2_4 z22 z u A14)) ∨ (((A14 0 8) = 0) ∧ (((¬ z22 = (-1)) ∧ (d_X12_asked_2_4 z22 z u A14)) ∨ ((z22 = (-1)) ∧ (∃ A29 : St, q_X12_blame 3 (A 0 4) A14 A29 ∧ (d_X12_asked_2_4 z22 z u A29)))))))
def d_X12_asked_2_3 (A : St) (A14 : St) (z : Int) (u : St) (z22 : Int) : Prop := tr_d_X12_asked_2_3 A A14 z u z22
theorem u_d_X12_asked_2_3 {A : St} {A14 : St} {z : Int} {u : St} {z22 : Int} (h : tr_d_X12_asked_2_3 A A14 z u z22) : d_X12_asked_2_3 A A14 z u z22 := h
abbrev tr_d_X12_asked_2_2 (x1 : Int) (A : St) (z : Int) (u : St) (A14 : St) : Prop := ((IM A14) ∧ ((((A14 0 8) ≤ 0) ∧ (∃ z19 : Int, q_X12_named_2 x1 (A 0 7) A14 z19 ∧ (d_X12_asked_2_3 A A14 z u z19))) ∨ ((¬ (A14 0 8) ≤ 0) ∧ (d_X12_asked_2_3 A A14 z u 0))))
def d_X12_asked_2_2 (x1 : Int) (A : St) (z : Int) (u : St) (A14 : St) : Prop := tr_d_X12_asked_2_2 x1 A z u A14
theorem u_d_X12_asked_2_2 {x1 : Int} {A : St} {z : Int} {u : St} {A14 : St} (h : tr_d_X12_asked_2_2 x1 A z u A14) : d_X12_asked_2_2 x1 A z u A14 := h
abbrev tr_d_X12_asked_2_1 (x1 : Int) (A : St) (z : Int) (u : St) : Prop := (∃ A10 : St, q_X12_blame 1 (A 0 4) A A10 ∧ (d_X12_asked_2_2 x1 A z u A10))
def d_X12_asked_2_1 (x1 : Int) (A : St) (z : Int) (u : St) : Prop := tr_d_X12_asked_2_1 x1 A z u
theorem u_d_X12_asked_2_1 {x1 : Int} {A : St} {z : Int} {u : St} (h : tr_d_X12_asked_2_1 x1 A z u) : d_X12_asked_2_1 x1 A z u := h
abbrev tr_r_X12_asked_2 (x1 : Int) (A : St) (z : Int) (u : St) : Prop := ((((A 0 8) ≤ 0) ∧ (((¬ (A 0 3) = 1) ∧ (d_X12_asked_2_1 x1 A z u)) ∨ (((A 0 3) = 1) ∧ (∃ z5 : Int, q_X12_isOwn (A 0 7) A z5 ∧ (((z5 = 0) ∧ (d_X12_asked_2_2 x1 A z u A)) ∨ ((¬ z5 = 0) ∧ (d_X12_asked_2_1 x1 A z u))))))) ∨ ((¬ (A 0 8) ≤ 0) ∧ (z = 0 ∧ u = A)))
def r_X12_asked_2 (x1 : Int) (A : St) (z : Int) (u : St) : Prop := tr_r_X12_asked_2 x1 A z u
theorem u_r_X12_asked_2 {x1 : Int} {A : St} {z : Int} {u : St} (h : tr_r_X12_asked_2 x1 A z u) : r_X12_asked_2 x1 A z u := h
def q_X12_asked_2 (x1 : Int) (A : St) (z : Int) (u : St) : Prop := r_X12_asked_2 x1 A z u ∧ IM u ∧ fr [] [3, 4, 5, 6, 7, 8, 9] A u ∧ CB u ∧ (0 ≤ z ∧ z ≤ 3 ∧ A 0 4 ≤ u 0 4 ∧ Hd (u 0 8 = 0 → A 0 8 = 0 ∧ A 0 3 = 1 ∧ ownz (A 0 7) = 0 ∧ z = lk (A 12) (4 * A 0 47).toNat (A 0 7) (A 11 (A 0 47).toNat).toNat))
def ws_mb_X12_asked_2 : List Cond := .code yX12_asked cX12_asked 3 (some .int) :: WX
set_option maxHeartbeats 4000000 in
set_option maxRecDepth 100000 in
theorem mb_X12_asked_2 (l : Launch) (dC : Nat → ClassId) (dI : Nat → Nat → Nat) (cB cI cJ cZ cQ : ClassId) (q : Nat → Nat) (A : St) (x1 : Int) (hI : IM A) (hx1 : (2 : Int) ≤ x1 ∧ x1 ≤ 2) (hcCB : CB A) : XMi l yX12_asked ws_mb_X12_asked_2 ({ frames := 2, cells := 0, slots := 0, locals := 48 } : Room) (dC, dI) (tyA cB cI cJ cZ cQ) (WM cI cJ cZ q) A [.ref (q 0), .int (iI x1)] (fun z u => r_X12_asked_2 x1 A z u ∧ IM u ∧ fr [] [3, 4, 5, 6, 7, 8, 9] A u ∧ CB u ∧ (0 ≤ z ∧ z ≤ 3 ∧ A 0 4 ≤ u 0 4 ∧ Hd (u 0 8 = 0 → A 0 8 = 0 ∧ A 0 3 = 1 ∧ ownz (A 0 7) = 0 ∧ z = lk (A 12) (4 * A 0 47).toNat (A 0 7) (A 11 (A 0 47).toNat).toNat))) := by
  refine x_meti (cc := cX12_asked) (maxL := 3) WM_adr (by decide +kernel) rfl (Nat.le_of_ble_eq_true rfl) (fun p e s m below meth c Q AS ls hx hb hml hown hts hK hDD hA0 hP hS hl RET => ?_)
  have hown : s.vm.findClass RX12 = some m.cls := hown
  have hl : lv_has ls 3 [(0, .ref (q 0)), (1, .int (iI x1))] := hl
  have hiX12 : ∀ w ∈ u_ws RX12 TX12 85, w ∈ ws_mb_X12_asked_2 := fun w h => List.mem_cons_of_mem _ (wx_lay w h)
  obtain ⟨H, hHe⟩ : ∃ H : Heap, H = s.heap := ⟨_, rfl⟩
  rw [← hHe] at hP
  have hS : va_S AS s.heap H [] := by rw [hHe]; exact hS
  suffices hgo : ∀ locs : List Loc, va_S AS s.heap H locs → W p l e (headSpec ws_mb_X12_asked_2 ({ frames := 2, cells := 0, slots := 0, locals := 48 } : Room)).room s m [.ref (q 0), .int (iI x1)].toArray below meth c H locs 0 0 Q (F0 m 0 ls []) by
    have := hgo [] hS
    rw [hHe] at this
    exact this
  clear hS hHe
  intro locs hS
  have hle := CB.le hcCB
  refine lv_aload_n hx hb (dk_at dkX12_asked_0 0 rfl) rfl (lv_at hl 0 rfl) ?_
  refine va_get (D := (dC, dI)) (ci := 12) (v := .int (iI (A 0 8))) (C := RX12) (T := TX12) (N := 85) hx hb hts hiX12 hown hK hP 0 wm0 rfl 8 (by decide) (hts _ (List.mem_cons_of_mem _ wlq_0_16)) (fun _ h9 => h9) rfl (dk_at dkX12_asked_0 1 rfl) ?_
  have r_A_0_8 : (0 : Int) ≤ (A 0 8) ∧ (A 0 8) ≤ 5 := hI 0 8
  refine lv_if_le (tgt := 9) hx hb (dk_at dkX12_asked_0 2 rfl) (by decide) (fun c1 => ?_) (fun c1 => ?_)
  · have c1 : (A 0 8) ≤ 0 := (i_le0 (rb r_A_0_8 (by decide) (by decide))).mp c1
    refine lv_aload_n hx hb (dk_at dkX12_asked_0 5 rfl) rfl (lv_at hl 0 rfl) ?_
    refine va_get (D := (dC, dI)) (ci := 12) (v := .int (iI (A 0 3))) (C := RX12) (T := TX12) (N := 85) hx hb hts hiX12 hown hK hP 0 wm0 rfl 3 (by decide) (hts _ (List.mem_cons_of_mem _ wlq_0_24)) (fun _ h9 => h9) rfl (dk_at dkX12_asked_0 6 rfl) ?_
    have r_A_0_3 : (0 : Int) ≤ (A 0 3) ∧ (A 0 3) ≤ 3 := hI 0 3
    refine lv_iconst (v := iI 1) hx hb (dk_at dkX12_asked_0 7 rfl) (by decide +kernel) ?_
    have J37_4 : ∀ (A14 : St) (H : Heap) (locs : List Loc) (ls : Array Slot), (Hd ((A14 0 8) = 0 → A 0 3 = 1 ∧ ownz (A 0 7) = 0)) → (∀ (z : Int) (u : St), (d_X12_asked_2_2 x1 A z u A14) → r_X12_asked_2 x1 A z u) → IM A14 → fr [] [8, 9] A A14 → va_P (dC, dI) vwCl (WM cI cJ cZ q A14) H → va_S AS s.heap H locs → lv_has ls 3 [(0, .ref (q 0)), (1, .int (iI x1))] → W p l e (headSpec ws_mb_X12_asked_2 ({ frames := 2, cells := 0, slots := 0, locals := 48 } : Room)).room s m [.ref (q 0), .int (iI x1)].toArray below meth c H locs 0 0 Q (F0 m 37 ls []) := by
      intro A14 H locs ls f15 hk2 hI hj13 hP hS hl
      have gI16 : Hd (IM A14) := Hd.mk hI
      refine lv_aload_n hx hb (dk_at dkX12_asked_1 3 rfl) rfl (lv_at hl 0 rfl) ?_
      refine va_get (D := (dC, dI)) (ci := 12) (v := .int (iI (A14 0 8))) (C := RX12) (T := TX12) (N := 85) hx hb hts hiX12 hown hK hP 0 wm0 rfl 8 (by decide) (hts _ (List.mem_cons_of_mem _ wlq_0_16)) (fun _ h9 => h9) rfl (dk_at dkX12_asked_1 4 rfl) ?_
      have r_A14_0_8 : (0 : Int) ≤ (A14 0 8) ∧ (A14 0 8) ≤ 5 := hI 0 8
      have J57_18 : ∀ (z22 : Int) (H : Heap) (locs : List Loc) (ls : Array Slot), (-1 ≤ z22 ∧ z22 ≤ 3) → (Hd ((A14 0 8) = 0 → z22 = lk (A 12) (4 * A 0 47).toNat (A 0 7) (A 11 (A 0 47).toNat).toNat)) → (∀ (z : Int) (u : St), (d_X12_asked_2_3 A A14 z u z22) → r_X12_asked_2 x1 A z u) → va_P (dC, dI) vwCl (WM cI cJ cZ q A14) H → va_S AS s.heap H locs → lv_has ls 3 [(0, .ref (q 0)), (1, .int (iI x1))] → W p l e (headSpec ws_mb_X12_asked_2 ({ frames := 2, cells := 0, slots := 0, locals := 48 } : Room)).room s m [.ref (q 0), .int (iI x1)].toArray below meth c H locs 0 0 Q (F0 m 57 ls [.int (iI z22)]) := by
        intro z22 H locs ls f24 f25 hk3 hP hS hl
        refine lv_istore_n (lv' := [(2, .int (iI z22)), (0, .ref (q 0)), (1, .int (iI x1))]) hx hb (dk_at dkX12_asked_1 13 rfl) rfl hl (by decide) rfl (fun ls hl => ?_)
        refine lv_aload_n hx hb (dk_at dkX12_asked_1 14 rfl) rfl (lv_at hl 1 rfl) ?_
        refine va_get (D := (dC, dI)) (ci := 12) (v := .int (iI (A14 0 8))) (C := RX12) (T := TX12) (N := 85) hx hb hts hiX12 hown hK hP 0 wm0 rfl 8 (by decide) (hts _ (List.mem_cons_of_mem _ wlq_0_16)) (fun _ h9 => h9) rfl (dk_at dkX12_asked_1 15 rfl) ?_
        have J79_27 : ∀ (A33 : St) (H : Heap) (locs : List Loc) (ls : Array Slot), (Hd ((A33 0 8) = 0 → (A14 0 8 = 0 ∧ 0 ≤ z22))) → (∀ (z : Int) (u : St), (d_X12_asked_2_4 z22 z u A33) → r_X12_asked_2 x1 A z u) → IM A33 → fr [] [8, 9] A14 A33 → va_P (dC, dI) vwCl (WM cI cJ cZ q A33) H → va_S AS s.heap H locs → lv_has ls 3 [(2, .int (iI z22)), (0, .ref (q 0)), (1, .int (iI x1))] → W p l e (headSpec ws_mb_X12_asked_2 ({ frames := 2, cells := 0, slots := 0, locals := 48 } : Room)).room s m [.ref (q 0), .int (iI x1)].toArray below meth c H locs 0 0 Q (F0 m 79 ls []) := by
          intro A33 H locs ls f34 hk4 hI hj32 hP hS hl
          have gI35 : Hd (IM A33) := Hd.mk hI
          refine lv_aload_n hx hb (dk_at dkX12_asked_2 9 rfl) rfl (lv_at hl 1 rfl) ?_
          refine va_get (D := (dC, dI)) (ci := 12) (v := .int (iI (A33 0 8))) (C := RX12) (T := TX12) (N := 85) hx hb hts hiX12 hown hK hP 0 wm0 rfl 8 (by decide) (hts _ (List.mem_cons_of_mem _ wlq_0_16)) (fun _ h9 => h9) rfl (dk_at dkX12_asked_2 10 rfl) ?_
          have r_A33_0_8 : (0 : Int) ≤ (A33 0 8) ∧ (A33 0 8) ≤ 5 := hI 0 8
          have J90_37 : ∀ (A44 : St) (H : Heap) (locs : List Loc) (ls : Array Slot), (A 0 4 ≤ (A44 0 4)) → (Hd ((A44 0 8) = 0 → A33 0 8 = 0)) → (CB A44) → (∀ (z : Int) (u : St), (d_X12_asked_2_5 z22 z u A44) → r_X12_asked_2 x1 A z u) → IM A44 → fr [] [3, 4, 5, 6, 7, 8, 9] A33 A44 → va_P (dC, dI) vwCl (WM cI cJ cZ q A44) H → va_S AS s.heap H locs → lv_has ls 3 [(2, .int (iI z22)), (0, .ref (q 0)), (1, .int (iI x1))] → W p l e (headSpec ws_mb_X12_asked_2 ({ frames := 2, cells := 0, slots := 0, locals := 48 } : Room)).room s m [.ref (q 0), .int (iI x1)].toArray below meth c H locs 0 0 Q (F0 m 90 ls []) := by
            intro A44 H locs ls f45 f46 hc47 hk5 hI hj43 hP hS hl
            have gI48 : Hd (IM A44) := Hd.mk hI
            refine lv_aload_n hx hb (dk_at dkX12_asked_2 14 rfl) rfl (lv_at hl 1 rfl) ?_
            refine va_get (D := (dC, dI)) (ci := 12) (v := .int (iI (A44 0 8))) (C := RX12) (T := TX12) (N := 85) hx hb hts hiX12 hown hK hP 0 wm0 rfl 8 (by decide) (hts _ (List.mem_cons_of_mem _ wlq_0_16)) (fun _ h9 => h9) rfl (dk_at dkX12_asked_2 15 rfl) ?_
            have r_A44_0_8 : (0 : Int) ≤ (A44 0 8) ∧ (A44 0 8) ≤ 5 := hI 0 8
            refine lv_if_le (tgt := 101) hx hb (dk_at dkX12_asked_3 0 rfl) (by decide) (fun c49 => ?_) (fun c49 => ?_)
            · have c49 : (A44 0 8) ≤ 0 := (i_le0 (rb r_A44_0_8 (by decide) (by decide))).mp c49
              refine lv_iload_n hx hb (dk_at dkX12_asked_3 3 rfl) rfl (lv_at hl 0 rfl) ?_
              have r_A44_0_4 : (0 : Int) ≤ (A44 0 4) ∧ (A44 0 4) ≤ 1600 := hI 0 4
              have hq : Hd (A44 0 8 = 0 → (0 ≤ z22 ∧ A 0 8 = 0 ∧ A 0 3 = 1 ∧ ownz (A 0 7) = 0 ∧ z22 = lk (A 12) (4 * A 0 47).toNat (A 0 7) (A 11 (A 0 47).toNat).toNat)) := Hd.mk (fun h0 => by
                have g4 := f46.out (by omega)
                have g3 := f34.out (by omega)
                have g2 := f25.out (by omega)
                have g1 := f15.out (by omega)
                exact ⟨by omega, by omega, g1.1, g1.2, by omega⟩)
              have hq0 : 0 ≤ z22 := (hq.out (by omega)).1
              exact RET z22 _ _ _ _ _ ⟨hk5 _ _ (u_d_X12_asked_2_5 ⟨gI48.out, (Or.inl ⟨c49, ⟨rfl, rfl⟩⟩)⟩), hI, fr.trans (fr.trans (fr.trans (fr.rf) hj13 rfl rfl) hj32 rfl rfl) hj43 rfl rfl, hc47, ⟨by omega, by omega, by omega, Hd.mk (fun h => (hq.out h).2)⟩⟩ hP hS (dk_at dkX12_asked_3 4 rfl)
            · have c49 : ¬ (A44 0 8) ≤ 0 := mt (i_le0 (rb r_A44_0_8 (by decide) (by decide))).mpr c49
              refine lv_iconst (v := iI 0) hx hb (dk_at dkX12_asked_3 1 rfl) (by decide +kernel) ?_
              refine lv_goto (tgt := 102) hx hb (dk_at dkX12_asked_3 2 rfl) (by decide) ?_
              have r_A44_0_4 : (0 : Int) ≤ (A44 0 4) ∧ (A44 0 4) ≤ 1600 := hI 0 4
              have hq : Hd (A44 0 8 = 0 → (0 ≤ 0 ∧ A 0 8 = 0 ∧ A 0 3 = 1 ∧ ownz (A 0 7) = 0 ∧ 0 = lk (A 12) (4 * A 0 47).toNat (A 0 7) (A 11 (A 0 47).toNat).toNat)) := Hd.mk (fun h0 => by
                have g4 := f46.out (by omega)
                have g3 := f34.out (by omega)
                have g2 := f25.out (by omega)
                have g1 := f15.out (by omega)
                exact ⟨by omega, by omega, g1.1, g1.2, by omega⟩)
              exact RET 0 _ _ _ _ _ ⟨hk5 _ _ (u_d_X12_asked_2_5 ⟨gI48.out, (Or.inr ⟨c49, ⟨rfl, rfl⟩⟩)⟩), hI, fr.trans (fr.trans (fr.trans (fr.rf) hj13 rfl rfl) hj32 rfl rfl) hj43 rfl rfl, hc47, ⟨by omega, by omega, by omega, Hd.mk (fun h => (hq.out h).2)⟩⟩ hP hS (dk_at dkX12_asked_3 4 rfl)
          refine lv_if_ne (tgt := 90) hx hb (dk_at dkX12_asked_2 11 rfl) (by decide) (fun c36 => ?_) (fun c36 => ?_)
          · have c36 : ¬ (A33 0 8) = 0 := mt (i_eq0 (rb r_A33_0_8 (by decide) (by decide))).mpr c36
            have e_A14_4 : A14 0 4 = (A 0 4) := (hj13.2 4 rfl)
            have e_A33_4 : A33 0 4 = (A 0 4) := (hj32.2 4 rfl).trans e_A14_4
            have r_A_0_4 : (0 : Int) ≤ (A 0 4) ∧ (A 0 4) ≤ 1600 := by rw [← e_A33_4]; exact hI 0 4
            exact J90_37 _ _ _ _ (by omega) (by exact Hd.mk (by  omega)) (CB.fr (CB.fr hcCB hj13 rfl rfl) hj32 rfl rfl) (fun zq uq hq => hk4 _ _ (u_d_X12_asked_2_4 ⟨gI35.out, (Or.inl ⟨c36, hq⟩)⟩)) hI (fr.rf) hP hS (lv_sub hl [0, 1, 2] rfl)
          · have c36 : (A33 0 8) = 0 := (i_eq0 (rb r_A33_0_8 (by decide) (by decide))).mp c36
            refine lv_aload_n hx hb (dk_at dkX12_asked_2 12 rfl) rfl (lv_at hl 1 rfl) ?_
            have e_A14_4 : A14 0 4 = (A 0 4) := (hj13.2 4 rfl)
            have e_A33_4 : A33 0 4 = (A 0 4) := (hj32.2 4 rfl).trans e_A14_4
            have r_A_0_4 : (0 : Int) ≤ (A 0 4) ∧ (A 0 4) ≤ 1600 := by rw [← e_A33_4]; exact hI 0 4
            have e_A14_5 : A14 0 5 = (A 0 5) := (hj13.2 5 rfl)
            have e_A33_5 : A33 0 5 = (A 0 5) := (hj32.2 5 rfl).trans e_A14_5
            have r_A_0_5 : (0 : Int) ≤ (A 0 5) ∧ (A 0 5) ≤ 1600 := by rw [← e_A33_5]; exact hI 0 5
            refine x_callv (As := []) (rest := []) ⟨hx, hb, hml, hown, hts⟩ (mb_X12_ahead l dC dI cB cI cJ cZ cQ q _ hI) (cwV 0 hts (goodV wlq_0_40 wlq_0_41 wlq_0_42 wlq_0_8 wlq_0_20) rfl rfl rfl (by decide +kernel) ⟨Nat.le_of_ble_eq_true rfl, Nat.le_of_ble_eq_true rfl⟩) hK hDD hA0 hP hS 0 12 wm0 rfl rfl hl.1 (Nat.le_of_ble_eq_true rfl) (dk_at dkX12_asked_2 13 rfl) (fun A38 H locs hw39 hP hS => ?_)
            have ghw39 : q_X12_ahead A33 A38 := hw39
            obtain ⟨_, hI, hf40, hw39⟩ := hw39
            have r_A38_0_3 : (0 : Int) ≤ (A38 0 3) ∧ (A38 0 3) ≤ 3 := hI 0 3
            have r_A38_0_4 : (0 : Int) ≤ (A38 0 4) ∧ (A38 0 4) ≤ 1600 := hI 0 4
            have r_A38_0_5 : (0 : Int) ≤ (A38 0 5) ∧ (A38 0 5) ≤ 1600 := hI 0 5
            have r_A38_0_8 : (0 : Int) ≤ (A38 0 8) ∧ (A38 0 8) ≤ 5 := hI 0 8
            have hv41 := CB.le (CB.fr (CB.fr hcCB hj13 rfl rfl) hj32 rfl rfl)
            have hc42 := CB.ahead (CB.fr (CB.fr hcCB hj13 rfl rfl) hj32 rfl rfl) (hf40.2 46 rfl) hw39.1 hw39.2.1 hw39.2.2.1
            exact J90_37 _ _ _ _ (by omega) (by exact Hd.mk (by  omega)) hc42 (fun zq uq hq => hk4 _ _ (u_d_X12_asked_2_4 ⟨gI35.out, (Or.inr ⟨c36, ⟨A38, ghw39, hq⟩⟩)⟩)) hI (fr.trans (fr.rf) hf40 rfl rfl) hP hS (lv_sub hl [0, 1, 2] rfl)
        refine lv_if_ne (tgt := 79) hx hb (dk_at dkX12_asked_2 0 rfl) (by decide) (fun c26 => ?_) (fun c26 => ?_)
        · have c26 : ¬ (A14 0 8) = 0 := mt (i_eq0 (rb r_A14_0_8 (by decide) (by decide))).mpr c26
          exact J79_27 _ _ _ _ (by exact Hd.mk (by  omega)) (fun zq uq hq => hk3 _ _ (u_d_X12_asked_2_3 ⟨f24, (Or.inl ⟨c26, hq⟩)⟩)) hI (fr.rf) hP hS (lv_sub hl [0, 1, 2] rfl)
        · have c26 : (A14 0 8) = 0 := (i_eq0 (rb r_A14_0_8 (by decide) (by decide))).mp c26
          refine lv_iload_n hx hb (dk_at dkX12_asked_2 1 rfl) rfl (lv_at hl 0 rfl) ?_
          refine lv_iconst (v := iI (-1)) hx hb (dk_at dkX12_asked_2 2 rfl) (by decide +kernel) ?_
          refine lv_icmp_ne (tgt := 79) hx hb (dk_at dkX12_asked_2 3 rfl) (by decide) (fun c28 => ?_) (fun c28 => ?_)
          · have c28 : ¬ z22 = (-1) := mt (i_eq (rb f24 (by decide) (by decide)) ⟨by decide, by decide⟩).mpr c28
            exact J79_27 _ _ _ _ (by exact Hd.mk (by  omega)) (fun zq uq hq => hk3 _ _ (u_d_X12_asked_2_3 ⟨f24, (Or.inr ⟨c26, (Or.inl ⟨c28, hq⟩)⟩)⟩)) hI (fr.rf) hP hS (lv_sub hl [0, 1, 2] rfl)
          · have c28 : z22 = (-1) := (i_eq (rb f24 (by decide) (by decide)) ⟨by decide, by decide⟩).mp c28
            refine lv_aload_n hx hb (dk_at dkX12_asked_2 4 rfl) rfl (lv_at hl 1 rfl) ?_
            refine lv_iconst (v := iI 3) hx hb (dk_at dkX12_asked_2 5 rfl) (by decide +kernel) ?_
            refine lv_aload_n hx hb (dk_at dkX12_asked_2 6 rfl) rfl (lv_at hl 1 rfl) ?_
            have e_A14_4 : A14 0 4 = (A 0 4) := (hj13.2 4 rfl)
            refine va_get (D := (dC, dI)) (ci := 12) (v := .int (iI (A14 0 4))) (C := RX12) (T := TX12) (N := 85) hx hb hts hiX12 hown hK hP 0 wm0 rfl 4 (by decide) (hts _ (List.mem_cons_of_mem _ wlq_0_23)) (fun _ h9 => h9) rfl (dk_at dkX12_asked_2 7 rfl) ?_
            refine tp_i (y := iI (A 0 4)) (congrArg iI e_A14_4) ?_
            have r_A_0_4 : (0 : Int) ≤ (A 0 4) ∧ (A 0 4) ≤ 1600 := by rw [← e_A14_4]; exact hI 0 4
            refine x_callv (As := [.int (iI 3), .int (iI (A 0 4))]) (rest := []) ⟨hx, hb, hml, hown, hts⟩ (mc_X12_blame l dC dI cB cI cJ cZ cQ q _ 3 (A 0 4) hI ⟨by decide, by decide⟩ r_A_0_4) (cwV 2 hts (goodV wlq_0_31 wlq_0_32 wlq_0_33 wlq_0_8 wlq_0_15) rfl rfl rfl (by decide +kernel) ⟨Nat.le_of_ble_eq_true rfl, Nat.le_of_ble_eq_true rfl⟩) hK hDD hA0 hP hS 0 12 wm0 rfl rfl hl.1 (Nat.le_of_ble_eq_true rfl) (dk_at dkX12_asked_2 8 rfl) (fun A29 H locs hw30 hP hS => ?_)
            have ghw30 : q_X12_blame 3 (A 0 4) A14 A29 := hw30
            obtain ⟨_, hI, hf31, hw30⟩ := hw30
            have r_A29_0_8 : (0 : Int) ≤ (A29 0 8) ∧ (A29 0 8) ≤ 5 := hI 0 8
            exact J79_27 _ _ _ _ (by exact Hd.mk (by  omega)) (fun zq uq hq => hk3 _ _ (u_d_X12_asked_2_3 ⟨f24, (Or.inr ⟨c26, (Or.inr ⟨c28, ⟨A29, ghw30, hq⟩⟩)⟩)⟩)) hI (fr.trans (fr.rf) hf31 rfl rfl) hP hS (lv_sub hl [0, 1, 2] rfl)
      refine lv_if_le (tgt := 48) hx hb (dk_at dkX12_asked_1 5 rfl) (by decide) (fun c17 => ?_) (fun c17 => ?_)
      · have c17 : (A14 0 8) ≤ 0 := (i_le0 (rb r_A14_0_8 (by decide) (by decide))).mp c17
        refine lv_aload_n hx hb (dk_at dkX12_asked_1 8 rfl) rfl (lv_at hl 0 rfl) ?_
        refine lv_iload_n hx hb (dk_at dkX12_asked_1 9 rfl) rfl (lv_at hl 1 rfl) ?_
        refine lv_aload_n hx hb (dk_at dkX12_asked_1 10 rfl) rfl (lv_at hl 0 rfl) ?_
        have e_A14_7 : A14 0 7 = (A 0 7) := (hj13.2 7 rfl)
        refine va_get (D := (dC, dI)) (ci := 12) (v := .long (jI (A14 0 7))) (C := RX12) (T := TX12) (N := 85) hx hb hts hiX12 hown hK hP 0 wm0 rfl 7 (by decide) (hts _ (List.mem_cons_of_mem _ wlq_0_26)) (fun _ h9 => h9) rfl (dk_at dkX12_asked_1 11 rfl) ?_
        refine tp_l (y := jI (A 0 7)) (congrArg jI e_A14_7) ?_
        have r_A_0_7 : (-9223372036854775808 : Int) ≤ (A 0 7) ∧ (A 0 7) ≤ 9223372036854775807 := by rw [← e_A14_7]; exact hI 0 7
        have e_A14_47 : A14 0 47 = (A 0 47) := (hj13.2 47 rfl)
        have r_A_0_47 : (0 : Int) ≤ (A 0 47) ∧ (A 0 47) ≤ 1 := by rw [← e_A14_47]; exact hI 0 47
        refine x_calli (As := [.int (iI x1), .long (jI (A 0 7))]) (rest := []) ⟨hx, hb, hml, hown, hts⟩ (mb_X12_named_2 l dC dI cB cI cJ cZ cQ q _ x1 (A 0 7) hI hx1 r_A_0_7) (cwV 2 hts (goodV wlq_2_26 wlq_2_27 wlq_2_28 wlq_0_8 wlq_1_10) rfl rfl rfl (by decide +kernel) ⟨Nat.le_of_ble_eq_true rfl, Nat.le_of_ble_eq_true rfl⟩) hK hDD hA0 hP hS 0 12 wm0 rfl rfl hl.1 (Nat.le_of_ble_eq_true rfl) (dk_at dkX12_asked_1 12 rfl) (fun z19 A20 H locs hw21 hP hS => ?_)
        obtain ⟨rfl, hw21⟩ := hw21
        have ghw21 : q_X12_named_2 x1 (A 0 7) A14 z19 := hw21
        have hw21 := hw21.2
        have a_A14_12 : A14 12 = A 12 := (hj13.1 12 (by decide) rfl)
        have a_A14_11 : A14 11 = A 11 := (hj13.1 11 (by decide) rfl)
        rw [a_A14_12, a_A14_11, e_A14_47] at hw21
        exact J57_18 z19 _ _ _ (by omega) (by exact Hd.mk (by  omega)) (fun zq uq hq => hk2 _ _ (u_d_X12_asked_2_2 ⟨gI16.out, (Or.inl ⟨c17, ⟨z19, ghw21, hq⟩⟩)⟩)) hP hS (lv_sub hl [0, 1] rfl)
      · have c17 : ¬ (A14 0 8) ≤ 0 := mt (i_le0 (rb r_A14_0_8 (by decide) (by decide))).mpr c17
        refine lv_iconst (v := iI 0) hx hb (dk_at dkX12_asked_1 6 rfl) (by decide +kernel) ?_
        refine lv_goto (tgt := 57) hx hb (dk_at dkX12_asked_1 7 rfl) (by decide) ?_
        exact J57_18 0 _ _ _ (by omega) (by exact Hd.mk (by  omega)) (fun zq uq hq => hk2 _ _ (u_d_X12_asked_2_2 ⟨gI16.out, (Or.inr ⟨c17, hq⟩)⟩)) hP hS (lv_sub hl [0, 1] rfl)
    have J28_3 : ∀ (H : Heap) (locs : List Loc) (ls : Array Slot), (∀ (z : Int) (u : St), (d_X12_asked_2_1 x1 A z u) → r_X12_asked_2 x1 A z u) → va_P (dC, dI) vwCl (WM cI cJ cZ q A) H → va_S AS s.heap H locs → lv_has ls 3 [(0, .ref (q 0)), (1, .int (iI x1))] → W p l e (headSpec ws_mb_X12_asked_2 ({ frames := 2, cells := 0, slots := 0, locals := 48 } : Room)).room s m [.ref (q 0), .int (iI x1)].toArray below meth c H locs 0 0 Q (F0 m 28 ls []) := by
      intro H locs ls hk1 hP hS hl
      refine lv_aload_n hx hb (dk_at dkX12_asked_0 14 rfl) rfl (lv_at hl 0 rfl) ?_
      refine lv_iconst (v := iI 1) hx hb (dk_at dkX12_asked_0 15 rfl) (by decide +kernel) ?_
      refine lv_aload_n hx hb (dk_at dkX12_asked_1 0 rfl) rfl (lv_at hl 0 rfl) ?_
      refine va_get (D := (dC, dI)) (ci := 12) (v := .int (iI (A 0 4))) (C := RX12) (T := TX12) (N := 85) hx hb hts hiX12 hown hK hP 0 wm0 rfl 4 (by decide) (hts _ (List.mem_cons_of_mem _ wlq_0_23)) (fun _ h9 => h9) rfl (dk_at dkX12_asked_1 1 rfl) ?_
      have r_A_0_4 : (0 : Int) ≤ (A 0 4) ∧ (A 0 4) ≤ 1600 := hI 0 4
      refine x_callv (As := [.int (iI 1), .int (iI (A 0 4))]) (rest := []) ⟨hx, hb, hml, hown, hts⟩ (mc_X12_blame l dC dI cB cI cJ cZ cQ q _ 1 (A 0 4) hI ⟨by decide, by decide⟩ r_A_0_4) (cwV 2 hts (goodV wlq_0_31 wlq_0_32 wlq_0_33 wlq_0_8 wlq_0_15) rfl rfl rfl (by decide +kernel) ⟨Nat.le_of_ble_eq_true rfl, Nat.le_of_ble_eq_true rfl⟩) hK hDD hA0 hP hS 0 12 wm0 rfl rfl hl.1 (Nat.le_of_ble_eq_true rfl) (dk_at dkX12_asked_1 2 rfl) (fun A10 H locs hw11 hP hS => ?_)
      have ghw11 : q_X12_blame 1 (A 0 4) A A10 := hw11
      obtain ⟨_, hI, hf12, hw11⟩ := hw11
      have r_A10_0_8 : (0 : Int) ≤ (A10 0 8) ∧ (A10 0 8) ≤ 5 := hI 0 8
      exact J37_4 _ _ _ _ (by exact Hd.mk (by  omega)) (fun zq uq hq => hk1 _ _ (u_d_X12_asked_2_1 ⟨A10, ghw11, hq⟩)) hI (fr.trans (fr.rf) hf12 rfl rfl) hP hS (lv_sub hl [0, 1] rfl)
    refine lv_icmp_ne (tgt := 28) hx hb (dk_at dkX12_asked_0 8 rfl) (by decide) (fun c2 => ?_) (fun c2 => ?_)
    · have c2 : ¬ (A 0 3) = 1 := mt (i_eq (rb r_A_0_3 (by decide) (by decide)) ⟨by decide, by decide⟩).mpr c2
      exact J28_3 _ _ _ (fun zq uq hq => (u_r_X12_asked_2 (Or.inl ⟨c1, (Or.inl ⟨c2, hq⟩)⟩))) hP hS (lv_sub hl [0, 1] rfl)
    · have c2 : (A 0 3) = 1 := (i_eq (rb r_A_0_3 (by decide) (by decide)) ⟨by decide, by decide⟩).mp c2
      refine lv_aload_n hx hb (dk_at dkX12_asked_0 9 rfl) rfl (lv_at hl 0 rfl) ?_
      refine lv_aload_n hx hb (dk_at dkX12_asked_0 10 rfl) rfl (lv_at hl 0 rfl) ?_
      refine va_get (D := (dC, dI)) (ci := 12) (v := .long (jI (A 0 7))) (C := RX12) (T := TX12) (N := 85) hx hb hts hiX12 hown hK hP 0 wm0 rfl 7 (by decide) (hts _ (List.mem_cons_of_mem _ wlq_0_26)) (fun _ h9 => h9) rfl (dk_at dkX12_asked_0 11 rfl) ?_
      have r_A_0_7 : (-9223372036854775808 : Int) ≤ (A 0 7) ∧ (A 0 7) ≤ 9223372036854775807 := hI 0 7
      refine x_calli (As := [.long (jI (A 0 7))]) (rest := []) ⟨hx, hb, hml, hown, hts⟩ (mb_X12_isOwn l dC dI cB cI cJ cZ cQ q _ (A 0 7) hI r_A_0_7) (cwV 1 hts (goodV wlq_2_23 wlq_2_24 wlq_2_25 wlq_0_8 wlq_0_43) rfl rfl rfl (by decide +kernel) ⟨Nat.le_of_ble_eq_true rfl, Nat.le_of_ble_eq_true rfl⟩) hK hDD hA0 hP hS 0 12 wm0 rfl rfl hl.1 (Nat.le_of_ble_eq_true rfl) (dk_at dkX12_asked_0 12 rfl) (fun z5 A6 H locs hw7 hP hS => ?_)
      obtain ⟨rfl, hw7⟩ := hw7
      have ghw7 : q_X12_isOwn (A 0 7) A z5 := hw7
      have hw7 := hw7.2
      have rz5 : 0 ≤ z5 ∧ z5 ≤ 1 := hw7.1
      refine lv_if_eq (tgt := 37) hx hb (dk_at dkX12_asked_0 13 rfl) (by decide) (fun c8 => ?_) (fun c8 => ?_)
      · have c8 : z5 = 0 := (i_eq0 (rb rz5 (by decide) (by decide))).mp c8
        exact J37_4 _ _ _ _ (by exact Hd.mk (by  omega)) (fun zq uq hq => (u_r_X12_asked_2 (Or.inl ⟨c1, (Or.inr ⟨c2, ⟨z5, ghw7, (Or.inl ⟨c8, hq⟩)⟩⟩)⟩))) hI (fr.rf) hP hS (lv_sub hl [0, 1] rfl)
      · have c8 : ¬ z5 = 0 := mt (i_eq0 (rb rz5 (by decide) (by decide))).mpr c8
        exact J28_3 _ _ _ (fun zq uq hq => (u_r_X12_asked_2 (Or.inl ⟨c1, (Or.inr ⟨c2, ⟨z5, ghw7, (Or.inr ⟨c8, hq⟩)⟩⟩)⟩))) hP hS (lv_sub hl [0, 1] rfl)
  · have c1 : ¬ (A 0 8) ≤ 0 := mt (i_le0 (rb r_A_0_8 (by decide) (by decide))).mpr c1
    refine lv_iconst (v := iI 0) hx hb (dk_at dkX12_asked_0 3 rfl) (by decide +kernel) ?_
    have r_A_0_4 : (0 : Int) ≤ (A 0 4) ∧ (A 0 4) ≤ 1600 := hI 0 4
    exact RET 0 _ _ _ _ _ ⟨(u_r_X12_asked_2 (Or.inr ⟨c1, ⟨rfl, rfl⟩⟩)), hI, fr.rf, hcCB, ⟨by omega, by omega, by omega, Hd.mk (fun h => absurd h (by omega))⟩⟩ hP hS (dk_at dkX12_asked_0 4 rfl)

abbrev tr_d_X12_asked_3_5 (z22 : Int) (z : Int) (u : St) (A44 : St) : Prop := ((IM A44) ∧ ((((A44 0 8) ≤ 0) ∧ (z = z22 ∧ u = A44)) ∨ ((¬ (A44 0 8) ≤ 0) ∧ (z = 0 ∧ u = A44))))
def d_X12_asked_3_5 (z22 : Int) (z : Int) (u : St) (A44 : St) : Prop := tr_d_X12_asked_3_5 z22 z u A44
theorem u_d_X12_asked_3_5 {z22 : Int} {z : Int} {u : St} {A44 : St} (h : tr_d_X12_asked_3_5 z22 z u A44) : d_X12_asked_3_5 z22 z u A44 := h
abbrev tr_d_X12_asked_3_4 (z22 : Int) (z : Int) (u : St) (A33 : St) : Prop := ((IM A33) ∧ (((¬ (A33 0 8) = 0) ∧ (d_X12_asked_3_5 z22 z u A33)) ∨ (((A33 0 8) = 0) ∧ (∃ A38 : St, q_X12_ahead A33 A38 ∧ (d_X12_asked_3_5 z22 z u A38)))))
def d_X12_asked_3_4 (z22 : Int) (z : Int) (u : St) (A33 : St) : Prop := tr_d_X12_asked_3_4 z22 z u A33
theorem u_d_X12_asked_3_4 {z22 : Int} {z : Int} {u : St} {A33 : St} (h : tr_d_X12_asked_3_4 z22 z u A33) : d_X12_asked_3_4 z22 z u A33 := h
abbrev tr_d_X12_asked_3_3 (A : St) (A14 : St) (z : Int) (u : St) (z22 : Int) : Prop := ((-1 ≤ z22 ∧ z22 ≤ 2) ∧ (((¬ (A14 0 8) = 0) ∧ (d_X12_asked_3_4 z22 z u A14)) ∨ (((A14 0 8) = 0) ∧ (((¬ z22 = (-1)) ∧ (d_X12_asked_3_4 z22 z u A14)) ∨ ((z22 = (-1)) ∧ (∃ A29 : St, q_X12_blame 3 (A 0 4) A14 A29 ∧ (d_X12_asked_3_4 z22 z u A29)))))))
def d_X12_asked_3_3 (A : St) (A14 : St) (z : Int) (u : St) (z22 : Int) : Prop := tr_d_X12_asked_3_3 A A14 z u z22
theorem u_d_X12_asked_3_3 {A : St} {A14 : St} {z : Int} {u : St} {z22 : Int} (h : tr_d_X12_asked_3_3 A A14 z u z22) : d_X12_asked_3_3 A A14 z u z22 := h
abbrev tr_d_X12_asked_3_2 (x1 : Int) (A : St) (z : Int) (u : St) (A14 : St) : Prop := ((IM A14) ∧ ((((A14 0 8) ≤ 0) ∧ (∃ z19 : Int, q_X12_named_3 x1 (A 0 7) A14 z19 ∧ (d_X12_asked_3_3 A A14 z u z19))) ∨ ((¬ (A14 0 8) ≤ 0) ∧ (d_X12_asked_3_3 A A14 z u 0))))
def d_X12_asked_3_2 (x1 : Int) (A : St) (z : Int) (u : St) (A14 : St) : Prop := tr_d_X12_asked_3_2 x1 A z u A14
theorem u_d_X12_asked_3_2 {x1 : Int} {A : St} {z : Int} {u : St} {A14 : St} (h : tr_d_X12_asked_3_2 x1 A z u A14) : d_X12_asked_3_2 x1 A z u A14 := h
abbrev tr_d_X12_asked_3_1 (x1 : Int) (A : St) (z : Int) (u : St) : Prop := (∃ A10 : St, q_X12_blame 1 (A 0 4) A A10 ∧ (d_X12_asked_3_2 x1 A z u A10))
def d_X12_asked_3_1 (x1 : Int) (A : St) (z : Int) (u : St) : Prop := tr_d_X12_asked_3_1 x1 A z u
theorem u_d_X12_asked_3_1 {x1 : Int} {A : St} {z : Int} {u : St} (h : tr_d_X12_asked_3_1 x1 A z u) : d_X12_asked_3_1 x1 A z u := h
abbrev tr_r_X12_asked_3 (x1 : Int) (A : St) (z : Int) (u : St) : Prop := ((((A 0 8) ≤ 0) ∧ (((¬ (A 0 3) = 1) ∧ (d_X12_asked_3_1 x1 A z u)) ∨ (((A 0 3) = 1) ∧ (∃ z5 : Int, q_X12_isOwn (A 0 7) A z5 ∧ (((z5 = 0) ∧ (d_X12_asked_3_2 x1 A z u A)) ∨ ((¬ z5 = 0) ∧ (d_X12_asked_3_1 x1 A z u))))))) ∨ ((¬ (A 0 8) ≤ 0) ∧ (z = 0 ∧ u = A)))
def r_X12_asked_3 (x1 : Int) (A : St) (z : Int) (u : St) : Prop := tr_r_X12_asked_3 x1 A z u
theorem u_r_X12_asked_3 {x1 : Int} {A : St} {z : Int} {u : St} (h : tr_r_X12_asked_3 x1 A z u) : r_X12_asked_3 x1 A z u := h
def q_X12_asked_3 (x1 : Int) (A : St) (z : Int) (u : St) : Prop := r_X12_asked_3 x1 A z u ∧ IM u ∧ fr [] [3, 4, 5, 6, 7, 8, 9] A u ∧ CB u ∧ (0 ≤ z ∧ z ≤ 2 ∧ A 0 4 ≤ u 0 4 ∧ Hd (u 0 8 = 0 → A 0 8 = 0 ∧ A 0 3 = 1 ∧ ownz (A 0 7) = 0 ∧ z = lk (A 17) (3 * A 0 47).toNat (A 0 7) (A 16 (A 0 47).toNat).toNat))
def ws_mb_X12_asked_3 : List Cond := .code yX12_asked cX12_asked 3 (some .int) :: WX
set_option maxHeartbeats 4000000 in
set_option maxRecDepth 100000 in
theorem mb_X12_asked_3 (l : Launch) (dC : Nat → ClassId) (dI : Nat → Nat → Nat) (cB cI cJ cZ cQ : ClassId) (q : Nat → Nat) (A : St) (x1 : Int) (hI : IM A) (hx1 : (3 : Int) ≤ x1 ∧ x1 ≤ 3) (hcCB : CB A) : XMi l yX12_asked ws_mb_X12_asked_3 ({ frames := 2, cells := 0, slots := 0, locals := 48 } : Room) (dC, dI) (tyA cB cI cJ cZ cQ) (WM cI cJ cZ q) A [.ref (q 0), .int (iI x1)] (fun z u => r_X12_asked_3 x1 A z u ∧ IM u ∧ fr [] [3, 4, 5, 6, 7, 8, 9] A u ∧ CB u ∧ (0 ≤ z ∧ z ≤ 2 ∧ A 0 4 ≤ u 0 4 ∧ Hd (u 0 8 = 0 → A 0 8 = 0 ∧ A 0 3 = 1 ∧ ownz (A 0 7) = 0 ∧ z = lk (A 17) (3 * A 0 47).toNat (A 0 7) (A 16 (A 0 47).toNat).toNat))) := by
  refine x_meti (cc := cX12_asked) (maxL := 3) WM_adr (by decide +kernel) rfl (Nat.le_of_ble_eq_true rfl) (fun p e s m below meth c Q AS ls hx hb hml hown hts hK hDD hA0 hP hS hl RET => ?_)
  have hown : s.vm.findClass RX12 = some m.cls := hown
  have hl : lv_has ls 3 [(0, .ref (q 0)), (1, .int (iI x1))] := hl
  have hiX12 : ∀ w ∈ u_ws RX12 TX12 85, w ∈ ws_mb_X12_asked_3 := fun w h => List.mem_cons_of_mem _ (wx_lay w h)
  obtain ⟨H, hHe⟩ : ∃ H : Heap, H = s.heap := ⟨_, rfl⟩
  rw [← hHe] at hP
  have hS : va_S AS s.heap H [] := by rw [hHe]; exact hS
  suffices hgo : ∀ locs : List Loc, va_S AS s.heap H locs → W p l e (headSpec ws_mb_X12_asked_3 ({ frames := 2, cells := 0, slots := 0, locals := 48 } : Room)).room s m [.ref (q 0), .int (iI x1)].toArray below meth c H locs 0 0 Q (F0 m 0 ls []) by
    have := hgo [] hS
    rw [hHe] at this
    exact this
  clear hS hHe
  intro locs hS
  have hle := CB.le hcCB
  refine lv_aload_n hx hb (dk_at dkX12_asked_0 0 rfl) rfl (lv_at hl 0 rfl) ?_
  refine va_get (D := (dC, dI)) (ci := 12) (v := .int (iI (A 0 8))) (C := RX12) (T := TX12) (N := 85) hx hb hts hiX12 hown hK hP 0 wm0 rfl 8 (by decide) (hts _ (List.mem_cons_of_mem _ wlq_0_16)) (fun _ h9 => h9) rfl (dk_at dkX12_asked_0 1 rfl) ?_
  have r_A_0_8 : (0 : Int) ≤ (A 0 8) ∧ (A 0 8) ≤ 5 := hI 0 8
  refine lv_if_le (tgt := 9) hx hb (dk_at dkX12_asked_0 2 rfl) (by decide) (fun c1 => ?_) (fun c1 => ?_)
  · have c1 : (A 0 8) ≤ 0 := (i_le0 (rb r_A_0_8 (by decide) (by decide))).mp c1
    refine lv_aload_n hx hb (dk_at dkX12_asked_0 5 rfl) rfl (lv_at hl 0 rfl) ?_
    refine va_get (D := (dC, dI)) (ci := 12) (v := .int (iI (A 0 3))) (C := RX12) (T := TX12) (N := 85) hx hb hts hiX12 hown hK hP 0 wm0 rfl 3 (by decide) (hts _ (List.mem_cons_of_mem _ wlq_0_24)) (fun _ h9 => h9) rfl (dk_at dkX12_asked_0 6 rfl) ?_
    have r_A_0_3 : (0 : Int) ≤ (A 0 3) ∧ (A 0 3) ≤ 3 := hI 0 3
    refine lv_iconst (v := iI 1) hx hb (dk_at dkX12_asked_0 7 rfl) (by decide +kernel) ?_
    have J37_4 : ∀ (A14 : St) (H : Heap) (locs : List Loc) (ls : Array Slot), (Hd ((A14 0 8) = 0 → A 0 3 = 1 ∧ ownz (A 0 7) = 0)) → (∀ (z : Int) (u : St), (d_X12_asked_3_2 x1 A z u A14) → r_X12_asked_3 x1 A z u) → IM A14 → fr [] [8, 9] A A14 → va_P (dC, dI) vwCl (WM cI cJ cZ q A14) H → va_S AS s.heap H locs → lv_has ls 3 [(0, .ref (q 0)), (1, .int (iI x1))] → W p l e (headSpec ws_mb_X12_asked_3 ({ frames := 2, cells := 0, slots := 0, locals := 48 } : Room)).room s m [.ref (q 0), .int (iI x1)].toArray below meth c H locs 0 0 Q (F0 m 37 ls []) := by
      intro A14 H locs ls f15 hk2 hI hj13 hP hS hl
      have gI16 : Hd (IM A14) := Hd.mk hI
      refine lv_aload_n hx hb (dk_at dkX12_asked_1 3 rfl) rfl (lv_at hl 0 rfl) ?_
      refine va_get (D := (dC, dI)) (ci := 12) (v := .int (iI (A14 0 8))) (C := RX12) (T := TX12) (N := 85) hx hb hts hiX12 hown hK hP 0 wm0 rfl 8 (by decide) (hts _ (List.mem_cons_of_mem _ wlq_0_16)) (fun _ h9 => h9) rfl (dk_at dkX12_asked_1 4 rfl) ?_
      have r_A14_0_8 : (0 : Int) ≤ (A14 0 8) ∧ (A14 0 8) ≤ 5 := hI 0 8
      have J57_18 : ∀ (z22 : Int) (H : Heap) (locs : List Loc) (ls : Array Slot), (-1 ≤ z22 ∧ z22 ≤ 2) → (Hd ((A14 0 8) = 0 → z22 = lk (A 17) (3 * A 0 47).toNat (A 0 7) (A 16 (A 0 47).toNat).toNat)) → (∀ (z : Int) (u : St), (d_X12_asked_3_3 A A14 z u z22) → r_X12_asked_3 x1 A z u) → va_P (dC, dI) vwCl (WM cI cJ cZ q A14) H → va_S AS s.heap H locs → lv_has ls 3 [(0, .ref (q 0)), (1, .int (iI x1))] → W p l e (headSpec ws_mb_X12_asked_3 ({ frames := 2, cells := 0, slots := 0, locals := 48 } : Room)).room s m [.ref (q 0), .int (iI x1)].toArray below meth c H locs 0 0 Q (F0 m 57 ls [.int (iI z22)]) := by
        intro z22 H locs ls f24 f25 hk3 hP hS hl
        refine lv_istore_n (lv' := [(2, .int (iI z22)), (0, .ref (q 0)), (1, .int (iI x1))]) hx hb (dk_at dkX12_asked_1 13 rfl) rfl hl (by decide) rfl (fun ls hl => ?_)
        refine lv_aload_n hx hb (dk_at dkX12_asked_1 14 rfl) rfl (lv_at hl 1 rfl) ?_
        refine va_get (D := (dC, dI)) (ci := 12) (v := .int (iI (A14 0 8))) (C := RX12) (T := TX12) (N := 85) hx hb hts hiX12 hown hK hP 0 wm0 rfl 8 (by decide) (hts _ (List.mem_cons_of_mem _ wlq_0_16)) (fun _ h9 => h9) rfl (dk_at dkX12_asked_1 15 rfl) ?_
        have J79_27 : ∀ (A33 : St) (H : Heap) (locs : List Loc) (ls : Array Slot), (Hd ((A33 0 8) = 0 → (A14 0 8 = 0 ∧ 0 ≤ z22))) → (∀ (z : Int) (u : St), (d_X12_asked_3_4 z22 z u A33) → r_X12_asked_3 x1 A z u) → IM A33 → fr [] [8, 9] A14 A33 → va_P (dC, dI) vwCl (WM cI cJ cZ q A33) H → va_S AS s.heap H locs → lv_has ls 3 [(2, .int (iI z22)), (0, .ref (q 0)), (1, .int (iI x1))] → W p l e (headSpec ws_mb_X12_asked_3 ({ frames := 2, cells := 0, slots := 0, locals := 48 } : Room)).room s m [.ref (q 0), .int (iI x1)].toArray below meth c H locs 0 0 Q (F0 m 79 ls []) := by
          intro A33 H locs ls f34 hk4 hI hj32 hP hS hl
          have gI35 : Hd (IM A33) := Hd.mk hI
          refine lv_aload_n hx hb (dk_at dkX12_asked_2 9 rfl) rfl (lv_at hl 1 rfl) ?_
          refine va_get (D := (dC, dI)) (ci := 12) (v := .int (iI (A33 0 8))) (C := RX12) (T := TX12) (N := 85) hx hb hts hiX12 hown hK hP 0 wm0 rfl 8 (by decide) (hts _ (List.mem_cons_of_mem _ wlq_0_16)) (fun _ h9 => h9) rfl (dk_at dkX12_asked_2 10 rfl) ?_
          have r_A33_0_8 : (0 : Int) ≤ (A33 0 8) ∧ (A33 0 8) ≤ 5 := hI 0 8
          have J90_37 : ∀ (A44 : St) (H : Heap) (locs : List Loc) (ls : Array Slot), (A 0 4 ≤ (A44 0 4)) → (Hd ((A44 0 8) = 0 → A33 0 8 = 0)) → (CB A44) → (∀ (z : Int) (u : St), (d_X12_asked_3_5 z22 z u A44) → r_X12_asked_3 x1 A z u) → IM A44 → fr [] [3, 4, 5, 6, 7, 8, 9] A33 A44 → va_P (dC, dI) vwCl (WM cI cJ cZ q A44) H → va_S AS s.heap H locs → lv_has ls 3 [(2, .int (iI z22)), (0, .ref (q 0)), (1, .int (iI x1))] → W p l e (headSpec ws_mb_X12_asked_3 ({ frames := 2, cells := 0, slots := 0, locals := 48 } : Room)).room s m [.ref (q 0), .int (iI x1)].toArray below meth c H locs 0 0 Q (F0 m 90 ls []) := by
            intro A44 H locs ls f45 f46 hc47 hk5 hI hj43 hP hS hl
            have gI48 : Hd (IM A44) := Hd.mk hI
            refine lv_aload_n hx hb (dk_at dkX12_asked_2 14 rfl) rfl (lv_at hl 1 rfl) ?_
            refine va_get (D := (dC, dI)) (ci := 12) (v := .int (iI (A44 0 8))) (C := RX12) (T := TX12) (N := 85) hx hb hts hiX12 hown hK hP 0 wm0 rfl 8 (by decide) (hts _ (List.mem_cons_of_mem _ wlq_0_16)) (fun _ h9 => h9) rfl (dk_at dkX12_asked_2 15 rfl) ?_
            have r_A44_0_8 : (0 : Int) ≤ (A44 0 8) ∧ (A44 0 8) ≤ 5 := hI 0 8
            refine lv_if_le (tgt := 101) hx hb (dk_at dkX12_asked_3 0 rfl) (by decide) (fun c49 => ?_) (fun c49 => ?_)
            · have c49 : (A44 0 8) ≤ 0 := (i_le0 (rb r_A44_0_8 (by decide) (by decide))).mp c49
              refine lv_iload_n hx hb (dk_at dkX12_asked_3 3 rfl) rfl (lv_at hl 0 rfl) ?_
              have r_A44_0_4 : (0 : Int) ≤ (A44 0 4) ∧ (A44 0 4) ≤ 1600 := hI 0 4
              have hq : Hd (A44 0 8 = 0 → (0 ≤ z22 ∧ A 0 8 = 0 ∧ A 0 3 = 1 ∧ ownz (A 0 7) = 0 ∧ z22 = lk (A 17) (3 * A 0 47).toNat (A 0 7) (A 16 (A 0 47).toNat).toNat)) := Hd.mk (fun h0 => by
                have g4 := f46.out (by omega)
                have g3 := f34.out (by omega)
                have g2 := f25.out (by omega)
                have g1 := f15.out (by omega)
                exact ⟨by omega, by omega, g1.1, g1.2, by omega⟩)
              have hq0 : 0 ≤ z22 := (hq.out (by omega)).1
              exact RET z22 _ _ _ _ _ ⟨hk5 _ _ (u_d_X12_asked_3_5 ⟨gI48.out, (Or.inl ⟨c49, ⟨rfl, rfl⟩⟩)⟩), hI, fr.trans (fr.trans (fr.trans (fr.rf) hj13 rfl rfl) hj32 rfl rfl) hj43 rfl rfl, hc47, ⟨by omega, by omega, by omega, Hd.mk (fun h => (hq.out h).2)⟩⟩ hP hS (dk_at dkX12_asked_3 4 rfl)
            · have c49 : ¬ (A44 0 8) ≤ 0 := mt (i_le0 (rb r_A44_0_8 (by decide) (by decide))).mpr c49
              refine lv_iconst (v := iI 0) hx hb (dk_at dkX12_asked_3 1 rfl) (by decide +kernel) ?_
              refine lv_goto (tgt := 102) hx hb (dk_at dkX12_asked_3 2 rfl) (by decide) ?_
              have r_A44_0_4 : (0 : Int) ≤ (A44 0 4) ∧ (A44 0 4) ≤ 1600 := hI 0 4
              have hq : Hd (A44 0 8 = 0 → (0 ≤ 0 ∧ A 0 8 = 0 ∧ A 0 3 = 1 ∧ ownz (A 0 7) = 0 ∧ 0 = lk (A 17) (3 * A 0 47).toNat (A 0 7) (A 16 (A 0 47).toNat).toNat)) := Hd.mk (fun h0 => by
                have g4 := f46.out (by omega)
                have g3 := f34.out (by omega)
                have g2 := f25.out (by omega)
                have g1 := f15.out (by omega)
                exact ⟨by omega, by omega, g1.1, g1.2, by omega⟩)
              exact RET 0 _ _ _ _ _ ⟨hk5 _ _ (u_d_X12_asked_3_5 ⟨gI48.out, (Or.inr ⟨c49, ⟨rfl, rfl⟩⟩)⟩), hI, fr.trans (fr.trans (fr.trans (fr.rf) hj13 rfl rfl) hj32 rfl rfl) hj43 rfl rfl, hc47, ⟨by omega, by omega, by omega, Hd.mk (fun h => (hq.out h).2)⟩⟩ hP hS (dk_at dkX12_asked_3 4 rfl)
          refine lv_if_ne (tgt := 90) hx hb (dk_at dkX12_asked_2 11 rfl) (by decide) (fun c36 => ?_) (fun c36 => ?_)
          · have c36 : ¬ (A33 0 8) = 0 := mt (i_eq0 (rb r_A33_0_8 (by decide) (by decide))).mpr c36
            have e_A14_4 : A14 0 4 = (A 0 4) := (hj13.2 4 rfl)
            have e_A33_4 : A33 0 4 = (A 0 4) := (hj32.2 4 rfl).trans e_A14_4
            have r_A_0_4 : (0 : Int) ≤ (A 0 4) ∧ (A 0 4) ≤ 1600 := by rw [← e_A33_4]; exact hI 0 4
            exact J90_37 _ _ _ _ (by omega) (by exact Hd.mk (by  omega)) (CB.fr (CB.fr hcCB hj13 rfl rfl) hj32 rfl rfl) (fun zq uq hq => hk4 _ _ (u_d_X12_asked_3_4 ⟨gI35.out, (Or.inl ⟨c36, hq⟩)⟩)) hI (fr.rf) hP hS (lv_sub hl [0, 1, 2] rfl)
          · have c36 : (A33 0 8) = 0 := (i_eq0 (rb r_A33_0_8 (by decide) (by decide))).mp c36
            refine lv_aload_n hx hb (dk_at dkX12_asked_2 12 rfl) rfl (lv_at hl 1 rfl) ?_
            have e_A14_4 : A14 0 4 = (A 0 4) := (hj13.2 4 rfl)
            have e_A33_4 : A33 0 4 = (A 0 4) := (hj32.2 4 rfl).trans e_A14_4
            have r_A_0_4 : (0 : Int) ≤ (A 0 4) ∧ (A 0 4) ≤ 1600 := by rw [← e_A33_4]; exact hI 0 4
            have e_A14_5 : A14 0 5 = (A 0 5) := (hj13.2 5 rfl)
            have e_A33_5 : A33 0 5 = (A 0 5) := (hj32.2 5 rfl).trans e_A14_5
            have r_A_0_5 : (0 : Int) ≤ (A 0 5) ∧ (A 0 5) ≤ 1600 := by rw [← e_A33_5]; exact hI 0 5
            refine x_callv (As := []) (rest := []) ⟨hx, hb, hml, hown, hts⟩ (mb_X12_ahead l dC dI cB cI cJ cZ cQ q _ hI) (cwV 0 hts (goodV wlq_0_40 wlq_0_41 wlq_0_42 wlq_0_8 wlq_0_20) rfl rfl rfl (by decide +kernel) ⟨Nat.le_of_ble_eq_true rfl, Nat.le_of_ble_eq_true rfl⟩) hK hDD hA0 hP hS 0 12 wm0 rfl rfl hl.1 (Nat.le_of_ble_eq_true rfl) (dk_at dkX12_asked_2 13 rfl) (fun A38 H locs hw39 hP hS => ?_)
            have ghw39 : q_X12_ahead A33 A38 := hw39
            obtain ⟨_, hI, hf40, hw39⟩ := hw39
            have r_A38_0_3 : (0 : Int) ≤ (A38 0 3) ∧ (A38 0 3) ≤ 3 := hI 0 3
            have r_A38_0_4 : (0 : Int) ≤ (A38 0 4) ∧ (A38 0 4) ≤ 1600 := hI 0 4
            have r_A38_0_5 : (0 : Int) ≤ (A38 0 5) ∧ (A38 0 5) ≤ 1600 := hI 0 5
            have r_A38_0_8 : (0 : Int) ≤ (A38 0 8) ∧ (A38 0 8) ≤ 5 := hI 0 8
            have hv41 := CB.le (CB.fr (CB.fr hcCB hj13 rfl rfl) hj32 rfl rfl)
            have hc42 := CB.ahead (CB.fr (CB.fr hcCB hj13 rfl rfl) hj32 rfl rfl) (hf40.2 46 rfl) hw39.1 hw39.2.1 hw39.2.2.1
            exact J90_37 _ _ _ _ (by omega) (by exact Hd.mk (by  omega)) hc42 (fun zq uq hq => hk4 _ _ (u_d_X12_asked_3_4 ⟨gI35.out, (Or.inr ⟨c36, ⟨A38, ghw39, hq⟩⟩)⟩)) hI (fr.trans (fr.rf) hf40 rfl rfl) hP hS (lv_sub hl [0, 1, 2] rfl)
        refine lv_if_ne (tgt := 79) hx hb (dk_at dkX12_asked_2 0 rfl) (by decide) (fun c26 => ?_) (fun c26 => ?_)
        · have c26 : ¬ (A14 0 8) = 0 := mt (i_eq0 (rb r_A14_0_8 (by decide) (by decide))).mpr c26
          exact J79_27 _ _ _ _ (by exact Hd.mk (by  omega)) (fun zq uq hq => hk3 _ _ (u_d_X12_asked_3_3 ⟨f24, (Or.inl ⟨c26, hq⟩)⟩)) hI (fr.rf) hP hS (lv_sub hl [0, 1, 2] rfl)
        · have c26 : (A14 0 8) = 0 := (i_eq0 (rb r_A14_0_8 (by decide) (by decide))).mp c26
          refine lv_iload_n hx hb (dk_at dkX12_asked_2 1 rfl) rfl (lv_at hl 0 rfl) ?_
          refine lv_iconst (v := iI (-1)) hx hb (dk_at dkX12_asked_2 2 rfl) (by decide +kernel) ?_
          refine lv_icmp_ne (tgt := 79) hx hb (dk_at dkX12_asked_2 3 rfl) (by decide) (fun c28 => ?_) (fun c28 => ?_)
          · have c28 : ¬ z22 = (-1) := mt (i_eq (rb f24 (by decide) (by decide)) ⟨by decide, by decide⟩).mpr c28
            exact J79_27 _ _ _ _ (by exact Hd.mk (by  omega)) (fun zq uq hq => hk3 _ _ (u_d_X12_asked_3_3 ⟨f24, (Or.inr ⟨c26, (Or.inl ⟨c28, hq⟩)⟩)⟩)) hI (fr.rf) hP hS (lv_sub hl [0, 1, 2] rfl)
          · have c28 : z22 = (-1) := (i_eq (rb f24 (by decide) (by decide)) ⟨by decide, by decide⟩).mp c28
            refine lv_aload_n hx hb (dk_at dkX12_asked_2 4 rfl) rfl (lv_at hl 1 rfl) ?_
            refine lv_iconst (v := iI 3) hx hb (dk_at dkX12_asked_2 5 rfl) (by decide +kernel) ?_
            refine lv_aload_n hx hb (dk_at dkX12_asked_2 6 rfl) rfl (lv_at hl 1 rfl) ?_
            have e_A14_4 : A14 0 4 = (A 0 4) := (hj13.2 4 rfl)
            refine va_get (D := (dC, dI)) (ci := 12) (v := .int (iI (A14 0 4))) (C := RX12) (T := TX12) (N := 85) hx hb hts hiX12 hown hK hP 0 wm0 rfl 4 (by decide) (hts _ (List.mem_cons_of_mem _ wlq_0_23)) (fun _ h9 => h9) rfl (dk_at dkX12_asked_2 7 rfl) ?_
            refine tp_i (y := iI (A 0 4)) (congrArg iI e_A14_4) ?_
            have r_A_0_4 : (0 : Int) ≤ (A 0 4) ∧ (A 0 4) ≤ 1600 := by rw [← e_A14_4]; exact hI 0 4
            refine x_callv (As := [.int (iI 3), .int (iI (A 0 4))]) (rest := []) ⟨hx, hb, hml, hown, hts⟩ (mc_X12_blame l dC dI cB cI cJ cZ cQ q _ 3 (A 0 4) hI ⟨by decide, by decide⟩ r_A_0_4) (cwV 2 hts (goodV wlq_0_31 wlq_0_32 wlq_0_33 wlq_0_8 wlq_0_15) rfl rfl rfl (by decide +kernel) ⟨Nat.le_of_ble_eq_true rfl, Nat.le_of_ble_eq_true rfl⟩) hK hDD hA0 hP hS 0 12 wm0 rfl rfl hl.1 (Nat.le_of_ble_eq_true rfl) (dk_at dkX12_asked_2 8 rfl) (fun A29 H locs hw30 hP hS => ?_)
            have ghw30 : q_X12_blame 3 (A 0 4) A14 A29 := hw30
            obtain ⟨_, hI, hf31, hw30⟩ := hw30
            have r_A29_0_8 : (0 : Int) ≤ (A29 0 8) ∧ (A29 0 8) ≤ 5 := hI 0 8
            exact J79_27 _ _ _ _ (by exact Hd.mk (by  omega)) (fun zq uq hq => hk3 _ _ (u_d_X12_asked_3_3 ⟨f24, (Or.inr ⟨c26, (Or.inr ⟨c28, ⟨A29, ghw30, hq⟩⟩)⟩)⟩)) hI (fr.trans (fr.rf) hf31 rfl rfl) hP hS (lv_sub hl [0, 1, 2] rfl)
      refine lv_if_le (tgt := 48) hx hb (dk_at dkX12_asked_1 5 rfl) (by decide) (fun c17 => ?_) (fun c17 => ?_)
      · have c17 : (A14 0 8) ≤ 0 := (i_le0 (rb r_A14_0_8 (by decide) (by decide))).mp c17
        refine lv_aload_n hx hb (dk_at dkX12_asked_1 8 rfl) rfl (lv_at hl 0 rfl) ?_
        refine lv_iload_n hx hb (dk_at dkX12_asked_1 9 rfl) rfl (lv_at hl 1 rfl) ?_
        refine lv_aload_n hx hb (dk_at dkX12_asked_1 10 rfl) rfl (lv_at hl 0 rfl) ?_
        have e_A14_7 : A14 0 7 = (A 0 7) := (hj13.2 7 rfl)
        refine va_get (D := (dC, dI)) (ci := 12) (v := .long (jI (A14 0 7))) (C := RX12) (T := TX12) (N := 85) hx hb hts hiX12 hown hK hP 0 wm0 rfl 7 (by decide) (hts _ (List.mem_cons_of_mem _ wlq_0_26)) (fun _ h9 => h9) rfl (dk_at dkX12_asked_1 11 rfl) ?_
        refine tp_l (y := jI (A 0 7)) (congrArg jI e_A14_7) ?_
        have r_A_0_7 : (-9223372036854775808 : Int) ≤ (A 0 7) ∧ (A 0 7) ≤ 9223372036854775807 := by rw [← e_A14_7]; exact hI 0 7
        have e_A14_47 : A14 0 47 = (A 0 47) := (hj13.2 47 rfl)
        have r_A_0_47 : (0 : Int) ≤ (A 0 47) ∧ (A 0 47) ≤ 1 := by rw [← e_A14_47]; exact hI 0 47
        refine x_calli (As := [.int (iI x1), .long (jI (A 0 7))]) (rest := []) ⟨hx, hb, hml, hown, hts⟩ (mb_X12_named_3 l dC dI cB cI cJ cZ cQ q _ x1 (A 0 7) hI hx1 r_A_0_7) (cwV 2 hts (goodV wlq_2_26 wlq_2_27 wlq_2_28 wlq_0_8 wlq_1_10) rfl rfl rfl (by decide +kernel) ⟨Nat.le_of_ble_eq_true rfl, Nat.le_of_ble_eq_true rfl⟩) hK hDD hA0 hP hS 0 12 wm0 rfl rfl hl.1 (Nat.le_of_ble_eq_true rfl) (dk_at dkX12_asked_1 12 rfl) (fun z19 A20 H locs hw21 hP hS => ?_)
        obtain ⟨rfl, hw21⟩ := hw21
        have ghw21 : q_X12_named_3 x1 (A 0 7) A14 z19 := hw21
        have hw21 := hw21.2
        have a_A14_17 : A14 17 = A 17 := (hj13.1 17 (by decide) rfl)
        have a_A14_16 : A14 16 = A 16 := (hj13.1 16 (by decide) rfl)
        rw [a_A14_17, a_A14_16, e_A14_47] at hw21
        exact J57_18 z19 _ _ _ (by omega) (by exact Hd.mk (by  omega)) (fun zq uq hq => hk2 _ _ (u_d_X12_asked_3_2 ⟨gI16.out, (Or.inl ⟨c17, ⟨z19, ghw21, hq⟩⟩)⟩)) hP hS (lv_sub hl [0, 1] rfl)
      · have c17 : ¬ (A14 0 8) ≤ 0 := mt (i_le0 (rb r_A14_0_8 (by decide) (by decide))).mpr c17
        refine lv_iconst (v := iI 0) hx hb (dk_at dkX12_asked_1 6 rfl) (by decide +kernel) ?_
        refine lv_goto (tgt := 57) hx hb (dk_at dkX12_asked_1 7 rfl) (by decide) ?_
        exact J57_18 0 _ _ _ (by omega) (by exact Hd.mk (by  omega)) (fun zq uq hq => hk2 _ _ (u_d_X12_asked_3_2 ⟨gI16.out, (Or.inr ⟨c17, hq⟩)⟩)) hP hS (lv_sub hl [0, 1] rfl)
    have J28_3 : ∀ (H : Heap) (locs : List Loc) (ls : Array Slot), (∀ (z : Int) (u : St), (d_X12_asked_3_1 x1 A z u) → r_X12_asked_3 x1 A z u) → va_P (dC, dI) vwCl (WM cI cJ cZ q A) H → va_S AS s.heap H locs → lv_has ls 3 [(0, .ref (q 0)), (1, .int (iI x1))] → W p l e (headSpec ws_mb_X12_asked_3 ({ frames := 2, cells := 0, slots := 0, locals := 48 } : Room)).room s m [.ref (q 0), .int (iI x1)].toArray below meth c H locs 0 0 Q (F0 m 28 ls []) := by
      intro H locs ls hk1 hP hS hl
      refine lv_aload_n hx hb (dk_at dkX12_asked_0 14 rfl) rfl (lv_at hl 0 rfl) ?_
      refine lv_iconst (v := iI 1) hx hb (dk_at dkX12_asked_0 15 rfl) (by decide +kernel) ?_
      refine lv_aload_n hx hb (dk_at dkX12_asked_1 0 rfl) rfl (lv_at hl 0 rfl) ?_
      refine va_get (D := (dC, dI)) (ci := 12) (v := .int (iI (A 0 4))) (C := RX12) (T := TX12) (N := 85) hx hb hts hiX12 hown hK hP 0 wm0 rfl 4 (by decide) (hts _ (List.mem_cons_of_mem _ wlq_0_23)) (fun _ h9 => h9) rfl (dk_at dkX12_asked_1 1 rfl) ?_
      have r_A_0_4 : (0 : Int) ≤ (A 0 4) ∧ (A 0 4) ≤ 1600 := hI 0 4
      refine x_callv (As := [.int (iI 1), .int (iI (A 0 4))]) (rest := []) ⟨hx, hb, hml, hown, hts⟩ (mc_X12_blame l dC dI cB cI cJ cZ cQ q _ 1 (A 0 4) hI ⟨by decide, by decide⟩ r_A_0_4) (cwV 2 hts (goodV wlq_0_31 wlq_0_32 wlq_0_33 wlq_0_8 wlq_0_15) rfl rfl rfl (by decide +kernel) ⟨Nat.le_of_ble_eq_true rfl, Nat.le_of_ble_eq_true rfl⟩) hK hDD hA0 hP hS 0 12 wm0 rfl rfl hl.1 (Nat.le_of_ble_eq_true rfl) (dk_at dkX12_asked_1 2 rfl) (fun A10 H locs hw11 hP hS => ?_)
      have ghw11 : q_X12_blame 1 (A 0 4) A A10 := hw11
      obtain ⟨_, hI, hf12, hw11⟩ := hw11
      have r_A10_0_8 : (0 : Int) ≤ (A10 0 8) ∧ (A10 0 8) ≤ 5 := hI 0 8
      exact J37_4 _ _ _ _ (by exact Hd.mk (by  omega)) (fun zq uq hq => hk1 _ _ (u_d_X12_asked_3_1 ⟨A10, ghw11, hq⟩)) hI (fr.trans (fr.rf) hf12 rfl rfl) hP hS (lv_sub hl [0, 1] rfl)
    refine lv_icmp_ne (tgt := 28) hx hb (dk_at dkX12_asked_0 8 rfl) (by decide) (fun c2 => ?_) (fun c2 => ?_)
    · have c2 : ¬ (A 0 3) = 1 := mt (i_eq (rb r_A_0_3 (by decide) (by decide)) ⟨by decide, by decide⟩).mpr c2
      exact J28_3 _ _ _ (fun zq uq hq => (u_r_X12_asked_3 (Or.inl ⟨c1, (Or.inl ⟨c2, hq⟩)⟩))) hP hS (lv_sub hl [0, 1] rfl)
    · have c2 : (A 0 3) = 1 := (i_eq (rb r_A_0_3 (by decide) (by decide)) ⟨by decide, by decide⟩).mp c2
      refine lv_aload_n hx hb (dk_at dkX12_asked_0 9 rfl) rfl (lv_at hl 0 rfl) ?_
      refine lv_aload_n hx hb (dk_at dkX12_asked_0 10 rfl) rfl (lv_at hl 0 rfl) ?_
      refine va_get (D := (dC, dI)) (ci := 12) (v := .long (jI (A 0 7))) (C := RX12) (T := TX12) (N := 85) hx hb hts hiX12 hown hK hP 0 wm0 rfl 7 (by decide) (hts _ (List.mem_cons_of_mem _ wlq_0_26)) (fun _ h9 => h9) rfl (dk_at dkX12_asked_0 11 rfl) ?_
      have r_A_0_7 : (-9223372036854775808 : Int) ≤ (A 0 7) ∧ (A 0 7) ≤ 9223372036854775807 := hI 0 7
      refine x_calli (As := [.long (jI (A 0 7))]) (rest := []) ⟨hx, hb, hml, hown, hts⟩ (mb_X12_isOwn l dC dI cB cI cJ cZ cQ q _ (A 0 7) hI r_A_0_7) (cwV 1 hts (goodV wlq_2_23 wlq_2_24 wlq_2_25 wlq_0_8 wlq_0_43) rfl rfl rfl (by decide +kernel) ⟨Nat.le_of_ble_eq_true rfl, Nat.le_of_ble_eq_true rfl⟩) hK hDD hA0 hP hS 0 12 wm0 rfl rfl hl.1 (Nat.le_of_ble_eq_true rfl) (dk_at dkX12_asked_0 12 rfl) (fun z5 A6 H locs hw7 hP hS => ?_)
      obtain ⟨rfl, hw7⟩ := hw7
      have ghw7 : q_X12_isOwn (A 0 7) A z5 := hw7
      have hw7 := hw7.2
      have rz5 : 0 ≤ z5 ∧ z5 ≤ 1 := hw7.1
      refine lv_if_eq (tgt := 37) hx hb (dk_at dkX12_asked_0 13 rfl) (by decide) (fun c8 => ?_) (fun c8 => ?_)
      · have c8 : z5 = 0 := (i_eq0 (rb rz5 (by decide) (by decide))).mp c8
        exact J37_4 _ _ _ _ (by exact Hd.mk (by  omega)) (fun zq uq hq => (u_r_X12_asked_3 (Or.inl ⟨c1, (Or.inr ⟨c2, ⟨z5, ghw7, (Or.inl ⟨c8, hq⟩)⟩⟩)⟩))) hI (fr.rf) hP hS (lv_sub hl [0, 1] rfl)
      · have c8 : ¬ z5 = 0 := mt (i_eq0 (rb rz5 (by decide) (by decide))).mpr c8
        exact J28_3 _ _ _ (fun zq uq hq => (u_r_X12_asked_3 (Or.inl ⟨c1, (Or.inr ⟨c2, ⟨z5, ghw7, (Or.inr ⟨c8, hq⟩)⟩⟩)⟩))) hP hS (lv_sub hl [0, 1] rfl)
  · have c1 : ¬ (A 0 8) ≤ 0 := mt (i_le0 (rb r_A_0_8 (by decide) (by decide))).mpr c1
    refine lv_iconst (v := iI 0) hx hb (dk_at dkX12_asked_0 3 rfl) (by decide +kernel) ?_
    have r_A_0_4 : (0 : Int) ≤ (A 0 4) ∧ (A 0 4) ≤ 1600 := hI 0 4
    exact RET 0 _ _ _ _ _ ⟨(u_r_X12_asked_3 (Or.inr ⟨c1, ⟨rfl, rfl⟩⟩)), hI, fr.rf, hcCB, ⟨by omega, by omega, by omega, Hd.mk (fun h => absurd h (by omega))⟩⟩ hP hS (dk_at dkX12_asked_0 4 rfl)

abbrev tr_d_X12_asked_4_5 (z22 : Int) (z : Int) (u : St) (A44 : St) : Prop := ((IM A44) ∧ ((((A44 0 8) ≤ 0) ∧ (z = z22 ∧ u = A44)) ∨ ((¬ (A44 0 8) ≤ 0) ∧ (z = 0 ∧ u = A44))))
def d_X12_asked_4_5 (z22 : Int) (z : Int) (u : St) (A44 : St) : Prop := tr_d_X12_asked_4_5 z22 z u A44
theorem u_d_X12_asked_4_5 {z22 : Int} {z : Int} {u : St} {A44 : St} (h : tr_d_X12_asked_4_5 z22 z u A44) : d_X12_asked_4_5 z22 z u A44 := h
abbrev tr_d_X12_asked_4_4 (z22 : Int) (z : Int) (u : St) (A33 : St) : Prop := ((IM A33) ∧ (((¬ (A33 0 8) = 0) ∧ (d_X12_asked_4_5 z22 z u A33)) ∨ (((A33 0 8) = 0) ∧ (∃ A38 : St, q_X12_ahead A33 A38 ∧ (d_X12_asked_4_5 z22 z u A38)))))
def d_X12_asked_4_4 (z22 : Int) (z : Int) (u : St) (A33 : St) : Prop := tr_d_X12_asked_4_4 z22 z u A33
theorem u_d_X12_asked_4_4 {z22 : Int} {z : Int} {u : St} {A33 : St} (h : tr_d_X12_asked_4_4 z22 z u A33) : d_X12_asked_4_4 z22 z u A33 := h
abbrev tr_d_X12_asked_4_3 (A : St) (A14 : St) (z : Int) (u : St) (z22 : Int) : Prop := ((-1 ≤ z22 ∧ z22 ≤ 3) ∧ (((¬ (A14 0 8) = 0) ∧ (d_X12_asked_4_4 z22 z u A14)) ∨ (((A14 0 8) = 0) ∧ (((¬ z22 = (-1)) ∧ (d_X12_asked_4_4 z22 z u A14)) ∨ ((z22 = (-1)) ∧ (∃ A29 : St, q_X12_blame 3 (A 0 4) A14 A29 ∧ (d_X12_asked_4_4 z22 z u A29)))))))
def d_X12_asked_4_3 (A : St) (A14 : St) (z : Int) (u : St) (z22 : Int) : Prop := tr_d_X12_asked_4_3 A A14 z u z22
theorem u_d_X12_asked_4_3 {A : St} {A14 : St} {z : Int} {u : St} {z22 : Int} (h : tr_d_X12_asked_4_3 A A14 z u z22) : d_X12_asked_4_3 A A14 z u z22 := h
abbrev tr_d_X12_asked_4_2 (x1 : Int) (A : St) (z : Int) (u : St) (A14 : St) : Prop := ((IM A14) ∧ ((((A14 0 8) ≤ 0) ∧ (∃ z19 : Int, q_X12_named_4 x1 (A 0 7) A14 z19 ∧ (d_X12_asked_4_3 A A14 z u z19))) ∨ ((¬ (A14 0 8) ≤ 0) ∧ (d_X12_asked_4_3 A A14 z u 0))))
def d_X12_asked_4_2 (x1 : Int) (A : St) (z : Int) (u : St) (A14 : St) : Prop := tr_d_X12_asked_4_2 x1 A z u A14
theorem u_d_X12_asked_4_2 {x1 : Int} {A : St} {z : Int} {u : St} {A14 : St} (h : tr_d_X12_asked_4_2 x1 A z u A14) : d_X12_asked_4_2 x1 A z u A14 := h
abbrev tr_d_X12_asked_4_1 (x1 : Int) (A : St) (z : Int) (u : St) : Prop := (∃ A10 : St, q_X12_blame 1 (A 0 4) A A10 ∧ (d_X12_asked_4_2 x1 A z u A10))
def d_X12_asked_4_1 (x1 : Int) (A : St) (z : Int) (u : St) : Prop := tr_d_X12_asked_4_1 x1 A z u
theorem u_d_X12_asked_4_1 {x1 : Int} {A : St} {z : Int} {u : St} (h : tr_d_X12_asked_4_1 x1 A z u) : d_X12_asked_4_1 x1 A z u := h
abbrev tr_r_X12_asked_4 (x1 : Int) (A : St) (z : Int) (u : St) : Prop := ((((A 0 8) ≤ 0) ∧ (((¬ (A 0 3) = 1) ∧ (d_X12_asked_4_1 x1 A z u)) ∨ (((A 0 3) = 1) ∧ (∃ z5 : Int, q_X12_isOwn (A 0 7) A z5 ∧ (((z5 = 0) ∧ (d_X12_asked_4_2 x1 A z u A)) ∨ ((¬ z5 = 0) ∧ (d_X12_asked_4_1 x1 A z u))))))) ∨ ((¬ (A 0 8) ≤ 0) ∧ (z = 0 ∧ u = A)))
def r_X12_asked_4 (x1 : Int) (A : St) (z : Int) (u : St) : Prop := tr_r_X12_asked_4 x1 A z u
theorem u_r_X12_asked_4 {x1 : Int} {A : St} {z : Int} {u : St} (h : tr_r_X12_asked_4 x1 A z u) : r_X12_asked_4 x1 A z u := h
def q_X12_asked_4 (x1 : Int) (A : St) (z : Int) (u : St) : Prop := r_X12_asked_4 x1 A z u ∧ IM u ∧ fr [] [3, 4, 5, 6, 7, 8, 9] A u ∧ CB u ∧ (0 ≤ z ∧ z ≤ 3 ∧ A 0 4 ≤ u 0 4 ∧ Hd (u 0 8 = 0 → A 0 8 = 0 ∧ A 0 3 = 1 ∧ ownz (A 0 7) = 0 ∧ z = lk (A 20) (4 * A 0 47).toNat (A 0 7) (A 19 (A 0 47).toNat).toNat))
def ws_mb_X12_asked_4 : List Cond := .code yX12_asked cX12_asked 3 (some .int) :: WX
set_option maxHeartbeats 4000000 in
set_option maxRecDepth 100000 in
theorem mb_X12_asked_4 (l : Launch) (dC : Nat → ClassId) (dI : Nat → Nat → Nat) (cB cI cJ cZ cQ : ClassId) (q : Nat → Nat) (A : St) (x1 : Int) (hI : IM A) (hx1 : (4 : Int) ≤ x1 ∧ x1 ≤ 4) (hcCB : CB A) : XMi l yX12_asked ws_mb_X12_asked_4 ({ frames := 2, cells := 0, slots := 0, locals := 48 } : Room) (dC, dI) (tyA cB cI cJ cZ cQ) (WM cI cJ cZ q) A [.ref (q 0), .int (iI x1)] (fun z u => r_X12_asked_4 x1 A z u ∧ IM u ∧ fr [] [3, 4, 5, 6, 7, 8, 9] A u ∧ CB u ∧ (0 ≤ z ∧ z ≤ 3 ∧ A 0 4 ≤ u 0 4 ∧ Hd (u 0 8 = 0 → A 0 8 = 0 ∧ A 0 3 = 1 ∧ ownz (A 0 7) = 0 ∧ z = lk (A 20) (4 * A 0 47).toNat (A 0 7) (A 19 (A 0 47).toNat).toNat))) := by
  refine x_meti (cc := cX12_asked) (maxL := 3) WM_adr (by decide +kernel) rfl (Nat.le_of_ble_eq_true rfl) (fun p e s m below meth c Q AS ls hx hb hml hown hts hK hDD hA0 hP hS hl RET => ?_)
  have hown : s.vm.findClass RX12 = some m.cls := hown
  have hl : lv_has ls 3 [(0, .ref (q 0)), (1, .int (iI x1))] := hl
  have hiX12 : ∀ w ∈ u_ws RX12 TX12 85, w ∈ ws_mb_X12_asked_4 := fun w h => List.mem_cons_of_mem _ (wx_lay w h)
  obtain ⟨H, hHe⟩ : ∃ H : Heap, H = s.heap := ⟨_, rfl⟩
  rw [← hHe] at hP
  have hS : va_S AS s.heap H [] := by rw [hHe]; exact hS
  suffices hgo : ∀ locs : List Loc, va_S AS s.heap H locs → W p l e (headSpec ws_mb_X12_asked_4 ({ frames := 2, cells := 0, slots := 0, locals := 48 } : Room)).room s m [.ref (q 0), .int (iI x1)].toArray below meth c H locs 0 0 Q (F0 m 0 ls []) by
    have := hgo [] hS
    rw [hHe] at this
    exact this
  clear hS hHe
  intro locs hS
  have hle := CB.le hcCB
  refine lv_aload_n hx hb (dk_at dkX12_asked_0 0 rfl) rfl (lv_at hl 0 rfl) ?_
  refine va_get (D := (dC, dI)) (ci := 12) (v := .int (iI (A 0 8))) (C := RX12) (T := TX12) (N := 85) hx hb hts hiX12 hown hK hP 0 wm0 rfl 8 (by decide) (hts _ (List.mem_cons_of_mem _ wlq_0_16)) (fun _ h9 => h9) rfl (dk_at dkX12_asked_0 1 rfl) ?_
  have r_A_0_8 : (0 : Int) ≤ (A 0 8) ∧ (A 0 8) ≤ 5 := hI 0 8
  refine lv_if_le (tgt := 9) hx hb (dk_at dkX12_asked_0 2 rfl) (by decide) (fun c1 => ?_) (fun c1 => ?_)
  · have c1 : (A 0 8) ≤ 0 := (i_le0 (rb r_A_0_8 (by decide) (by decide))).mp c1
    refine lv_aload_n hx hb (dk_at dkX12_asked_0 5 rfl) rfl (lv_at hl 0 rfl) ?_
    refine va_get (D := (dC, dI)) (ci := 12) (v := .int (iI (A 0 3))) (C := RX12) (T := TX12) (N := 85) hx hb hts hiX12 hown hK hP 0 wm0 rfl 3 (by decide) (hts _ (List.mem_cons_of_mem _ wlq_0_24)) (fun _ h9 => h9) rfl (dk_at dkX12_asked_0 6 rfl) ?_
    have r_A_0_3 : (0 : Int) ≤ (A 0 3) ∧ (A 0 3) ≤ 3 := hI 0 3
    refine lv_iconst (v := iI 1) hx hb (dk_at dkX12_asked_0 7 rfl) (by decide +kernel) ?_
    have J37_4 : ∀ (A14 : St) (H : Heap) (locs : List Loc) (ls : Array Slot), (Hd ((A14 0 8) = 0 → A 0 3 = 1 ∧ ownz (A 0 7) = 0)) → (∀ (z : Int) (u : St), (d_X12_asked_4_2 x1 A z u A14) → r_X12_asked_4 x1 A z u) → IM A14 → fr [] [8, 9] A A14 → va_P (dC, dI) vwCl (WM cI cJ cZ q A14) H → va_S AS s.heap H locs → lv_has ls 3 [(0, .ref (q 0)), (1, .int (iI x1))] → W p l e (headSpec ws_mb_X12_asked_4 ({ frames := 2, cells := 0, slots := 0, locals := 48 } : Room)).room s m [.ref (q 0), .int (iI x1)].toArray below meth c H locs 0 0 Q (F0 m 37 ls []) := by
      intro A14 H locs ls f15 hk2 hI hj13 hP hS hl
      have gI16 : Hd (IM A14) := Hd.mk hI
      refine lv_aload_n hx hb (dk_at dkX12_asked_1 3 rfl) rfl (lv_at hl 0 rfl) ?_
      refine va_get (D := (dC, dI)) (ci := 12) (v := .int (iI (A14 0 8))) (C := RX12) (T := TX12) (N := 85) hx hb hts hiX12 hown hK hP 0 wm0 rfl 8 (by decide) (hts _ (List.mem_cons_of_mem _ wlq_0_16)) (fun _ h9 => h9) rfl (dk_at dkX12_asked_1 4 rfl) ?_
      have r_A14_0_8 : (0 : Int) ≤ (A14 0 8) ∧ (A14 0 8) ≤ 5 := hI 0 8
      have J57_18 : ∀ (z22 : Int) (H : Heap) (locs : List Loc) (ls : Array Slot), (-1 ≤ z22 ∧ z22 ≤ 3) → (Hd ((A14 0 8) = 0 → z22 = lk (A 20) (4 * A 0 47).toNat (A 0 7) (A 19 (A 0 47).toNat).toNat)) → (∀ (z : Int) (u : St), (d_X12_asked_4_3 A A14 z u z22) → r_X12_asked_4 x1 A z u) → va_P (dC, dI) vwCl (WM cI cJ cZ q A14) H → va_S AS s.heap H locs → lv_has ls 3 [(0, .ref (q 0)), (1, .int (iI x1))] → W p l e (headSpec ws_mb_X12_asked_4 ({ frames := 2, cells := 0, slots := 0, locals := 48 } : Room)).room s m [.ref (q 0), .int (iI x1)].toArray below meth c H locs 0 0 Q (F0 m 57 ls [.int (iI z22)]) := by
        intro z22 H locs ls f24 f25 hk3 hP hS hl
        refine lv_istore_n (lv' := [(2, .int (iI z22)), (0, .ref (q 0)), (1, .int (iI x1))]) hx hb (dk_at dkX12_asked_1 13 rfl) rfl hl (by decide) rfl (fun ls hl => ?_)
        refine lv_aload_n hx hb (dk_at dkX12_asked_1 14 rfl) rfl (lv_at hl 1 rfl) ?_
        refine va_get (D := (dC, dI)) (ci := 12) (v := .int (iI (A14 0 8))) (C := RX12) (T := TX12) (N := 85) hx hb hts hiX12 hown hK hP 0 wm0 rfl 8 (by decide) (hts _ (List.mem_cons_of_mem _ wlq_0_16)) (fun _ h9 => h9) rfl (dk_at dkX12_asked_1 15 rfl) ?_
        have J79_27 : ∀ (A33 : St) (H : Heap) (locs : List Loc) (ls : Array Slot), (Hd ((A33 0 8) = 0 → (A14 0 8 = 0 ∧ 0 ≤ z22))) → (∀ (z : Int) (u : St), (d_X12_asked_4_4 z22 z u A33) → r_X12_asked_4 x1 A z u) → IM A33 → fr [] [8, 9] A14 A33 → va_P (dC, dI) vwCl (WM cI cJ cZ q A33) H → va_S AS s.heap H locs → lv_has ls 3 [(2, .int (iI z22)), (0, .ref (q 0)), (1, .int (iI x1))] → W p l e (headSpec ws_mb_X12_asked_4 ({ frames := 2, cells := 0, slots := 0, locals := 48 } : Room)).room s m [.ref (q 0), .int (iI x1)].toArray below meth c H locs 0 0 Q (F0 m 79 ls []) := by
          intro A33 H locs ls f34 hk4 hI hj32 hP hS hl
          have gI35 : Hd (IM A33) := Hd.mk hI
          refine lv_aload_n hx hb (dk_at dkX12_asked_2 9 rfl) rfl (lv_at hl 1 rfl) ?_
          refine va_get (D := (dC, dI)) (ci := 12) (v := .int (iI (A33 0 8))) (C := RX12) (T := TX12) (N := 85) hx hb hts hiX12 hown hK hP 0 wm0 rfl 8 (by decide) (hts _ (List.mem_cons_of_mem _ wlq_0_16)) (fun _ h9 => h9) rfl (dk_at dkX12_asked_2 10 rfl) ?_
          have r_A33_0_8 : (0 : Int) ≤ (A33 0 8) ∧ (A33 0 8) ≤ 5 := hI 0 8
          have J90_37 : ∀ (A44 : St) (H : Heap) (locs : List Loc) (ls : Array Slot), (A 0 4 ≤ (A44 0 4)) → (Hd ((A44 0 8) = 0 → A33 0 8 = 0)) → (CB A44) → (∀ (z : Int) (u : St), (d_X12_asked_4_5 z22 z u A44) → r_X12_asked_4 x1 A z u) → IM A44 → fr [] [3, 4, 5, 6, 7, 8, 9] A33 A44 → va_P (dC, dI) vwCl (WM cI cJ cZ q A44) H → va_S AS s.heap H locs → lv_has ls 3 [(2, .int (iI z22)), (0, .ref (q 0)), (1, .int (iI x1))] → W p l e (headSpec ws_mb_X12_asked_4 ({ frames := 2, cells := 0, slots := 0, locals := 48 } : Room)).room s m [.ref (q 0), .int (iI x1)].toArray below meth c H locs 0 0 Q (F0 m 90 ls []) := by
            intro A44 H locs ls f45 f46 hc47 hk5 hI hj43 hP hS hl
            have gI48 : Hd (IM A44) := Hd.mk hI
            refine lv_aload_n hx hb (dk_at dkX12_asked_2 14 rfl) rfl (lv_at hl 1 rfl) ?_
            refine va_get (D := (dC, dI)) (ci := 12) (v := .int (iI (A44 0 8))) (C := RX12) (T := TX12) (N := 85) hx hb hts hiX12 hown hK hP 0 wm0 rfl 8 (by decide) (hts _ (List.mem_cons_of_mem _ wlq_0_16)) (fun _ h9 => h9) rfl (dk_at dkX12_asked_2 15 rfl) ?_
            have r_A44_0_8 : (0 : Int) ≤ (A44 0 8) ∧ (A44 0 8) ≤ 5 := hI 0 8
            refine lv_if_le (tgt := 101) hx hb (dk_at dkX12_asked_3 0 rfl) (by decide) (fun c49 => ?_) (fun c49 => ?_)
            · have c49 : (A44 0 8) ≤ 0 := (i_le0 (rb r_A44_0_8 (by decide) (by decide))).mp c49
              refine lv_iload_n hx hb (dk_at dkX12_asked_3 3 rfl) rfl (lv_at hl 0 rfl) ?_
              have r_A44_0_4 : (0 : Int) ≤ (A44 0 4) ∧ (A44 0 4) ≤ 1600 := hI 0 4
              have hq : Hd (A44 0 8 = 0 → (0 ≤ z22 ∧ A 0 8 = 0 ∧ A 0 3 = 1 ∧ ownz (A 0 7) = 0 ∧ z22 = lk (A 20) (4 * A 0 47).toNat (A 0 7) (A 19 (A 0 47).toNat).toNat)) := Hd.mk (fun h0 => by
                have g4 := f46.out (by omega)
                have g3 := f34.out (by omega)
                have g2 := f25.out (by omega)
                have g1 := f15.out (by omega)
                exact ⟨by omega, by omega, g1.1, g1.2, by omega⟩)
              have hq0 : 0 ≤ z22 := (hq.out (by omega)).1
              exact RET z22 _ _ _ _ _ ⟨hk5 _ _ (u_d_X12_asked_4_5 ⟨gI48.out, (Or.inl ⟨c49, ⟨rfl, rfl⟩⟩)⟩), hI, fr.trans (fr.trans (fr.trans (fr.rf) hj13 rfl rfl) hj32 rfl rfl) hj43 rfl rfl, hc47, ⟨by omega, by omega, by omega, Hd.mk (fun h => (hq.out h).2)⟩⟩ hP hS (dk_at dkX12_asked_3 4 rfl)
            · have c49 : ¬ (A44 0 8) ≤ 0 := mt (i_le0 (rb r_A44_0_8 (by decide) (by decide))).mpr c49
              refine lv_iconst (v := iI 0) hx hb (dk_at dkX12_asked_3 1 rfl) (by decide +kernel) ?_
              refine lv_goto (tgt := 102) hx hb (dk_at dkX12_asked_3 2 rfl) (by decide) ?_
              have r_A44_0_4 : (0 : Int) ≤ (A44 0 4) ∧ (A44 0 4) ≤ 1600 := hI 0 4
              have hq : Hd (A44 0 8 = 0 → (0 ≤ 0 ∧ A 0 8 = 0 ∧ A 0 3 = 1 ∧ ownz (A 0 7) = 0 ∧ 0 = lk (A 20) (4 * A 0 47).toNat (A 0 7) (A 19 (A 0 47).toNat).toNat)) := Hd.mk (fun h0 => by
                have g4 := f46.out (by omega)
                have g3 := f34.out (by omega)
                have g2 := f25.out (by omega)
                have g1 := f15.out (by omega)
                exact ⟨by omega, by omega, g1.1, g1.2, by omega⟩)
              exact RET 0 _ _ _ _ _ ⟨hk5 _ _ (u_d_X12_asked_4_5 ⟨gI48.out, (Or.inr ⟨c49, ⟨rfl, rfl⟩⟩)⟩), hI, fr.trans (fr.trans (fr.trans (fr.rf) hj13 rfl rfl) hj32 rfl rfl) hj43 rfl rfl, hc47, ⟨by omega, by omega, by omega, Hd.mk (fun h => (hq.out h).2)⟩⟩ hP hS (dk_at dkX12_asked_3 4 rfl)
          refine lv_if_ne (tgt := 90) hx hb (dk_at dkX12_asked_2 11 rfl) (by decide) (fun c36 => ?_) (fun c36 => ?_)
          · have c36 : ¬ (A33 0 8) = 0 := mt (i_eq0 (rb r_A33_0_8 (by decide) (by decide))).mpr c36
            have e_A14_4 : A14 0 4 = (A 0 4) := (hj13.2 4 rfl)
            have e_A33_4 : A33 0 4 = (A 0 4) := (hj32.2 4 rfl).trans e_A14_4
            have r_A_0_4 : (0 : Int) ≤ (A 0 4) ∧ (A 0 4) ≤ 1600 := by rw [← e_A33_4]; exact hI 0 4
            exact J90_37 _ _ _ _ (by omega) (by exact Hd.mk (by  omega)) (CB.fr (CB.fr hcCB hj13 rfl rfl) hj32 rfl rfl) (fun zq uq hq => hk4 _ _ (u_d_X12_asked_4_4 ⟨gI35.out, (Or.inl ⟨c36, hq⟩)⟩)) hI (fr.rf) hP hS (lv_sub hl [0, 1, 2] rfl)
          · have c36 : (A33 0 8) = 0 := (i_eq0 (rb r_A33_0_8 (by decide) (by decide))).mp c36
            refine lv_aload_n hx hb (dk_at dkX12_asked_2 12 rfl) rfl (lv_at hl 1 rfl) ?_
            have e_A14_4 : A14 0 4 = (A 0 4) := (hj13.2 4 rfl)
            have e_A33_4 : A33 0 4 = (A 0 4) := (hj32.2 4 rfl).trans e_A14_4
            have r_A_0_4 : (0 : Int) ≤ (A 0 4) ∧ (A 0 4) ≤ 1600 := by rw [← e_A33_4]; exact hI 0 4
            have e_A14_5 : A14 0 5 = (A 0 5) := (hj13.2 5 rfl)
            have e_A33_5 : A33 0 5 = (A 0 5) := (hj32.2 5 rfl).trans e_A14_5
            have r_A_0_5 : (0 : Int) ≤ (A 0 5) ∧ (A 0 5) ≤ 1600 := by rw [← e_A33_5]; exact hI 0 5
            refine x_callv (As := []) (rest := []) ⟨hx, hb, hml, hown, hts⟩ (mb_X12_ahead l dC dI cB cI cJ cZ cQ q _ hI) (cwV 0 hts (goodV wlq_0_40 wlq_0_41 wlq_0_42 wlq_0_8 wlq_0_20) rfl rfl rfl (by decide +kernel) ⟨Nat.le_of_ble_eq_true rfl, Nat.le_of_ble_eq_true rfl⟩) hK hDD hA0 hP hS 0 12 wm0 rfl rfl hl.1 (Nat.le_of_ble_eq_true rfl) (dk_at dkX12_asked_2 13 rfl) (fun A38 H locs hw39 hP hS => ?_)
            have ghw39 : q_X12_ahead A33 A38 := hw39
            obtain ⟨_, hI, hf40, hw39⟩ := hw39
            have r_A38_0_3 : (0 : Int) ≤ (A38 0 3) ∧ (A38 0 3) ≤ 3 := hI 0 3
            have r_A38_0_4 : (0 : Int) ≤ (A38 0 4) ∧ (A38 0 4) ≤ 1600 := hI 0 4
            have r_A38_0_5 : (0 : Int) ≤ (A38 0 5) ∧ (A38 0 5) ≤ 1600 := hI 0 5
            have r_A38_0_8 : (0 : Int) ≤ (A38 0 8) ∧ (A38 0 8) ≤ 5 := hI 0 8
            have hv41 := CB.le (CB.fr (CB.fr hcCB hj13 rfl rfl) hj32 rfl rfl)
            have hc42 := CB.ahead (CB.fr (CB.fr hcCB hj13 rfl rfl) hj32 rfl rfl) (hf40.2 46 rfl) hw39.1 hw39.2.1 hw39.2.2.1
            exact J90_37 _ _ _ _ (by omega) (by exact Hd.mk (by  omega)) hc42 (fun zq uq hq => hk4 _ _ (u_d_X12_asked_4_4 ⟨gI35.out, (Or.inr ⟨c36, ⟨A38, ghw39, hq⟩⟩)⟩)) hI (fr.trans (fr.rf) hf40 rfl rfl) hP hS (lv_sub hl [0, 1, 2] rfl)
        refine lv_if_ne (tgt := 79) hx hb (dk_at dkX12_asked_2 0 rfl) (by decide) (fun c26 => ?_) (fun c26 => ?_)
        · have c26 : ¬ (A14 0 8) = 0 := mt (i_eq0 (rb r_A14_0_8 (by decide) (by decide))).mpr c26
          exact J79_27 _ _ _ _ (by exact Hd.mk (by  omega)) (fun zq uq hq => hk3 _ _ (u_d_X12_asked_4_3 ⟨f24, (Or.inl ⟨c26, hq⟩)⟩)) hI (fr.rf) hP hS (lv_sub hl [0, 1, 2] rfl)
        · have c26 : (A14 0 8) = 0 := (i_eq0 (rb r_A14_0_8 (by decide) (by decide))).mp c26
          refine lv_iload_n hx hb (dk_at dkX12_asked_2 1 rfl) rfl (lv_at hl 0 rfl) ?_
          refine lv_iconst (v := iI (-1)) hx hb (dk_at dkX12_asked_2 2 rfl) (by decide +kernel) ?_
          refine lv_icmp_ne (tgt := 79) hx hb (dk_at dkX12_asked_2 3 rfl) (by decide) (fun c28 => ?_) (fun c28 => ?_)
          · have c28 : ¬ z22 = (-1) := mt (i_eq (rb f24 (by decide) (by decide)) ⟨by decide, by decide⟩).mpr c28
            exact J79_27 _ _ _ _ (by exact Hd.mk (by  omega)) (fun zq uq hq => hk3 _ _ (u_d_X12_asked_4_3 ⟨f24, (Or.inr ⟨c26, (Or.inl ⟨c28, hq⟩)⟩)⟩)) hI (fr.rf) hP hS (lv_sub hl [0, 1, 2] rfl)
          · have c28 : z22 = (-1) := (i_eq (rb f24 (by decide) (by decide)) ⟨by decide, by decide⟩).mp c28
            refine lv_aload_n hx hb (dk_at dkX12_asked_2 4 rfl) rfl (lv_at hl 1 rfl) ?_
            refine lv_iconst (v := iI 3) hx hb (dk_at dkX12_asked_2 5 rfl) (by decide +kernel) ?_
            refine lv_aload_n hx hb (dk_at dkX12_asked_2 6 rfl) rfl (lv_at hl 1 rfl) ?_
            have e_A14_4 : A14 0 4 = (A 0 4) := (hj13.2 4 rfl)
            refine va_get (D := (dC, dI)) (ci := 12) (v := .int (iI (A14 0 4))) (C := RX12) (T := TX12) (N := 85) hx hb hts hiX12 hown hK hP 0 wm0 rfl 4 (by decide) (hts _ (List.mem_cons_of_mem _ wlq_0_23)) (fun _ h9 => h9) rfl (dk_at dkX12_asked_2 7 rfl) ?_
            refine tp_i (y := iI (A 0 4)) (congrArg iI e_A14_4) ?_
            have r_A_0_4 : (0 : Int) ≤ (A 0 4) ∧ (A 0 4) ≤ 1600 := by rw [← e_A14_4]; exact hI 0 4
            refine x_callv (As := [.int (iI 3), .int (iI (A 0 4))]) (rest := []) ⟨hx, hb, hml, hown, hts⟩ (mc_X12_blame l dC dI cB cI cJ cZ cQ q _ 3 (A 0 4) hI ⟨by decide, by decide⟩ r_A_0_4) (cwV 2 hts (goodV wlq_0_31 wlq_0_32 wlq_0_33 wlq_0_8 wlq_0_15) rfl rfl rfl (by decide +kernel) ⟨Nat.le_of_ble_eq_true rfl, Nat.le_of_ble_eq_true rfl⟩) hK hDD hA0 hP hS 0 12 wm0 rfl rfl hl.1 (Nat.le_of_ble_eq_true rfl) (dk_at dkX12_asked_2 8 rfl) (fun A29 H locs hw30 hP hS => ?_)
            have ghw30 : q_X12_blame 3 (A 0 4) A14 A29 := hw30
            obtain ⟨_, hI, hf31, hw30⟩ := hw30
            have r_A29_0_8 : (0 : Int) ≤ (A29 0 8) ∧ (A29 0 8) ≤ 5 := hI 0 8
            exact J79_27 _ _ _ _ (by exact Hd.mk (by  omega)) (fun zq uq hq => hk3 _ _ (u_d_X12_asked_4_3 ⟨f24, (Or.inr ⟨c26, (Or.inr ⟨c28, ⟨A29, ghw30, hq⟩⟩)⟩)⟩)) hI (fr.trans (fr.rf) hf31 rfl rfl) hP hS (lv_sub hl [0, 1, 2] rfl)
      refine lv_if_le (tgt := 48) hx hb (dk_at dkX12_asked_1 5 rfl) (by decide) (fun c17 => ?_) (fun c17 => ?_)
      · have c17 : (A14 0 8) ≤ 0 := (i_le0 (rb r_A14_0_8 (by decide) (by decide))).mp c17
        refine lv_aload_n hx hb (dk_at dkX12_asked_1 8 rfl) rfl (lv_at hl 0 rfl) ?_
        refine lv_iload_n hx hb (dk_at dkX12_asked_1 9 rfl) rfl (lv_at hl 1 rfl) ?_
        refine lv_aload_n hx hb (dk_at dkX12_asked_1 10 rfl) rfl (lv_at hl 0 rfl) ?_
        have e_A14_7 : A14 0 7 = (A 0 7) := (hj13.2 7 rfl)
        refine va_get (D := (dC, dI)) (ci := 12) (v := .long (jI (A14 0 7))) (C := RX12) (T := TX12) (N := 85) hx hb hts hiX12 hown hK hP 0 wm0 rfl 7 (by decide) (hts _ (List.mem_cons_of_mem _ wlq_0_26)) (fun _ h9 => h9) rfl (dk_at dkX12_asked_1 11 rfl) ?_
        refine tp_l (y := jI (A 0 7)) (congrArg jI e_A14_7) ?_
        have r_A_0_7 : (-9223372036854775808 : Int) ≤ (A 0 7) ∧ (A 0 7) ≤ 9223372036854775807 := by rw [← e_A14_7]; exact hI 0 7
        have e_A14_47 : A14 0 47 = (A 0 47) := (hj13.2 47 rfl)
        have r_A_0_47 : (0 : Int) ≤ (A 0 47) ∧ (A 0 47) ≤ 1 := by rw [← e_A14_47]; exact hI 0 47
        refine x_calli (As := [.int (iI x1), .long (jI (A 0 7))]) (rest := []) ⟨hx, hb, hml, hown, hts⟩ (mb_X12_named_4 l dC dI cB cI cJ cZ cQ q _ x1 (A 0 7) hI hx1 r_A_0_7) (cwV 2 hts (goodV wlq_2_26 wlq_2_27 wlq_2_28 wlq_0_8 wlq_1_10) rfl rfl rfl (by decide +kernel) ⟨Nat.le_of_ble_eq_true rfl, Nat.le_of_ble_eq_true rfl⟩) hK hDD hA0 hP hS 0 12 wm0 rfl rfl hl.1 (Nat.le_of_ble_eq_true rfl) (dk_at dkX12_asked_1 12 rfl) (fun z19 A20 H locs hw21 hP hS => ?_)
        obtain ⟨rfl, hw21⟩ := hw21
        have ghw21 : q_X12_named_4 x1 (A 0 7) A14 z19 := hw21
        have hw21 := hw21.2
        have a_A14_20 : A14 20 = A 20 := (hj13.1 20 (by decide) rfl)
        have a_A14_19 : A14 19 = A 19 := (hj13.1 19 (by decide) rfl)
        rw [a_A14_20, a_A14_19, e_A14_47] at hw21
        exact J57_18 z19 _ _ _ (by omega) (by exact Hd.mk (by  omega)) (fun zq uq hq => hk2 _ _ (u_d_X12_asked_4_2 ⟨gI16.out, (Or.inl ⟨c17, ⟨z19, ghw21, hq⟩⟩)⟩)) hP hS (lv_sub hl [0, 1] rfl)
      · have c17 : ¬ (A14 0 8) ≤ 0 := mt (i_le0 (rb r_A14_0_8 (by decide) (by decide))).mpr c17
        refine lv_iconst (v := iI 0) hx hb (dk_at dkX12_asked_1 6 rfl) (by decide +kernel) ?_
        refine lv_goto (tgt := 57) hx hb (dk_at dkX12_asked_1 7 rfl) (by decide) ?_
        exact J57_18 0 _ _ _ (by omega) (by exact Hd.mk (by  omega)) (fun zq uq hq => hk2 _ _ (u_d_X12_asked_4_2 ⟨gI16.out, (Or.inr ⟨c17, hq⟩)⟩)) hP hS (lv_sub hl [0, 1] rfl)
    have J28_3 : ∀ (H : Heap) (locs : List Loc) (ls : Array Slot), (∀ (z : Int) (u : St), (d_X12_asked_4_1 x1 A z u) → r_X12_asked_4 x1 A z u) → va_P (dC, dI) vwCl (WM cI cJ cZ q A) H → va_S AS s.heap H locs → lv_has ls 3 [(0, .ref (q 0)), (1, .int (iI x1))] → W p l e (headSpec ws_mb_X12_asked_4 ({ frames := 2, cells := 0, slots := 0, locals := 48 } : Room)).room s m [.ref (q 0), .int (iI x1)].toArray below meth c H locs 0 0 Q (F0 m 28 ls []) := by
      intro H locs ls hk1 hP hS hl
      refine lv_aload_n hx hb (dk_at dkX12_asked_0 14 rfl) rfl (lv_at hl 0 rfl) ?_
      refine lv_iconst (v := iI 1) hx hb (dk_at dkX12_asked_0 15 rfl) (by decide +kernel) ?_
      refine lv_aload_n hx hb (dk_at dkX12_asked_1 0 rfl) rfl (lv_at hl 0 rfl) ?_
      refine va_get (D := (dC, dI)) (ci := 12) (v := .int (iI (A 0 4))) (C := RX12) (T := TX12) (N := 85) hx hb hts hiX12 hown hK hP 0 wm0 rfl 4 (by decide) (hts _ (List.mem_cons_of_mem _ wlq_0_23)) (fun _ h9 => h9) rfl (dk_at dkX12_asked_1 1 rfl) ?_
      have r_A_0_4 : (0 : Int) ≤ (A 0 4) ∧ (A 0 4) ≤ 1600 := hI 0 4
      refine x_callv (As := [.int (iI 1), .int (iI (A 0 4))]) (rest := []) ⟨hx, hb, hml, hown, hts⟩ (mc_X12_blame l dC dI cB cI cJ cZ cQ q _ 1 (A 0 4) hI ⟨by decide, by decide⟩ r_A_0_4) (cwV 2 hts (goodV wlq_0_31 wlq_0_32 wlq_0_33 wlq_0_8 wlq_0_15) rfl rfl rfl (by decide +kernel) ⟨Nat.le_of_ble_eq_true rfl, Nat.le_of_ble_eq_true rfl⟩) hK hDD hA0 hP hS 0 12 wm0 rfl rfl hl.1 (Nat.le_of_ble_eq_true rfl) (dk_at dkX12_asked_1 2 rfl) (fun A10 H locs hw11 hP hS => ?_)
      have ghw11 : q_X12_blame 1 (A 0 4) A A10 := hw11
      obtain ⟨_, hI, hf12, hw11⟩ := hw11
      have r_A10_0_8 : (0 : Int) ≤ (A10 0 8) ∧ (A10 0 8) ≤ 5 := hI 0 8
      exact J37_4 _ _ _ _ (by exact Hd.mk (by  omega)) (fun zq uq hq => hk1 _ _ (u_d_X12_asked_4_1 ⟨A10, ghw11, hq⟩)) hI (fr.trans (fr.rf) hf12 rfl rfl) hP hS (lv_sub hl [0, 1] rfl)
    refine lv_icmp_ne (tgt := 28) hx hb (dk_at dkX12_asked_0 8 rfl) (by decide) (fun c2 => ?_) (fun c2 => ?_)
    · have c2 : ¬ (A 0 3) = 1 := mt (i_eq (rb r_A_0_3 (by decide) (by decide)) ⟨by decide, by decide⟩).mpr c2
      exact J28_3 _ _ _ (fun zq uq hq => (u_r_X12_asked_4 (Or.inl ⟨c1, (Or.inl ⟨c2, hq⟩)⟩))) hP hS (lv_sub hl [0, 1] rfl)
    · have c2 : (A 0 3) = 1 := (i_eq (rb r_A_0_3 (by decide) (by decide)) ⟨by decide, by decide⟩).mp c2
      refine lv_aload_n hx hb (dk_at dkX12_asked_0 9 rfl) rfl (lv_at hl 0 rfl) ?_
      refine lv_aload_n hx hb (dk_at dkX12_asked_0 10 rfl) rfl (lv_at hl 0 rfl) ?_
      refine va_get (D := (dC, dI)) (ci := 12) (v := .long (jI (A 0 7))) (C := RX12) (T := TX12) (N := 85) hx hb hts hiX12 hown hK hP 0 wm0 rfl 7 (by decide) (hts _ (List.mem_cons_of_mem _ wlq_0_26)) (fun _ h9 => h9) rfl (dk_at dkX12_asked_0 11 rfl) ?_
      have r_A_0_7 : (-9223372036854775808 : Int) ≤ (A 0 7) ∧ (A 0 7) ≤ 9223372036854775807 := hI 0 7
      refine x_calli (As := [.long (jI (A 0 7))]) (rest := []) ⟨hx, hb, hml, hown, hts⟩ (mb_X12_isOwn l dC dI cB cI cJ cZ cQ q _ (A 0 7) hI r_A_0_7) (cwV 1 hts (goodV wlq_2_23 wlq_2_24 wlq_2_25 wlq_0_8 wlq_0_43) rfl rfl rfl (by decide +kernel) ⟨Nat.le_of_ble_eq_true rfl, Nat.le_of_ble_eq_true rfl⟩) hK hDD hA0 hP hS 0 12 wm0 rfl rfl hl.1 (Nat.le_of_ble_eq_true rfl) (dk_at dkX12_asked_0 12 rfl) (fun z5 A6 H locs hw7 hP hS => ?_)
      obtain ⟨rfl, hw7⟩ := hw7
      have ghw7 : q_X12_isOwn (A 0 7) A z5 := hw7
      have hw7 := hw7.2
      have rz5 : 0 ≤ z5 ∧ z5 ≤ 1 := hw7.1
      refine lv_if_eq (tgt := 37) hx hb (dk_at dkX12_asked_0 13 rfl) (by decide) (fun c8 => ?_) (fun c8 => ?_)
      · have c8 : z5 = 0 := (i_eq0 (rb rz5 (by decide) (by decide))).mp c8
        exact J37_4 _ _ _ _ (by exact Hd.mk (by  omega)) (fun zq uq hq => (u_r_X12_asked_4 (Or.inl ⟨c1, (Or.inr ⟨c2, ⟨z5, ghw7, (Or.inl ⟨c8, hq⟩)⟩⟩)⟩))) hI (fr.rf) hP hS (lv_sub hl [0, 1] rfl)
      · have c8 : ¬ z5 = 0 := mt (i_eq0 (rb rz5 (by decide) (by decide))).mpr c8
        exact J28_3 _ _ _ (fun zq uq hq => (u_r_X12_asked_4 (Or.inl ⟨c1, (Or.inr ⟨c2, ⟨z5, ghw7, (Or.inr ⟨c8, hq⟩)⟩⟩)⟩))) hP hS (lv_sub hl [0, 1] rfl)
  · have c1 : ¬ (A 0 8) ≤ 0 := mt (i_le0 (rb r_A_0_8 (by decide) (by decide))).mpr c1
    refine lv_iconst (v := iI 0) hx hb (dk_at dkX12_asked_0 3 rfl) (by decide +kernel) ?_
    have r_A_0_4 : (0 : Int) ≤ (A 0 4) ∧ (A 0 4) ≤ 1600 := hI 0 4
    exact RET 0 _ _ _ _ _ ⟨(u_r_X12_asked_4 (Or.inr ⟨c1, ⟨rfl, rfl⟩⟩)), hI, fr.rf, hcCB, ⟨by omega, by omega, by omega, Hd.mk (fun h => absurd h (by omega))⟩⟩ hP hS (dk_at dkX12_asked_0 4 rfl)

abbrev tr_d_X12_must_1 (u : St) (A10 : St) : Prop := ((IM A10) ∧ (((¬ (A10 0 8) = 0) ∧ (u = A10)) ∨ (((A10 0 8) = 0) ∧ (∃ A13 : St, q_X12_ahead A10 A13 ∧ (u = A13)))))
def d_X12_must_1 (u : St) (A10 : St) : Prop := tr_d_X12_must_1 u A10
theorem u_d_X12_must_1 {u : St} {A10 : St} (h : tr_d_X12_must_1 u A10) : d_X12_must_1 u A10 := h
abbrev tr_r_X12_must (x1 : Int) (A : St) (u : St) : Prop := (∃ z1 : Int, q_X12_isSign x1 A z1 ∧ (((¬ z1 = 0) ∧ (d_X12_must_1 u A)) ∨ ((z1 = 0) ∧ (∃ A6 : St, q_X12_blame 1 (A 0 4) A A6 ∧ (d_X12_must_1 u A6)))))
def r_X12_must (x1 : Int) (A : St) (u : St) : Prop := tr_r_X12_must x1 A u
theorem u_r_X12_must {x1 : Int} {A : St} {u : St} (h : tr_r_X12_must x1 A u) : r_X12_must x1 A u := h
def q_X12_must (x1 : Int) (A : St) (u : St) : Prop := r_X12_must x1 A u ∧ IM u ∧ fr [] [3, 4, 5, 6, 7, 8, 9] A u ∧ CB u ∧ (A 0 4 ≤ u 0 4)
def ws_mb_X12_must : List Cond := .code yX12_must cX12_must 2 none :: WX
set_option maxHeartbeats 4000000 in
set_option maxRecDepth 100000 in
theorem mb_X12_must (l : Launch) (dC : Nat → ClassId) (dI : Nat → Nat → Nat) (cB cI cJ cZ cQ : ClassId) (q : Nat → Nat) (A : St) (x1 : Int) (hI : IM A) (hx1 : (-2147483648 : Int) ≤ x1 ∧ x1 ≤ 2147483647) (hcCB : CB A) : XMv l yX12_must ws_mb_X12_must ({ frames := 2, cells := 0, slots := 0, locals := 47 } : Room) (dC, dI) (tyA cB cI cJ cZ cQ) (WM cI cJ cZ q) A [.ref (q 0), .int (iI x1)] (fun u => r_X12_must x1 A u ∧ IM u ∧ fr [] [3, 4, 5, 6, 7, 8, 9] A u ∧ CB u ∧ (A 0 4 ≤ u 0 4)) := by
  refine x_metv (cc := cX12_must) (maxL := 2) WM_adr (by decide +kernel) rfl (Nat.le_of_ble_eq_true rfl) (fun p e s m below meth c Q AS ls hx hb hml hown hts hK hDD hA0 hP hS hl RET => ?_)
  have hown : s.vm.findClass RX12 = some m.cls := hown
  have hl : lv_has ls 2 [(0, .ref (q 0)), (1, .int (iI x1))] := hl
  have hiX12 : ∀ w ∈ u_ws RX12 TX12 85, w ∈ ws_mb_X12_must := fun w h => List.mem_cons_of_mem _ (wx_lay w h)
  obtain ⟨H, hHe⟩ : ∃ H : Heap, H = s.heap := ⟨_, rfl⟩
  rw [← hHe] at hP
  have hS : va_S AS s.heap H [] := by rw [hHe]; exact hS
  suffices hgo : ∀ locs : List Loc, va_S AS s.heap H locs → W p l e (headSpec ws_mb_X12_must ({ frames := 2, cells := 0, slots := 0, locals := 47 } : Room)).room s m [.ref (q 0), .int (iI x1)].toArray below meth c H locs 0 0 Q (F0 m 0 ls []) by
    have := hgo [] hS
    rw [hHe] at this
    exact this
  clear hS hHe
  intro locs hS
  have hle := CB.le hcCB
  refine lv_aload_n hx hb (dk_at dkX12_must_0 0 rfl) rfl (lv_at hl 0 rfl) ?_
  refine lv_iload_n hx hb (dk_at dkX12_must_0 1 rfl) rfl (lv_at hl 1 rfl) ?_
  have r_A_0_3 : (0 : Int) ≤ (A 0 3) ∧ (A 0 3) ≤ 3 := hI 0 3
  have r_A_0_6 : (-2147483648 : Int) ≤ (A 0 6) ∧ (A 0 6) ≤ 2147483647 := hI 0 6
  refine x_calli (As := [.int (iI x1)]) (rest := []) ⟨hx, hb, hml, hown, hts⟩ (mb_X12_isSign l dC dI cB cI cJ cZ cQ q _ x1 hI hx1) (cwV 1 hts (goodV wlq_0_37 wlq_0_38 wlq_0_39 wlq_0_8 wlq_0_34) rfl rfl rfl (by decide +kernel) ⟨Nat.le_of_ble_eq_true rfl, Nat.le_of_ble_eq_true rfl⟩) hK hDD hA0 hP hS 0 12 wm0 rfl rfl hl.1 (Nat.le_of_ble_eq_true rfl) (dk_at dkX12_must_0 2 rfl) (fun z1 A2 H locs hw3 hP hS => ?_)
  obtain ⟨rfl, hw3⟩ := hw3
  have ghw3 : q_X12_isSign x1 A z1 := hw3
  have hw3 := hw3.2
  have rz1 : 0 ≤ z1 ∧ z1 ≤ 1 := hw3.1
  have J17_5 : ∀ (A10 : St) (H : Heap) (locs : List Loc) (ls : Array Slot), (∀ (u : St), (d_X12_must_1 u A10) → r_X12_must x1 A u) → IM A10 → fr [] [8, 9] A A10 → va_P (dC, dI) vwCl (WM cI cJ cZ q A10) H → va_S AS s.heap H locs → lv_has ls 2 [(0, .ref (q 0)), (1, .int (iI x1))] → W p l e (headSpec ws_mb_X12_must ({ frames := 2, cells := 0, slots := 0, locals := 47 } : Room)).room s m [.ref (q 0), .int (iI x1)].toArray below meth c H locs 0 0 Q (F0 m 17 ls []) := by
    intro A10 H locs ls hk1 hI hj9 hP hS hl
    have gI11 : Hd (IM A10) := Hd.mk hI
    refine lv_aload_n hx hb (dk_at dkX12_must_0 9 rfl) rfl (lv_at hl 0 rfl) ?_
    refine va_get (D := (dC, dI)) (ci := 12) (v := .int (iI (A10 0 8))) (C := RX12) (T := TX12) (N := 85) hx hb hts hiX12 hown hK hP 0 wm0 rfl 8 (by decide) (hts _ (List.mem_cons_of_mem _ wlq_0_16)) (fun _ h9 => h9) rfl (dk_at dkX12_must_0 10 rfl) ?_
    have r_A10_0_8 : (0 : Int) ≤ (A10 0 8) ∧ (A10 0 8) ≤ 5 := hI 0 8
    refine lv_if_ne (tgt := 28) hx hb (dk_at dkX12_must_0 11 rfl) (by decide) (fun c12 => ?_) (fun c12 => ?_)
    · have c12 : ¬ (A10 0 8) = 0 := mt (i_eq0 (rb r_A10_0_8 (by decide) (by decide))).mpr c12
      have e_A10_4 : A10 0 4 = (A 0 4) := (hj9.2 4 rfl)
      have r_A_0_4 : (0 : Int) ≤ (A 0 4) ∧ (A 0 4) ≤ 1600 := by rw [← e_A10_4]; exact hI 0 4
      exact RET _ _ _ _ _ ⟨hk1 _ (u_d_X12_must_1 ⟨gI11.out, (Or.inl ⟨c12, rfl⟩)⟩), hI, fr.trans (fr.rf) hj9 rfl rfl, (CB.fr hcCB hj9 rfl rfl), by omega⟩ hP hS (dk_at dkX12_must_0 14 rfl)
    · have c12 : (A10 0 8) = 0 := (i_eq0 (rb r_A10_0_8 (by decide) (by decide))).mp c12
      refine lv_aload_n hx hb (dk_at dkX12_must_0 12 rfl) rfl (lv_at hl 0 rfl) ?_
      have e_A10_4 : A10 0 4 = (A 0 4) := (hj9.2 4 rfl)
      have r_A_0_4 : (0 : Int) ≤ (A 0 4) ∧ (A 0 4) ≤ 1600 := by rw [← e_A10_4]; exact hI 0 4
      have e_A10_5 : A10 0 5 = (A 0 5) := (hj9.2 5 rfl)
      have r_A_0_5 : (0 : Int) ≤ (A 0 5) ∧ (A 0 5) ≤ 1600 := by rw [← e_A10_5]; exact hI 0 5
      refine x_callv (As := []) (rest := []) ⟨hx, hb, hml, hown, hts⟩ (mb_X12_ahead l dC dI cB cI cJ cZ cQ q _ hI) (cwV 0 hts (goodV wlq_0_40 wlq_0_41 wlq_0_42 wlq_0_8 wlq_0_20) rfl rfl rfl (by decide +kernel) ⟨Nat.le_of_ble_eq_true rfl, Nat.le_of_ble_eq_true rfl⟩) hK hDD hA0 hP hS 0 12 wm0 rfl rfl hl.1 (Nat.le_of_ble_eq_true rfl) (dk_at dkX12_must_0 13 rfl) (fun A13 H locs hw14 hP hS => ?_)
      have ghw14 : q_X12_ahead A10 A13 := hw14
      obtain ⟨_, hI, hf15, hw14⟩ := hw14
      have r_A13_0_3 : (0 : Int) ≤ (A13 0 3) ∧ (A13 0 3) ≤ 3 := hI 0 3
      have r_A13_0_4 : (0 : Int) ≤ (A13 0 4) ∧ (A13 0 4) ≤ 1600 := hI 0 4
      have r_A13_0_5 : (0 : Int) ≤ (A13 0 5) ∧ (A13 0 5) ≤ 1600 := hI 0 5
      have r_A13_0_8 : (0 : Int) ≤ (A13 0 8) ∧ (A13 0 8) ≤ 5 := hI 0 8
      have hv16 := CB.le (CB.fr hcCB hj9 rfl rfl)
      have hc17 := CB.ahead (CB.fr hcCB hj9 rfl rfl) (hf15.2 46 rfl) hw14.1 hw14.2.1 hw14.2.2.1
      exact RET _ _ _ _ _ ⟨hk1 _ (u_d_X12_must_1 ⟨gI11.out, (Or.inr ⟨c12, ⟨A13, ghw14, rfl⟩⟩)⟩), hI, fr.trans (fr.trans (fr.rf) hj9 rfl rfl) hf15 rfl rfl, hc17, by omega⟩ hP hS (dk_at dkX12_must_0 14 rfl)
  refine lv_if_ne (tgt := 17) hx hb (dk_at dkX12_must_0 3 rfl) (by decide) (fun c4 => ?_) (fun c4 => ?_)
  · have c4 : ¬ z1 = 0 := mt (i_eq0 (rb rz1 (by decide) (by decide))).mpr c4
    exact J17_5 _ _ _ _ (fun uq hq => (u_r_X12_must ⟨z1, ghw3, (Or.inl ⟨c4, hq⟩)⟩)) hI (fr.rf) hP hS (lv_sub hl [0, 1] rfl)
  · have c4 : z1 = 0 := (i_eq0 (rb rz1 (by decide) (by decide))).mp c4
    refine lv_aload_n hx hb (dk_at dkX12_must_0 4 rfl) rfl (lv_at hl 0 rfl) ?_
    refine lv_iconst (v := iI 1) hx hb (dk_at dkX12_must_0 5 rfl) (by decide +kernel) ?_
    refine lv_aload_n hx hb (dk_at dkX12_must_0 6 rfl) rfl (lv_at hl 0 rfl) ?_
    refine va_get (D := (dC, dI)) (ci := 12) (v := .int (iI (A 0 4))) (C := RX12) (T := TX12) (N := 85) hx hb hts hiX12 hown hK hP 0 wm0 rfl 4 (by decide) (hts _ (List.mem_cons_of_mem _ wlq_0_23)) (fun _ h9 => h9) rfl (dk_at dkX12_must_0 7 rfl) ?_
    have r_A_0_4 : (0 : Int) ≤ (A 0 4) ∧ (A 0 4) ≤ 1600 := hI 0 4
    refine x_callv (As := [.int (iI 1), .int (iI (A 0 4))]) (rest := []) ⟨hx, hb, hml, hown, hts⟩ (mc_X12_blame l dC dI cB cI cJ cZ cQ q _ 1 (A 0 4) hI ⟨by decide, by decide⟩ r_A_0_4) (cwV 2 hts (goodV wlq_0_31 wlq_0_32 wlq_0_33 wlq_0_8 wlq_0_15) rfl rfl rfl (by decide +kernel) ⟨Nat.le_of_ble_eq_true rfl, Nat.le_of_ble_eq_true rfl⟩) hK hDD hA0 hP hS 0 12 wm0 rfl rfl hl.1 (Nat.le_of_ble_eq_true rfl) (dk_at dkX12_must_0 8 rfl) (fun A6 H locs hw7 hP hS => ?_)
    have ghw7 : q_X12_blame 1 (A 0 4) A A6 := hw7
    obtain ⟨_, hI, hf8, hw7⟩ := hw7
    have r_A6_0_8 : (0 : Int) ≤ (A6 0 8) ∧ (A6 0 8) ≤ 5 := hI 0 8
    exact J17_5 _ _ _ _ (fun uq hq => (u_r_X12_must ⟨z1, ghw3, (Or.inr ⟨c4, ⟨A6, ghw7, hq⟩⟩)⟩)) hI (fr.trans (fr.rf) hf8 rfl rfl) hP hS (lv_sub hl [0, 1] rfl)

abbrev tr_d_X12_must__1 (u : St) (A11 : St) : Prop := ((IM A11) ∧ (((¬ (A11 0 8) = 0) ∧ (u = A11)) ∨ (((A11 0 8) = 0) ∧ (∃ A14 : St, q_X12_ahead A11 A14 ∧ (u = A14)))))
def d_X12_must__1 (u : St) (A11 : St) : Prop := tr_d_X12_must__1 u A11
theorem u_d_X12_must__1 {u : St} {A11 : St} (h : tr_d_X12_must__1 u A11) : d_X12_must__1 u A11 := h
abbrev tr_r_X12_must_ (x1 : Int) (A : St) (u : St) : Prop := ((((A 0 8) ≤ 0) ∧ (∃ z2 : Int, q_X12_isWord x1 A z2 ∧ (((¬ z2 = 0) ∧ (d_X12_must__1 u A)) ∨ ((z2 = 0) ∧ (∃ A7 : St, q_X12_blame 1 (A 0 4) A A7 ∧ (d_X12_must__1 u A7)))))) ∨ ((¬ (A 0 8) ≤ 0) ∧ (u = A)))
def r_X12_must_ (x1 : Int) (A : St) (u : St) : Prop := tr_r_X12_must_ x1 A u
theorem u_r_X12_must_ {x1 : Int} {A : St} {u : St} (h : tr_r_X12_must_ x1 A u) : r_X12_must_ x1 A u := h
def q_X12_must_ (x1 : Int) (A : St) (u : St) : Prop := r_X12_must_ x1 A u ∧ IM u ∧ fr [] [3, 4, 5, 6, 7, 8, 9] A u ∧ CB u ∧ (A 0 4 ≤ u 0 4)
def ws_mb_X12_must_ : List Cond := .code yX12_must_ cX12_must_ 3 none :: WX
set_option maxHeartbeats 4000000 in
set_option maxRecDepth 100000 in
theorem mb_X12_must_ (l : Launch) (dC : Nat → ClassId) (dI : Nat → Nat → Nat) (cB cI cJ cZ cQ : ClassId) (q : Nat → Nat) (A : St) (x1 : Int) (hI : IM A) (hx1 : (-9223372036854775808 : Int) ≤ x1 ∧ x1 ≤ 9223372036854775807) (hcCB : CB A) : XMv l yX12_must_ ws_mb_X12_must_ ({ frames := 2, cells := 0, slots := 0, locals := 47 } : Room) (dC, dI) (tyA cB cI cJ cZ cQ) (WM cI cJ cZ q) A [.ref (q 0), .long (jI x1)] (fun u => r_X12_must_ x1 A u ∧ IM u ∧ fr [] [3, 4, 5, 6, 7, 8, 9] A u ∧ CB u ∧ (A 0 4 ≤ u 0 4)) := by
  refine x_metv (cc := cX12_must_) (maxL := 3) WM_adr (by decide +kernel) rfl (Nat.le_of_ble_eq_true rfl) (fun p e s m below meth c Q AS ls hx hb hml hown hts hK hDD hA0 hP hS hl RET => ?_)
  have hown : s.vm.findClass RX12 = some m.cls := hown
  have hl : lv_has ls 3 [(0, .ref (q 0)), (1, .long (jI x1))] := hl
  have hiX12 : ∀ w ∈ u_ws RX12 TX12 85, w ∈ ws_mb_X12_must_ := fun w h => List.mem_cons_of_mem _ (wx_lay w h)
  obtain ⟨H, hHe⟩ : ∃ H : Heap, H = s.heap := ⟨_, rfl⟩
  rw [← hHe] at hP
  have hS : va_S AS s.heap H [] := by rw [hHe]; exact hS
  suffices hgo : ∀ locs : List Loc, va_S AS s.heap H locs → W p l e (headSpec ws_mb_X12_must_ ({ frames := 2, cells := 0, slots := 0, locals := 47 } : Room)).room s m [.ref (q 0), .long (jI x1)].toArray below meth c H locs 0 0 Q (F0 m 0 ls []) by
    have := hgo [] hS
    rw [hHe] at this
    exact this
  clear hS hHe
  intro locs hS
  have hle := CB.le hcCB
  refine lv_aload_n hx hb (dk_at dkX12_must__0 0 rfl) rfl (lv_at hl 0 rfl) ?_
  refine va_get (D := (dC, dI)) (ci := 12) (v := .int (iI (A 0 8))) (C := RX12) (T := TX12) (N := 85) hx hb hts hiX12 hown hK hP 0 wm0 rfl 8 (by decide) (hts _ (List.mem_cons_of_mem _ wlq_0_16)) (fun _ h9 => h9) rfl (dk_at dkX12_must__0 1 rfl) ?_
  have r_A_0_8 : (0 : Int) ≤ (A 0 8) ∧ (A 0 8) ≤ 5 := hI 0 8
  refine lv_if_le (tgt := 8) hx hb (dk_at dkX12_must__0 2 rfl) (by decide) (fun c1 => ?_) (fun c1 => ?_)
  · have c1 : (A 0 8) ≤ 0 := (i_le0 (rb r_A_0_8 (by decide) (by decide))).mp c1
    refine lv_aload_n hx hb (dk_at dkX12_must__0 4 rfl) rfl (lv_at hl 0 rfl) ?_
    refine lv_lload_n hx hb (dk_at dkX12_must__0 5 rfl) rfl (lv_at hl 1 rfl) ?_
    have r_A_0_3 : (0 : Int) ≤ (A 0 3) ∧ (A 0 3) ≤ 3 := hI 0 3
    have r_A_0_7 : (-9223372036854775808 : Int) ≤ (A 0 7) ∧ (A 0 7) ≤ 9223372036854775807 := hI 0 7
    refine x_calli (As := [.long (jI x1)]) (rest := []) ⟨hx, hb, hml, hown, hts⟩ (mb_X12_isWord l dC dI cB cI cJ cZ cQ q _ x1 hI hx1) (cwV 1 hts (goodV wlq_1_59 wlq_2_0 wlq_2_1 wlq_0_8 wlq_0_35) rfl rfl rfl (by decide +kernel) ⟨Nat.le_of_ble_eq_true rfl, Nat.le_of_ble_eq_true rfl⟩) hK hDD hA0 hP hS 0 12 wm0 rfl rfl hl.1 (Nat.le_of_ble_eq_true rfl) (dk_at dkX12_must__0 6 rfl) (fun z2 A3 H locs hw4 hP hS => ?_)
    obtain ⟨rfl, hw4⟩ := hw4
    have ghw4 : q_X12_isWord x1 A z2 := hw4
    have hw4 := hw4.2
    have rz2 : 0 ≤ z2 ∧ z2 ≤ 1 := hw4.1
    have J25_6 : ∀ (A11 : St) (H : Heap) (locs : List Loc) (ls : Array Slot), (∀ (u : St), (d_X12_must__1 u A11) → r_X12_must_ x1 A u) → IM A11 → fr [] [8, 9] A A11 → va_P (dC, dI) vwCl (WM cI cJ cZ q A11) H → va_S AS s.heap H locs → lv_has ls 3 [(0, .ref (q 0)), (1, .long (jI x1))] → W p l e (headSpec ws_mb_X12_must_ ({ frames := 2, cells := 0, slots := 0, locals := 47 } : Room)).room s m [.ref (q 0), .long (jI x1)].toArray below meth c H locs 0 0 Q (F0 m 25 ls []) := by
      intro A11 H locs ls hk1 hI hj10 hP hS hl
      have gI12 : Hd (IM A11) := Hd.mk hI
      refine lv_aload_n hx hb (dk_at dkX12_must__0 13 rfl) rfl (lv_at hl 0 rfl) ?_
      refine va_get (D := (dC, dI)) (ci := 12) (v := .int (iI (A11 0 8))) (C := RX12) (T := TX12) (N := 85) hx hb hts hiX12 hown hK hP 0 wm0 rfl 8 (by decide) (hts _ (List.mem_cons_of_mem _ wlq_0_16)) (fun _ h9 => h9) rfl (dk_at dkX12_must__0 14 rfl) ?_
      have r_A11_0_8 : (0 : Int) ≤ (A11 0 8) ∧ (A11 0 8) ≤ 5 := hI 0 8
      refine lv_if_ne (tgt := 36) hx hb (dk_at dkX12_must__0 15 rfl) (by decide) (fun c13 => ?_) (fun c13 => ?_)
      · have c13 : ¬ (A11 0 8) = 0 := mt (i_eq0 (rb r_A11_0_8 (by decide) (by decide))).mpr c13
        have e_A11_4 : A11 0 4 = (A 0 4) := (hj10.2 4 rfl)
        have r_A_0_4 : (0 : Int) ≤ (A 0 4) ∧ (A 0 4) ≤ 1600 := by rw [← e_A11_4]; exact hI 0 4
        exact RET _ _ _ _ _ ⟨hk1 _ (u_d_X12_must__1 ⟨gI12.out, (Or.inl ⟨c13, rfl⟩)⟩), hI, fr.trans (fr.rf) hj10 rfl rfl, (CB.fr hcCB hj10 rfl rfl), by omega⟩ hP hS (dk_at dkX12_must__1 2 rfl)
      · have c13 : (A11 0 8) = 0 := (i_eq0 (rb r_A11_0_8 (by decide) (by decide))).mp c13
        refine lv_aload_n hx hb (dk_at dkX12_must__1 0 rfl) rfl (lv_at hl 0 rfl) ?_
        have e_A11_4 : A11 0 4 = (A 0 4) := (hj10.2 4 rfl)
        have r_A_0_4 : (0 : Int) ≤ (A 0 4) ∧ (A 0 4) ≤ 1600 := by rw [← e_A11_4]; exact hI 0 4
        have e_A11_5 : A11 0 5 = (A 0 5) := (hj10.2 5 rfl)
        have r_A_0_5 : (0 : Int) ≤ (A 0 5) ∧ (A 0 5) ≤ 1600 := by rw [← e_A11_5]; exact hI 0 5
        refine x_callv (As := []) (rest := []) ⟨hx, hb, hml, hown, hts⟩ (mb_X12_ahead l dC dI cB cI cJ cZ cQ q _ hI) (cwV 0 hts (goodV wlq_0_40 wlq_0_41 wlq_0_42 wlq_0_8 wlq_0_20) rfl rfl rfl (by decide +kernel) ⟨Nat.le_of_ble_eq_true rfl, Nat.le_of_ble_eq_true rfl⟩) hK hDD hA0 hP hS 0 12 wm0 rfl rfl hl.1 (Nat.le_of_ble_eq_true rfl) (dk_at dkX12_must__1 1 rfl) (fun A14 H locs hw15 hP hS => ?_)
        have ghw15 : q_X12_ahead A11 A14 := hw15
        obtain ⟨_, hI, hf16, hw15⟩ := hw15
        have r_A14_0_3 : (0 : Int) ≤ (A14 0 3) ∧ (A14 0 3) ≤ 3 := hI 0 3
        have r_A14_0_4 : (0 : Int) ≤ (A14 0 4) ∧ (A14 0 4) ≤ 1600 := hI 0 4
        have r_A14_0_5 : (0 : Int) ≤ (A14 0 5) ∧ (A14 0 5) ≤ 1600 := hI 0 5
        have r_A14_0_8 : (0 : Int) ≤ (A14 0 8) ∧ (A14 0 8) ≤ 5 := hI 0 8
        have hv17 := CB.le (CB.fr hcCB hj10 rfl rfl)
        have hc18 := CB.ahead (CB.fr hcCB hj10 rfl rfl) (hf16.2 46 rfl) hw15.1 hw15.2.1 hw15.2.2.1
        exact RET _ _ _ _ _ ⟨hk1 _ (u_d_X12_must__1 ⟨gI12.out, (Or.inr ⟨c13, ⟨A14, ghw15, rfl⟩⟩)⟩), hI, fr.trans (fr.trans (fr.rf) hj10 rfl rfl) hf16 rfl rfl, hc18, by omega⟩ hP hS (dk_at dkX12_must__1 2 rfl)
    refine lv_if_ne (tgt := 25) hx hb (dk_at dkX12_must__0 7 rfl) (by decide) (fun c5 => ?_) (fun c5 => ?_)
    · have c5 : ¬ z2 = 0 := mt (i_eq0 (rb rz2 (by decide) (by decide))).mpr c5
      exact J25_6 _ _ _ _ (fun uq hq => (u_r_X12_must_ (Or.inl ⟨c1, ⟨z2, ghw4, (Or.inl ⟨c5, hq⟩)⟩⟩))) hI (fr.rf) hP hS (lv_sub hl [0, 1] rfl)
    · have c5 : z2 = 0 := (i_eq0 (rb rz2 (by decide) (by decide))).mp c5
      refine lv_aload_n hx hb (dk_at dkX12_must__0 8 rfl) rfl (lv_at hl 0 rfl) ?_
      refine lv_iconst (v := iI 1) hx hb (dk_at dkX12_must__0 9 rfl) (by decide +kernel) ?_
      refine lv_aload_n hx hb (dk_at dkX12_must__0 10 rfl) rfl (lv_at hl 0 rfl) ?_
      refine va_get (D := (dC, dI)) (ci := 12) (v := .int (iI (A 0 4))) (C := RX12) (T := TX12) (N := 85) hx hb hts hiX12 hown hK hP 0 wm0 rfl 4 (by decide) (hts _ (List.mem_cons_of_mem _ wlq_0_23)) (fun _ h9 => h9) rfl (dk_at dkX12_must__0 11 rfl) ?_
      have r_A_0_4 : (0 : Int) ≤ (A 0 4) ∧ (A 0 4) ≤ 1600 := hI 0 4
      refine x_callv (As := [.int (iI 1), .int (iI (A 0 4))]) (rest := []) ⟨hx, hb, hml, hown, hts⟩ (mc_X12_blame l dC dI cB cI cJ cZ cQ q _ 1 (A 0 4) hI ⟨by decide, by decide⟩ r_A_0_4) (cwV 2 hts (goodV wlq_0_31 wlq_0_32 wlq_0_33 wlq_0_8 wlq_0_15) rfl rfl rfl (by decide +kernel) ⟨Nat.le_of_ble_eq_true rfl, Nat.le_of_ble_eq_true rfl⟩) hK hDD hA0 hP hS 0 12 wm0 rfl rfl hl.1 (Nat.le_of_ble_eq_true rfl) (dk_at dkX12_must__0 12 rfl) (fun A7 H locs hw8 hP hS => ?_)
      have ghw8 : q_X12_blame 1 (A 0 4) A A7 := hw8
      obtain ⟨_, hI, hf9, hw8⟩ := hw8
      have r_A7_0_8 : (0 : Int) ≤ (A7 0 8) ∧ (A7 0 8) ≤ 5 := hI 0 8
      exact J25_6 _ _ _ _ (fun uq hq => (u_r_X12_must_ (Or.inl ⟨c1, ⟨z2, ghw4, (Or.inr ⟨c5, ⟨A7, ghw8, hq⟩⟩)⟩⟩))) hI (fr.trans (fr.rf) hf9 rfl rfl) hP hS (lv_sub hl [0, 1] rfl)
  · have c1 : ¬ (A 0 8) ≤ 0 := mt (i_le0 (rb r_A_0_8 (by decide) (by decide))).mpr c1
    have r_A_0_4 : (0 : Int) ≤ (A 0 4) ∧ (A 0 4) ≤ 1600 := hI 0 4
    exact RET _ _ _ _ _ ⟨(u_r_X12_must_ (Or.inr ⟨c1, rfl⟩)), hI, fr.rf, hcCB, by omega⟩ hP hS (dk_at dkX12_must__0 3 rfl)

abbrev tr_d_X12_counts_2 (z : Int) (u : St) (A19 : St) : Prop := ((IM A19) ∧ (((¬ (A19 0 8) = 0) ∧ (z = 0 ∧ u = A19)) ∨ (((A19 0 8) = 0) ∧ (z = 1 ∧ u = A19))))
def d_X12_counts_2 (z : Int) (u : St) (A19 : St) : Prop := tr_d_X12_counts_2 z u A19
theorem u_d_X12_counts_2 {z : Int} {u : St} {A19 : St} (h : tr_d_X12_counts_2 z u A19) : d_X12_counts_2 z u A19 := h
abbrev tr_d_X12_counts_1 (z : Int) (u : St) (A8 : St) : Prop := ((IM A8) ∧ (((¬ (A8 0 8) = 0) ∧ (d_X12_counts_2 z u A8)) ∨ (((A8 0 8) = 0) ∧ (∃ A13 : St, q_X12_ahead A8 A13 ∧ (d_X12_counts_2 z u A13)))))
def d_X12_counts_1 (z : Int) (u : St) (A8 : St) : Prop := tr_d_X12_counts_1 z u A8
theorem u_d_X12_counts_1 {z : Int} {u : St} {A8 : St} (h : tr_d_X12_counts_1 z u A8) : d_X12_counts_1 z u A8 := h
abbrev tr_r_X12_counts (x1 : Int) (A : St) (z : Int) (u : St) : Prop := (((¬ (A 0 8) = 0) ∧ (d_X12_counts_1 z u A)) ∨ (((A 0 8) = 0) ∧ (((x1 = 0) ∧ (d_X12_counts_1 z u A)) ∨ ((¬ x1 = 0) ∧ (∃ A4 : St, q_X12_blame 5 (A 0 4) A A4 ∧ (d_X12_counts_1 z u A4))))))
def r_X12_counts (x1 : Int) (A : St) (z : Int) (u : St) : Prop := tr_r_X12_counts x1 A z u
theorem u_r_X12_counts {x1 : Int} {A : St} {z : Int} {u : St} (h : tr_r_X12_counts x1 A z u) : r_X12_counts x1 A z u := h
def q_X12_counts (x1 : Int) (A : St) (z : Int) (u : St) : Prop := r_X12_counts x1 A z u ∧ IM u ∧ fr [] [3, 4, 5, 6, 7, 8, 9] A u ∧ CB u ∧ ((0 ≤ z ∧ z ≤ 1) ∧ ((z = 1 → x1 = 0 ∧ u 0 8 = 0 ∧ A 0 5 ≤ u 0 4) ∧ (z = 0 → 1 ≤ u 0 8) ∧ A 0 4 ≤ u 0 4))
def ws_mb_X12_counts : List Cond := .code yX12_counts cX12_counts 2 (some .boolean) :: WX
set_option maxHeartbeats 4000000 in
set_option maxRecDepth 100000 in
theorem mb_X12_counts (l : Launch) (dC : Nat → ClassId) (dI : Nat → Nat → Nat) (cB cI cJ cZ cQ : ClassId) (q : Nat → Nat) (A : St) (x1 : Int) (hI : IM A) (hx1 : (0 : Int) ≤ x1 ∧ x1 ≤ 1) (hcCB : CB A) : XMi l yX12_counts ws_mb_X12_counts ({ frames := 2, cells := 0, slots := 0, locals := 47 } : Room) (dC, dI) (tyA cB cI cJ cZ cQ) (WM cI cJ cZ q) A [.ref (q 0), .int (iI x1)] (fun z u => r_X12_counts x1 A z u ∧ IM u ∧ fr [] [3, 4, 5, 6, 7, 8, 9] A u ∧ CB u ∧ ((0 ≤ z ∧ z ≤ 1) ∧ ((z = 1 → x1 = 0 ∧ u 0 8 = 0 ∧ A 0 5 ≤ u 0 4) ∧ (z = 0 → 1 ≤ u 0 8) ∧ A 0 4 ≤ u 0 4))) := by
  refine x_metz (cc := cX12_counts) (maxL := 2) WM_adr (by decide +kernel) rfl (Nat.le_of_ble_eq_true rfl) (fun z u h => h.2.2.2.2.1) (fun p e s m below meth c Q AS ls hx hb hml hown hts hK hDD hA0 hP hS hl RET => ?_)
  have hown : s.vm.findClass RX12 = some m.cls := hown
  have hl : lv_has ls 2 [(0, .ref (q 0)), (1, .int (iI x1))] := hl
  have hiX12 : ∀ w ∈ u_ws RX12 TX12 85, w ∈ ws_mb_X12_counts := fun w h => List.mem_cons_of_mem _ (wx_lay w h)
  obtain ⟨H, hHe⟩ : ∃ H : Heap, H = s.heap := ⟨_, rfl⟩
  rw [← hHe] at hP
  have hS : va_S AS s.heap H [] := by rw [hHe]; exact hS
  suffices hgo : ∀ locs : List Loc, va_S AS s.heap H locs → W p l e (headSpec ws_mb_X12_counts ({ frames := 2, cells := 0, slots := 0, locals := 47 } : Room)).room s m [.ref (q 0), .int (iI x1)].toArray below meth c H locs 0 0 Q (F0 m 0 ls []) by
    have := hgo [] hS
    rw [hHe] at this
    exact this
  clear hS hHe
  intro locs hS
  have hle := CB.le hcCB
  refine lv_aload_n hx hb (dk_at dkX12_counts_0 0 rfl) rfl (lv_at hl 0 rfl) ?_
  refine va_get (D := (dC, dI)) (ci := 12) (v := .int (iI (A 0 8))) (C := RX12) (T := TX12) (N := 85) hx hb hts hiX12 hown hK hP 0 wm0 rfl 8 (by decide) (hts _ (List.mem_cons_of_mem _ wlq_0_16)) (fun _ h9 => h9) rfl (dk_at dkX12_counts_0 1 rfl) ?_
  have r_A_0_8 : (0 : Int) ≤ (A 0 8) ∧ (A 0 8) ≤ 5 := hI 0 8
  have J20_2 : ∀ (A8 : St) (H : Heap) (locs : List Loc) (ls : Array Slot), ((A8 0 8) = 0 → x1 = 0) → (∀ (z : Int) (u : St), (d_X12_counts_1 z u A8) → r_X12_counts x1 A z u) → IM A8 → fr [] [8, 9] A A8 → va_P (dC, dI) vwCl (WM cI cJ cZ q A8) H → va_S AS s.heap H locs → lv_has ls 2 [(0, .ref (q 0)), (1, .int (iI x1))] → W p l e (headSpec ws_mb_X12_counts ({ frames := 2, cells := 0, slots := 0, locals := 47 } : Room)).room s m [.ref (q 0), .int (iI x1)].toArray below meth c H locs 0 0 Q (F0 m 20 ls []) := by
    intro A8 H locs ls f9 hk1 hI hj7 hP hS hl
    have gI10 : Hd (IM A8) := Hd.mk hI
    refine lv_aload_n hx hb (dk_at dkX12_counts_0 10 rfl) rfl (lv_at hl 0 rfl) ?_
    refine va_get (D := (dC, dI)) (ci := 12) (v := .int (iI (A8 0 8))) (C := RX12) (T := TX12) (N := 85) hx hb hts hiX12 hown hK hP 0 wm0 rfl 8 (by decide) (hts _ (List.mem_cons_of_mem _ wlq_0_16)) (fun _ h9 => h9) rfl (dk_at dkX12_counts_0 11 rfl) ?_
    have r_A8_0_8 : (0 : Int) ≤ (A8 0 8) ∧ (A8 0 8) ≤ 5 := hI 0 8
    have J31_12 : ∀ (A19 : St) (H : Heap) (locs : List Loc) (ls : Array Slot), (A 0 4 ≤ (A19 0 4)) → ((A19 0 8) = 0 → (x1 = 0 ∧ A 0 5 ≤ (A19 0 4))) → (CB A19) → (∀ (z : Int) (u : St), (d_X12_counts_2 z u A19) → r_X12_counts x1 A z u) → IM A19 → fr [] [3, 4, 5, 6, 7, 8, 9] A8 A19 → va_P (dC, dI) vwCl (WM cI cJ cZ q A19) H → va_S AS s.heap H locs → lv_has ls 2 [(0, .ref (q 0)), (1, .int (iI x1))] → W p l e (headSpec ws_mb_X12_counts ({ frames := 2, cells := 0, slots := 0, locals := 47 } : Room)).room s m [.ref (q 0), .int (iI x1)].toArray below meth c H locs 0 0 Q (F0 m 31 ls []) := by
      intro A19 H locs ls f20 f21 hc22 hk2 hI hj18 hP hS hl
      have gI23 : Hd (IM A19) := Hd.mk hI
      refine lv_aload_n hx hb (dk_at dkX12_counts_0 15 rfl) rfl (lv_at hl 0 rfl) ?_
      refine va_get (D := (dC, dI)) (ci := 12) (v := .int (iI (A19 0 8))) (C := RX12) (T := TX12) (N := 85) hx hb hts hiX12 hown hK hP 0 wm0 rfl 8 (by decide) (hts _ (List.mem_cons_of_mem _ wlq_0_16)) (fun _ h9 => h9) rfl (dk_at dkX12_counts_1 0 rfl) ?_
      have r_A19_0_8 : (0 : Int) ≤ (A19 0 8) ∧ (A19 0 8) ≤ 5 := hI 0 8
      refine lv_if_ne (tgt := 42) hx hb (dk_at dkX12_counts_1 1 rfl) (by decide) (fun c24 => ?_) (fun c24 => ?_)
      · have c24 : ¬ (A19 0 8) = 0 := mt (i_eq0 (rb r_A19_0_8 (by decide) (by decide))).mpr c24
        refine lv_iconst (v := iI 0) hx hb (dk_at dkX12_counts_1 4 rfl) (by decide +kernel) ?_
        have r_A19_0_4 : (0 : Int) ≤ (A19 0 4) ∧ (A19 0 4) ≤ 1600 := hI 0 4
        exact RET 0 _ _ _ _ _ ⟨hk2 _ _ (u_d_X12_counts_2 ⟨gI23.out, (Or.inl ⟨c24, ⟨rfl, rfl⟩⟩)⟩), hI, fr.trans (fr.trans (fr.rf) hj7 rfl rfl) hj18 rfl rfl, hc22, by omega⟩ hP hS (dk_at dkX12_counts_1 5 rfl)
      · have c24 : (A19 0 8) = 0 := (i_eq0 (rb r_A19_0_8 (by decide) (by decide))).mp c24
        refine lv_iconst (v := iI 1) hx hb (dk_at dkX12_counts_1 2 rfl) (by decide +kernel) ?_
        refine lv_goto (tgt := 43) hx hb (dk_at dkX12_counts_1 3 rfl) (by decide) ?_
        have r_A19_0_4 : (0 : Int) ≤ (A19 0 4) ∧ (A19 0 4) ≤ 1600 := hI 0 4
        exact RET 1 _ _ _ _ _ ⟨hk2 _ _ (u_d_X12_counts_2 ⟨gI23.out, (Or.inr ⟨c24, ⟨rfl, rfl⟩⟩)⟩), hI, fr.trans (fr.trans (fr.rf) hj7 rfl rfl) hj18 rfl rfl, hc22, by omega⟩ hP hS (dk_at dkX12_counts_1 5 rfl)
    refine lv_if_ne (tgt := 31) hx hb (dk_at dkX12_counts_0 12 rfl) (by decide) (fun c11 => ?_) (fun c11 => ?_)
    · have c11 : ¬ (A8 0 8) = 0 := mt (i_eq0 (rb r_A8_0_8 (by decide) (by decide))).mpr c11
      have e_A8_4 : A8 0 4 = (A 0 4) := (hj7.2 4 rfl)
      have r_A_0_4 : (0 : Int) ≤ (A 0 4) ∧ (A 0 4) ≤ 1600 := by rw [← e_A8_4]; exact hI 0 4
      exact J31_12 _ _ _ _ (by omega) (by omega) (CB.fr hcCB hj7 rfl rfl) (fun zq uq hq => hk1 _ _ (u_d_X12_counts_1 ⟨gI10.out, (Or.inl ⟨c11, hq⟩)⟩)) hI (fr.rf) hP hS (lv_sub hl [0, 1] rfl)
    · have c11 : (A8 0 8) = 0 := (i_eq0 (rb r_A8_0_8 (by decide) (by decide))).mp c11
      refine lv_aload_n hx hb (dk_at dkX12_counts_0 13 rfl) rfl (lv_at hl 0 rfl) ?_
      have e_A8_4 : A8 0 4 = (A 0 4) := (hj7.2 4 rfl)
      have r_A_0_4 : (0 : Int) ≤ (A 0 4) ∧ (A 0 4) ≤ 1600 := by rw [← e_A8_4]; exact hI 0 4
      have e_A8_5 : A8 0 5 = (A 0 5) := (hj7.2 5 rfl)
      have r_A_0_5 : (0 : Int) ≤ (A 0 5) ∧ (A 0 5) ≤ 1600 := by rw [← e_A8_5]; exact hI 0 5
      refine x_callv (As := []) (rest := []) ⟨hx, hb, hml, hown, hts⟩ (mb_X12_ahead l dC dI cB cI cJ cZ cQ q _ hI) (cwV 0 hts (goodV wlq_0_40 wlq_0_41 wlq_0_42 wlq_0_8 wlq_0_20) rfl rfl rfl (by decide +kernel) ⟨Nat.le_of_ble_eq_true rfl, Nat.le_of_ble_eq_true rfl⟩) hK hDD hA0 hP hS 0 12 wm0 rfl rfl hl.1 (Nat.le_of_ble_eq_true rfl) (dk_at dkX12_counts_0 14 rfl) (fun A13 H locs hw14 hP hS => ?_)
      have ghw14 : q_X12_ahead A8 A13 := hw14
      obtain ⟨_, hI, hf15, hw14⟩ := hw14
      have r_A13_0_3 : (0 : Int) ≤ (A13 0 3) ∧ (A13 0 3) ≤ 3 := hI 0 3
      have r_A13_0_4 : (0 : Int) ≤ (A13 0 4) ∧ (A13 0 4) ≤ 1600 := hI 0 4
      have r_A13_0_5 : (0 : Int) ≤ (A13 0 5) ∧ (A13 0 5) ≤ 1600 := hI 0 5
      have r_A13_0_8 : (0 : Int) ≤ (A13 0 8) ∧ (A13 0 8) ≤ 5 := hI 0 8
      have hv16 := CB.le (CB.fr hcCB hj7 rfl rfl)
      have hc17 := CB.ahead (CB.fr hcCB hj7 rfl rfl) (hf15.2 46 rfl) hw14.1 hw14.2.1 hw14.2.2.1
      exact J31_12 _ _ _ _ (by omega) (by omega) hc17 (fun zq uq hq => hk1 _ _ (u_d_X12_counts_1 ⟨gI10.out, (Or.inr ⟨c11, ⟨A13, ghw14, hq⟩⟩)⟩)) hI (fr.trans (fr.rf) hf15 rfl rfl) hP hS (lv_sub hl [0, 1] rfl)
  refine lv_if_ne (tgt := 20) hx hb (dk_at dkX12_counts_0 2 rfl) (by decide) (fun c1 => ?_) (fun c1 => ?_)
  · have c1 : ¬ (A 0 8) = 0 := mt (i_eq0 (rb r_A_0_8 (by decide) (by decide))).mpr c1
    exact J20_2 _ _ _ _ (by omega) (fun zq uq hq => (u_r_X12_counts (Or.inl ⟨c1, hq⟩))) hI (fr.rf) hP hS (lv_sub hl [0, 1] rfl)
  · have c1 : (A 0 8) = 0 := (i_eq0 (rb r_A_0_8 (by decide) (by decide))).mp c1
    refine lv_iload_n hx hb (dk_at dkX12_counts_0 3 rfl) rfl (lv_at hl 1 rfl) ?_
    refine lv_if_eq (tgt := 20) hx hb (dk_at dkX12_counts_0 4 rfl) (by decide) (fun c3 => ?_) (fun c3 => ?_)
    · have c3 : x1 = 0 := (i_eq0 (rb hx1 (by decide) (by decide))).mp c3
      exact J20_2 _ _ _ _ (by omega) (fun zq uq hq => (u_r_X12_counts (Or.inr ⟨c1, (Or.inl ⟨c3, hq⟩)⟩))) hI (fr.rf) hP hS (lv_sub hl [0, 1] rfl)
    · have c3 : ¬ x1 = 0 := mt (i_eq0 (rb hx1 (by decide) (by decide))).mpr c3
      refine lv_aload_n hx hb (dk_at dkX12_counts_0 5 rfl) rfl (lv_at hl 0 rfl) ?_
      refine lv_iconst (v := iI 5) hx hb (dk_at dkX12_counts_0 6 rfl) (by decide +kernel) ?_
      refine lv_aload_n hx hb (dk_at dkX12_counts_0 7 rfl) rfl (lv_at hl 0 rfl) ?_
      refine va_get (D := (dC, dI)) (ci := 12) (v := .int (iI (A 0 4))) (C := RX12) (T := TX12) (N := 85) hx hb hts hiX12 hown hK hP 0 wm0 rfl 4 (by decide) (hts _ (List.mem_cons_of_mem _ wlq_0_23)) (fun _ h9 => h9) rfl (dk_at dkX12_counts_0 8 rfl) ?_
      have r_A_0_4 : (0 : Int) ≤ (A 0 4) ∧ (A 0 4) ≤ 1600 := hI 0 4
      refine x_callv (As := [.int (iI 5), .int (iI (A 0 4))]) (rest := []) ⟨hx, hb, hml, hown, hts⟩ (mc_X12_blame l dC dI cB cI cJ cZ cQ q _ 5 (A 0 4) hI ⟨by decide, by decide⟩ r_A_0_4) (cwV 2 hts (goodV wlq_0_31 wlq_0_32 wlq_0_33 wlq_0_8 wlq_0_15) rfl rfl rfl (by decide +kernel) ⟨Nat.le_of_ble_eq_true rfl, Nat.le_of_ble_eq_true rfl⟩) hK hDD hA0 hP hS 0 12 wm0 rfl rfl hl.1 (Nat.le_of_ble_eq_true rfl) (dk_at dkX12_counts_0 9 rfl) (fun A4 H locs hw5 hP hS => ?_)
      have ghw5 : q_X12_blame 5 (A 0 4) A A4 := hw5
      obtain ⟨_, hI, hf6, hw5⟩ := hw5
      have r_A4_0_8 : (0 : Int) ≤ (A4 0 8) ∧ (A4 0 8) ≤ 5 := hI 0 8
      exact J20_2 _ _ _ _ (by omega) (fun zq uq hq => (u_r_X12_counts (Or.inr ⟨c1, (Or.inr ⟨c3, ⟨A4, ghw5, hq⟩⟩)⟩))) hI (fr.trans (fr.rf) hf6 rfl rfl) hP hS (lv_sub hl [0, 1] rfl)

abbrev tr_d_X12_number_2 (A : St) (z : Int) (u : St) (A20 : St) : Prop := ((IM A20) ∧ (((¬ (A20 0 8) = 0) ∧ (z = (A 0 6) ∧ u = A20)) ∨ (((A20 0 8) = 0) ∧ (∃ A23 : St, q_X12_ahead A20 A23 ∧ (z = (A 0 6) ∧ u = A23)))))
def d_X12_number_2 (A : St) (z : Int) (u : St) (A20 : St) : Prop := tr_d_X12_number_2 A z u A20
theorem u_d_X12_number_2 {A : St} {z : Int} {u : St} {A20 : St} (h : tr_d_X12_number_2 A z u A20) : d_X12_number_2 A z u A20 := h
abbrev tr_d_X12_number_1 (x1 : Int) (x2 : Int) (A : St) (z : Int) (u : St) (A8 : St) : Prop := ((IM A8) ∧ (((¬ (A8 0 8) = 0) ∧ (d_X12_number_2 A z u A8)) ∨ (((A8 0 8) = 0) ∧ (∃ z12 : Int, q_X12_is (A 0 6) x1 x2 A8 z12 ∧ (((¬ z12 = 0) ∧ (d_X12_number_2 A z u A8)) ∨ ((z12 = 0) ∧ (∃ A16 : St, q_X12_blame 4 (A 0 4) A8 A16 ∧ (d_X12_number_2 A z u A16))))))))
def d_X12_number_1 (x1 : Int) (x2 : Int) (A : St) (z : Int) (u : St) (A8 : St) : Prop := tr_d_X12_number_1 x1 x2 A z u A8
theorem u_d_X12_number_1 {x1 : Int} {x2 : Int} {A : St} {z : Int} {u : St} {A8 : St} (h : tr_d_X12_number_1 x1 x2 A z u A8) : d_X12_number_1 x1 x2 A z u A8 := h
abbrev tr_r_X12_number (x1 : Int) (x2 : Int) (A : St) (z : Int) (u : St) : Prop := ((((A 0 8) ≤ 0) ∧ ((((A 0 3) = 2) ∧ (d_X12_number_1 x1 x2 A z u A)) ∨ ((¬ (A 0 3) = 2) ∧ (∃ A4 : St, q_X12_blame 1 (A 0 4) A A4 ∧ (d_X12_number_1 x1 x2 A z u A4))))) ∨ ((¬ (A 0 8) ≤ 0) ∧ (z = 0 ∧ u = A)))
def r_X12_number (x1 : Int) (x2 : Int) (A : St) (z : Int) (u : St) : Prop := tr_r_X12_number x1 x2 A z u
theorem u_r_X12_number {x1 : Int} {x2 : Int} {A : St} {z : Int} {u : St} (h : tr_r_X12_number x1 x2 A z u) : r_X12_number x1 x2 A z u := h
def q_X12_number (x1 : Int) (x2 : Int) (A : St) (z : Int) (u : St) : Prop := r_X12_number x1 x2 A z u ∧ IM u ∧ fr [] [3, 4, 5, 6, 7, 8, 9] A u ∧ CB u ∧ ((-2147483648 ≤ z ∧ z ≤ 2147483647) ∧ A 0 4 ≤ u 0 4)
def ws_mb_X12_number : List Cond := .code yX12_number cX12_number 4 (some .int) :: WX
set_option maxHeartbeats 4000000 in
set_option maxRecDepth 100000 in
theorem mb_X12_number (l : Launch) (dC : Nat → ClassId) (dI : Nat → Nat → Nat) (cB cI cJ cZ cQ : ClassId) (q : Nat → Nat) (A : St) (x1 x2 : Int) (hI : IM A) (hx1 : (-2147483648 : Int) ≤ x1 ∧ x1 ≤ 2147483647) (hx2 : (-2147483648 : Int) ≤ x2 ∧ x2 ≤ 2147483647) (hcCB : CB A) : XMi l yX12_number ws_mb_X12_number ({ frames := 2, cells := 0, slots := 0, locals := 47 } : Room) (dC, dI) (tyA cB cI cJ cZ cQ) (WM cI cJ cZ q) A [.ref (q 0), .int (iI x1), .int (iI x2)] (fun z u => r_X12_number x1 x2 A z u ∧ IM u ∧ fr [] [3, 4, 5, 6, 7, 8, 9] A u ∧ CB u ∧ ((-2147483648 ≤ z ∧ z ≤ 2147483647) ∧ A 0 4 ≤ u 0 4)) := by
  refine x_meti (cc := cX12_number) (maxL := 4) WM_adr (by decide +kernel) rfl (Nat.le_of_ble_eq_true rfl) (fun p e s m below meth c Q AS ls hx hb hml hown hts hK hDD hA0 hP hS hl RET => ?_)
  have hown : s.vm.findClass RX12 = some m.cls := hown
  have hl : lv_has ls 4 [(0, .ref (q 0)), (1, .int (iI x1)), (2, .int (iI x2))] := hl
  have hiX12 : ∀ w ∈ u_ws RX12 TX12 85, w ∈ ws_mb_X12_number := fun w h => List.mem_cons_of_mem _ (wx_lay w h)
  obtain ⟨H, hHe⟩ : ∃ H : Heap, H = s.heap := ⟨_, rfl⟩
  rw [← hHe] at hP
  have hS : va_S AS s.heap H [] := by rw [hHe]; exact hS
  suffices hgo : ∀ locs : List Loc, va_S AS s.heap H locs → W p l e (headSpec ws_mb_X12_number ({ frames := 2, cells := 0, slots := 0, locals := 47 } : Room)).room s m [.ref (q 0), .int (iI x1), .int (iI x2)].toArray below meth c H locs 0 0 Q (F0 m 0 ls []) by
    have := hgo [] hS
    rw [hHe] at this
    exact this
  clear hS hHe
  intro locs hS
  have hle := CB.le hcCB
  refine lv_aload_n hx hb (dk_at dkX12_number_0 0 rfl) rfl (lv_at hl 0 rfl) ?_
  refine va_get (D := (dC, dI)) (ci := 12) (v := .int (iI (A 0 8))) (C := RX12) (T := TX12) (N := 85) hx hb hts hiX12 hown hK hP 0 wm0 rfl 8 (by decide) (hts _ (List.mem_cons_of_mem _ wlq_0_16)) (fun _ h9 => h9) rfl (dk_at dkX12_number_0 1 rfl) ?_
  have r_A_0_8 : (0 : Int) ≤ (A 0 8) ∧ (A 0 8) ≤ 5 := hI 0 8
  refine lv_if_le (tgt := 9) hx hb (dk_at dkX12_number_0 2 rfl) (by decide) (fun c1 => ?_) (fun c1 => ?_)
  · have c1 : (A 0 8) ≤ 0 := (i_le0 (rb r_A_0_8 (by decide) (by decide))).mp c1
    refine lv_aload_n hx hb (dk_at dkX12_number_0 5 rfl) rfl (lv_at hl 0 rfl) ?_
    refine va_get (D := (dC, dI)) (ci := 12) (v := .int (iI (A 0 3))) (C := RX12) (T := TX12) (N := 85) hx hb hts hiX12 hown hK hP 0 wm0 rfl 3 (by decide) (hts _ (List.mem_cons_of_mem _ wlq_0_24)) (fun _ h9 => h9) rfl (dk_at dkX12_number_0 6 rfl) ?_
    have r_A_0_3 : (0 : Int) ≤ (A 0 3) ∧ (A 0 3) ≤ 3 := hI 0 3
    refine lv_iconst (v := iI 2) hx hb (dk_at dkX12_number_0 7 rfl) (by decide +kernel) ?_
    have J26_3 : ∀ (A8 : St) (H : Heap) (locs : List Loc) (ls : Array Slot), (∀ (z : Int) (u : St), (d_X12_number_1 x1 x2 A z u A8) → r_X12_number x1 x2 A z u) → IM A8 → fr [] [8, 9] A A8 → va_P (dC, dI) vwCl (WM cI cJ cZ q A8) H → va_S AS s.heap H locs → lv_has ls 4 [(0, .ref (q 0)), (1, .int (iI x1)), (2, .int (iI x2))] → W p l e (headSpec ws_mb_X12_number ({ frames := 2, cells := 0, slots := 0, locals := 47 } : Room)).room s m [.ref (q 0), .int (iI x1), .int (iI x2)].toArray below meth c H locs 0 0 Q (F0 m 26 ls []) := by
      intro A8 H locs ls hk1 hI hj7 hP hS hl
      have gI9 : Hd (IM A8) := Hd.mk hI
      refine lv_aload_n hx hb (dk_at dkX12_number_0 14 rfl) rfl (lv_at hl 0 rfl) ?_
      refine va_get (D := (dC, dI)) (ci := 12) (v := .int (iI (A8 0 8))) (C := RX12) (T := TX12) (N := 85) hx hb hts hiX12 hown hK hP 0 wm0 rfl 8 (by decide) (hts _ (List.mem_cons_of_mem _ wlq_0_16)) (fun _ h9 => h9) rfl (dk_at dkX12_number_0 15 rfl) ?_
      have r_A8_0_8 : (0 : Int) ≤ (A8 0 8) ∧ (A8 0 8) ≤ 5 := hI 0 8
      have J54_11 : ∀ (A20 : St) (H : Heap) (locs : List Loc) (ls : Array Slot), (∀ (z : Int) (u : St), (d_X12_number_2 A z u A20) → r_X12_number x1 x2 A z u) → IM A20 → fr [] [8, 9] A8 A20 → va_P (dC, dI) vwCl (WM cI cJ cZ q A20) H → va_S AS s.heap H locs → lv_has ls 4 [(0, .ref (q 0)), (1, .int (iI x1)), (2, .int (iI x2))] → W p l e (headSpec ws_mb_X12_number ({ frames := 2, cells := 0, slots := 0, locals := 47 } : Room)).room s m [.ref (q 0), .int (iI x1), .int (iI x2)].toArray below meth c H locs 0 0 Q (F0 m 54 ls []) := by
        intro A20 H locs ls hk2 hI hj19 hP hS hl
        have gI21 : Hd (IM A20) := Hd.mk hI
        refine lv_aload_n hx hb (dk_at dkX12_number_1 12 rfl) rfl (lv_at hl 0 rfl) ?_
        have e_A8_6 : A8 0 6 = (A 0 6) := (hj7.2 6 rfl)
        have e_A20_6 : A20 0 6 = (A 0 6) := (hj19.2 6 rfl).trans e_A8_6
        refine va_get (D := (dC, dI)) (ci := 12) (v := .int (iI (A20 0 6))) (C := RX12) (T := TX12) (N := 85) hx hb hts hiX12 hown hK hP 0 wm0 rfl 6 (by decide) (hts _ (List.mem_cons_of_mem _ wlq_0_25)) (fun _ h9 => h9) rfl (dk_at dkX12_number_1 13 rfl) ?_
        refine tp_i (y := iI (A 0 6)) (congrArg iI e_A20_6) ?_
        have r_A_0_6 : (-2147483648 : Int) ≤ (A 0 6) ∧ (A 0 6) ≤ 2147483647 := by rw [← e_A20_6]; exact hI 0 6
        refine lv_istore_n (lv' := [(3, .int (iI (A 0 6))), (0, .ref (q 0)), (1, .int (iI x1)), (2, .int (iI x2))]) hx hb (dk_at dkX12_number_1 14 rfl) rfl hl (by decide) rfl (fun ls hl => ?_)
        refine lv_aload_n hx hb (dk_at dkX12_number_1 15 rfl) rfl (lv_at hl 1 rfl) ?_
        refine va_get (D := (dC, dI)) (ci := 12) (v := .int (iI (A20 0 8))) (C := RX12) (T := TX12) (N := 85) hx hb hts hiX12 hown hK hP 0 wm0 rfl 8 (by decide) (hts _ (List.mem_cons_of_mem _ wlq_0_16)) (fun _ h9 => h9) rfl (dk_at dkX12_number_2 0 rfl) ?_
        have r_A20_0_8 : (0 : Int) ≤ (A20 0 8) ∧ (A20 0 8) ≤ 5 := hI 0 8
        refine lv_if_ne (tgt := 70) hx hb (dk_at dkX12_number_2 1 rfl) (by decide) (fun c22 => ?_) (fun c22 => ?_)
        · have c22 : ¬ (A20 0 8) = 0 := mt (i_eq0 (rb r_A20_0_8 (by decide) (by decide))).mpr c22
          refine lv_iload_n hx hb (dk_at dkX12_number_2 4 rfl) rfl (lv_at hl 0 rfl) ?_
          have e_A8_4 : A8 0 4 = (A 0 4) := (hj7.2 4 rfl)
          have e_A20_4 : A20 0 4 = (A 0 4) := (hj19.2 4 rfl).trans e_A8_4
          have r_A_0_4 : (0 : Int) ≤ (A 0 4) ∧ (A 0 4) ≤ 1600 := by rw [← e_A20_4]; exact hI 0 4
          exact RET (A 0 6) _ _ _ _ _ ⟨hk2 _ _ (u_d_X12_number_2 ⟨gI21.out, (Or.inl ⟨c22, ⟨rfl, rfl⟩⟩)⟩), hI, fr.trans (fr.trans (fr.rf) hj7 rfl rfl) hj19 rfl rfl, (CB.fr (CB.fr hcCB hj7 rfl rfl) hj19 rfl rfl), by omega⟩ hP hS (dk_at dkX12_number_2 5 rfl)
        · have c22 : (A20 0 8) = 0 := (i_eq0 (rb r_A20_0_8 (by decide) (by decide))).mp c22
          refine lv_aload_n hx hb (dk_at dkX12_number_2 2 rfl) rfl (lv_at hl 1 rfl) ?_
          have e_A8_4 : A8 0 4 = (A 0 4) := (hj7.2 4 rfl)
          have e_A20_4 : A20 0 4 = (A 0 4) := (hj19.2 4 rfl).trans e_A8_4
          have r_A_0_4 : (0 : Int) ≤ (A 0 4) ∧ (A 0 4) ≤ 1600 := by rw [← e_A20_4]; exact hI 0 4
          have e_A8_5 : A8 0 5 = (A 0 5) := (hj7.2 5 rfl)
          have e_A20_5 : A20 0 5 = (A 0 5) := (hj19.2 5 rfl).trans e_A8_5
          have r_A_0_5 : (0 : Int) ≤ (A 0 5) ∧ (A 0 5) ≤ 1600 := by rw [← e_A20_5]; exact hI 0 5
          refine x_callv (As := []) (rest := []) ⟨hx, hb, hml, hown, hts⟩ (mb_X12_ahead l dC dI cB cI cJ cZ cQ q _ hI) (cwV 0 hts (goodV wlq_0_40 wlq_0_41 wlq_0_42 wlq_0_8 wlq_0_20) rfl rfl rfl (by decide +kernel) ⟨Nat.le_of_ble_eq_true rfl, Nat.le_of_ble_eq_true rfl⟩) hK hDD hA0 hP hS 0 12 wm0 rfl rfl hl.1 (Nat.le_of_ble_eq_true rfl) (dk_at dkX12_number_2 3 rfl) (fun A23 H locs hw24 hP hS => ?_)
          have ghw24 : q_X12_ahead A20 A23 := hw24
          obtain ⟨_, hI, hf25, hw24⟩ := hw24
          have r_A23_0_3 : (0 : Int) ≤ (A23 0 3) ∧ (A23 0 3) ≤ 3 := hI 0 3
          have r_A23_0_4 : (0 : Int) ≤ (A23 0 4) ∧ (A23 0 4) ≤ 1600 := hI 0 4
          have r_A23_0_5 : (0 : Int) ≤ (A23 0 5) ∧ (A23 0 5) ≤ 1600 := hI 0 5
          have r_A23_0_8 : (0 : Int) ≤ (A23 0 8) ∧ (A23 0 8) ≤ 5 := hI 0 8
          have hv26 := CB.le (CB.fr (CB.fr hcCB hj7 rfl rfl) hj19 rfl rfl)
          have hc27 := CB.ahead (CB.fr (CB.fr hcCB hj7 rfl rfl) hj19 rfl rfl) (hf25.2 46 rfl) hw24.1 hw24.2.1 hw24.2.2.1
          refine lv_iload_n hx hb (dk_at dkX12_number_2 4 rfl) rfl (lv_at hl 0 rfl) ?_
          exact RET (A 0 6) _ _ _ _ _ ⟨hk2 _ _ (u_d_X12_number_2 ⟨gI21.out, (Or.inr ⟨c22, ⟨A23, ghw24, ⟨rfl, rfl⟩⟩⟩)⟩), hI, fr.trans (fr.trans (fr.trans (fr.rf) hj7 rfl rfl) hj19 rfl rfl) hf25 rfl rfl, hc27, by omega⟩ hP hS (dk_at dkX12_number_2 5 rfl)
      refine lv_if_ne (tgt := 54) hx hb (dk_at dkX12_number_1 0 rfl) (by decide) (fun c10 => ?_) (fun c10 => ?_)
      · have c10 : ¬ (A8 0 8) = 0 := mt (i_eq0 (rb r_A8_0_8 (by decide) (by decide))).mpr c10
        exact J54_11 _ _ _ _ (fun zq uq hq => hk1 _ _ (u_d_X12_number_1 ⟨gI9.out, (Or.inl ⟨c10, hq⟩)⟩)) hI (fr.rf) hP hS (lv_sub hl [0, 1, 2] rfl)
      · have c10 : (A8 0 8) = 0 := (i_eq0 (rb r_A8_0_8 (by decide) (by decide))).mp c10
        refine lv_aload_n hx hb (dk_at dkX12_number_1 1 rfl) rfl (lv_at hl 0 rfl) ?_
        have e_A8_6 : A8 0 6 = (A 0 6) := (hj7.2 6 rfl)
        refine va_get (D := (dC, dI)) (ci := 12) (v := .int (iI (A8 0 6))) (C := RX12) (T := TX12) (N := 85) hx hb hts hiX12 hown hK hP 0 wm0 rfl 6 (by decide) (hts _ (List.mem_cons_of_mem _ wlq_0_25)) (fun _ h9 => h9) rfl (dk_at dkX12_number_1 2 rfl) ?_
        refine tp_i (y := iI (A 0 6)) (congrArg iI e_A8_6) ?_
        have r_A_0_6 : (-2147483648 : Int) ≤ (A 0 6) ∧ (A 0 6) ≤ 2147483647 := by rw [← e_A8_6]; exact hI 0 6
        refine lv_iload_n hx hb (dk_at dkX12_number_1 3 rfl) rfl (lv_at hl 1 rfl) ?_
        refine lv_iload_n hx hb (dk_at dkX12_number_1 4 rfl) rfl (lv_at hl 2 rfl) ?_
        refine x_callSi (As := [.int (iI (A 0 6)), .int (iI x1), .int (iI x2)]) (rest := []) ⟨hx, hb, hml, hown, hts⟩ (mc_X12_is l dC dI cB cI cJ cZ cQ q _ (A 0 6) x1 x2 hI r_A_0_6 hx1 hx2) (va_cwS 3 hts (goodS wlq_1_27 wlq_1_28 wlq_0_8 wlq_0_0) rfl rfl rfl (by decide +kernel) ⟨Nat.le_of_ble_eq_true rfl, Nat.le_of_ble_eq_true rfl⟩) hK hDD hA0 hP hS rfl hl.1 (Nat.le_of_ble_eq_true rfl) (dk_at dkX12_number_1 5 rfl) (fun z12 A13 H locs hw14 hP hS => ?_)
        obtain ⟨rfl, hw14⟩ := hw14
        have ghw14 : q_X12_is (A 0 6) x1 x2 A8 z12 := hw14
        have hw14 := hw14.2
        have rz12 : 0 ≤ z12 ∧ z12 ≤ 1 := hw14.1
        refine lv_if_ne (tgt := 54) hx hb (dk_at dkX12_number_1 6 rfl) (by decide) (fun c15 => ?_) (fun c15 => ?_)
        · have c15 : ¬ z12 = 0 := mt (i_eq0 (rb rz12 (by decide) (by decide))).mpr c15
          have hw14b := hw14.2.mp (by omega)
          clear hw14
          exact J54_11 _ _ _ _ (fun zq uq hq => hk1 _ _ (u_d_X12_number_1 ⟨gI9.out, (Or.inr ⟨c10, ⟨z12, ghw14, (Or.inl ⟨c15, hq⟩)⟩⟩)⟩)) hI (fr.rf) hP hS (lv_sub hl [0, 1, 2] rfl)
        · have c15 : z12 = 0 := (i_eq0 (rb rz12 (by decide) (by decide))).mp c15
          have hw14b := mt hw14.2.mpr (by omega)
          clear hw14
          refine lv_aload_n hx hb (dk_at dkX12_number_1 7 rfl) rfl (lv_at hl 0 rfl) ?_
          refine lv_iconst (v := iI 4) hx hb (dk_at dkX12_number_1 8 rfl) (by decide +kernel) ?_
          refine lv_aload_n hx hb (dk_at dkX12_number_1 9 rfl) rfl (lv_at hl 0 rfl) ?_
          have e_A8_4 : A8 0 4 = (A 0 4) := (hj7.2 4 rfl)
          refine va_get (D := (dC, dI)) (ci := 12) (v := .int (iI (A8 0 4))) (C := RX12) (T := TX12) (N := 85) hx hb hts hiX12 hown hK hP 0 wm0 rfl 4 (by decide) (hts _ (List.mem_cons_of_mem _ wlq_0_23)) (fun _ h9 => h9) rfl (dk_at dkX12_number_1 10 rfl) ?_
          refine tp_i (y := iI (A 0 4)) (congrArg iI e_A8_4) ?_
          have r_A_0_4 : (0 : Int) ≤ (A 0 4) ∧ (A 0 4) ≤ 1600 := by rw [← e_A8_4]; exact hI 0 4
          refine x_callv (As := [.int (iI 4), .int (iI (A 0 4))]) (rest := []) ⟨hx, hb, hml, hown, hts⟩ (mc_X12_blame l dC dI cB cI cJ cZ cQ q _ 4 (A 0 4) hI ⟨by decide, by decide⟩ r_A_0_4) (cwV 2 hts (goodV wlq_0_31 wlq_0_32 wlq_0_33 wlq_0_8 wlq_0_15) rfl rfl rfl (by decide +kernel) ⟨Nat.le_of_ble_eq_true rfl, Nat.le_of_ble_eq_true rfl⟩) hK hDD hA0 hP hS 0 12 wm0 rfl rfl hl.1 (Nat.le_of_ble_eq_true rfl) (dk_at dkX12_number_1 11 rfl) (fun A16 H locs hw17 hP hS => ?_)
          have ghw17 : q_X12_blame 4 (A 0 4) A8 A16 := hw17
          obtain ⟨_, hI, hf18, hw17⟩ := hw17
          have r_A16_0_8 : (0 : Int) ≤ (A16 0 8) ∧ (A16 0 8) ≤ 5 := hI 0 8
          exact J54_11 _ _ _ _ (fun zq uq hq => hk1 _ _ (u_d_X12_number_1 ⟨gI9.out, (Or.inr ⟨c10, ⟨z12, ghw14, (Or.inr ⟨c15, ⟨A16, ghw17, hq⟩⟩)⟩⟩)⟩)) hI (fr.trans (fr.rf) hf18 rfl rfl) hP hS (lv_sub hl [0, 1, 2] rfl)
    refine lv_icmp_eq (tgt := 26) hx hb (dk_at dkX12_number_0 8 rfl) (by decide) (fun c2 => ?_) (fun c2 => ?_)
    · have c2 : (A 0 3) = 2 := (i_eq (rb r_A_0_3 (by decide) (by decide)) ⟨by decide, by decide⟩).mp c2
      exact J26_3 _ _ _ _ (fun zq uq hq => (u_r_X12_number (Or.inl ⟨c1, (Or.inl ⟨c2, hq⟩)⟩))) hI (fr.rf) hP hS (lv_sub hl [0, 1, 2] rfl)
    · have c2 : ¬ (A 0 3) = 2 := mt (i_eq (rb r_A_0_3 (by decide) (by decide)) ⟨by decide, by decide⟩).mpr c2
      refine lv_aload_n hx hb (dk_at dkX12_number_0 9 rfl) rfl (lv_at hl 0 rfl) ?_
      refine lv_iconst (v := iI 1) hx hb (dk_at dkX12_number_0 10 rfl) (by decide +kernel) ?_
      refine lv_aload_n hx hb (dk_at dkX12_number_0 11 rfl) rfl (lv_at hl 0 rfl) ?_
      refine va_get (D := (dC, dI)) (ci := 12) (v := .int (iI (A 0 4))) (C := RX12) (T := TX12) (N := 85) hx hb hts hiX12 hown hK hP 0 wm0 rfl 4 (by decide) (hts _ (List.mem_cons_of_mem _ wlq_0_23)) (fun _ h9 => h9) rfl (dk_at dkX12_number_0 12 rfl) ?_
      have r_A_0_4 : (0 : Int) ≤ (A 0 4) ∧ (A 0 4) ≤ 1600 := hI 0 4
      refine x_callv (As := [.int (iI 1), .int (iI (A 0 4))]) (rest := []) ⟨hx, hb, hml, hown, hts⟩ (mc_X12_blame l dC dI cB cI cJ cZ cQ q _ 1 (A 0 4) hI ⟨by decide, by decide⟩ r_A_0_4) (cwV 2 hts (goodV wlq_0_31 wlq_0_32 wlq_0_33 wlq_0_8 wlq_0_15) rfl rfl rfl (by decide +kernel) ⟨Nat.le_of_ble_eq_true rfl, Nat.le_of_ble_eq_true rfl⟩) hK hDD hA0 hP hS 0 12 wm0 rfl rfl hl.1 (Nat.le_of_ble_eq_true rfl) (dk_at dkX12_number_0 13 rfl) (fun A4 H locs hw5 hP hS => ?_)
      have ghw5 : q_X12_blame 1 (A 0 4) A A4 := hw5
      obtain ⟨_, hI, hf6, hw5⟩ := hw5
      have r_A4_0_8 : (0 : Int) ≤ (A4 0 8) ∧ (A4 0 8) ≤ 5 := hI 0 8
      exact J26_3 _ _ _ _ (fun zq uq hq => (u_r_X12_number (Or.inl ⟨c1, (Or.inr ⟨c2, ⟨A4, ghw5, hq⟩⟩)⟩))) hI (fr.trans (fr.rf) hf6 rfl rfl) hP hS (lv_sub hl [0, 1, 2] rfl)
  · have c1 : ¬ (A 0 8) ≤ 0 := mt (i_le0 (rb r_A_0_8 (by decide) (by decide))).mpr c1
    refine lv_iconst (v := iI 0) hx hb (dk_at dkX12_number_0 3 rfl) (by decide +kernel) ?_
    have r_A_0_4 : (0 : Int) ≤ (A 0 4) ∧ (A 0 4) ≤ 1600 := hI 0 4
    exact RET 0 _ _ _ _ _ ⟨(u_r_X12_number (Or.inr ⟨c1, ⟨rfl, rfl⟩⟩)), hI, fr.rf, hcCB, by omega⟩ hP hS (dk_at dkX12_number_0 4 rfl)

abbrev tr_d_X12_fresh_5 (A : St) (A18 : St) (z : Int) (u : St) : Prop := (((¬ (A18 0 8) = 0) ∧ (z = (A 0 7) ∧ u = A18)) ∨ (((A18 0 8) = 0) ∧ (∃ A41 : St, q_X12_ahead A18 A41 ∧ (z = (A 0 7) ∧ u = A41))))
def d_X12_fresh_5 (A : St) (A18 : St) (z : Int) (u : St) : Prop := tr_d_X12_fresh_5 A A18 z u
theorem u_d_X12_fresh_5 {A : St} {A18 : St} {z : Int} {u : St} (h : tr_d_X12_fresh_5 A A18 z u) : d_X12_fresh_5 A A18 z u := h
abbrev tr_d_X12_fresh_4 (K3 : Int → St → Prop) (z16 : Int) (z : Int) (u : St) (A37 : St) : Prop := ((IM A37) ∧ (K3 (z16 + 1) A37))
def d_X12_fresh_4 (K3 : Int → St → Prop) (z16 : Int) (z : Int) (u : St) (A37 : St) : Prop := tr_d_X12_fresh_4 K3 z16 z u A37
theorem u_d_X12_fresh_4 {K3 : Int → St → Prop} {z16 : Int} {z : Int} {u : St} {A37 : St} (h : tr_d_X12_fresh_4 K3 z16 z u A37) : d_X12_fresh_4 K3 z16 z u A37 := h
abbrev tr_d_X12_fresh_3 (A : St) (z : Int) (u : St) (K3 : Int → St → Prop) (z16 : Int) (A18 : St) : Prop := ((IM A18) ∧ ((0 ≤ z16 ∧ z16 ≤ 2147483647) ∧ (((4 < z16) ∧ (d_X12_fresh_5 A A18 z u)) ∨ ((¬ 4 < z16) ∧ (((¬ (A18 0 8) = 0) ∧ (d_X12_fresh_5 A A18 z u)) ∨ (((A18 0 8) = 0) ∧ (∃ z28 : Int, q_X12_named z16 (A 0 7) A18 z28 ∧ (((z28 = (-1)) ∧ (d_X12_fresh_4 K3 z16 z u A18)) ∨ ((¬ z28 = (-1)) ∧ (∃ A33 : St, q_X12_blame 2 (A 0 4) A18 A33 ∧ (d_X12_fresh_4 K3 z16 z u A33)))))))))))
def d_X12_fresh_3 (A : St) (z : Int) (u : St) : Nat → Int → St → Prop
  | 0, _, _ => False
  | nn9 + 1, z16, A18 => tr_d_X12_fresh_3 A z u (fun z16 A18 => d_X12_fresh_3 A z u nn9 z16 A18) z16 A18
theorem u_d_X12_fresh_3 {A : St} {z : Int} {u : St} {nn9 : Nat} {z16 : Int} {A18 : St} (h : tr_d_X12_fresh_3 A z u (fun z16 A18 => d_X12_fresh_3 A z u nn9 z16 A18) z16 A18) : d_X12_fresh_3 A z u (nn9 + 1) z16 A18 := h
abbrev tr_d_X12_fresh_2 (A : St) (z : Int) (u : St) (A14 : St) : Prop := ((IM A14) ∧ (∃ nn9 : Nat, d_X12_fresh_3 A z u nn9 0 A14))
def d_X12_fresh_2 (A : St) (z : Int) (u : St) (A14 : St) : Prop := tr_d_X12_fresh_2 A z u A14
theorem u_d_X12_fresh_2 {A : St} {z : Int} {u : St} {A14 : St} (h : tr_d_X12_fresh_2 A z u A14) : d_X12_fresh_2 A z u A14 := h
abbrev tr_d_X12_fresh_1 (A : St) (z : Int) (u : St) : Prop := (∃ A10 : St, q_X12_blame 1 (A 0 4) A A10 ∧ (d_X12_fresh_2 A z u A10))
def d_X12_fresh_1 (A : St) (z : Int) (u : St) : Prop := tr_d_X12_fresh_1 A z u
theorem u_d_X12_fresh_1 {A : St} {z : Int} {u : St} (h : tr_d_X12_fresh_1 A z u) : d_X12_fresh_1 A z u := h
abbrev tr_r_X12_fresh (A : St) (z : Int) (u : St) : Prop := ((((A 0 8) ≤ 0) ∧ (((¬ (A 0 3) = 1) ∧ (d_X12_fresh_1 A z u)) ∨ (((A 0 3) = 1) ∧ (∃ z5 : Int, q_X12_isOwn (A 0 7) A z5 ∧ (((z5 = 0) ∧ (d_X12_fresh_2 A z u A)) ∨ ((¬ z5 = 0) ∧ (d_X12_fresh_1 A z u))))))) ∨ ((¬ (A 0 8) ≤ 0) ∧ (z = 0 ∧ u = A)))
def r_X12_fresh (A : St) (z : Int) (u : St) : Prop := tr_r_X12_fresh A z u
theorem u_r_X12_fresh {A : St} {z : Int} {u : St} (h : tr_r_X12_fresh A z u) : r_X12_fresh A z u := h
def q_X12_fresh (A : St) (z : Int) (u : St) : Prop := r_X12_fresh A z u ∧ IM u ∧ fr [] [3, 4, 5, 6, 7, 8, 9] A u ∧ CB u ∧ ((-9223372036854775808 ≤ z ∧ z ≤ 9223372036854775807) ∧ A 0 4 ≤ u 0 4)
def ws_mb_X12_fresh : List Cond := .code yX12_fresh cX12_fresh 3 (some .long) :: WX
set_option maxHeartbeats 4000000 in
set_option maxRecDepth 100000 in
theorem mb_X12_fresh (l : Launch) (dC : Nat → ClassId) (dI : Nat → Nat → Nat) (cB cI cJ cZ cQ : ClassId) (q : Nat → Nat) (A : St) (hI : IM A) (hcCB : CB A) : XMl l yX12_fresh ws_mb_X12_fresh ({ frames := 2, cells := 0, slots := 0, locals := 48 } : Room) (dC, dI) (tyA cB cI cJ cZ cQ) (WM cI cJ cZ q) A [.ref (q 0)] (fun z u => r_X12_fresh A z u ∧ IM u ∧ fr [] [3, 4, 5, 6, 7, 8, 9] A u ∧ CB u ∧ ((-9223372036854775808 ≤ z ∧ z ≤ 9223372036854775807) ∧ A 0 4 ≤ u 0 4)) := by
  refine x_metl (cc := cX12_fresh) (maxL := 3) WM_adr (by decide +kernel) rfl (Nat.le_of_ble_eq_true rfl) (fun p e s m below meth c Q AS ls hx hb hml hown hts hK hDD hA0 hP hS hl RET => ?_)
  have hown : s.vm.findClass RX12 = some m.cls := hown
  have hl : lv_has ls 3 [(0, .ref (q 0))] := hl
  have hiX12 : ∀ w ∈ u_ws RX12 TX12 85, w ∈ ws_mb_X12_fresh := fun w h => List.mem_cons_of_mem _ (wx_lay w h)
  obtain ⟨H, hHe⟩ : ∃ H : Heap, H = s.heap := ⟨_, rfl⟩
  rw [← hHe] at hP
  have hS : va_S AS s.heap H [] := by rw [hHe]; exact hS
  suffices hgo : ∀ locs : List Loc, va_S AS s.heap H locs → W p l e (headSpec ws_mb_X12_fresh ({ frames := 2, cells := 0, slots := 0, locals := 48 } : Room)).room s m [.ref (q 0)].toArray below meth c H locs 0 0 Q (F0 m 0 ls []) by
    have := hgo [] hS
    rw [hHe] at this
    exact this
  clear hS hHe
  intro locs hS
  have hle := CB.le hcCB
  refine lv_aload_n hx hb (dk_at dkX12_fresh_0 0 rfl) rfl (lv_at hl 0 rfl) ?_
  refine va_get (D := (dC, dI)) (ci := 12) (v := .int (iI (A 0 8))) (C := RX12) (T := TX12) (N := 85) hx hb hts hiX12 hown hK hP 0 wm0 rfl 8 (by decide) (hts _ (List.mem_cons_of_mem _ wlq_0_16)) (fun _ h9 => h9) rfl (dk_at dkX12_fresh_0 1 rfl) ?_
  have r_A_0_8 : (0 : Int) ≤ (A 0 8) ∧ (A 0 8) ≤ 5 := hI 0 8
  refine lv_if_le (tgt := 9) hx hb (dk_at dkX12_fresh_0 2 rfl) (by decide) (fun c1 => ?_) (fun c1 => ?_)
  · have c1 : (A 0 8) ≤ 0 := (i_le0 (rb r_A_0_8 (by decide) (by decide))).mp c1
    refine lv_aload_n hx hb (dk_at dkX12_fresh_0 5 rfl) rfl (lv_at hl 0 rfl) ?_
    refine va_get (D := (dC, dI)) (ci := 12) (v := .int (iI (A 0 3))) (C := RX12) (T := TX12) (N := 85) hx hb hts hiX12 hown hK hP 0 wm0 rfl 3 (by decide) (hts _ (List.mem_cons_of_mem _ wlq_0_24)) (fun _ h9 => h9) rfl (dk_at dkX12_fresh_0 6 rfl) ?_
    have r_A_0_3 : (0 : Int) ≤ (A 0 3) ∧ (A 0 3) ≤ 3 := hI 0 3
    refine lv_iconst (v := iI 1) hx hb (dk_at dkX12_fresh_0 7 rfl) (by decide +kernel) ?_
    have J37_4 : ∀ (A14 : St) (H : Heap) (locs : List Loc) (ls : Array Slot), (∀ (z : Int) (u : St), (d_X12_fresh_2 A z u A14) → r_X12_fresh A z u) → IM A14 → fr [] [8, 9] A A14 → va_P (dC, dI) vwCl (WM cI cJ cZ q A14) H → va_S AS s.heap H locs → lv_has ls 3 [(0, .ref (q 0))] → W p l e (headSpec ws_mb_X12_fresh ({ frames := 2, cells := 0, slots := 0, locals := 48 } : Room)).room s m [.ref (q 0)].toArray below meth c H locs 0 0 Q (F0 m 37 ls []) := by
      intro A14 H locs ls hk2 hI hj13 hP hS hl
      have gI15 : Hd (IM A14) := Hd.mk hI
      refine lv_iconst (v := iI 0) hx hb (dk_at dkX12_fresh_1 3 rfl) (by decide +kernel) ?_
      refine lv_istore_n (lv' := [(1, .int (iI 0)), (0, .ref (q 0))]) hx hb (dk_at dkX12_fresh_1 4 rfl) rfl hl (by decide) rfl (fun ls hl => ?_)
      have L39_19 : ∀ (n21 : Nat) (z16 : Int) (A18 : St) (H : Heap) (locs : List Loc) (ls : Array Slot), (0 ≤ z16) → (0 ≤ z16 ∧ z16 ≤ 2147483647) → (∀ (z : Int) (u : St), (∃ mm3 : Nat, (d_X12_fresh_3 A z u mm3 z16 A18)) → r_X12_fresh A z u) → ((4 - z16 + 1).toNat = n21) → IM A18 → fr [] [8, 9] A14 A18 → va_P (dC, dI) vwCl (WM cI cJ cZ q A18) H → va_S AS s.heap H locs → lv_has ls 3 [(1, .int (iI z16)), (0, .ref (q 0))] → W p l e (headSpec ws_mb_X12_fresh ({ frames := 2, cells := 0, slots := 0, locals := 48 } : Room)).room s m [.ref (q 0)].toArray below meth c H locs 0 0 Q (F0 m 39 ls []) := by
        intro n21
        induction n21 using Nat.strongRecOn with
        | ind n21 ih20 =>
          intro z16 A18 H locs ls f22 f23 hk3 hn21 hI hj17 hP hS hl
          have gI24 : Hd (IM A18) := Hd.mk hI
          refine lv_iload_n hx hb (dk_at dkX12_fresh_1 5 rfl) rfl (lv_at hl 0 rfl) ?_
          refine lv_iconst (v := iI 4) hx hb (dk_at dkX12_fresh_1 6 rfl) (by decide +kernel) ?_
          have J79_26 : ∀ (H : Heap) (locs : List Loc) (ls : Array Slot), (∀ (z : Int) (u : St), (∃ mm3 : Nat, (d_X12_fresh_5 A A18 z u)) → r_X12_fresh A z u) → va_P (dC, dI) vwCl (WM cI cJ cZ q A18) H → va_S AS s.heap H locs → lv_has ls 3 [(1, .int (iI z16)), (0, .ref (q 0))] → W p l e (headSpec ws_mb_X12_fresh ({ frames := 2, cells := 0, slots := 0, locals := 48 } : Room)).room s m [.ref (q 0)].toArray below meth c H locs 0 0 Q (F0 m 79 ls []) := by
            intro H locs ls hk5 hP hS hl
            refine lv_aload_n hx hb (dk_at dkX12_fresh_2 9 rfl) rfl (lv_at hl 1 rfl) ?_
            have e_A14_7 : A14 0 7 = (A 0 7) := (hj13.2 7 rfl)
            have e_A18_7 : A18 0 7 = (A 0 7) := (hj17.2 7 rfl).trans e_A14_7
            refine va_get (D := (dC, dI)) (ci := 12) (v := .long (jI (A18 0 7))) (C := RX12) (T := TX12) (N := 85) hx hb hts hiX12 hown hK hP 0 wm0 rfl 7 (by decide) (hts _ (List.mem_cons_of_mem _ wlq_0_26)) (fun _ h9 => h9) rfl (dk_at dkX12_fresh_2 10 rfl) ?_
            refine tp_l (y := jI (A 0 7)) (congrArg jI e_A18_7) ?_
            have r_A_0_7 : (-9223372036854775808 : Int) ≤ (A 0 7) ∧ (A 0 7) ≤ 9223372036854775807 := by rw [← e_A18_7]; exact hI 0 7
            refine lv_lstore_n (lv' := [(1, .long (jI (A 0 7))), (0, .ref (q 0))]) hx hb (dk_at dkX12_fresh_2 11 rfl) rfl hl (by decide) rfl (fun ls hl => ?_)
            refine lv_aload_n hx hb (dk_at dkX12_fresh_2 12 rfl) rfl (lv_at hl 1 rfl) ?_
            refine va_get (D := (dC, dI)) (ci := 12) (v := .int (iI (A18 0 8))) (C := RX12) (T := TX12) (N := 85) hx hb hts hiX12 hown hK hP 0 wm0 rfl 8 (by decide) (hts _ (List.mem_cons_of_mem _ wlq_0_16)) (fun _ h9 => h9) rfl (dk_at dkX12_fresh_2 13 rfl) ?_
            have r_A18_0_8 : (0 : Int) ≤ (A18 0 8) ∧ (A18 0 8) ≤ 5 := hI 0 8
            refine lv_if_ne (tgt := 95) hx hb (dk_at dkX12_fresh_2 14 rfl) (by decide) (fun c40 => ?_) (fun c40 => ?_)
            · have c40 : ¬ (A18 0 8) = 0 := mt (i_eq0 (rb r_A18_0_8 (by decide) (by decide))).mpr c40
              refine lv_lload_n hx hb (dk_at dkX12_fresh_3 1 rfl) rfl (lv_at hl 0 rfl) ?_
              have e_A14_4 : A14 0 4 = (A 0 4) := (hj13.2 4 rfl)
              have e_A18_4 : A18 0 4 = (A 0 4) := (hj17.2 4 rfl).trans e_A14_4
              have r_A_0_4 : (0 : Int) ≤ (A 0 4) ∧ (A 0 4) ≤ 1600 := by rw [← e_A18_4]; exact hI 0 4
              exact RET (A 0 7) _ _ _ _ _ ⟨hk5 _ _ ⟨0, (u_d_X12_fresh_5 (Or.inl ⟨c40, ⟨rfl, rfl⟩⟩))⟩, hI, fr.trans (fr.trans (fr.rf) hj13 rfl rfl) hj17 rfl rfl, (CB.fr (CB.fr hcCB hj13 rfl rfl) hj17 rfl rfl), by omega⟩ hP hS (dk_at dkX12_fresh_3 2 rfl)
            · have c40 : (A18 0 8) = 0 := (i_eq0 (rb r_A18_0_8 (by decide) (by decide))).mp c40
              refine lv_aload_n hx hb (dk_at dkX12_fresh_2 15 rfl) rfl (lv_at hl 1 rfl) ?_
              have e_A14_4 : A14 0 4 = (A 0 4) := (hj13.2 4 rfl)
              have e_A18_4 : A18 0 4 = (A 0 4) := (hj17.2 4 rfl).trans e_A14_4
              have r_A_0_4 : (0 : Int) ≤ (A 0 4) ∧ (A 0 4) ≤ 1600 := by rw [← e_A18_4]; exact hI 0 4
              have e_A14_5 : A14 0 5 = (A 0 5) := (hj13.2 5 rfl)
              have e_A18_5 : A18 0 5 = (A 0 5) := (hj17.2 5 rfl).trans e_A14_5
              have r_A_0_5 : (0 : Int) ≤ (A 0 5) ∧ (A 0 5) ≤ 1600 := by rw [← e_A18_5]; exact hI 0 5
              refine x_callv (As := []) (rest := []) ⟨hx, hb, hml, hown, hts⟩ (mb_X12_ahead l dC dI cB cI cJ cZ cQ q _ hI) (cwV 0 hts (goodV wlq_0_40 wlq_0_41 wlq_0_42 wlq_0_8 wlq_0_20) rfl rfl rfl (by decide +kernel) ⟨Nat.le_of_ble_eq_true rfl, Nat.le_of_ble_eq_true rfl⟩) hK hDD hA0 hP hS 0 12 wm0 rfl rfl hl.1 (Nat.le_of_ble_eq_true rfl) (dk_at dkX12_fresh_3 0 rfl) (fun A41 H locs hw42 hP hS => ?_)
              have ghw42 : q_X12_ahead A18 A41 := hw42
              obtain ⟨_, hI, hf43, hw42⟩ := hw42
              have r_A41_0_3 : (0 : Int) ≤ (A41 0 3) ∧ (A41 0 3) ≤ 3 := hI 0 3
              have r_A41_0_4 : (0 : Int) ≤ (A41 0 4) ∧ (A41 0 4) ≤ 1600 := hI 0 4
              have r_A41_0_5 : (0 : Int) ≤ (A41 0 5) ∧ (A41 0 5) ≤ 1600 := hI 0 5
              have r_A41_0_8 : (0 : Int) ≤ (A41 0 8) ∧ (A41 0 8) ≤ 5 := hI 0 8
              have hv44 := CB.le (CB.fr (CB.fr hcCB hj13 rfl rfl) hj17 rfl rfl)
              have hc45 := CB.ahead (CB.fr (CB.fr hcCB hj13 rfl rfl) hj17 rfl rfl) (hf43.2 46 rfl) hw42.1 hw42.2.1 hw42.2.2.1
              refine lv_lload_n hx hb (dk_at dkX12_fresh_3 1 rfl) rfl (lv_at hl 0 rfl) ?_
              exact RET (A 0 7) _ _ _ _ _ ⟨hk5 _ _ ⟨0, (u_d_X12_fresh_5 (Or.inr ⟨c40, ⟨A41, ghw42, ⟨rfl, rfl⟩⟩⟩))⟩, hI, fr.trans (fr.trans (fr.trans (fr.rf) hj13 rfl rfl) hj17 rfl rfl) hf43 rfl rfl, hc45, by omega⟩ hP hS (dk_at dkX12_fresh_3 2 rfl)
          refine lv_icmp_gt (tgt := 79) hx hb (dk_at dkX12_fresh_1 7 rfl) (by decide) (fun c25 => ?_) (fun c25 => ?_)
          · have c25 : 4 < z16 := (i_lt ⟨by decide, by decide⟩ (rb f23 (by decide) (by decide))).mp c25
            exact J79_26 _ _ _ (fun zq uq ⟨mm3, hq⟩ => hk3 _ _ ⟨mm3 + 1, (u_d_X12_fresh_3 ⟨gI24.out, ⟨f23, (Or.inl ⟨c25, hq⟩)⟩⟩)⟩) hP hS (lv_sub hl [0, 1] rfl)
          · have c25 : ¬ 4 < z16 := mt (i_lt ⟨by decide, by decide⟩ (rb f23 (by decide) (by decide))).mpr c25
            refine lv_aload_n hx hb (dk_at dkX12_fresh_1 8 rfl) rfl (lv_at hl 1 rfl) ?_
            refine va_get (D := (dC, dI)) (ci := 12) (v := .int (iI (A18 0 8))) (C := RX12) (T := TX12) (N := 85) hx hb hts hiX12 hown hK hP 0 wm0 rfl 8 (by decide) (hts _ (List.mem_cons_of_mem _ wlq_0_16)) (fun _ h9 => h9) rfl (dk_at dkX12_fresh_1 9 rfl) ?_
            have r_A18_0_8 : (0 : Int) ≤ (A18 0 8) ∧ (A18 0 8) ≤ 5 := hI 0 8
            refine lv_if_ne (tgt := 79) hx hb (dk_at dkX12_fresh_1 10 rfl) (by decide) (fun c27 => ?_) (fun c27 => ?_)
            · have c27 : ¬ (A18 0 8) = 0 := mt (i_eq0 (rb r_A18_0_8 (by decide) (by decide))).mpr c27
              exact J79_26 _ _ _ (fun zq uq ⟨mm3, hq⟩ => hk3 _ _ ⟨mm3 + 1, (u_d_X12_fresh_3 ⟨gI24.out, ⟨f23, (Or.inr ⟨c25, (Or.inl ⟨c27, hq⟩)⟩)⟩⟩)⟩) hP hS (lv_sub hl [0, 1] rfl)
            · have c27 : (A18 0 8) = 0 := (i_eq0 (rb r_A18_0_8 (by decide) (by decide))).mp c27
              refine lv_aload_n hx hb (dk_at dkX12_fresh_1 11 rfl) rfl (lv_at hl 1 rfl) ?_
              refine lv_iload_n hx hb (dk_at dkX12_fresh_1 12 rfl) rfl (lv_at hl 0 rfl) ?_
              refine lv_aload_n hx hb (dk_at dkX12_fresh_1 13 rfl) rfl (lv_at hl 1 rfl) ?_
              have e_A14_7 : A14 0 7 = (A 0 7) := (hj13.2 7 rfl)
              have e_A18_7 : A18 0 7 = (A 0 7) := (hj17.2 7 rfl).trans e_A14_7
              refine va_get (D := (dC, dI)) (ci := 12) (v := .long (jI (A18 0 7))) (C := RX12) (T := TX12) (N := 85) hx hb hts hiX12 hown hK hP 0 wm0 rfl 7 (by decide) (hts _ (List.mem_cons_of_mem _ wlq_0_26)) (fun _ h9 => h9) rfl (dk_at dkX12_fresh_1 14 rfl) ?_
              refine tp_l (y := jI (A 0 7)) (congrArg jI e_A18_7) ?_
              have r_A_0_7 : (-9223372036854775808 : Int) ≤ (A 0 7) ∧ (A 0 7) ≤ 9223372036854775807 := by rw [← e_A18_7]; exact hI 0 7
              refine x_calli (As := [.int (iI z16), .long (jI (A 0 7))]) (rest := []) ⟨hx, hb, hml, hown, hts⟩ (mc_X12_named l dC dI cB cI cJ cZ cQ q _ z16 (A 0 7) hI (by omega) r_A_0_7) (cwV 2 hts (goodV wlq_2_26 wlq_2_27 wlq_2_28 wlq_0_8 wlq_1_10) rfl rfl rfl (by decide +kernel) ⟨Nat.le_of_ble_eq_true rfl, Nat.le_of_ble_eq_true rfl⟩) hK hDD hA0 hP hS 0 12 wm0 rfl rfl hl.1 (Nat.le_of_ble_eq_true rfl) (dk_at dkX12_fresh_1 15 rfl) (fun z28 A29 H locs hw30 hP hS => ?_)
              obtain ⟨rfl, hw30⟩ := hw30
              have ghw30 : q_X12_named z16 (A 0 7) A18 z28 := hw30
              have hw30 := hw30.2
              have hw30 : -1 ≤ z28 ∧ z28 ≤ 9 := ⟨hw30.1, hw30.2.1⟩
              refine lv_iconst (v := iI (-1)) hx hb (dk_at dkX12_fresh_2 0 rfl) (by decide +kernel) ?_
              have J73_32 : ∀ (A37 : St) (H : Heap) (locs : List Loc) (ls : Array Slot), (∀ (z : Int) (u : St), (∃ mm3 : Nat, (d_X12_fresh_4 (fun z16' A18' => d_X12_fresh_3 A z u mm3 z16' A18') z16 z u A37)) → r_X12_fresh A z u) → IM A37 → fr [] [8, 9] A18 A37 → va_P (dC, dI) vwCl (WM cI cJ cZ q A37) H → va_S AS s.heap H locs → lv_has ls 3 [(1, .int (iI z16)), (0, .ref (q 0))] → W p l e (headSpec ws_mb_X12_fresh ({ frames := 2, cells := 0, slots := 0, locals := 48 } : Room)).room s m [.ref (q 0)].toArray below meth c H locs 0 0 Q (F0 m 73 ls []) := by
                intro A37 H locs ls hk4 hI hj36 hP hS hl
                have gI38 : Hd (IM A37) := Hd.mk hI
                refine lv_iinc (v := iI (z16 + 1)) (lv' := [(1, .int (iI (z16 + 1))), (0, .ref (q 0))]) hx hb (dk_at dkX12_fresh_2 7 rfl) hl (k := 0) rfl (i_inc (by omega)) (by decide) rfl (fun ls hl => ?_)
                refine lv_goto (tgt := 39) hx hb (dk_at dkX12_fresh_2 8 rfl) (by decide) ?_
                exact ih20 _ (by omega) (z16 + 1) _ _ _ _ (by omega) (by omega) (fun zq uq ⟨mm3, hq⟩ => hk4 _ _ ⟨mm3, (u_d_X12_fresh_4 ⟨gI38.out, hq⟩)⟩) rfl hI (fr.trans (fr.trans (fr.rf) hj17 rfl rfl) hj36 rfl rfl) hP hS (lv_sub hl [0, 1] rfl)
              refine lv_icmp_eq (tgt := 73) hx hb (dk_at dkX12_fresh_2 1 rfl) (by decide) (fun c31 => ?_) (fun c31 => ?_)
              · have c31 : z28 = (-1) := (i_eq (rb hw30 (by decide) (by decide)) ⟨by decide, by decide⟩).mp c31
                exact J73_32 _ _ _ _ (fun zq uq ⟨mm3, hq⟩ => hk3 _ _ ⟨mm3 + 1, (u_d_X12_fresh_3 ⟨gI24.out, ⟨f23, (Or.inr ⟨c25, (Or.inr ⟨c27, ⟨z28, ghw30, (Or.inl ⟨c31, hq⟩)⟩⟩)⟩)⟩⟩)⟩) hI (fr.rf) hP hS (lv_sub hl [0, 1] rfl)
              · have c31 : ¬ z28 = (-1) := mt (i_eq (rb hw30 (by decide) (by decide)) ⟨by decide, by decide⟩).mpr c31
                refine lv_aload_n hx hb (dk_at dkX12_fresh_2 2 rfl) rfl (lv_at hl 1 rfl) ?_
                refine lv_iconst (v := iI 2) hx hb (dk_at dkX12_fresh_2 3 rfl) (by decide +kernel) ?_
                refine lv_aload_n hx hb (dk_at dkX12_fresh_2 4 rfl) rfl (lv_at hl 1 rfl) ?_
                have e_A14_4 : A14 0 4 = (A 0 4) := (hj13.2 4 rfl)
                have e_A18_4 : A18 0 4 = (A 0 4) := (hj17.2 4 rfl).trans e_A14_4
                refine va_get (D := (dC, dI)) (ci := 12) (v := .int (iI (A18 0 4))) (C := RX12) (T := TX12) (N := 85) hx hb hts hiX12 hown hK hP 0 wm0 rfl 4 (by decide) (hts _ (List.mem_cons_of_mem _ wlq_0_23)) (fun _ h9 => h9) rfl (dk_at dkX12_fresh_2 5 rfl) ?_
                refine tp_i (y := iI (A 0 4)) (congrArg iI e_A18_4) ?_
                have r_A_0_4 : (0 : Int) ≤ (A 0 4) ∧ (A 0 4) ≤ 1600 := by rw [← e_A18_4]; exact hI 0 4
                refine x_callv (As := [.int (iI 2), .int (iI (A 0 4))]) (rest := []) ⟨hx, hb, hml, hown, hts⟩ (mc_X12_blame l dC dI cB cI cJ cZ cQ q _ 2 (A 0 4) hI ⟨by decide, by decide⟩ r_A_0_4) (cwV 2 hts (goodV wlq_0_31 wlq_0_32 wlq_0_33 wlq_0_8 wlq_0_15) rfl rfl rfl (by decide +kernel) ⟨Nat.le_of_ble_eq_true rfl, Nat.le_of_ble_eq_true rfl⟩) hK hDD hA0 hP hS 0 12 wm0 rfl rfl hl.1 (Nat.le_of_ble_eq_true rfl) (dk_at dkX12_fresh_2 6 rfl) (fun A33 H locs hw34 hP hS => ?_)
                have ghw34 : q_X12_blame 2 (A 0 4) A18 A33 := hw34
                obtain ⟨_, hI, hf35, hw34⟩ := hw34
                have r_A33_0_8 : (0 : Int) ≤ (A33 0 8) ∧ (A33 0 8) ≤ 5 := hI 0 8
                exact J73_32 _ _ _ _ (fun zq uq ⟨mm3, hq⟩ => hk3 _ _ ⟨mm3 + 1, (u_d_X12_fresh_3 ⟨gI24.out, ⟨f23, (Or.inr ⟨c25, (Or.inr ⟨c27, ⟨z28, ghw30, (Or.inr ⟨c31, ⟨A33, ghw34, hq⟩⟩)⟩⟩)⟩)⟩⟩)⟩) hI (fr.trans (fr.rf) hf35 rfl rfl) hP hS (lv_sub hl [0, 1] rfl)
      exact L39_19 _ 0 _ _ _ _ (by omega) (by omega) (fun zq uq ⟨mm3, hq⟩ => hk2 _ _ (u_d_X12_fresh_2 ⟨gI15.out, ⟨mm3, hq⟩⟩)) rfl hI (fr.rf) hP hS (lv_sub hl [0, 1] rfl)
    have J28_3 : ∀ (H : Heap) (locs : List Loc) (ls : Array Slot), (∀ (z : Int) (u : St), (d_X12_fresh_1 A z u) → r_X12_fresh A z u) → va_P (dC, dI) vwCl (WM cI cJ cZ q A) H → va_S AS s.heap H locs → lv_has ls 3 [(0, .ref (q 0))] → W p l e (headSpec ws_mb_X12_fresh ({ frames := 2, cells := 0, slots := 0, locals := 48 } : Room)).room s m [.ref (q 0)].toArray below meth c H locs 0 0 Q (F0 m 28 ls []) := by
      intro H locs ls hk1 hP hS hl
      refine lv_aload_n hx hb (dk_at dkX12_fresh_0 14 rfl) rfl (lv_at hl 0 rfl) ?_
      refine lv_iconst (v := iI 1) hx hb (dk_at dkX12_fresh_0 15 rfl) (by decide +kernel) ?_
      refine lv_aload_n hx hb (dk_at dkX12_fresh_1 0 rfl) rfl (lv_at hl 0 rfl) ?_
      refine va_get (D := (dC, dI)) (ci := 12) (v := .int (iI (A 0 4))) (C := RX12) (T := TX12) (N := 85) hx hb hts hiX12 hown hK hP 0 wm0 rfl 4 (by decide) (hts _ (List.mem_cons_of_mem _ wlq_0_23)) (fun _ h9 => h9) rfl (dk_at dkX12_fresh_1 1 rfl) ?_
      have r_A_0_4 : (0 : Int) ≤ (A 0 4) ∧ (A 0 4) ≤ 1600 := hI 0 4
      refine x_callv (As := [.int (iI 1), .int (iI (A 0 4))]) (rest := []) ⟨hx, hb, hml, hown, hts⟩ (mc_X12_blame l dC dI cB cI cJ cZ cQ q _ 1 (A 0 4) hI ⟨by decide, by decide⟩ r_A_0_4) (cwV 2 hts (goodV wlq_0_31 wlq_0_32 wlq_0_33 wlq_0_8 wlq_0_15) rfl rfl rfl (by decide +kernel) ⟨Nat.le_of_ble_eq_true rfl, Nat.le_of_ble_eq_true rfl⟩) hK hDD hA0 hP hS 0 12 wm0 rfl rfl hl.1 (Nat.le_of_ble_eq_true rfl) (dk_at dkX12_fresh_1 2 rfl) (fun A10 H locs hw11 hP hS => ?_)
      have ghw11 : q_X12_blame 1 (A 0 4) A A10 := hw11
      obtain ⟨_, hI, hf12, hw11⟩ := hw11
      have r_A10_0_8 : (0 : Int) ≤ (A10 0 8) ∧ (A10 0 8) ≤ 5 := hI 0 8
      exact J37_4 _ _ _ _ (fun zq uq hq => hk1 _ _ (u_d_X12_fresh_1 ⟨A10, ghw11, hq⟩)) hI (fr.trans (fr.rf) hf12 rfl rfl) hP hS (lv_sub hl [0] rfl)
    refine lv_icmp_ne (tgt := 28) hx hb (dk_at dkX12_fresh_0 8 rfl) (by decide) (fun c2 => ?_) (fun c2 => ?_)
    · have c2 : ¬ (A 0 3) = 1 := mt (i_eq (rb r_A_0_3 (by decide) (by decide)) ⟨by decide, by decide⟩).mpr c2
      exact J28_3 _ _ _ (fun zq uq hq => (u_r_X12_fresh (Or.inl ⟨c1, (Or.inl ⟨c2, hq⟩)⟩))) hP hS (lv_sub hl [0] rfl)
    · have c2 : (A 0 3) = 1 := (i_eq (rb r_A_0_3 (by decide) (by decide)) ⟨by decide, by decide⟩).mp c2
      refine lv_aload_n hx hb (dk_at dkX12_fresh_0 9 rfl) rfl (lv_at hl 0 rfl) ?_
      refine lv_aload_n hx hb (dk_at dkX12_fresh_0 10 rfl) rfl (lv_at hl 0 rfl) ?_
      refine va_get (D := (dC, dI)) (ci := 12) (v := .long (jI (A 0 7))) (C := RX12) (T := TX12) (N := 85) hx hb hts hiX12 hown hK hP 0 wm0 rfl 7 (by decide) (hts _ (List.mem_cons_of_mem _ wlq_0_26)) (fun _ h9 => h9) rfl (dk_at dkX12_fresh_0 11 rfl) ?_
      have r_A_0_7 : (-9223372036854775808 : Int) ≤ (A 0 7) ∧ (A 0 7) ≤ 9223372036854775807 := hI 0 7
      refine x_calli (As := [.long (jI (A 0 7))]) (rest := []) ⟨hx, hb, hml, hown, hts⟩ (mb_X12_isOwn l dC dI cB cI cJ cZ cQ q _ (A 0 7) hI r_A_0_7) (cwV 1 hts (goodV wlq_2_23 wlq_2_24 wlq_2_25 wlq_0_8 wlq_0_43) rfl rfl rfl (by decide +kernel) ⟨Nat.le_of_ble_eq_true rfl, Nat.le_of_ble_eq_true rfl⟩) hK hDD hA0 hP hS 0 12 wm0 rfl rfl hl.1 (Nat.le_of_ble_eq_true rfl) (dk_at dkX12_fresh_0 12 rfl) (fun z5 A6 H locs hw7 hP hS => ?_)
      obtain ⟨rfl, hw7⟩ := hw7
      have ghw7 : q_X12_isOwn (A 0 7) A z5 := hw7
      have hw7 := hw7.2
      have rz5 : 0 ≤ z5 ∧ z5 ≤ 1 := hw7.1
      refine lv_if_eq (tgt := 37) hx hb (dk_at dkX12_fresh_0 13 rfl) (by decide) (fun c8 => ?_) (fun c8 => ?_)
      · have c8 : z5 = 0 := (i_eq0 (rb rz5 (by decide) (by decide))).mp c8
        exact J37_4 _ _ _ _ (fun zq uq hq => (u_r_X12_fresh (Or.inl ⟨c1, (Or.inr ⟨c2, ⟨z5, ghw7, (Or.inl ⟨c8, hq⟩)⟩⟩)⟩))) hI (fr.rf) hP hS (lv_sub hl [0] rfl)
      · have c8 : ¬ z5 = 0 := mt (i_eq0 (rb rz5 (by decide) (by decide))).mpr c8
        exact J28_3 _ _ _ (fun zq uq hq => (u_r_X12_fresh (Or.inl ⟨c1, (Or.inr ⟨c2, ⟨z5, ghw7, (Or.inr ⟨c8, hq⟩)⟩⟩)⟩))) hP hS (lv_sub hl [0] rfl)
  · have c1 : ¬ (A 0 8) ≤ 0 := mt (i_le0 (rb r_A_0_8 (by decide) (by decide))).mpr c1
    refine lv_lconst (v := jI 0) hx hb (dk_at dkX12_fresh_0 3 rfl) (by decide +kernel) ?_
    have r_A_0_4 : (0 : Int) ≤ (A 0 4) ∧ (A 0 4) ≤ 1600 := hI 0 4
    exact RET 0 _ _ _ _ _ ⟨(u_r_X12_fresh (Or.inr ⟨c1, ⟨rfl, rfl⟩⟩)), hI, fr.rf, hcCB, by omega⟩ hP hS (dk_at dkX12_fresh_0 4 rfl)

abbrev tr_r_X12_bars (x1 : Int) (x2 : Int) (A : St) (u : St) : Prop := (((x1 = 0) ∧ (((¬ (A 0 8) = 0) ∧ (u = A)) ∨ (((A 0 8) = 0) ∧ (((¬ (A 0 3) = 1) ∧ (u = A)) ∨ (((A 0 3) = 1) ∧ (∃ z3 : Int, q_X12_isOwn (A 0 7) A z3 ∧ (((¬ z3 = 0) ∧ (u = A)) ∨ ((z3 = 0) ∧ (((x2 = (-1)) ∧ (u = A)) ∨ ((¬ x2 = (-1)) ∧ (∃ z8 : Int, q_X12_named_0 0 (A 0 7) A z8 ∧ (((¬ z8 = x2) ∧ (u = A)) ∨ ((z8 = x2) ∧ (∃ A12 : St, q_X12_blame 3 (A 0 4) A A12 ∧ (u = A12))))))))))))))) ∨ ((x1 = 1) ∧ (((¬ (A 0 8) = 0) ∧ (u = A)) ∨ (((A 0 8) = 0) ∧ (((¬ (A 0 3) = 1) ∧ (u = A)) ∨ (((A 0 3) = 1) ∧ (∃ z17 : Int, q_X12_isOwn (A 0 7) A z17 ∧ (((¬ z17 = 0) ∧ (u = A)) ∨ ((z17 = 0) ∧ (((x2 = (-1)) ∧ (u = A)) ∨ ((¬ x2 = (-1)) ∧ (∃ z22 : Int, q_X12_named_1 1 (A 0 7) A z22 ∧ (((¬ z22 = x2) ∧ (u = A)) ∨ ((z22 = x2) ∧ (∃ A26 : St, q_X12_blame 3 (A 0 4) A A26 ∧ (u = A26))))))))))))))) ∨ ((x1 = 2) ∧ (((¬ (A 0 8) = 0) ∧ (u = A)) ∨ (((A 0 8) = 0) ∧ (((¬ (A 0 3) = 1) ∧ (u = A)) ∨ (((A 0 3) = 1) ∧ (∃ z31 : Int, q_X12_isOwn (A 0 7) A z31 ∧ (((¬ z31 = 0) ∧ (u = A)) ∨ ((z31 = 0) ∧ (((x2 = (-1)) ∧ (u = A)) ∨ ((¬ x2 = (-1)) ∧ (∃ z36 : Int, q_X12_named_2 2 (A 0 7) A z36 ∧ (((¬ z36 = x2) ∧ (u = A)) ∨ ((z36 = x2) ∧ (∃ A40 : St, q_X12_blame 3 (A 0 4) A A40 ∧ (u = A40))))))))))))))) ∨ ((x1 = 3) ∧ (((¬ (A 0 8) = 0) ∧ (u = A)) ∨ (((A 0 8) = 0) ∧ (((¬ (A 0 3) = 1) ∧ (u = A)) ∨ (((A 0 3) = 1) ∧ (∃ z45 : Int, q_X12_isOwn (A 0 7) A z45 ∧ (((¬ z45 = 0) ∧ (u = A)) ∨ ((z45 = 0) ∧ (((x2 = (-1)) ∧ (u = A)) ∨ ((¬ x2 = (-1)) ∧ (∃ z50 : Int, q_X12_named_3 3 (A 0 7) A z50 ∧ (((¬ z50 = x2) ∧ (u = A)) ∨ ((z50 = x2) ∧ (∃ A54 : St, q_X12_blame 3 (A 0 4) A A54 ∧ (u = A54))))))))))))))) ∨ ((x1 = 4) ∧ (((¬ (A 0 8) = 0) ∧ (u = A)) ∨ (((A 0 8) = 0) ∧ (((¬ (A 0 3) = 1) ∧ (u = A)) ∨ (((A 0 3) = 1) ∧ (∃ z59 : Int, q_X12_isOwn (A 0 7) A z59 ∧ (((¬ z59 = 0) ∧ (u = A)) ∨ ((z59 = 0) ∧ (((x2 = (-1)) ∧ (u = A)) ∨ ((¬ x2 = (-1)) ∧ (∃ z64 : Int, q_X12_named_4 4 (A 0 7) A z64 ∧ (((¬ z64 = x2) ∧ (u = A)) ∨ ((z64 = x2) ∧ (∃ A68 : St, q_X12_blame 3 (A 0 4) A A68 ∧ (u = A68))))))))))))))))
def r_X12_bars (x1 : Int) (x2 : Int) (A : St) (u : St) : Prop := tr_r_X12_bars x1 x2 A u
theorem u_r_X12_bars {x1 : Int} {x2 : Int} {A : St} {u : St} (h : tr_r_X12_bars x1 x2 A u) : r_X12_bars x1 x2 A u := h
def q_X12_bars (x1 : Int) (x2 : Int) (A : St) (u : St) : Prop := r_X12_bars x1 x2 A u ∧ IM u ∧ fr [] [8, 9] A u ∧ (True)
def ws_mb_X12_bars : List Cond := .code yX12_bars cX12_bars 3 none :: WX
set_option maxHeartbeats 4000000 in
set_option maxRecDepth 100000 in
theorem mb_X12_bars (l : Launch) (dC : Nat → ClassId) (dI : Nat → Nat → Nat) (cB cI cJ cZ cQ : ClassId) (q : Nat → Nat) (A : St) (x1 x2 : Int) (hI : IM A) (hx1 : (0 : Int) ≤ x1 ∧ x1 ≤ 4) (hx2 : (-2147483648 : Int) ≤ x2 ∧ x2 ≤ 2147483647) : XMv l yX12_bars ws_mb_X12_bars ({ frames := 2, cells := 0, slots := 0, locals := 48 } : Room) (dC, dI) (tyA cB cI cJ cZ cQ) (WM cI cJ cZ q) A [.ref (q 0), .int (iI x1), .int (iI x2)] (fun u => r_X12_bars x1 x2 A u ∧ IM u ∧ fr [] [8, 9] A u ∧ (True)) := by
  refine x_metv (cc := cX12_bars) (maxL := 3) WM_adr (by decide +kernel) rfl (Nat.le_of_ble_eq_true rfl) (fun p e s m below meth c Q AS ls hx hb hml hown hts hK hDD hA0 hP hS hl RET => ?_)
  have hown : s.vm.findClass RX12 = some m.cls := hown
  have hl : lv_has ls 3 [(0, .ref (q 0)), (1, .int (iI x1)), (2, .int (iI x2))] := hl
  have hiX12 : ∀ w ∈ u_ws RX12 TX12 85, w ∈ ws_mb_X12_bars := fun w h => List.mem_cons_of_mem _ (wx_lay w h)
  obtain ⟨H, hHe⟩ : ∃ H : Heap, H = s.heap := ⟨_, rfl⟩
  rw [← hHe] at hP
  have hS : va_S AS s.heap H [] := by rw [hHe]; exact hS
  suffices hgo : ∀ locs : List Loc, va_S AS s.heap H locs → W p l e (headSpec ws_mb_X12_bars ({ frames := 2, cells := 0, slots := 0, locals := 48 } : Room)).room s m [.ref (q 0), .int (iI x1), .int (iI x2)].toArray below meth c H locs 0 0 Q (F0 m 0 ls []) by
    have := hgo [] hS
    rw [hHe] at this
    exact this
  clear hS hHe
  intro locs hS
  rcases (show x1 = 0 ∨ x1 = 1 ∨ x1 = 2 ∨ x1 = 3 ∨ x1 = 4 by omega) with rfl | rfl | rfl | rfl | rfl
  · have hl : lv_has ls 3 [(0, .ref (q 0)), (1, .int (iI 0)), (2, .int (iI x2))] := hl
    refine lv_aload_n hx hb (dk_at dkX12_bars_0 0 rfl) rfl (lv_at hl 0 rfl) ?_
    refine va_get (D := (dC, dI)) (ci := 12) (v := .int (iI (A 0 8))) (C := RX12) (T := TX12) (N := 85) hx hb hts hiX12 hown hK hP 0 wm0 rfl 8 (by decide) (hts _ (List.mem_cons_of_mem _ wlq_0_16)) (fun _ h9 => h9) rfl (dk_at dkX12_bars_0 1 rfl) ?_
    have r_A_0_8 : (0 : Int) ≤ (A 0 8) ∧ (A 0 8) ≤ 5 := hI 0 8
    refine lv_if_ne (tgt := 53) hx hb (dk_at dkX12_bars_0 2 rfl) (by decide) (fun c1 => ?_) (fun c1 => ?_)
    · have c1 : ¬ (A 0 8) = 0 := mt (i_eq0 (rb r_A_0_8 (by decide) (by decide))).mpr c1
      exact RET _ _ _ _ _ ⟨(u_r_X12_bars (Or.inl ⟨rfl, (Or.inl ⟨c1, rfl⟩)⟩)), hI, fr.rf, trivial⟩ hP hS (dk_at dkX12_bars_1 11 rfl)
    · have c1 : (A 0 8) = 0 := (i_eq0 (rb r_A_0_8 (by decide) (by decide))).mp c1
      refine lv_aload_n hx hb (dk_at dkX12_bars_0 3 rfl) rfl (lv_at hl 0 rfl) ?_
      refine va_get (D := (dC, dI)) (ci := 12) (v := .int (iI (A 0 3))) (C := RX12) (T := TX12) (N := 85) hx hb hts hiX12 hown hK hP 0 wm0 rfl 3 (by decide) (hts _ (List.mem_cons_of_mem _ wlq_0_24)) (fun _ h9 => h9) rfl (dk_at dkX12_bars_0 4 rfl) ?_
      have r_A_0_3 : (0 : Int) ≤ (A 0 3) ∧ (A 0 3) ≤ 3 := hI 0 3
      refine lv_iconst (v := iI 1) hx hb (dk_at dkX12_bars_0 5 rfl) (by decide +kernel) ?_
      refine lv_icmp_ne (tgt := 53) hx hb (dk_at dkX12_bars_0 6 rfl) (by decide) (fun c2 => ?_) (fun c2 => ?_)
      · have c2 : ¬ (A 0 3) = 1 := mt (i_eq (rb r_A_0_3 (by decide) (by decide)) ⟨by decide, by decide⟩).mpr c2
        exact RET _ _ _ _ _ ⟨(u_r_X12_bars (Or.inl ⟨rfl, (Or.inr ⟨c1, (Or.inl ⟨c2, rfl⟩)⟩)⟩)), hI, fr.rf, trivial⟩ hP hS (dk_at dkX12_bars_1 11 rfl)
      · have c2 : (A 0 3) = 1 := (i_eq (rb r_A_0_3 (by decide) (by decide)) ⟨by decide, by decide⟩).mp c2
        refine lv_aload_n hx hb (dk_at dkX12_bars_0 7 rfl) rfl (lv_at hl 0 rfl) ?_
        refine lv_aload_n hx hb (dk_at dkX12_bars_0 8 rfl) rfl (lv_at hl 0 rfl) ?_
        refine va_get (D := (dC, dI)) (ci := 12) (v := .long (jI (A 0 7))) (C := RX12) (T := TX12) (N := 85) hx hb hts hiX12 hown hK hP 0 wm0 rfl 7 (by decide) (hts _ (List.mem_cons_of_mem _ wlq_0_26)) (fun _ h9 => h9) rfl (dk_at dkX12_bars_0 9 rfl) ?_
        have r_A_0_7 : (-9223372036854775808 : Int) ≤ (A 0 7) ∧ (A 0 7) ≤ 9223372036854775807 := hI 0 7
        refine x_calli (As := [.long (jI (A 0 7))]) (rest := []) ⟨hx, hb, hml, hown, hts⟩ (mb_X12_isOwn l dC dI cB cI cJ cZ cQ q _ (A 0 7) hI r_A_0_7) (cwV 1 hts (goodV wlq_2_23 wlq_2_24 wlq_2_25 wlq_0_8 wlq_0_43) rfl rfl rfl (by decide +kernel) ⟨Nat.le_of_ble_eq_true rfl, Nat.le_of_ble_eq_true rfl⟩) hK hDD hA0 hP hS 0 12 wm0 rfl rfl hl.1 (Nat.le_of_ble_eq_true rfl) (dk_at dkX12_bars_0 10 rfl) (fun z3 A4 H locs hw5 hP hS => ?_)
        obtain ⟨rfl, hw5⟩ := hw5
        have ghw5 : q_X12_isOwn (A 0 7) A z3 := hw5
        have hw5 := hw5.2
        have rz3 : 0 ≤ z3 ∧ z3 ≤ 1 := hw5.1
        refine lv_if_ne (tgt := 53) hx hb (dk_at dkX12_bars_0 11 rfl) (by decide) (fun c6 => ?_) (fun c6 => ?_)
        · have c6 : ¬ z3 = 0 := mt (i_eq0 (rb rz3 (by decide) (by decide))).mpr c6
          exact RET _ _ _ _ _ ⟨(u_r_X12_bars (Or.inl ⟨rfl, (Or.inr ⟨c1, (Or.inr ⟨c2, ⟨z3, ghw5, (Or.inl ⟨c6, rfl⟩)⟩⟩)⟩)⟩)), hI, fr.rf, trivial⟩ hP hS (dk_at dkX12_bars_1 11 rfl)
        · have c6 : z3 = 0 := (i_eq0 (rb rz3 (by decide) (by decide))).mp c6
          refine lv_iload_n hx hb (dk_at dkX12_bars_0 12 rfl) rfl (lv_at hl 2 rfl) ?_
          refine lv_iconst (v := iI (-1)) hx hb (dk_at dkX12_bars_0 13 rfl) (by decide +kernel) ?_
          refine lv_icmp_eq (tgt := 53) hx hb (dk_at dkX12_bars_0 14 rfl) (by decide) (fun c7 => ?_) (fun c7 => ?_)
          · have c7 : x2 = (-1) := (i_eq hx2 ⟨by decide, by decide⟩).mp c7
            exact RET _ _ _ _ _ ⟨(u_r_X12_bars (Or.inl ⟨rfl, (Or.inr ⟨c1, (Or.inr ⟨c2, ⟨z3, ghw5, (Or.inr ⟨c6, (Or.inl ⟨c7, rfl⟩)⟩)⟩⟩)⟩)⟩)), hI, fr.rf, trivial⟩ hP hS (dk_at dkX12_bars_1 11 rfl)
          · have c7 : ¬ x2 = (-1) := mt (i_eq hx2 ⟨by decide, by decide⟩).mpr c7
            refine lv_aload_n hx hb (dk_at dkX12_bars_0 15 rfl) rfl (lv_at hl 0 rfl) ?_
            refine lv_iload_n hx hb (dk_at dkX12_bars_1 0 rfl) rfl (lv_at hl 1 rfl) ?_
            refine lv_aload_n hx hb (dk_at dkX12_bars_1 1 rfl) rfl (lv_at hl 0 rfl) ?_
            refine va_get (D := (dC, dI)) (ci := 12) (v := .long (jI (A 0 7))) (C := RX12) (T := TX12) (N := 85) hx hb hts hiX12 hown hK hP 0 wm0 rfl 7 (by decide) (hts _ (List.mem_cons_of_mem _ wlq_0_26)) (fun _ h9 => h9) rfl (dk_at dkX12_bars_1 2 rfl) ?_
            have r_A_0_47 : (0 : Int) ≤ (A 0 47) ∧ (A 0 47) ≤ 1 := hI 0 47
            refine x_calli (As := [.int (iI 0), .long (jI (A 0 7))]) (rest := []) ⟨hx, hb, hml, hown, hts⟩ (mb_X12_named_0 l dC dI cB cI cJ cZ cQ q _ 0 (A 0 7) hI ⟨by decide, by decide⟩ r_A_0_7) (cwV 2 hts (goodV wlq_2_26 wlq_2_27 wlq_2_28 wlq_0_8 wlq_1_10) rfl rfl rfl (by decide +kernel) ⟨Nat.le_of_ble_eq_true rfl, Nat.le_of_ble_eq_true rfl⟩) hK hDD hA0 hP hS 0 12 wm0 rfl rfl hl.1 (Nat.le_of_ble_eq_true rfl) (dk_at dkX12_bars_1 3 rfl) (fun z8 A9 H locs hw10 hP hS => ?_)
            obtain ⟨rfl, hw10⟩ := hw10
            have ghw10 : q_X12_named_0 0 (A 0 7) A z8 := hw10
            have hw10 := hw10.2
            refine lv_iload_n hx hb (dk_at dkX12_bars_1 4 rfl) rfl (lv_at hl 2 rfl) ?_
            refine lv_icmp_ne (tgt := 53) hx hb (dk_at dkX12_bars_1 5 rfl) (by decide) (fun c11 => ?_) (fun c11 => ?_)
            · have c11 : ¬ z8 = x2 := mt (i_eq (by omega) hx2).mpr c11
              exact RET _ _ _ _ _ ⟨(u_r_X12_bars (Or.inl ⟨rfl, (Or.inr ⟨c1, (Or.inr ⟨c2, ⟨z3, ghw5, (Or.inr ⟨c6, (Or.inr ⟨c7, ⟨z8, ghw10, (Or.inl ⟨c11, rfl⟩)⟩⟩)⟩)⟩⟩)⟩)⟩)), hI, fr.rf, trivial⟩ hP hS (dk_at dkX12_bars_1 11 rfl)
            · have c11 : z8 = x2 := (i_eq (by omega) hx2).mp c11
              refine lv_aload_n hx hb (dk_at dkX12_bars_1 6 rfl) rfl (lv_at hl 0 rfl) ?_
              refine lv_iconst (v := iI 3) hx hb (dk_at dkX12_bars_1 7 rfl) (by decide +kernel) ?_
              refine lv_aload_n hx hb (dk_at dkX12_bars_1 8 rfl) rfl (lv_at hl 0 rfl) ?_
              refine va_get (D := (dC, dI)) (ci := 12) (v := .int (iI (A 0 4))) (C := RX12) (T := TX12) (N := 85) hx hb hts hiX12 hown hK hP 0 wm0 rfl 4 (by decide) (hts _ (List.mem_cons_of_mem _ wlq_0_23)) (fun _ h9 => h9) rfl (dk_at dkX12_bars_1 9 rfl) ?_
              have r_A_0_4 : (0 : Int) ≤ (A 0 4) ∧ (A 0 4) ≤ 1600 := hI 0 4
              refine x_callv (As := [.int (iI 3), .int (iI (A 0 4))]) (rest := []) ⟨hx, hb, hml, hown, hts⟩ (mc_X12_blame l dC dI cB cI cJ cZ cQ q _ 3 (A 0 4) hI ⟨by decide, by decide⟩ r_A_0_4) (cwV 2 hts (goodV wlq_0_31 wlq_0_32 wlq_0_33 wlq_0_8 wlq_0_15) rfl rfl rfl (by decide +kernel) ⟨Nat.le_of_ble_eq_true rfl, Nat.le_of_ble_eq_true rfl⟩) hK hDD hA0 hP hS 0 12 wm0 rfl rfl hl.1 (Nat.le_of_ble_eq_true rfl) (dk_at dkX12_bars_1 10 rfl) (fun A12 H locs hw13 hP hS => ?_)
              have ghw13 : q_X12_blame 3 (A 0 4) A A12 := hw13
              obtain ⟨_, hI, hf14, hw13⟩ := hw13
              have r_A12_0_8 : (0 : Int) ≤ (A12 0 8) ∧ (A12 0 8) ≤ 5 := hI 0 8
              exact RET _ _ _ _ _ ⟨(u_r_X12_bars (Or.inl ⟨rfl, (Or.inr ⟨c1, (Or.inr ⟨c2, ⟨z3, ghw5, (Or.inr ⟨c6, (Or.inr ⟨c7, ⟨z8, ghw10, (Or.inr ⟨c11, ⟨A12, ghw13, rfl⟩⟩)⟩⟩)⟩)⟩⟩)⟩)⟩)), hI, fr.trans (fr.rf) hf14 rfl rfl, trivial⟩ hP hS (dk_at dkX12_bars_1 11 rfl)
  · have hl : lv_has ls 3 [(0, .ref (q 0)), (1, .int (iI 1)), (2, .int (iI x2))] := hl
    refine lv_aload_n hx hb (dk_at dkX12_bars_0 0 rfl) rfl (lv_at hl 0 rfl) ?_
    refine va_get (D := (dC, dI)) (ci := 12) (v := .int (iI (A 0 8))) (C := RX12) (T := TX12) (N := 85) hx hb hts hiX12 hown hK hP 0 wm0 rfl 8 (by decide) (hts _ (List.mem_cons_of_mem _ wlq_0_16)) (fun _ h9 => h9) rfl (dk_at dkX12_bars_0 1 rfl) ?_
    have r_A_0_8 : (0 : Int) ≤ (A 0 8) ∧ (A 0 8) ≤ 5 := hI 0 8
    refine lv_if_ne (tgt := 53) hx hb (dk_at dkX12_bars_0 2 rfl) (by decide) (fun c15 => ?_) (fun c15 => ?_)
    · have c15 : ¬ (A 0 8) = 0 := mt (i_eq0 (rb r_A_0_8 (by decide) (by decide))).mpr c15
      exact RET _ _ _ _ _ ⟨(u_r_X12_bars (Or.inr (Or.inl ⟨rfl, (Or.inl ⟨c15, rfl⟩)⟩))), hI, fr.rf, trivial⟩ hP hS (dk_at dkX12_bars_1 11 rfl)
    · have c15 : (A 0 8) = 0 := (i_eq0 (rb r_A_0_8 (by decide) (by decide))).mp c15
      refine lv_aload_n hx hb (dk_at dkX12_bars_0 3 rfl) rfl (lv_at hl 0 rfl) ?_
      refine va_get (D := (dC, dI)) (ci := 12) (v := .int (iI (A 0 3))) (C := RX12) (T := TX12) (N := 85) hx hb hts hiX12 hown hK hP 0 wm0 rfl 3 (by decide) (hts _ (List.mem_cons_of_mem _ wlq_0_24)) (fun _ h9 => h9) rfl (dk_at dkX12_bars_0 4 rfl) ?_
      have r_A_0_3 : (0 : Int) ≤ (A 0 3) ∧ (A 0 3) ≤ 3 := hI 0 3
      refine lv_iconst (v := iI 1) hx hb (dk_at dkX12_bars_0 5 rfl) (by decide +kernel) ?_
      refine lv_icmp_ne (tgt := 53) hx hb (dk_at dkX12_bars_0 6 rfl) (by decide) (fun c16 => ?_) (fun c16 => ?_)
      · have c16 : ¬ (A 0 3) = 1 := mt (i_eq (rb r_A_0_3 (by decide) (by decide)) ⟨by decide, by decide⟩).mpr c16
        exact RET _ _ _ _ _ ⟨(u_r_X12_bars (Or.inr (Or.inl ⟨rfl, (Or.inr ⟨c15, (Or.inl ⟨c16, rfl⟩)⟩)⟩))), hI, fr.rf, trivial⟩ hP hS (dk_at dkX12_bars_1 11 rfl)
      · have c16 : (A 0 3) = 1 := (i_eq (rb r_A_0_3 (by decide) (by decide)) ⟨by decide, by decide⟩).mp c16
        refine lv_aload_n hx hb (dk_at dkX12_bars_0 7 rfl) rfl (lv_at hl 0 rfl) ?_
        refine lv_aload_n hx hb (dk_at dkX12_bars_0 8 rfl) rfl (lv_at hl 0 rfl) ?_
        refine va_get (D := (dC, dI)) (ci := 12) (v := .long (jI (A 0 7))) (C := RX12) (T := TX12) (N := 85) hx hb hts hiX12 hown hK hP 0 wm0 rfl 7 (by decide) (hts _ (List.mem_cons_of_mem _ wlq_0_26)) (fun _ h9 => h9) rfl (dk_at dkX12_bars_0 9 rfl) ?_
        have r_A_0_7 : (-9223372036854775808 : Int) ≤ (A 0 7) ∧ (A 0 7) ≤ 9223372036854775807 := hI 0 7
        refine x_calli (As := [.long (jI (A 0 7))]) (rest := []) ⟨hx, hb, hml, hown, hts⟩ (mb_X12_isOwn l dC dI cB cI cJ cZ cQ q _ (A 0 7) hI r_A_0_7) (cwV 1 hts (goodV wlq_2_23 wlq_2_24 wlq_2_25 wlq_0_8 wlq_0_43) rfl rfl rfl (by decide +kernel) ⟨Nat.le_of_ble_eq_true rfl, Nat.le_of_ble_eq_true rfl⟩) hK hDD hA0 hP hS 0 12 wm0 rfl rfl hl.1 (Nat.le_of_ble_eq_true rfl) (dk_at dkX12_bars_0 10 rfl) (fun z17 A18 H locs hw19 hP hS => ?_)
        obtain ⟨rfl, hw19⟩ := hw19
        have ghw19 : q_X12_isOwn (A 0 7) A z17 := hw19
        have hw19 := hw19.2
        have rz17 : 0 ≤ z17 ∧ z17 ≤ 1 := hw19.1
        refine lv_if_ne (tgt := 53) hx hb (dk_at dkX12_bars_0 11 rfl) (by decide) (fun c20 => ?_) (fun c20 => ?_)
        · have c20 : ¬ z17 = 0 := mt (i_eq0 (rb rz17 (by decide) (by decide))).mpr c20
          exact RET _ _ _ _ _ ⟨(u_r_X12_bars (Or.inr (Or.inl ⟨rfl, (Or.inr ⟨c15, (Or.inr ⟨c16, ⟨z17, ghw19, (Or.inl ⟨c20, rfl⟩)⟩⟩)⟩)⟩))), hI, fr.rf, trivial⟩ hP hS (dk_at dkX12_bars_1 11 rfl)
        · have c20 : z17 = 0 := (i_eq0 (rb rz17 (by decide) (by decide))).mp c20
          refine lv_iload_n hx hb (dk_at dkX12_bars_0 12 rfl) rfl (lv_at hl 2 rfl) ?_
          refine lv_iconst (v := iI (-1)) hx hb (dk_at dkX12_bars_0 13 rfl) (by decide +kernel) ?_
          refine lv_icmp_eq (tgt := 53) hx hb (dk_at dkX12_bars_0 14 rfl) (by decide) (fun c21 => ?_) (fun c21 => ?_)
          · have c21 : x2 = (-1) := (i_eq hx2 ⟨by decide, by decide⟩).mp c21
            exact RET _ _ _ _ _ ⟨(u_r_X12_bars (Or.inr (Or.inl ⟨rfl, (Or.inr ⟨c15, (Or.inr ⟨c16, ⟨z17, ghw19, (Or.inr ⟨c20, (Or.inl ⟨c21, rfl⟩)⟩)⟩⟩)⟩)⟩))), hI, fr.rf, trivial⟩ hP hS (dk_at dkX12_bars_1 11 rfl)
          · have c21 : ¬ x2 = (-1) := mt (i_eq hx2 ⟨by decide, by decide⟩).mpr c21
            refine lv_aload_n hx hb (dk_at dkX12_bars_0 15 rfl) rfl (lv_at hl 0 rfl) ?_
            refine lv_iload_n hx hb (dk_at dkX12_bars_1 0 rfl) rfl (lv_at hl 1 rfl) ?_
            refine lv_aload_n hx hb (dk_at dkX12_bars_1 1 rfl) rfl (lv_at hl 0 rfl) ?_
            refine va_get (D := (dC, dI)) (ci := 12) (v := .long (jI (A 0 7))) (C := RX12) (T := TX12) (N := 85) hx hb hts hiX12 hown hK hP 0 wm0 rfl 7 (by decide) (hts _ (List.mem_cons_of_mem _ wlq_0_26)) (fun _ h9 => h9) rfl (dk_at dkX12_bars_1 2 rfl) ?_
            have r_A_0_47 : (0 : Int) ≤ (A 0 47) ∧ (A 0 47) ≤ 1 := hI 0 47
            refine x_calli (As := [.int (iI 1), .long (jI (A 0 7))]) (rest := []) ⟨hx, hb, hml, hown, hts⟩ (mb_X12_named_1 l dC dI cB cI cJ cZ cQ q _ 1 (A 0 7) hI ⟨by decide, by decide⟩ r_A_0_7) (cwV 2 hts (goodV wlq_2_26 wlq_2_27 wlq_2_28 wlq_0_8 wlq_1_10) rfl rfl rfl (by decide +kernel) ⟨Nat.le_of_ble_eq_true rfl, Nat.le_of_ble_eq_true rfl⟩) hK hDD hA0 hP hS 0 12 wm0 rfl rfl hl.1 (Nat.le_of_ble_eq_true rfl) (dk_at dkX12_bars_1 3 rfl) (fun z22 A23 H locs hw24 hP hS => ?_)
            obtain ⟨rfl, hw24⟩ := hw24
            have ghw24 : q_X12_named_1 1 (A 0 7) A z22 := hw24
            have hw24 := hw24.2
            refine lv_iload_n hx hb (dk_at dkX12_bars_1 4 rfl) rfl (lv_at hl 2 rfl) ?_
            refine lv_icmp_ne (tgt := 53) hx hb (dk_at dkX12_bars_1 5 rfl) (by decide) (fun c25 => ?_) (fun c25 => ?_)
            · have c25 : ¬ z22 = x2 := mt (i_eq (by omega) hx2).mpr c25
              exact RET _ _ _ _ _ ⟨(u_r_X12_bars (Or.inr (Or.inl ⟨rfl, (Or.inr ⟨c15, (Or.inr ⟨c16, ⟨z17, ghw19, (Or.inr ⟨c20, (Or.inr ⟨c21, ⟨z22, ghw24, (Or.inl ⟨c25, rfl⟩)⟩⟩)⟩)⟩⟩)⟩)⟩))), hI, fr.rf, trivial⟩ hP hS (dk_at dkX12_bars_1 11 rfl)
            · have c25 : z22 = x2 := (i_eq (by omega) hx2).mp c25
              refine lv_aload_n hx hb (dk_at dkX12_bars_1 6 rfl) rfl (lv_at hl 0 rfl) ?_
              refine lv_iconst (v := iI 3) hx hb (dk_at dkX12_bars_1 7 rfl) (by decide +kernel) ?_
              refine lv_aload_n hx hb (dk_at dkX12_bars_1 8 rfl) rfl (lv_at hl 0 rfl) ?_
              refine va_get (D := (dC, dI)) (ci := 12) (v := .int (iI (A 0 4))) (C := RX12) (T := TX12) (N := 85) hx hb hts hiX12 hown hK hP 0 wm0 rfl 4 (by decide) (hts _ (List.mem_cons_of_mem _ wlq_0_23)) (fun _ h9 => h9) rfl (dk_at dkX12_bars_1 9 rfl) ?_
              have r_A_0_4 : (0 : Int) ≤ (A 0 4) ∧ (A 0 4) ≤ 1600 := hI 0 4
              refine x_callv (As := [.int (iI 3), .int (iI (A 0 4))]) (rest := []) ⟨hx, hb, hml, hown, hts⟩ (mc_X12_blame l dC dI cB cI cJ cZ cQ q _ 3 (A 0 4) hI ⟨by decide, by decide⟩ r_A_0_4) (cwV 2 hts (goodV wlq_0_31 wlq_0_32 wlq_0_33 wlq_0_8 wlq_0_15) rfl rfl rfl (by decide +kernel) ⟨Nat.le_of_ble_eq_true rfl, Nat.le_of_ble_eq_true rfl⟩) hK hDD hA0 hP hS 0 12 wm0 rfl rfl hl.1 (Nat.le_of_ble_eq_true rfl) (dk_at dkX12_bars_1 10 rfl) (fun A26 H locs hw27 hP hS => ?_)
              have ghw27 : q_X12_blame 3 (A 0 4) A A26 := hw27
              obtain ⟨_, hI, hf28, hw27⟩ := hw27
              have r_A26_0_8 : (0 : Int) ≤ (A26 0 8) ∧ (A26 0 8) ≤ 5 := hI 0 8
              exact RET _ _ _ _ _ ⟨(u_r_X12_bars (Or.inr (Or.inl ⟨rfl, (Or.inr ⟨c15, (Or.inr ⟨c16, ⟨z17, ghw19, (Or.inr ⟨c20, (Or.inr ⟨c21, ⟨z22, ghw24, (Or.inr ⟨c25, ⟨A26, ghw27, rfl⟩⟩)⟩⟩)⟩)⟩⟩)⟩)⟩))), hI, fr.trans (fr.rf) hf28 rfl rfl, trivial⟩ hP hS (dk_at dkX12_bars_1 11 rfl)
  · have hl : lv_has ls 3 [(0, .ref (q 0)), (1, .int (iI 2)), (2, .int (iI x2))] := hl
    refine lv_aload_n hx hb (dk_at dkX12_bars_0 0 rfl) rfl (lv_at hl 0 rfl) ?_
    refine va_get (D := (dC, dI)) (ci := 12) (v := .int (iI (A 0 8))) (C := RX12) (T := TX12) (N := 85) hx hb hts hiX12 hown hK hP 0 wm0 rfl 8 (by decide) (hts _ (List.mem_cons_of_mem _ wlq_0_16)) (fun _ h9 => h9) rfl (dk_at dkX12_bars_0 1 rfl) ?_
    have r_A_0_8 : (0 : Int) ≤ (A 0 8) ∧ (A 0 8) ≤ 5 := hI 0 8
    refine lv_if_ne (tgt := 53) hx hb (dk_at dkX12_bars_0 2 rfl) (by decide) (fun c29 => ?_) (fun c29 => ?_)
    · have c29 : ¬ (A 0 8) = 0 := mt (i_eq0 (rb r_A_0_8 (by decide) (by decide))).mpr c29
      exact RET _ _ _ _ _ ⟨(u_r_X12_bars (Or.inr (Or.inr (Or.inl ⟨rfl, (Or.inl ⟨c29, rfl⟩)⟩)))), hI, fr.rf, trivial⟩ hP hS (dk_at dkX12_bars_1 11 rfl)
    · have c29 : (A 0 8) = 0 := (i_eq0 (rb r_A_0_8 (by decide) (by decide))).mp c29
      refine lv_aload_n hx hb (dk_at dkX12_bars_0 3 rfl) rfl (lv_at hl 0 rfl) ?_
      refine va_get (D := (dC, dI)) (ci := 12) (v := .int (iI (A 0 3))) (C := RX12) (T := TX12) (N := 85) hx hb hts hiX12 hown hK hP 0 wm0 rfl 3 (by decide) (hts _ (List.mem_cons_of_mem _ wlq_0_24)) (fun _ h9 => h9) rfl (dk_at dkX12_bars_0 4 rfl) ?_
      have r_A_0_3 : (0 : Int) ≤ (A 0 3) ∧ (A 0 3) ≤ 3 := hI 0 3
      refine lv_iconst (v := iI 1) hx hb (dk_at dkX12_bars_0 5 rfl) (by decide +kernel) ?_
      refine lv_icmp_ne (tgt := 53) hx hb (dk_at dkX12_bars_0 6 rfl) (by decide) (fun c30 => ?_) (fun c30 => ?_)
      · have c30 : ¬ (A 0 3) = 1 := mt (i_eq (rb r_A_0_3 (by decide) (by decide)) ⟨by decide, by decide⟩).mpr c30
        exact RET _ _ _ _ _ ⟨(u_r_X12_bars (Or.inr (Or.inr (Or.inl ⟨rfl, (Or.inr ⟨c29, (Or.inl ⟨c30, rfl⟩)⟩)⟩)))), hI, fr.rf, trivial⟩ hP hS (dk_at dkX12_bars_1 11 rfl)
      · have c30 : (A 0 3) = 1 := (i_eq (rb r_A_0_3 (by decide) (by decide)) ⟨by decide, by decide⟩).mp c30
        refine lv_aload_n hx hb (dk_at dkX12_bars_0 7 rfl) rfl (lv_at hl 0 rfl) ?_
        refine lv_aload_n hx hb (dk_at dkX12_bars_0 8 rfl) rfl (lv_at hl 0 rfl) ?_
        refine va_get (D := (dC, dI)) (ci := 12) (v := .long (jI (A 0 7))) (C := RX12) (T := TX12) (N := 85) hx hb hts hiX12 hown hK hP 0 wm0 rfl 7 (by decide) (hts _ (List.mem_cons_of_mem _ wlq_0_26)) (fun _ h9 => h9) rfl (dk_at dkX12_bars_0 9 rfl) ?_
        have r_A_0_7 : (-9223372036854775808 : Int) ≤ (A 0 7) ∧ (A 0 7) ≤ 9223372036854775807 := hI 0 7
        refine x_calli (As := [.long (jI (A 0 7))]) (rest := []) ⟨hx, hb, hml, hown, hts⟩ (mb_X12_isOwn l dC dI cB cI cJ cZ cQ q _ (A 0 7) hI r_A_0_7) (cwV 1 hts (goodV wlq_2_23 wlq_2_24 wlq_2_25 wlq_0_8 wlq_0_43) rfl rfl rfl (by decide +kernel) ⟨Nat.le_of_ble_eq_true rfl, Nat.le_of_ble_eq_true rfl⟩) hK hDD hA0 hP hS 0 12 wm0 rfl rfl hl.1 (Nat.le_of_ble_eq_true rfl) (dk_at dkX12_bars_0 10 rfl) (fun z31 A32 H locs hw33 hP hS => ?_)
        obtain ⟨rfl, hw33⟩ := hw33
        have ghw33 : q_X12_isOwn (A 0 7) A z31 := hw33
        have hw33 := hw33.2
        have rz31 : 0 ≤ z31 ∧ z31 ≤ 1 := hw33.1
        refine lv_if_ne (tgt := 53) hx hb (dk_at dkX12_bars_0 11 rfl) (by decide) (fun c34 => ?_) (fun c34 => ?_)
        · have c34 : ¬ z31 = 0 := mt (i_eq0 (rb rz31 (by decide) (by decide))).mpr c34
          exact RET _ _ _ _ _ ⟨(u_r_X12_bars (Or.inr (Or.inr (Or.inl ⟨rfl, (Or.inr ⟨c29, (Or.inr ⟨c30, ⟨z31, ghw33, (Or.inl ⟨c34, rfl⟩)⟩⟩)⟩)⟩)))), hI, fr.rf, trivial⟩ hP hS (dk_at dkX12_bars_1 11 rfl)
        · have c34 : z31 = 0 := (i_eq0 (rb rz31 (by decide) (by decide))).mp c34
          refine lv_iload_n hx hb (dk_at dkX12_bars_0 12 rfl) rfl (lv_at hl 2 rfl) ?_
          refine lv_iconst (v := iI (-1)) hx hb (dk_at dkX12_bars_0 13 rfl) (by decide +kernel) ?_
          refine lv_icmp_eq (tgt := 53) hx hb (dk_at dkX12_bars_0 14 rfl) (by decide) (fun c35 => ?_) (fun c35 => ?_)
          · have c35 : x2 = (-1) := (i_eq hx2 ⟨by decide, by decide⟩).mp c35
            exact RET _ _ _ _ _ ⟨(u_r_X12_bars (Or.inr (Or.inr (Or.inl ⟨rfl, (Or.inr ⟨c29, (Or.inr ⟨c30, ⟨z31, ghw33, (Or.inr ⟨c34, (Or.inl ⟨c35, rfl⟩)⟩)⟩⟩)⟩)⟩)))), hI, fr.rf, trivial⟩ hP hS (dk_at dkX12_bars_1 11 rfl)
          · have c35 : ¬ x2 = (-1) := mt (i_eq hx2 ⟨by decide, by decide⟩).mpr c35
            refine lv_aload_n hx hb (dk_at dkX12_bars_0 15 rfl) rfl (lv_at hl 0 rfl) ?_
            refine lv_iload_n hx hb (dk_at dkX12_bars_1 0 rfl) rfl (lv_at hl 1 rfl) ?_
            refine lv_aload_n hx hb (dk_at dkX12_bars_1 1 rfl) rfl (lv_at hl 0 rfl) ?_
            refine va_get (D := (dC, dI)) (ci := 12) (v := .long (jI (A 0 7))) (C := RX12) (T := TX12) (N := 85) hx hb hts hiX12 hown hK hP 0 wm0 rfl 7 (by decide) (hts _ (List.mem_cons_of_mem _ wlq_0_26)) (fun _ h9 => h9) rfl (dk_at dkX12_bars_1 2 rfl) ?_
            have r_A_0_47 : (0 : Int) ≤ (A 0 47) ∧ (A 0 47) ≤ 1 := hI 0 47
            refine x_calli (As := [.int (iI 2), .long (jI (A 0 7))]) (rest := []) ⟨hx, hb, hml, hown, hts⟩ (mb_X12_named_2 l dC dI cB cI cJ cZ cQ q _ 2 (A 0 7) hI ⟨by decide, by decide⟩ r_A_0_7) (cwV 2 hts (goodV wlq_2_26 wlq_2_27 wlq_2_28 wlq_0_8 wlq_1_10) rfl rfl rfl (by decide +kernel) ⟨Nat.le_of_ble_eq_true rfl, Nat.le_of_ble_eq_true rfl⟩) hK hDD hA0 hP hS 0 12 wm0 rfl rfl hl.1 (Nat.le_of_ble_eq_true rfl) (dk_at dkX12_bars_1 3 rfl) (fun z36 A37 H locs hw38 hP hS => ?_)
            obtain ⟨rfl, hw38⟩ := hw38
            have ghw38 : q_X12_named_2 2 (A 0 7) A z36 := hw38
            have hw38 := hw38.2
            refine lv_iload_n hx hb (dk_at dkX12_bars_1 4 rfl) rfl (lv_at hl 2 rfl) ?_
            refine lv_icmp_ne (tgt := 53) hx hb (dk_at dkX12_bars_1 5 rfl) (by decide) (fun c39 => ?_) (fun c39 => ?_)
            · have c39 : ¬ z36 = x2 := mt (i_eq (by omega) hx2).mpr c39
              exact RET _ _ _ _ _ ⟨(u_r_X12_bars (Or.inr (Or.inr (Or.inl ⟨rfl, (Or.inr ⟨c29, (Or.inr ⟨c30, ⟨z31, ghw33, (Or.inr ⟨c34, (Or.inr ⟨c35, ⟨z36, ghw38, (Or.inl ⟨c39, rfl⟩)⟩⟩)⟩)⟩⟩)⟩)⟩)))), hI, fr.rf, trivial⟩ hP hS (dk_at dkX12_bars_1 11 rfl)
            · have c39 : z36 = x2 := (i_eq (by omega) hx2).mp c39
              refine lv_aload_n hx hb (dk_at dkX12_bars_1 6 rfl) rfl (lv_at hl 0 rfl) ?_
              refine lv_iconst (v := iI 3) hx hb (dk_at dkX12_bars_1 7 rfl) (by decide +kernel) ?_
              refine lv_aload_n hx hb (dk_at dkX12_bars_1 8 rfl) rfl (lv_at hl 0 rfl) ?_
              refine va_get (D := (dC, dI)) (ci := 12) (v := .int (iI (A 0 4))) (C := RX12) (T := TX12) (N := 85) hx hb hts hiX12 hown hK hP 0 wm0 rfl 4 (by decide) (hts _ (List.mem_cons_of_mem _ wlq_0_23)) (fun _ h9 => h9) rfl (dk_at dkX12_bars_1 9 rfl) ?_
              have r_A_0_4 : (0 : Int) ≤ (A 0 4) ∧ (A 0 4) ≤ 1600 := hI 0 4
              refine x_callv (As := [.int (iI 3), .int (iI (A 0 4))]) (rest := []) ⟨hx, hb, hml, hown, hts⟩ (mc_X12_blame l dC dI cB cI cJ cZ cQ q _ 3 (A 0 4) hI ⟨by decide, by decide⟩ r_A_0_4) (cwV 2 hts (goodV wlq_0_31 wlq_0_32 wlq_0_33 wlq_0_8 wlq_0_15) rfl rfl rfl (by decide +kernel) ⟨Nat.le_of_ble_eq_true rfl, Nat.le_of_ble_eq_true rfl⟩) hK hDD hA0 hP hS 0 12 wm0 rfl rfl hl.1 (Nat.le_of_ble_eq_true rfl) (dk_at dkX12_bars_1 10 rfl) (fun A40 H locs hw41 hP hS => ?_)
              have ghw41 : q_X12_blame 3 (A 0 4) A A40 := hw41
              obtain ⟨_, hI, hf42, hw41⟩ := hw41
              have r_A40_0_8 : (0 : Int) ≤ (A40 0 8) ∧ (A40 0 8) ≤ 5 := hI 0 8
              exact RET _ _ _ _ _ ⟨(u_r_X12_bars (Or.inr (Or.inr (Or.inl ⟨rfl, (Or.inr ⟨c29, (Or.inr ⟨c30, ⟨z31, ghw33, (Or.inr ⟨c34, (Or.inr ⟨c35, ⟨z36, ghw38, (Or.inr ⟨c39, ⟨A40, ghw41, rfl⟩⟩)⟩⟩)⟩)⟩⟩)⟩)⟩)))), hI, fr.trans (fr.rf) hf42 rfl rfl, trivial⟩ hP hS (dk_at dkX12_bars_1 11 rfl)
  · have hl : lv_has ls 3 [(0, .ref (q 0)), (1, .int (iI 3)), (2, .int (iI x2))] := hl
    refine lv_aload_n hx hb (dk_at dkX12_bars_0 0 rfl) rfl (lv_at hl 0 rfl) ?_
    refine va_get (D := (dC, dI)) (ci := 12) (v := .int (iI (A 0 8))) (C := RX12) (T := TX12) (N := 85) hx hb hts hiX12 hown hK hP 0 wm0 rfl 8 (by decide) (hts _ (List.mem_cons_of_mem _ wlq_0_16)) (fun _ h9 => h9) rfl (dk_at dkX12_bars_0 1 rfl) ?_
    have r_A_0_8 : (0 : Int) ≤ (A 0 8) ∧ (A 0 8) ≤ 5 := hI 0 8
    refine lv_if_ne (tgt := 53) hx hb (dk_at dkX12_bars_0 2 rfl) (by decide) (fun c43 => ?_) (fun c43 => ?_)
    · have c43 : ¬ (A 0 8) = 0 := mt (i_eq0 (rb r_A_0_8 (by decide) (by decide))).mpr c43
      exact RET _ _ _ _ _ ⟨(u_r_X12_bars (Or.inr (Or.inr (Or.inr (Or.inl ⟨rfl, (Or.inl ⟨c43, rfl⟩)⟩))))), hI, fr.rf, trivial⟩ hP hS (dk_at dkX12_bars_1 11 rfl)
    · have c43 : (A 0 8) = 0 := (i_eq0 (rb r_A_0_8 (by decide) (by decide))).mp c43
      refine lv_aload_n hx hb (dk_at dkX12_bars_0 3 rfl) rfl (lv_at hl 0 rfl) ?_
      refine va_get (D := (dC, dI)) (ci := 12) (v := .int (iI (A 0 3))) (C := RX12) (T := TX12) (N := 85) hx hb hts hiX12 hown hK hP 0 wm0 rfl 3 (by decide) (hts _ (List.mem_cons_of_mem _ wlq_0_24)) (fun _ h9 => h9) rfl (dk_at dkX12_bars_0 4 rfl) ?_
      have r_A_0_3 : (0 : Int) ≤ (A 0 3) ∧ (A 0 3) ≤ 3 := hI 0 3
      refine lv_iconst (v := iI 1) hx hb (dk_at dkX12_bars_0 5 rfl) (by decide +kernel) ?_
      refine lv_icmp_ne (tgt := 53) hx hb (dk_at dkX12_bars_0 6 rfl) (by decide) (fun c44 => ?_) (fun c44 => ?_)
      · have c44 : ¬ (A 0 3) = 1 := mt (i_eq (rb r_A_0_3 (by decide) (by decide)) ⟨by decide, by decide⟩).mpr c44
        exact RET _ _ _ _ _ ⟨(u_r_X12_bars (Or.inr (Or.inr (Or.inr (Or.inl ⟨rfl, (Or.inr ⟨c43, (Or.inl ⟨c44, rfl⟩)⟩)⟩))))), hI, fr.rf, trivial⟩ hP hS (dk_at dkX12_bars_1 11 rfl)
      · have c44 : (A 0 3) = 1 := (i_eq (rb r_A_0_3 (by decide) (by decide)) ⟨by decide, by decide⟩).mp c44
        refine lv_aload_n hx hb (dk_at dkX12_bars_0 7 rfl) rfl (lv_at hl 0 rfl) ?_
        refine lv_aload_n hx hb (dk_at dkX12_bars_0 8 rfl) rfl (lv_at hl 0 rfl) ?_
        refine va_get (D := (dC, dI)) (ci := 12) (v := .long (jI (A 0 7))) (C := RX12) (T := TX12) (N := 85) hx hb hts hiX12 hown hK hP 0 wm0 rfl 7 (by decide) (hts _ (List.mem_cons_of_mem _ wlq_0_26)) (fun _ h9 => h9) rfl (dk_at dkX12_bars_0 9 rfl) ?_
        have r_A_0_7 : (-9223372036854775808 : Int) ≤ (A 0 7) ∧ (A 0 7) ≤ 9223372036854775807 := hI 0 7
        refine x_calli (As := [.long (jI (A 0 7))]) (rest := []) ⟨hx, hb, hml, hown, hts⟩ (mb_X12_isOwn l dC dI cB cI cJ cZ cQ q _ (A 0 7) hI r_A_0_7) (cwV 1 hts (goodV wlq_2_23 wlq_2_24 wlq_2_25 wlq_0_8 wlq_0_43) rfl rfl rfl (by decide +kernel) ⟨Nat.le_of_ble_eq_true rfl, Nat.le_of_ble_eq_true rfl⟩) hK hDD hA0 hP hS 0 12 wm0 rfl rfl hl.1 (Nat.le_of_ble_eq_true rfl) (dk_at dkX12_bars_0 10 rfl) (fun z45 A46 H locs hw47 hP hS => ?_)
        obtain ⟨rfl, hw47⟩ := hw47
        have ghw47 : q_X12_isOwn (A 0 7) A z45 := hw47
        have hw47 := hw47.2
        have rz45 : 0 ≤ z45 ∧ z45 ≤ 1 := hw47.1
        refine lv_if_ne (tgt := 53) hx hb (dk_at dkX12_bars_0 11 rfl) (by decide) (fun c48 => ?_) (fun c48 => ?_)
        · have c48 : ¬ z45 = 0 := mt (i_eq0 (rb rz45 (by decide) (by decide))).mpr c48
          exact RET _ _ _ _ _ ⟨(u_r_X12_bars (Or.inr (Or.inr (Or.inr (Or.inl ⟨rfl, (Or.inr ⟨c43, (Or.inr ⟨c44, ⟨z45, ghw47, (Or.inl ⟨c48, rfl⟩)⟩⟩)⟩)⟩))))), hI, fr.rf, trivial⟩ hP hS (dk_at dkX12_bars_1 11 rfl)
        · have c48 : z45 = 0 := (i_eq0 (rb rz45 (by decide) (by decide))).mp c48
          refine lv_iload_n hx hb (dk_at dkX12_bars_0 12 rfl) rfl (lv_at hl 2 rfl) ?_
          refine lv_iconst (v := iI (-1)) hx hb (dk_at dkX12_bars_0 13 rfl) (by decide +kernel) ?_
          refine lv_icmp_eq (tgt := 53) hx hb (dk_at dkX12_bars_0 14 rfl) (by decide) (fun c49 => ?_) (fun c49 => ?_)
          · have c49 : x2 = (-1) := (i_eq hx2 ⟨by decide, by decide⟩).mp c49
            exact RET _ _ _ _ _ ⟨(u_r_X12_bars (Or.inr (Or.inr (Or.inr (Or.inl ⟨rfl, (Or.inr ⟨c43, (Or.inr ⟨c44, ⟨z45, ghw47, (Or.inr ⟨c48, (Or.inl ⟨c49, rfl⟩)⟩)⟩⟩)⟩)⟩))))), hI, fr.rf, trivial⟩ hP hS (dk_at dkX12_bars_1 11 rfl)
          · have c49 : ¬ x2 = (-1) := mt (i_eq hx2 ⟨by decide, by decide⟩).mpr c49
            refine lv_aload_n hx hb (dk_at dkX12_bars_0 15 rfl) rfl (lv_at hl 0 rfl) ?_
            refine lv_iload_n hx hb (dk_at dkX12_bars_1 0 rfl) rfl (lv_at hl 1 rfl) ?_
            refine lv_aload_n hx hb (dk_at dkX12_bars_1 1 rfl) rfl (lv_at hl 0 rfl) ?_
            refine va_get (D := (dC, dI)) (ci := 12) (v := .long (jI (A 0 7))) (C := RX12) (T := TX12) (N := 85) hx hb hts hiX12 hown hK hP 0 wm0 rfl 7 (by decide) (hts _ (List.mem_cons_of_mem _ wlq_0_26)) (fun _ h9 => h9) rfl (dk_at dkX12_bars_1 2 rfl) ?_
            have r_A_0_47 : (0 : Int) ≤ (A 0 47) ∧ (A 0 47) ≤ 1 := hI 0 47
            refine x_calli (As := [.int (iI 3), .long (jI (A 0 7))]) (rest := []) ⟨hx, hb, hml, hown, hts⟩ (mb_X12_named_3 l dC dI cB cI cJ cZ cQ q _ 3 (A 0 7) hI ⟨by decide, by decide⟩ r_A_0_7) (cwV 2 hts (goodV wlq_2_26 wlq_2_27 wlq_2_28 wlq_0_8 wlq_1_10) rfl rfl rfl (by decide +kernel) ⟨Nat.le_of_ble_eq_true rfl, Nat.le_of_ble_eq_true rfl⟩) hK hDD hA0 hP hS 0 12 wm0 rfl rfl hl.1 (Nat.le_of_ble_eq_true rfl) (dk_at dkX12_bars_1 3 rfl) (fun z50 A51 H locs hw52 hP hS => ?_)
            obtain ⟨rfl, hw52⟩ := hw52
            have ghw52 : q_X12_named_3 3 (A 0 7) A z50 := hw52
            have hw52 := hw52.2
            refine lv_iload_n hx hb (dk_at dkX12_bars_1 4 rfl) rfl (lv_at hl 2 rfl) ?_
            refine lv_icmp_ne (tgt := 53) hx hb (dk_at dkX12_bars_1 5 rfl) (by decide) (fun c53 => ?_) (fun c53 => ?_)
            · have c53 : ¬ z50 = x2 := mt (i_eq (by omega) hx2).mpr c53
              exact RET _ _ _ _ _ ⟨(u_r_X12_bars (Or.inr (Or.inr (Or.inr (Or.inl ⟨rfl, (Or.inr ⟨c43, (Or.inr ⟨c44, ⟨z45, ghw47, (Or.inr ⟨c48, (Or.inr ⟨c49, ⟨z50, ghw52, (Or.inl ⟨c53, rfl⟩)⟩⟩)⟩)⟩⟩)⟩)⟩))))), hI, fr.rf, trivial⟩ hP hS (dk_at dkX12_bars_1 11 rfl)
            · have c53 : z50 = x2 := (i_eq (by omega) hx2).mp c53
              refine lv_aload_n hx hb (dk_at dkX12_bars_1 6 rfl) rfl (lv_at hl 0 rfl) ?_
              refine lv_iconst (v := iI 3) hx hb (dk_at dkX12_bars_1 7 rfl) (by decide +kernel) ?_
              refine lv_aload_n hx hb (dk_at dkX12_bars_1 8 rfl) rfl (lv_at hl 0 rfl) ?_
              refine va_get (D := (dC, dI)) (ci := 12) (v := .int (iI (A 0 4))) (C := RX12) (T := TX12) (N := 85) hx hb hts hiX12 hown hK hP 0 wm0 rfl 4 (by decide) (hts _ (List.mem_cons_of_mem _ wlq_0_23)) (fun _ h9 => h9) rfl (dk_at dkX12_bars_1 9 rfl) ?_
              have r_A_0_4 : (0 : Int) ≤ (A 0 4) ∧ (A 0 4) ≤ 1600 := hI 0 4
              refine x_callv (As := [.int (iI 3), .int (iI (A 0 4))]) (rest := []) ⟨hx, hb, hml, hown, hts⟩ (mc_X12_blame l dC dI cB cI cJ cZ cQ q _ 3 (A 0 4) hI ⟨by decide, by decide⟩ r_A_0_4) (cwV 2 hts (goodV wlq_0_31 wlq_0_32 wlq_0_33 wlq_0_8 wlq_0_15) rfl rfl rfl (by decide +kernel) ⟨Nat.le_of_ble_eq_true rfl, Nat.le_of_ble_eq_true rfl⟩) hK hDD hA0 hP hS 0 12 wm0 rfl rfl hl.1 (Nat.le_of_ble_eq_true rfl) (dk_at dkX12_bars_1 10 rfl) (fun A54 H locs hw55 hP hS => ?_)
              have ghw55 : q_X12_blame 3 (A 0 4) A A54 := hw55
              obtain ⟨_, hI, hf56, hw55⟩ := hw55
              have r_A54_0_8 : (0 : Int) ≤ (A54 0 8) ∧ (A54 0 8) ≤ 5 := hI 0 8
              exact RET _ _ _ _ _ ⟨(u_r_X12_bars (Or.inr (Or.inr (Or.inr (Or.inl ⟨rfl, (Or.inr ⟨c43, (Or.inr ⟨c44, ⟨z45, ghw47, (Or.inr ⟨c48, (Or.inr ⟨c49, ⟨z50, ghw52, (Or.inr ⟨c53, ⟨A54, ghw55, rfl⟩⟩)⟩⟩)⟩)⟩⟩)⟩)⟩))))), hI, fr.trans (fr.rf) hf56 rfl rfl, trivial⟩ hP hS (dk_at dkX12_bars_1 11 rfl)
  · have hl : lv_has ls 3 [(0, .ref (q 0)), (1, .int (iI 4)), (2, .int (iI x2))] := hl
    refine lv_aload_n hx hb (dk_at dkX12_bars_0 0 rfl) rfl (lv_at hl 0 rfl) ?_
    refine va_get (D := (dC, dI)) (ci := 12) (v := .int (iI (A 0 8))) (C := RX12) (T := TX12) (N := 85) hx hb hts hiX12 hown hK hP 0 wm0 rfl 8 (by decide) (hts _ (List.mem_cons_of_mem _ wlq_0_16)) (fun _ h9 => h9) rfl (dk_at dkX12_bars_0 1 rfl) ?_
    have r_A_0_8 : (0 : Int) ≤ (A 0 8) ∧ (A 0 8) ≤ 5 := hI 0 8
    refine lv_if_ne (tgt := 53) hx hb (dk_at dkX12_bars_0 2 rfl) (by decide) (fun c57 => ?_) (fun c57 => ?_)
    · have c57 : ¬ (A 0 8) = 0 := mt (i_eq0 (rb r_A_0_8 (by decide) (by decide))).mpr c57
      exact RET _ _ _ _ _ ⟨(u_r_X12_bars (Or.inr (Or.inr (Or.inr (Or.inr ⟨rfl, (Or.inl ⟨c57, rfl⟩)⟩))))), hI, fr.rf, trivial⟩ hP hS (dk_at dkX12_bars_1 11 rfl)
    · have c57 : (A 0 8) = 0 := (i_eq0 (rb r_A_0_8 (by decide) (by decide))).mp c57
      refine lv_aload_n hx hb (dk_at dkX12_bars_0 3 rfl) rfl (lv_at hl 0 rfl) ?_
      refine va_get (D := (dC, dI)) (ci := 12) (v := .int (iI (A 0 3))) (C := RX12) (T := TX12) (N := 85) hx hb hts hiX12 hown hK hP 0 wm0 rfl 3 (by decide) (hts _ (List.mem_cons_of_mem _ wlq_0_24)) (fun _ h9 => h9) rfl (dk_at dkX12_bars_0 4 rfl) ?_
      have r_A_0_3 : (0 : Int) ≤ (A 0 3) ∧ (A 0 3) ≤ 3 := hI 0 3
      refine lv_iconst (v := iI 1) hx hb (dk_at dkX12_bars_0 5 rfl) (by decide +kernel) ?_
      refine lv_icmp_ne (tgt := 53) hx hb (dk_at dkX12_bars_0 6 rfl) (by decide) (fun c58 => ?_) (fun c58 => ?_)
      · have c58 : ¬ (A 0 3) = 1 := mt (i_eq (rb r_A_0_3 (by decide) (by decide)) ⟨by decide, by decide⟩).mpr c58
        exact RET _ _ _ _ _ ⟨(u_r_X12_bars (Or.inr (Or.inr (Or.inr (Or.inr ⟨rfl, (Or.inr ⟨c57, (Or.inl ⟨c58, rfl⟩)⟩)⟩))))), hI, fr.rf, trivial⟩ hP hS (dk_at dkX12_bars_1 11 rfl)
      · have c58 : (A 0 3) = 1 := (i_eq (rb r_A_0_3 (by decide) (by decide)) ⟨by decide, by decide⟩).mp c58
        refine lv_aload_n hx hb (dk_at dkX12_bars_0 7 rfl) rfl (lv_at hl 0 rfl) ?_
        refine lv_aload_n hx hb (dk_at dkX12_bars_0 8 rfl) rfl (lv_at hl 0 rfl) ?_
        refine va_get (D := (dC, dI)) (ci := 12) (v := .long (jI (A 0 7))) (C := RX12) (T := TX12) (N := 85) hx hb hts hiX12 hown hK hP 0 wm0 rfl 7 (by decide) (hts _ (List.mem_cons_of_mem _ wlq_0_26)) (fun _ h9 => h9) rfl (dk_at dkX12_bars_0 9 rfl) ?_
        have r_A_0_7 : (-9223372036854775808 : Int) ≤ (A 0 7) ∧ (A 0 7) ≤ 9223372036854775807 := hI 0 7
        refine x_calli (As := [.long (jI (A 0 7))]) (rest := []) ⟨hx, hb, hml, hown, hts⟩ (mb_X12_isOwn l dC dI cB cI cJ cZ cQ q _ (A 0 7) hI r_A_0_7) (cwV 1 hts (goodV wlq_2_23 wlq_2_24 wlq_2_25 wlq_0_8 wlq_0_43) rfl rfl rfl (by decide +kernel) ⟨Nat.le_of_ble_eq_true rfl, Nat.le_of_ble_eq_true rfl⟩) hK hDD hA0 hP hS 0 12 wm0 rfl rfl hl.1 (Nat.le_of_ble_eq_true rfl) (dk_at dkX12_bars_0 10 rfl) (fun z59 A60 H locs hw61 hP hS => ?_)
        obtain ⟨rfl, hw61⟩ := hw61
        have ghw61 : q_X12_isOwn (A 0 7) A z59 := hw61
        have hw61 := hw61.2
        have rz59 : 0 ≤ z59 ∧ z59 ≤ 1 := hw61.1
        refine lv_if_ne (tgt := 53) hx hb (dk_at dkX12_bars_0 11 rfl) (by decide) (fun c62 => ?_) (fun c62 => ?_)
        · have c62 : ¬ z59 = 0 := mt (i_eq0 (rb rz59 (by decide) (by decide))).mpr c62
          exact RET _ _ _ _ _ ⟨(u_r_X12_bars (Or.inr (Or.inr (Or.inr (Or.inr ⟨rfl, (Or.inr ⟨c57, (Or.inr ⟨c58, ⟨z59, ghw61, (Or.inl ⟨c62, rfl⟩)⟩⟩)⟩)⟩))))), hI, fr.rf, trivial⟩ hP hS (dk_at dkX12_bars_1 11 rfl)
        · have c62 : z59 = 0 := (i_eq0 (rb rz59 (by decide) (by decide))).mp c62
          refine lv_iload_n hx hb (dk_at dkX12_bars_0 12 rfl) rfl (lv_at hl 2 rfl) ?_
          refine lv_iconst (v := iI (-1)) hx hb (dk_at dkX12_bars_0 13 rfl) (by decide +kernel) ?_
          refine lv_icmp_eq (tgt := 53) hx hb (dk_at dkX12_bars_0 14 rfl) (by decide) (fun c63 => ?_) (fun c63 => ?_)
          · have c63 : x2 = (-1) := (i_eq hx2 ⟨by decide, by decide⟩).mp c63
            exact RET _ _ _ _ _ ⟨(u_r_X12_bars (Or.inr (Or.inr (Or.inr (Or.inr ⟨rfl, (Or.inr ⟨c57, (Or.inr ⟨c58, ⟨z59, ghw61, (Or.inr ⟨c62, (Or.inl ⟨c63, rfl⟩)⟩)⟩⟩)⟩)⟩))))), hI, fr.rf, trivial⟩ hP hS (dk_at dkX12_bars_1 11 rfl)
          · have c63 : ¬ x2 = (-1) := mt (i_eq hx2 ⟨by decide, by decide⟩).mpr c63
            refine lv_aload_n hx hb (dk_at dkX12_bars_0 15 rfl) rfl (lv_at hl 0 rfl) ?_
            refine lv_iload_n hx hb (dk_at dkX12_bars_1 0 rfl) rfl (lv_at hl 1 rfl) ?_
            refine lv_aload_n hx hb (dk_at dkX12_bars_1 1 rfl) rfl (lv_at hl 0 rfl) ?_
            refine va_get (D := (dC, dI)) (ci := 12) (v := .long (jI (A 0 7))) (C := RX12) (T := TX12) (N := 85) hx hb hts hiX12 hown hK hP 0 wm0 rfl 7 (by decide) (hts _ (List.mem_cons_of_mem _ wlq_0_26)) (fun _ h9 => h9) rfl (dk_at dkX12_bars_1 2 rfl) ?_
            have r_A_0_47 : (0 : Int) ≤ (A 0 47) ∧ (A 0 47) ≤ 1 := hI 0 47
            refine x_calli (As := [.int (iI 4), .long (jI (A 0 7))]) (rest := []) ⟨hx, hb, hml, hown, hts⟩ (mb_X12_named_4 l dC dI cB cI cJ cZ cQ q _ 4 (A 0 7) hI ⟨by decide, by decide⟩ r_A_0_7) (cwV 2 hts (goodV wlq_2_26 wlq_2_27 wlq_2_28 wlq_0_8 wlq_1_10) rfl rfl rfl (by decide +kernel) ⟨Nat.le_of_ble_eq_true rfl, Nat.le_of_ble_eq_true rfl⟩) hK hDD hA0 hP hS 0 12 wm0 rfl rfl hl.1 (Nat.le_of_ble_eq_true rfl) (dk_at dkX12_bars_1 3 rfl) (fun z64 A65 H locs hw66 hP hS => ?_)
            obtain ⟨rfl, hw66⟩ := hw66
            have ghw66 : q_X12_named_4 4 (A 0 7) A z64 := hw66
            have hw66 := hw66.2
            refine lv_iload_n hx hb (dk_at dkX12_bars_1 4 rfl) rfl (lv_at hl 2 rfl) ?_
            refine lv_icmp_ne (tgt := 53) hx hb (dk_at dkX12_bars_1 5 rfl) (by decide) (fun c67 => ?_) (fun c67 => ?_)
            · have c67 : ¬ z64 = x2 := mt (i_eq (by omega) hx2).mpr c67
              exact RET _ _ _ _ _ ⟨(u_r_X12_bars (Or.inr (Or.inr (Or.inr (Or.inr ⟨rfl, (Or.inr ⟨c57, (Or.inr ⟨c58, ⟨z59, ghw61, (Or.inr ⟨c62, (Or.inr ⟨c63, ⟨z64, ghw66, (Or.inl ⟨c67, rfl⟩)⟩⟩)⟩)⟩⟩)⟩)⟩))))), hI, fr.rf, trivial⟩ hP hS (dk_at dkX12_bars_1 11 rfl)
            · have c67 : z64 = x2 := (i_eq (by omega) hx2).mp c67
              refine lv_aload_n hx hb (dk_at dkX12_bars_1 6 rfl) rfl (lv_at hl 0 rfl) ?_
              refine lv_iconst (v := iI 3) hx hb (dk_at dkX12_bars_1 7 rfl) (by decide +kernel) ?_
              refine lv_aload_n hx hb (dk_at dkX12_bars_1 8 rfl) rfl (lv_at hl 0 rfl) ?_
              refine va_get (D := (dC, dI)) (ci := 12) (v := .int (iI (A 0 4))) (C := RX12) (T := TX12) (N := 85) hx hb hts hiX12 hown hK hP 0 wm0 rfl 4 (by decide) (hts _ (List.mem_cons_of_mem _ wlq_0_23)) (fun _ h9 => h9) rfl (dk_at dkX12_bars_1 9 rfl) ?_
              have r_A_0_4 : (0 : Int) ≤ (A 0 4) ∧ (A 0 4) ≤ 1600 := hI 0 4
              refine x_callv (As := [.int (iI 3), .int (iI (A 0 4))]) (rest := []) ⟨hx, hb, hml, hown, hts⟩ (mc_X12_blame l dC dI cB cI cJ cZ cQ q _ 3 (A 0 4) hI ⟨by decide, by decide⟩ r_A_0_4) (cwV 2 hts (goodV wlq_0_31 wlq_0_32 wlq_0_33 wlq_0_8 wlq_0_15) rfl rfl rfl (by decide +kernel) ⟨Nat.le_of_ble_eq_true rfl, Nat.le_of_ble_eq_true rfl⟩) hK hDD hA0 hP hS 0 12 wm0 rfl rfl hl.1 (Nat.le_of_ble_eq_true rfl) (dk_at dkX12_bars_1 10 rfl) (fun A68 H locs hw69 hP hS => ?_)
              have ghw69 : q_X12_blame 3 (A 0 4) A A68 := hw69
              obtain ⟨_, hI, hf70, hw69⟩ := hw69
              have r_A68_0_8 : (0 : Int) ≤ (A68 0 8) ∧ (A68 0 8) ≤ 5 := hI 0 8
              exact RET _ _ _ _ _ ⟨(u_r_X12_bars (Or.inr (Or.inr (Or.inr (Or.inr ⟨rfl, (Or.inr ⟨c57, (Or.inr ⟨c58, ⟨z59, ghw61, (Or.inr ⟨c62, (Or.inr ⟨c63, ⟨z64, ghw66, (Or.inr ⟨c67, ⟨A68, ghw69, rfl⟩⟩)⟩⟩)⟩)⟩⟩)⟩)⟩))))), hI, fr.trans (fr.rf) hf70 rfl rfl, trivial⟩ hP hS (dk_at dkX12_bars_1 11 rfl)
