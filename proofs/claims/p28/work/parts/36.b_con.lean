abbrev tr_d_X12_agrees_4 (K1 : Int → St → Prop) (z2 : Int) (A4 : St) (z : Int) (u : St) (z27 : Int) : Prop := ((0 ≤ z27 ∧ z27 ≤ 1) ∧ (∃ A31 : St, A31 = (stA A4 0 80 ((A4 0 80) - z27)) ∧ (K1 (z2 + 1) A31)))
def d_X12_agrees_4 (K1 : Int → St → Prop) (z2 : Int) (A4 : St) (z : Int) (u : St) (z27 : Int) : Prop := tr_d_X12_agrees_4 K1 z2 A4 z u z27
theorem u_d_X12_agrees_4 {K1 : Int → St → Prop} {z2 : Int} {A4 : St} {z : Int} {u : St} {z27 : Int} (h : tr_d_X12_agrees_4 K1 z2 A4 z u z27) : d_X12_agrees_4 K1 z2 A4 z u z27 := h
abbrev tr_d_X12_agrees_3 (K1 : Int → St → Prop) (z2 : Int) (A4 : St) (z : Int) (u : St) (z19 : Int) : Prop := ((0 ≤ z19 ∧ z19 ≤ 1) ∧ (∃ z23 : Int, z23 = A4 53 (z2).toNat ∧ (((z19 = z23) ∧ (((z19 = 0) ∧ (d_X12_agrees_4 K1 z2 A4 z u 0)) ∨ ((¬ z19 = 0) ∧ (d_X12_agrees_4 K1 z2 A4 z u 1)))) ∨ ((¬ z19 = z23) ∧ (z = 0 ∧ u = A4)))))
def d_X12_agrees_3 (K1 : Int → St → Prop) (z2 : Int) (A4 : St) (z : Int) (u : St) (z19 : Int) : Prop := tr_d_X12_agrees_3 K1 z2 A4 z u z19
theorem u_d_X12_agrees_3 {K1 : Int → St → Prop} {z2 : Int} {A4 : St} {z : Int} {u : St} {z19 : Int} (h : tr_d_X12_agrees_3 K1 z2 A4 z u z19) : d_X12_agrees_3 K1 z2 A4 z u z19 := h
abbrev tr_d_X12_agrees_2 (K1 : Int → St → Prop) (z2 : Int) (A4 : St) (z : Int) (u : St) : Prop := (d_X12_agrees_3 K1 z2 A4 z u 0)
def d_X12_agrees_2 (K1 : Int → St → Prop) (z2 : Int) (A4 : St) (z : Int) (u : St) : Prop := tr_d_X12_agrees_2 K1 z2 A4 z u
theorem u_d_X12_agrees_2 {K1 : Int → St → Prop} {z2 : Int} {A4 : St} {z : Int} {u : St} (h : tr_d_X12_agrees_2 K1 z2 A4 z u) : d_X12_agrees_2 K1 z2 A4 z u := h
abbrev tr_d_X12_agrees_1 (A : St) (z : Int) (u : St) (K1 : Int → St → Prop) (z2 : Int) (A4 : St) : Prop := ((IM A4) ∧ ((0 ≤ z2 ∧ z2 ≤ 2147483647) ∧ ((((A 0 75) ≤ z2) ∧ (z = 1 ∧ u = A4)) ∨ ((¬ (A 0 75) ≤ z2) ∧ ((((A4 0 80) ≤ 0) ∧ (d_X12_agrees_2 K1 z2 A4 z u)) ∨ ((¬ (A4 0 80) ≤ 0) ∧ (∃ z15 : Int, z15 = A4 54 ((A4 0 80) - 1).toNat ∧ (∃ z16 : Int, z16 = A4 52 (z2).toNat ∧ (((¬ z15 = z16) ∧ (d_X12_agrees_2 K1 z2 A4 z u)) ∨ ((z15 = z16) ∧ (d_X12_agrees_3 K1 z2 A4 z u 1)))))))))))
def d_X12_agrees_1 (A : St) (z : Int) (u : St) : Nat → Int → St → Prop
  | 0, _, _ => False
  | nn9 + 1, z2, A4 => tr_d_X12_agrees_1 A z u (fun z2 A4 => d_X12_agrees_1 A z u nn9 z2 A4) z2 A4
theorem u_d_X12_agrees_1 {A : St} {z : Int} {u : St} {nn9 : Nat} {z2 : Int} {A4 : St} (h : tr_d_X12_agrees_1 A z u (fun z2 A4 => d_X12_agrees_1 A z u nn9 z2 A4) z2 A4) : d_X12_agrees_1 A z u (nn9 + 1) z2 A4 := h
abbrev tr_r_X12_agrees (A : St) (z : Int) (u : St) : Prop := (∃ A1 : St, A1 = (stA A 0 80 (A 0 78)) ∧ (∃ nn9 : Nat, d_X12_agrees_1 A z u nn9 0 A1))
def r_X12_agrees (A : St) (z : Int) (u : St) : Prop := tr_r_X12_agrees A z u
theorem u_r_X12_agrees {A : St} {z : Int} {u : St} (h : tr_r_X12_agrees A z u) : r_X12_agrees A z u := h
def q_X12_agrees (A : St) (z : Int) (u : St) : Prop := r_X12_agrees A z u ∧ IM u ∧ fr [] [80] A u ∧ (0 ≤ z ∧ z ≤ 1)
def ws_mc_X12_agrees : List Cond := .code yX12_agrees cX12_agrees 3 (some .boolean) :: WX
set_option maxHeartbeats 4000000 in
set_option maxRecDepth 100000 in
theorem mc_X12_agrees (l : Launch) (dC : Nat → ClassId) (dI : Nat → Nat → Nat) (cB cI cJ cZ cQ : ClassId) (q : Nat → Nat) (A : St) (hI : IM A) : XMi l yX12_agrees ws_mc_X12_agrees ({ frames := 0, cells := 0, slots := 0, locals := 0 } : Room) (dC, dI) (tyA cB cI cJ cZ cQ) (WM cI cJ cZ q) A [.ref (q 0)] (fun z u => r_X12_agrees A z u ∧ IM u ∧ fr [] [80] A u ∧ (0 ≤ z ∧ z ≤ 1)) := by
  refine x_metz (cc := cX12_agrees) (maxL := 3) WM_adr (by decide +kernel) rfl (Nat.le_of_ble_eq_true rfl) (fun z u h => h.2.2.2) (fun p e s m below meth c Q AS ls hx hb hml hown hts hK hDD hA0 hP hS hl RET => ?_)
  have hown : s.vm.findClass RX12 = some m.cls := hown
  have hl : lv_has ls 3 [(0, .ref (q 0))] := hl
  have hiX12 : ∀ w ∈ u_ws RX12 TX12 85, w ∈ ws_mc_X12_agrees := fun w h => List.mem_cons_of_mem _ (wx_lay w h)
  obtain ⟨H, hHe⟩ : ∃ H : Heap, H = s.heap := ⟨_, rfl⟩
  rw [← hHe] at hP
  have hS : va_S AS s.heap H [] := by rw [hHe]; exact hS
  suffices hgo : ∀ locs : List Loc, va_S AS s.heap H locs → W p l e (headSpec ws_mc_X12_agrees ({ frames := 0, cells := 0, slots := 0, locals := 0 } : Room)).room s m [.ref (q 0)].toArray below meth c H locs 0 0 Q (F0 m 0 ls []) by
    have := hgo [] hS
    rw [hHe] at this
    exact this
  clear hS hHe
  intro locs hS
  refine lv_aload_n hx hb (dk_at dkX12_agrees_0 0 rfl) rfl (lv_at hl 0 rfl) ?_
  refine lv_aload_n hx hb (dk_at dkX12_agrees_0 1 rfl) rfl (lv_at hl 0 rfl) ?_
  refine va_get (D := (dC, dI)) (ci := 12) (v := .int (iI (A 0 78))) (C := RX12) (T := TX12) (N := 85) hx hb hts hiX12 hown hK hP 0 wm0 rfl 78 (by decide) (hts _ (List.mem_cons_of_mem _ wlq_8_8)) (fun _ h9 => h9) rfl (dk_at dkX12_agrees_0 2 rfl) ?_
  have r_A_0_78 : (0 : Int) ≤ (A 0 78) ∧ (A 0 78) ≤ 3 := hI 0 78
  refine x_put (D := (dC, dI)) (ci := 12) (v := .int (iI (A 0 78))) (ty := .int) (C := RX12) (T := TX12) (N := 85) hx hb hts hiX12 tyX12 tyX12_ok nmX12 hown hK hP hDD hS 0 wm0 rfl 80 (by decide) (hts _ (List.mem_cons_of_mem _ wlq_8_9)) (fun _ h9 => h9) rfl (by decide +kernel) rfl rfl (Nat.le_of_ble_eq_true rfl) (dk_at dkX12_agrees_0 3 rfl) (wf80 (v := (A 0 78))) (fun H locs hP hS => ?_)
  have hI := hI.st (j := 0) (i := 80) (v := (A 0 78)) (show (0 : Int) ≤ (A 0 78) ∧ (A 0 78) ≤ 3 from (by omega))
  refine lv_iconst (v := iI 0) hx hb (dk_at dkX12_agrees_0 4 rfl) (by decide +kernel) ?_
  refine lv_istore_n (lv' := [(1, .int (iI 0)), (0, .ref (q 0))]) hx hb (dk_at dkX12_agrees_0 5 rfl) rfl hl (by decide) rfl (fun ls hl => ?_)
  obtain ⟨A1, hA1⟩ : ∃ A1 : St, A1 = (stA A 0 80 (A 0 78)) := ⟨_, rfl⟩
  rw [← hA1] at hP hI
  have L10_5 : ∀ (n7 : Nat) (z2 : Int) (A4 : St) (H : Heap) (locs : List Loc) (ls : Array Slot), (0 ≤ z2) → (0 ≤ z2 ∧ z2 ≤ 2147483647) → (∀ (z : Int) (u : St), (∃ mm1 : Nat, (d_X12_agrees_1 A z u mm1 z2 A4)) → r_X12_agrees A z u) → (((A 0 75) - z2 + 1).toNat = n7) → IM A4 → fr [] [80] A1 A4 → va_P (dC, dI) vwCl (WM cI cJ cZ q A4) H → va_S AS s.heap H locs → lv_has ls 3 [(1, .int (iI z2)), (0, .ref (q 0))] → W p l e (headSpec ws_mc_X12_agrees ({ frames := 0, cells := 0, slots := 0, locals := 0 } : Room)).room s m [.ref (q 0)].toArray below meth c H locs 0 0 Q (F0 m 10 ls []) := by
    intro n7
    induction n7 using Nat.strongRecOn with
    | ind n7 ih6 =>
      intro z2 A4 H locs ls f8 f9 hk1 hn7 hI hj3 hP hS hl
      have gI10 : Hd (IM A4) := Hd.mk hI
      refine lv_iload_n hx hb (dk_at dkX12_agrees_0 6 rfl) rfl (lv_at hl 0 rfl) ?_
      refine lv_aload_n hx hb (dk_at dkX12_agrees_0 7 rfl) rfl (lv_at hl 1 rfl) ?_
      have e_A1_75 : A1 0 75 = (A 0 75) := by rw [hA1]; exact rfl
      have e_A4_75 : A4 0 75 = (A 0 75) := (hj3.2 75 rfl).trans e_A1_75
      refine va_get (D := (dC, dI)) (ci := 12) (v := .int (iI (A4 0 75))) (C := RX12) (T := TX12) (N := 85) hx hb hts hiX12 hown hK hP 0 wm0 rfl 75 (by decide) (hts _ (List.mem_cons_of_mem _ wlq_4_17)) (fun _ h9 => h9) rfl (dk_at dkX12_agrees_0 8 rfl) ?_
      refine tp_i (y := iI (A 0 75)) (congrArg iI e_A4_75) ?_
      have r_A_0_75 : (0 : Int) ≤ (A 0 75) ∧ (A 0 75) ≤ 20 := by rw [← e_A4_75]; exact hI 0 75
      refine lv_icmp_ge (tgt := 87) hx hb (dk_at dkX12_agrees_0 9 rfl) (by decide) (fun c11 => ?_) (fun c11 => ?_)
      · have c11 : (A 0 75) ≤ z2 := (i_le (rb r_A_0_75 (by decide) (by decide)) (rb f9 (by decide) (by decide))).mp c11
        refine lv_iconst (v := iI 1) hx hb (dk_at dkX12_agrees_3 1 rfl) (by decide +kernel) ?_
        exact RET 1 _ _ _ _ _ ⟨hk1 _ _ ⟨0 + 1, (u_d_X12_agrees_1 ⟨gI10.out, ⟨f9, (Or.inl ⟨c11, ⟨rfl, rfl⟩⟩)⟩⟩)⟩, hI, fr.trans (fr_def hA1 (fr.sf (fr.rf) rfl)) hj3 rfl rfl, by omega⟩ hP hS (dk_at dkX12_agrees_3 2 rfl)
      · have c11 : ¬ (A 0 75) ≤ z2 := mt (i_le (rb r_A_0_75 (by decide) (by decide)) (rb f9 (by decide) (by decide))).mpr c11
        refine lv_aload_n hx hb (dk_at dkX12_agrees_0 10 rfl) rfl (lv_at hl 1 rfl) ?_
        refine va_get (D := (dC, dI)) (ci := 12) (v := .int (iI (A4 0 80))) (C := RX12) (T := TX12) (N := 85) hx hb hts hiX12 hown hK hP 0 wm0 rfl 80 (by decide) (hts _ (List.mem_cons_of_mem _ wlq_8_9)) (fun _ h9 => h9) rfl (dk_at dkX12_agrees_0 11 rfl) ?_
        have r_A4_0_80 : (0 : Int) ≤ (A4 0 80) ∧ (A4 0 80) ≤ 3 := hI 0 80
        have J50_14 : ∀ (z19 : Int) (H : Heap) (locs : List Loc) (ls : Array Slot), (0 ≤ z19 ∧ z19 ≤ 1) → ((z19 = 1 ∧ ¬ (A4 0 80) ≤ 0) ∨ (z19 = 0)) → (∀ (z : Int) (u : St), (∃ mm1 : Nat, (d_X12_agrees_3 (fun z2' A4' => d_X12_agrees_1 A z u mm1 z2' A4') z2 A4 z u z19)) → r_X12_agrees A z u) → va_P (dC, dI) vwCl (WM cI cJ cZ q A4) H → va_S AS s.heap H locs → lv_has ls 3 [(1, .int (iI z2)), (0, .ref (q 0))] → W p l e (headSpec ws_mc_X12_agrees ({ frames := 0, cells := 0, slots := 0, locals := 0 } : Room)).room s m [.ref (q 0)].toArray below meth c H locs 0 0 Q (F0 m 50 ls [.int (iI z19)]) := by
          intro z19 H locs ls f21 f22 hk3 hP hS hl
          refine lv_istore_n (lv' := [(2, .int (iI z19)), (1, .int (iI z2)), (0, .ref (q 0))]) hx hb (dk_at dkX12_agrees_1 12 rfl) rfl hl (by decide) rfl (fun ls hl => ?_)
          refine lv_iload_n hx hb (dk_at dkX12_agrees_1 13 rfl) rfl (lv_at hl 0 rfl) ?_
          refine lv_aload_n hx hb (dk_at dkX12_agrees_1 14 rfl) rfl (lv_at hl 2 rfl) ?_
          refine va_get (D := (dC, dI)) (ci := 12) (v := .ref (q 53)) (C := RX12) (T := TX12) (N := 85) hx hb hts hiX12 hown hK hP 0 wm0 rfl 77 (by decide) (hts _ (List.mem_cons_of_mem _ wlq_8_12)) (fun _ h9 => h9) rfl (dk_at dkX12_agrees_1 15 rfl) ?_
          refine lv_iload_n hx hb (dk_at dkX12_agrees_2 0 rfl) rfl (lv_at hl 1 rfl) ?_
          have a_A1_53 : A1 53 = A 53 := by rw [hA1]; exact rfl
          have a_A4_53 : A4 53 = A 53 := (hj3.1 53 (by decide) rfl).trans a_A1_53
          refine x_zald hx hb hK hP 53 3 wm53 rfl (by omega) (by decide) (dk_at dkX12_agrees_2 1 rfl) (fun z23 hz23 => ?_)
          have rz23 : (0 : Int) ≤ z23 ∧ z23 ≤ 1 := by rw [hz23]; exact hI 53 _
          have gz23 := Hd.mk hz23
          have hz23 : z23 = A 53 (z2).toNat := hz23.trans (congrFun a_A4_53 _)
          refine lv_icmp_eq (tgt := 63) hx hb (dk_at dkX12_agrees_2 2 rfl) (by decide) (fun c24 => ?_) (fun c24 => ?_)
          · have c24 : z19 = z23 := (i_eq (rb f21 (by decide) (by decide)) (rb rz23 (by decide) (by decide))).mp c24
            refine lv_aload_n hx hb (dk_at dkX12_agrees_2 5 rfl) rfl (lv_at hl 2 rfl) ?_
            refine lv_dup hx hb (dk_at dkX12_agrees_2 6 rfl) rfl ?_
            refine va_get (D := (dC, dI)) (ci := 12) (v := .int (iI (A4 0 80))) (C := RX12) (T := TX12) (N := 85) hx hb hts hiX12 hown hK hP 0 wm0 rfl 80 (by decide) (hts _ (List.mem_cons_of_mem _ wlq_8_9)) (fun _ h9 => h9) rfl (dk_at dkX12_agrees_2 7 rfl) ?_
            refine lv_iload_n hx hb (dk_at dkX12_agrees_2 8 rfl) rfl (lv_at hl 0 rfl) ?_
            have J77_26 : ∀ (z27 : Int) (H : Heap) (locs : List Loc) (ls : Array Slot), (0 ≤ z27 ∧ z27 ≤ 1) → ((z27 = 0 ∧ z19 = 0) ∨ (z27 = 1 ∧ ¬ z19 = 0)) → (∀ (z : Int) (u : St), (∃ mm1 : Nat, (d_X12_agrees_4 (fun z2' A4' => d_X12_agrees_1 A z u mm1 z2' A4') z2 A4 z u z27)) → r_X12_agrees A z u) → va_P (dC, dI) vwCl (WM cI cJ cZ q A4) H → va_S AS s.heap H locs → lv_has ls 3 [(2, .int (iI z19)), (1, .int (iI z2)), (0, .ref (q 0))] → W p l e (headSpec ws_mc_X12_agrees ({ frames := 0, cells := 0, slots := 0, locals := 0 } : Room)).room s m [.ref (q 0)].toArray below meth c H locs 0 0 Q (F0 m 77 ls [.int (iI z27), .int (iI (A4 0 80)), .ref (q 0)]) := by
              intro z27 H locs ls f29 f30 hk4 hP hS hl
              refine x_subv (v := (A4 0 80) - z27) hx hb (dk_at dkX12_agrees_2 13 rfl) (by omega) ?_
              refine x_put (D := (dC, dI)) (ci := 12) (v := .int (iI ((A4 0 80) - z27))) (ty := .int) (C := RX12) (T := TX12) (N := 85) hx hb hts hiX12 tyX12 tyX12_ok nmX12 hown hK hP hDD hS 0 wm0 rfl 80 (by decide) (hts _ (List.mem_cons_of_mem _ wlq_8_9)) (fun _ h9 => h9) rfl (by decide +kernel) rfl rfl (Nat.le_of_ble_eq_true rfl) (dk_at dkX12_agrees_2 14 rfl) (wf80 (v := (A4 0 80) - z27)) (fun H locs hP hS => ?_)
              have hI := hI.st (j := 0) (i := 80) (v := (A4 0 80) - z27) (show (0 : Int) ≤ (A4 0 80) - z27 ∧ (A4 0 80) - z27 ≤ 3 from (by omega))
              refine lv_iinc (v := iI (z2 + 1)) (lv' := [(1, .int (iI (z2 + 1))), (2, .int (iI z19)), (0, .ref (q 0))]) hx hb (dk_at dkX12_agrees_2 15 rfl) hl (k := 1) rfl (i_inc (by omega)) (by decide) rfl (fun ls hl => ?_)
              refine lv_goto (tgt := 10) hx hb (dk_at dkX12_agrees_3 0 rfl) (by decide) ?_
              obtain ⟨A31, hA31⟩ : ∃ A31 : St, A31 = (stA A4 0 80 ((A4 0 80) - z27)) := ⟨_, rfl⟩
              rw [← hA31] at hP hI
              exact ih6 _ (by omega) (z2 + 1) _ _ _ _ (by omega) (by omega) (fun zq uq ⟨mm1, hq⟩ => hk4 _ _ ⟨mm1, (u_d_X12_agrees_4 ⟨f29, ⟨A31, hA31, hq⟩⟩)⟩) rfl hI (fr_def hA31 (fr.sf (fr.trans (fr.rf) hj3 rfl rfl) rfl)) hP hS (lv_sub hl [0, 2] rfl)
            refine lv_if_eq (tgt := 76) hx hb (dk_at dkX12_agrees_2 9 rfl) (by decide) (fun c25 => ?_) (fun c25 => ?_)
            · have c25 : z19 = 0 := (i_eq0 (rb f21 (by decide) (by decide))).mp c25
              refine lv_iconst (v := iI 0) hx hb (dk_at dkX12_agrees_2 12 rfl) (by decide +kernel) ?_
              exact J77_26 0 _ _ _ (by omega) (by omega) (fun zq uq ⟨mm1, hq⟩ => hk3 _ _ ⟨mm1, (u_d_X12_agrees_3 ⟨f21, ⟨z23, gz23.out, (Or.inl ⟨c24, (Or.inl ⟨c25, hq⟩)⟩)⟩⟩)⟩) hP hS (lv_sub hl [0, 1, 2] rfl)
            · have c25 : ¬ z19 = 0 := mt (i_eq0 (rb f21 (by decide) (by decide))).mpr c25
              refine lv_iconst (v := iI 1) hx hb (dk_at dkX12_agrees_2 10 rfl) (by decide +kernel) ?_
              refine lv_goto (tgt := 77) hx hb (dk_at dkX12_agrees_2 11 rfl) (by decide) ?_
              exact J77_26 1 _ _ _ (by omega) (by omega) (fun zq uq ⟨mm1, hq⟩ => hk3 _ _ ⟨mm1, (u_d_X12_agrees_3 ⟨f21, ⟨z23, gz23.out, (Or.inl ⟨c24, (Or.inr ⟨c25, hq⟩)⟩)⟩⟩)⟩) hP hS (lv_sub hl [0, 1, 2] rfl)
          · have c24 : ¬ z19 = z23 := mt (i_eq (rb f21 (by decide) (by decide)) (rb rz23 (by decide) (by decide))).mpr c24
            refine lv_iconst (v := iI 0) hx hb (dk_at dkX12_agrees_2 3 rfl) (by decide +kernel) ?_
            exact RET 0 _ _ _ _ _ ⟨hk3 _ _ ⟨0, (u_d_X12_agrees_3 ⟨f21, ⟨z23, gz23.out, (Or.inr ⟨c24, ⟨rfl, rfl⟩⟩)⟩⟩)⟩, hI, fr.trans (fr_def hA1 (fr.sf (fr.rf) rfl)) hj3 rfl rfl, by omega⟩ hP hS (dk_at dkX12_agrees_2 4 rfl)
        have J49_13 : ∀ (H : Heap) (locs : List Loc) (ls : Array Slot), (∀ (z : Int) (u : St), (∃ mm1 : Nat, (d_X12_agrees_2 (fun z2' A4' => d_X12_agrees_1 A z u mm1 z2' A4') z2 A4 z u)) → r_X12_agrees A z u) → va_P (dC, dI) vwCl (WM cI cJ cZ q A4) H → va_S AS s.heap H locs → lv_has ls 3 [(1, .int (iI z2)), (0, .ref (q 0))] → W p l e (headSpec ws_mc_X12_agrees ({ frames := 0, cells := 0, slots := 0, locals := 0 } : Room)).room s m [.ref (q 0)].toArray below meth c H locs 0 0 Q (F0 m 49 ls []) := by
          intro H locs ls hk2 hP hS hl
          refine lv_iconst (v := iI 0) hx hb (dk_at dkX12_agrees_1 11 rfl) (by decide +kernel) ?_
          exact J50_14 0 _ _ _ (by omega) (by omega) (fun zq uq ⟨mm1, hq⟩ => hk2 _ _ ⟨mm1, (u_d_X12_agrees_2 hq)⟩) hP hS (lv_sub hl [0, 1] rfl)
        refine lv_if_le (tgt := 49) hx hb (dk_at dkX12_agrees_0 12 rfl) (by decide) (fun c12 => ?_) (fun c12 => ?_)
        · have c12 : (A4 0 80) ≤ 0 := (i_le0 (rb r_A4_0_80 (by decide) (by decide))).mp c12
          exact J49_13 _ _ _ (fun zq uq ⟨mm1, hq⟩ => hk1 _ _ ⟨mm1 + 1, (u_d_X12_agrees_1 ⟨gI10.out, ⟨f9, (Or.inr ⟨c11, (Or.inl ⟨c12, hq⟩)⟩)⟩⟩)⟩) hP hS (lv_sub hl [0, 1] rfl)
        · have c12 : ¬ (A4 0 80) ≤ 0 := mt (i_le0 (rb r_A4_0_80 (by decide) (by decide))).mpr c12
          refine lv_aload_n hx hb (dk_at dkX12_agrees_0 13 rfl) rfl (lv_at hl 1 rfl) ?_
          refine va_get (D := (dC, dI)) (ci := 12) (v := .ref (q 54)) (C := RX12) (T := TX12) (N := 85) hx hb hts hiX12 hown hK hP 0 wm0 rfl 79 (by decide) (hts _ (List.mem_cons_of_mem _ wlq_8_10)) (fun _ h9 => h9) rfl (dk_at dkX12_agrees_0 14 rfl) ?_
          refine lv_aload_n hx hb (dk_at dkX12_agrees_0 15 rfl) rfl (lv_at hl 1 rfl) ?_
          refine va_get (D := (dC, dI)) (ci := 12) (v := .int (iI (A4 0 80))) (C := RX12) (T := TX12) (N := 85) hx hb hts hiX12 hown hK hP 0 wm0 rfl 80 (by decide) (hts _ (List.mem_cons_of_mem _ wlq_8_9)) (fun _ h9 => h9) rfl (dk_at dkX12_agrees_1 0 rfl) ?_
          refine lv_iconst (v := iI 1) hx hb (dk_at dkX12_agrees_1 1 rfl) (by decide +kernel) ?_
          refine x_subv (v := (A4 0 80) - 1) hx hb (dk_at dkX12_agrees_1 2 rfl) (by omega) ?_
          have a_A1_54 : A1 54 = A 54 := by rw [hA1]; exact rfl
          have a_A4_54 : A4 54 = A 54 := (hj3.1 54 (by decide) rfl).trans a_A1_54
          refine x_iald hx hb hK hP 54 1 wm54 rfl (by omega) (by decide) (dk_at dkX12_agrees_1 3 rfl) (fun z15 hz15 => ?_)
          have rz15 : (0 : Int) ≤ z15 ∧ z15 ≤ 9 := by rw [hz15]; exact hI 54 _
          have gz15 := Hd.mk hz15
          have hz15 : z15 = A 54 ((A4 0 80) - 1).toNat := hz15.trans (congrFun a_A4_54 _)
          refine lv_aload_n hx hb (dk_at dkX12_agrees_1 4 rfl) rfl (lv_at hl 1 rfl) ?_
          refine va_get (D := (dC, dI)) (ci := 12) (v := .ref (q 52)) (C := RX12) (T := TX12) (N := 85) hx hb hts hiX12 hown hK hP 0 wm0 rfl 76 (by decide) (hts _ (List.mem_cons_of_mem _ wlq_8_11)) (fun _ h9 => h9) rfl (dk_at dkX12_agrees_1 5 rfl) ?_
          refine lv_iload_n hx hb (dk_at dkX12_agrees_1 6 rfl) rfl (lv_at hl 0 rfl) ?_
          have a_A1_52 : A1 52 = A 52 := by rw [hA1]; exact rfl
          have a_A4_52 : A4 52 = A 52 := (hj3.1 52 (by decide) rfl).trans a_A1_52
          refine x_iald hx hb hK hP 52 1 wm52 rfl (by omega) (by decide) (dk_at dkX12_agrees_1 7 rfl) (fun z16 hz16 => ?_)
          have rz16 : (0 : Int) ≤ z16 ∧ z16 ≤ 9 := by rw [hz16]; exact hI 52 _
          have gz16 := Hd.mk hz16
          have hz16 : z16 = A 52 (z2).toNat := hz16.trans (congrFun a_A4_52 _)
          refine lv_icmp_ne (tgt := 49) hx hb (dk_at dkX12_agrees_1 8 rfl) (by decide) (fun c17 => ?_) (fun c17 => ?_)
          · have c17 : ¬ z15 = z16 := mt (i_eq (rb rz15 (by decide) (by decide)) (rb rz16 (by decide) (by decide))).mpr c17
            exact J49_13 _ _ _ (fun zq uq ⟨mm1, hq⟩ => hk1 _ _ ⟨mm1 + 1, (u_d_X12_agrees_1 ⟨gI10.out, ⟨f9, (Or.inr ⟨c11, (Or.inr ⟨c12, ⟨z15, gz15.out, ⟨z16, gz16.out, (Or.inl ⟨c17, hq⟩)⟩⟩⟩)⟩)⟩⟩)⟩) hP hS (lv_sub hl [0, 1] rfl)
          · have c17 : z15 = z16 := (i_eq (rb rz15 (by decide) (by decide)) (rb rz16 (by decide) (by decide))).mp c17
            refine lv_iconst (v := iI 1) hx hb (dk_at dkX12_agrees_1 9 rfl) (by decide +kernel) ?_
            refine lv_goto (tgt := 50) hx hb (dk_at dkX12_agrees_1 10 rfl) (by decide) ?_
            exact J50_14 1 _ _ _ (by omega) (by omega) (fun zq uq ⟨mm1, hq⟩ => hk1 _ _ ⟨mm1 + 1, (u_d_X12_agrees_1 ⟨gI10.out, ⟨f9, (Or.inr ⟨c11, (Or.inr ⟨c12, ⟨z15, gz15.out, ⟨z16, gz16.out, (Or.inr ⟨c17, hq⟩)⟩⟩⟩)⟩)⟩⟩)⟩) hP hS (lv_sub hl [0, 1] rfl)
  exact L10_5 _ 0 _ _ _ _ (by omega) (by omega) (fun zq uq ⟨mm1, hq⟩ => (u_r_X12_agrees ⟨A1, hA1, ⟨mm1, hq⟩⟩)) rfl hI (fr.rf) hP hS (lv_sub hl [0, 1] rfl)

abbrev tr_d_X12_isRow_3 (K2 : Int → Prop) (z14 : Int) (A5 : St) (z : Int) (u : St) (K3 : Int → Prop) (z33 : Int) : Prop := ((0 ≤ z33 ∧ z33 ≤ 2147483647) ∧ (((z14 ≤ z33) ∧ (K2 (z14 + 1))) ∨ ((¬ z14 ≤ z33) ∧ (∃ z41 : Int, z41 = A5 54 (z33).toNat ∧ (∃ z42 : Int, z42 = A5 54 (z14).toNat ∧ (((¬ z41 = z42) ∧ (K3 (z33 + 1))) ∨ ((z41 = z42) ∧ (z = 0 ∧ u = A5))))))))
def d_X12_isRow_3 (K2 : Int → Prop) (z14 : Int) (A5 : St) (z : Int) (u : St) : Nat → Int → Prop
  | 0, _ => False
  | nn9 + 1, z33 => tr_d_X12_isRow_3 K2 z14 A5 z u (fun z33 => d_X12_isRow_3 K2 z14 A5 z u nn9 z33) z33
theorem u_d_X12_isRow_3 {K2 : Int → Prop} {z14 : Int} {A5 : St} {z : Int} {u : St} {nn9 : Nat} {z33 : Int} (h : tr_d_X12_isRow_3 K2 z14 A5 z u (fun z33 => d_X12_isRow_3 K2 z14 A5 z u nn9 z33) z33) : d_X12_isRow_3 K2 z14 A5 z u (nn9 + 1) z33 := h
abbrev tr_d_X12_isRow_2 (x1 : Int) (A : St) (A5 : St) (z : Int) (u : St) (K2 : Int → Prop) (z14 : Int) : Prop := ((0 ≤ z14 ∧ z14 ≤ 2147483647) ∧ (((x1 ≤ z14) ∧ (z = 1 ∧ u = A5)) ∨ ((¬ x1 ≤ z14) ∧ (∃ z22 : Int, z22 = A5 54 (z14).toNat ∧ (∃ z23 : Int, q_X12_isDoor z22 A5 z23 ∧ (((z23 = 0) ∧ (z = 0 ∧ u = A5)) ∨ ((¬ z23 = 0) ∧ (∃ z27 : Int, z27 = A5 54 (z14).toNat ∧ (∃ z28 : Int, q_X12_door10 z27 A5 z28 ∧ (∃ z31 : Int, z31 = A5 10 (10 * (A 0 12) + z27).toNat ∧ (((¬ z31 = 0) ∧ (∃ nn9 : Nat, d_X12_isRow_3 K2 z14 A5 z u nn9 0)) ∨ ((z31 = 0) ∧ (z = 0 ∧ u = A5)))))))))))))
def d_X12_isRow_2 (x1 : Int) (A : St) (A5 : St) (z : Int) (u : St) : Nat → Int → Prop
  | 0, _ => False
  | nn9 + 1, z14 => tr_d_X12_isRow_2 x1 A A5 z u (fun z14 => d_X12_isRow_2 x1 A A5 z u nn9 z14) z14
theorem u_d_X12_isRow_2 {x1 : Int} {A : St} {A5 : St} {z : Int} {u : St} {nn9 : Nat} {z14 : Int} (h : tr_d_X12_isRow_2 x1 A A5 z u (fun z14 => d_X12_isRow_2 x1 A A5 z u nn9 z14) z14) : d_X12_isRow_2 x1 A A5 z u (nn9 + 1) z14 := h
abbrev tr_d_X12_isRow_1 (x1 : Int) (A : St) (z : Int) (u : St) (K1 : Int → Int → St → Prop) (z2 : Int) (z3 : Int) (A5 : St) : Prop := ((IM A5) ∧ ((-2147483648 ≤ z2 ∧ z2 ≤ 2) ∧ ((0 ≤ z3 ∧ z3 ≤ 999) ∧ (((z2 < 0) ∧ (∃ nn9 : Nat, d_X12_isRow_2 x1 A A5 z u nn9 0)) ∨ ((¬ z2 < 0) ∧ (∃ z44 : Int, z44 = z3 % 10 ∧ (∃ z45 : Int, z45 = z3 / 10 ∧ (∃ A46 : St, A46 = (stA A5 54 (z2).toNat z44) ∧ (K1 (z2 - 1) z45 A46)))))))))
def d_X12_isRow_1 (x1 : Int) (A : St) (z : Int) (u : St) : Nat → Int → Int → St → Prop
  | 0, _, _, _ => False
  | nn9 + 1, z2, z3, A5 => tr_d_X12_isRow_1 x1 A z u (fun z2 z3 A5 => d_X12_isRow_1 x1 A z u nn9 z2 z3 A5) z2 z3 A5
theorem u_d_X12_isRow_1 {x1 : Int} {A : St} {z : Int} {u : St} {nn9 : Nat} {z2 : Int} {z3 : Int} {A5 : St} (h : tr_d_X12_isRow_1 x1 A z u (fun z2 z3 A5 => d_X12_isRow_1 x1 A z u nn9 z2 z3 A5) z2 z3 A5) : d_X12_isRow_1 x1 A z u (nn9 + 1) z2 z3 A5 := h
abbrev tr_r_X12_isRow (x1 : Int) (x2 : Int) (A : St) (z : Int) (u : St) : Prop := (∃ A1 : St, A1 = (stA A 0 78 x1) ∧ (∃ nn9 : Nat, d_X12_isRow_1 x1 A z u nn9 (x1 - 1) x2 A1))
def r_X12_isRow (x1 : Int) (x2 : Int) (A : St) (z : Int) (u : St) : Prop := tr_r_X12_isRow x1 x2 A z u
theorem u_r_X12_isRow {x1 : Int} {x2 : Int} {A : St} {z : Int} {u : St} (h : tr_r_X12_isRow x1 x2 A z u) : r_X12_isRow x1 x2 A z u := h
def q_X12_isRow (x1 : Int) (x2 : Int) (A : St) (z : Int) (u : St) : Prop := r_X12_isRow x1 x2 A z u ∧ IM u ∧ fr [54] [78] A u ∧ (0 ≤ z ∧ z ≤ 1)
def ws_mc_X12_isRow : List Cond := .code yX12_isRow cX12_isRow 6 (some .boolean) :: WX
set_option maxHeartbeats 4000000 in
set_option maxRecDepth 100000 in
theorem mc_X12_isRow (l : Launch) (dC : Nat → ClassId) (dI : Nat → Nat → Nat) (cB cI cJ cZ cQ : ClassId) (q : Nat → Nat) (A : St) (x1 x2 : Int) (hI : IM A) (hx1 : (0 : Int) ≤ x1 ∧ x1 ≤ 3) (hx2 : (0 : Int) ≤ x2 ∧ x2 ≤ 999) : XMi l yX12_isRow ws_mc_X12_isRow ({ frames := 2, cells := 0, slots := 0, locals := 43 } : Room) (dC, dI) (tyA cB cI cJ cZ cQ) (WM cI cJ cZ q) A [.ref (q 0), .int (iI x1), .int (iI x2)] (fun z u => r_X12_isRow x1 x2 A z u ∧ IM u ∧ fr [54] [78] A u ∧ (0 ≤ z ∧ z ≤ 1)) := by
  refine x_metz (cc := cX12_isRow) (maxL := 6) WM_adr (by decide +kernel) rfl (Nat.le_of_ble_eq_true rfl) (fun z u h => h.2.2.2) (fun p e s m below meth c Q AS ls hx hb hml hown hts hK hDD hA0 hP hS hl RET => ?_)
  have hown : s.vm.findClass RX12 = some m.cls := hown
  have hl : lv_has ls 6 [(0, .ref (q 0)), (1, .int (iI x1)), (2, .int (iI x2))] := hl
  have hiX12 : ∀ w ∈ u_ws RX12 TX12 85, w ∈ ws_mc_X12_isRow := fun w h => List.mem_cons_of_mem _ (wx_lay w h)
  obtain ⟨H, hHe⟩ : ∃ H : Heap, H = s.heap := ⟨_, rfl⟩
  rw [← hHe] at hP
  have hS : va_S AS s.heap H [] := by rw [hHe]; exact hS
  suffices hgo : ∀ locs : List Loc, va_S AS s.heap H locs → W p l e (headSpec ws_mc_X12_isRow ({ frames := 2, cells := 0, slots := 0, locals := 43 } : Room)).room s m [.ref (q 0), .int (iI x1), .int (iI x2)].toArray below meth c H locs 0 0 Q (F0 m 0 ls []) by
    have := hgo [] hS
    rw [hHe] at this
    exact this
  clear hS hHe
  intro locs hS
  refine lv_aload_n hx hb (dk_at dkX12_isRow_0 0 rfl) rfl (lv_at hl 0 rfl) ?_
  refine lv_iload_n hx hb (dk_at dkX12_isRow_0 1 rfl) rfl (lv_at hl 1 rfl) ?_
  refine x_put (D := (dC, dI)) (ci := 12) (v := .int (iI x1)) (ty := .int) (C := RX12) (T := TX12) (N := 85) hx hb hts hiX12 tyX12 tyX12_ok nmX12 hown hK hP hDD hS 0 wm0 rfl 78 (by decide) (hts _ (List.mem_cons_of_mem _ wlq_8_8)) (fun _ h9 => h9) rfl (by decide +kernel) rfl rfl (Nat.le_of_ble_eq_true rfl) (dk_at dkX12_isRow_0 2 rfl) (wf78 (v := x1)) (fun H locs hP hS => ?_)
  have hI := hI.st (j := 0) (i := 78) (v := x1) (show (0 : Int) ≤ x1 ∧ x1 ≤ 3 from (by omega))
  refine lv_iload_n hx hb (dk_at dkX12_isRow_0 3 rfl) rfl (lv_at hl 2 rfl) ?_
  refine lv_istore_n (lv' := [(3, .int (iI x2)), (0, .ref (q 0)), (1, .int (iI x1)), (2, .int (iI x2))]) hx hb (dk_at dkX12_isRow_0 4 rfl) rfl hl (by decide) rfl (fun ls hl => ?_)
  refine lv_iload_n hx hb (dk_at dkX12_isRow_0 5 rfl) rfl (lv_at hl 2 rfl) ?_
  refine lv_iconst (v := iI 1) hx hb (dk_at dkX12_isRow_0 6 rfl) (by decide +kernel) ?_
  refine x_subv (v := x1 - 1) hx hb (dk_at dkX12_isRow_0 7 rfl) (by omega) ?_
  refine lv_istore (lv' := [(4, .int (iI (x1 - 1))), (3, .int (iI x2)), (0, .ref (q 0)), (1, .int (iI x1)), (2, .int (iI x2))]) hx hb (dk_at dkX12_isRow_0 8 rfl) hl (by decide) rfl (fun ls hl => ?_)
  obtain ⟨A1, hA1⟩ : ∃ A1 : St, A1 = (stA A 0 78 x1) := ⟨_, rfl⟩
  rw [← hA1] at hP hI
  have L12_6 : ∀ (n8 : Nat) (z2 z3 : Int) (A5 : St) (H : Heap) (locs : List Loc) (ls : Array Slot), (z2 ≤ x1 - 1) → (-2147483648 ≤ z2 ∧ z2 ≤ 2) → (0 ≤ z3 ∧ z3 ≤ 999) → (∀ (z : Int) (u : St), (∃ mm1 : Nat, (d_X12_isRow_1 x1 A z u mm1 z2 z3 A5)) → r_X12_isRow x1 x2 A z u) → ((z2 - 0 + 1).toNat = n8) → IM A5 → fr [54] [] A1 A5 → va_P (dC, dI) vwCl (WM cI cJ cZ q A5) H → va_S AS s.heap H locs → lv_has ls 6 [(4, .int (iI z2)), (3, .int (iI z3)), (0, .ref (q 0)), (1, .int (iI x1)), (2, .int (iI x2))] → W p l e (headSpec ws_mc_X12_isRow ({ frames := 2, cells := 0, slots := 0, locals := 43 } : Room)).room s m [.ref (q 0), .int (iI x1), .int (iI x2)].toArray below meth c H locs 0 0 Q (F0 m 12 ls []) := by
    intro n8
    induction n8 using Nat.strongRecOn with
    | ind n8 ih7 =>
      intro z2 z3 A5 H locs ls f9 f10 f11 hk1 hn8 hI hj4 hP hS hl
      have gI12 : Hd (IM A5) := Hd.mk hI
      refine lv_iload hx hb (dk_at dkX12_isRow_0 9 rfl) (lv_at hl 0 rfl) ?_
      refine lv_if_lt (tgt := 39) hx hb (dk_at dkX12_isRow_0 10 rfl) (by decide) (fun c13 => ?_) (fun c13 => ?_)
      · have c13 : z2 < 0 := (i_lt0 (rb f10 (by decide) (by decide))).mp c13
        refine lv_iconst (v := iI 0) hx hb (dk_at dkX12_isRow_1 8 rfl) (by decide +kernel) ?_
        refine lv_istore (lv' := [(4, .int (iI 0)), (3, .int (iI z3)), (0, .ref (q 0)), (1, .int (iI x1)), (2, .int (iI x2))]) hx hb (dk_at dkX12_isRow_1 9 rfl) hl (by decide) rfl (fun ls hl => ?_)
        have L42_16 : ∀ (n18 : Nat) (z14 : Int) (H : Heap) (locs : List Loc) (ls : Array Slot), (0 ≤ z14) → (0 ≤ z14 ∧ z14 ≤ 2147483647) → (∀ (z : Int) (u : St), (∃ mm1 mm2 : Nat, (d_X12_isRow_2 x1 A A5 z u mm2 z14)) → r_X12_isRow x1 x2 A z u) → ((x1 - z14 + 1).toNat = n18) → va_P (dC, dI) vwCl (WM cI cJ cZ q A5) H → va_S AS s.heap H locs → lv_has ls 6 [(4, .int (iI z14)), (3, .int (iI z3)), (0, .ref (q 0)), (1, .int (iI x1)), (2, .int (iI x2))] → W p l e (headSpec ws_mc_X12_isRow ({ frames := 2, cells := 0, slots := 0, locals := 43 } : Room)).room s m [.ref (q 0), .int (iI x1), .int (iI x2)].toArray below meth c H locs 0 0 Q (F0 m 42 ls []) := by
          intro n18
          induction n18 using Nat.strongRecOn with
          | ind n18 ih17 =>
            intro z14 H locs ls f19 f20 hk2 hn18 hP hS hl
            refine lv_iload hx hb (dk_at dkX12_isRow_1 10 rfl) (lv_at hl 0 rfl) ?_
            refine lv_iload_n hx hb (dk_at dkX12_isRow_1 11 rfl) rfl (lv_at hl 3 rfl) ?_
            refine lv_icmp_ge (tgt := 124) hx hb (dk_at dkX12_isRow_1 12 rfl) (by decide) (fun c21 => ?_) (fun c21 => ?_)
            · have c21 : x1 ≤ z14 := (i_le (rb hx1 (by decide) (by decide)) (rb f20 (by decide) (by decide))).mp c21
              refine lv_iconst (v := iI 1) hx hb (dk_at dkX12_isRow_4 4 rfl) (by decide +kernel) ?_
              exact RET 1 _ _ _ _ _ ⟨hk2 _ _ ⟨0, 0 + 1, (u_d_X12_isRow_2 ⟨f20, (Or.inl ⟨c21, ⟨rfl, rfl⟩⟩)⟩)⟩, hI, fr.trans (fr_def hA1 (fr.sf (fr.rf) rfl)) hj4 rfl rfl, by omega⟩ hP hS (dk_at dkX12_isRow_4 5 rfl)
            · have c21 : ¬ x1 ≤ z14 := mt (i_le (rb hx1 (by decide) (by decide)) (rb f20 (by decide) (by decide))).mpr c21
              refine lv_aload_n hx hb (dk_at dkX12_isRow_1 13 rfl) rfl (lv_at hl 2 rfl) ?_
              refine lv_aload_n hx hb (dk_at dkX12_isRow_1 14 rfl) rfl (lv_at hl 2 rfl) ?_
              refine va_get (D := (dC, dI)) (ci := 12) (v := .ref (q 54)) (C := RX12) (T := TX12) (N := 85) hx hb hts hiX12 hown hK hP 0 wm0 rfl 79 (by decide) (hts _ (List.mem_cons_of_mem _ wlq_8_10)) (fun _ h9 => h9) rfl (dk_at dkX12_isRow_1 15 rfl) ?_
              refine lv_iload hx hb (dk_at dkX12_isRow_2 0 rfl) (lv_at hl 0 rfl) ?_
              refine x_iald hx hb hK hP 54 1 wm54 rfl (by omega) (by decide) (dk_at dkX12_isRow_2 1 rfl) (fun z22 hz22 => ?_)
              have rz22 : (0 : Int) ≤ z22 ∧ z22 ≤ 9 := by rw [hz22]; exact hI 54 _
              have gz22 := Hd.mk hz22
              have hz22 : z22 = A5 54 (z14).toNat := hz22
              have e_A1_12 : A1 0 12 = (A 0 12) := by rw [hA1]; exact rfl
              have e_A5_12 : A5 0 12 = (A 0 12) := (hj4.2 12 rfl).trans e_A1_12
              have r_A_0_12 : (0 : Int) ≤ (A 0 12) ∧ (A 0 12) ≤ 1 := by rw [← e_A5_12]; exact hI 0 12
              refine x_calli (As := [.int (iI z22)]) (rest := []) ⟨hx, hb, hml, hown, hts⟩ (mc_X12_isDoorB l dC dI cB cI cJ cZ cQ q _ z22 hI (rb rz22 (by decide) (by decide))) (cwV 1 hts (goodV wlq_5_14 wlq_5_15 wlq_5_16 wlq_0_8 wlq_4_38) rfl rfl rfl (by decide +kernel) ⟨Nat.le_of_ble_eq_true rfl, Nat.le_of_ble_eq_true rfl⟩) hK hDD hA0 hP hS 0 12 wm0 rfl rfl hl.1 (Nat.le_of_ble_eq_true rfl) (dk_at dkX12_isRow_2 2 rfl) (fun z23 A24 H locs hw25 hP hS => ?_)
              obtain ⟨rfl, hw25⟩ := hw25
              have ghw25 : q_X12_isDoor z22 A5 z23 := hw25
              have hw25 := hw25.2
              have rz23 : 0 ≤ z23 ∧ z23 ≤ 1 := hw25.1
              refine lv_if_eq (tgt := 81) hx hb (dk_at dkX12_isRow_2 3 rfl) (by decide) (fun c26 => ?_) (fun c26 => ?_)
              · have c26 : z23 = 0 := (i_eq0 (rb rz23 (by decide) (by decide))).mp c26
                clear hw25
                refine lv_iconst (v := iI 0) hx hb (dk_at dkX12_isRow_2 14 rfl) (by decide +kernel) ?_
                exact RET 0 _ _ _ _ _ ⟨hk2 _ _ ⟨0, 0 + 1, (u_d_X12_isRow_2 ⟨f20, (Or.inr ⟨c21, ⟨z22, gz22.out, ⟨z23, ghw25, (Or.inl ⟨c26, ⟨rfl, rfl⟩⟩)⟩⟩⟩)⟩)⟩, hI, fr.trans (fr_def hA1 (fr.sf (fr.rf) rfl)) hj4 rfl rfl, by omega⟩ hP hS (dk_at dkX12_isRow_2 15 rfl)
              · have c26 : ¬ z23 = 0 := mt (i_eq0 (rb rz23 (by decide) (by decide))).mpr c26
                have hw25b := hw25.2.mp (by omega)
                clear hw25
                refine lv_aload_n hx hb (dk_at dkX12_isRow_2 4 rfl) rfl (lv_at hl 2 rfl) ?_
                refine va_get (D := (dC, dI)) (ci := 12) (v := .ref (q 10)) (C := RX12) (T := TX12) (N := 85) hx hb hts hiX12 hown hK hP 0 wm0 rfl 21 (by decide) (hts _ (List.mem_cons_of_mem _ wlq_2_43)) (fun _ h9 => h9) rfl (dk_at dkX12_isRow_2 5 rfl) ?_
                refine lv_aload_n hx hb (dk_at dkX12_isRow_2 6 rfl) rfl (lv_at hl 2 rfl) ?_
                refine lv_aload_n hx hb (dk_at dkX12_isRow_2 7 rfl) rfl (lv_at hl 2 rfl) ?_
                refine va_get (D := (dC, dI)) (ci := 12) (v := .ref (q 54)) (C := RX12) (T := TX12) (N := 85) hx hb hts hiX12 hown hK hP 0 wm0 rfl 79 (by decide) (hts _ (List.mem_cons_of_mem _ wlq_8_10)) (fun _ h9 => h9) rfl (dk_at dkX12_isRow_2 8 rfl) ?_
                refine lv_iload hx hb (dk_at dkX12_isRow_2 9 rfl) (lv_at hl 0 rfl) ?_
                refine x_iald hx hb hK hP 54 1 wm54 rfl (by omega) (by decide) (dk_at dkX12_isRow_2 10 rfl) (fun z27 hz27 => ?_)
                have rz27 : (0 : Int) ≤ z27 ∧ z27 ≤ 9 := by rw [hz27]; exact hI 54 _
                have gz27 := Hd.mk hz27
                have hz27 : z27 = A5 54 (z14).toNat := hz27
                have ez27 : z27 = z22 := hz27.trans hz22.symm
                refine x_calli (As := [.int (iI z27)]) (rest := [.ref (q 10)]) ⟨hx, hb, hml, hown, hts⟩ (mc_X12_door10 l dC dI cB cI cJ cZ cQ q _ z27 hI rz27) (cwV 1 hts (goodV wlq_4_49 wlq_4_50 wlq_4_51 wlq_0_8 wlq_4_42) rfl rfl rfl (by decide +kernel) ⟨Nat.le_of_ble_eq_true rfl, Nat.le_of_ble_eq_true rfl⟩) hK hDD hA0 hP hS 0 12 wm0 rfl rfl hl.1 (Nat.le_of_ble_eq_true rfl) (dk_at dkX12_isRow_2 11 rfl) (fun z28 A29 H locs hw30 hP hS => ?_)
                obtain ⟨rfl, hw30⟩ := hw30
                have ghw30 : q_X12_door10 z27 A5 z28 := hw30
                have hw30 := hw30.2
                refine tp_i (y := iI (10 * (A 0 12) + z27)) (congrArg iI (show z28 = 10 * (A 0 12) + z27 by omega)) ?_
                clear hw30
                have a_A1_10 : A1 10 = A 10 := by rw [hA1]; exact rfl
                have a_A5_10 : A5 10 = A 10 := (hj4.1 10 (by decide) rfl).trans a_A1_10
                refine x_zald hx hb hK hP 10 3 wm10 rfl (by omega) (by decide) (dk_at dkX12_isRow_2 12 rfl) (fun z31 hz31 => ?_)
                have rz31 : (0 : Int) ≤ z31 ∧ z31 ≤ 1 := by rw [hz31]; exact hI 10 _
                have gz31 := Hd.mk hz31
                have hz31 : z31 = A 10 (10 * (A 0 12) + z27).toNat := hz31.trans (congrFun a_A5_10 _)
                refine lv_if_ne (tgt := 83) hx hb (dk_at dkX12_isRow_2 13 rfl) (by decide) (fun c32 => ?_) (fun c32 => ?_)
                · have c32 : ¬ z31 = 0 := mt (i_eq0 (rb rz31 (by decide) (by decide))).mpr c32
                  refine lv_iconst (v := iI 0) hx hb (dk_at dkX12_isRow_3 0 rfl) (by decide +kernel) ?_
                  refine lv_istore (lv' := [(5, .int (iI 0)), (4, .int (iI z14)), (3, .int (iI z3)), (0, .ref (q 0)), (1, .int (iI x1)), (2, .int (iI x2))]) hx hb (dk_at dkX12_isRow_3 1 rfl) hl (by decide) rfl (fun ls hl => ?_)
                  have L86_35 : ∀ (n37 : Nat) (z33 : Int) (H : Heap) (locs : List Loc) (ls : Array Slot), (0 ≤ z33) → (0 ≤ z33 ∧ z33 ≤ 2147483647) → (∀ (z : Int) (u : St), (∃ mm1 mm2 mm3 : Nat, (d_X12_isRow_3 (fun z14' => d_X12_isRow_2 x1 A A5 z u mm2 z14') z14 A5 z u mm3 z33)) → r_X12_isRow x1 x2 A z u) → ((z14 - z33 + 1).toNat = n37) → va_P (dC, dI) vwCl (WM cI cJ cZ q A5) H → va_S AS s.heap H locs → lv_has ls 6 [(5, .int (iI z33)), (4, .int (iI z14)), (3, .int (iI z3)), (0, .ref (q 0)), (1, .int (iI x1)), (2, .int (iI x2))] → W p l e (headSpec ws_mc_X12_isRow ({ frames := 2, cells := 0, slots := 0, locals := 43 } : Room)).room s m [.ref (q 0), .int (iI x1), .int (iI x2)].toArray below meth c H locs 0 0 Q (F0 m 86 ls []) := by
                    intro n37
                    induction n37 using Nat.strongRecOn with
                    | ind n37 ih36 =>
                      intro z33 H locs ls f38 f39 hk3 hn37 hP hS hl
                      refine lv_iload hx hb (dk_at dkX12_isRow_3 2 rfl) (lv_at hl 0 rfl) ?_
                      refine lv_iload hx hb (dk_at dkX12_isRow_3 3 rfl) (lv_at hl 1 rfl) ?_
                      refine lv_icmp_ge (tgt := 118) hx hb (dk_at dkX12_isRow_3 4 rfl) (by decide) (fun c40 => ?_) (fun c40 => ?_)
                      · have c40 : z14 ≤ z33 := (i_le (rb f20 (by decide) (by decide)) (rb f39 (by decide) (by decide))).mp c40
                        refine lv_iinc (v := iI (z14 + 1)) (lv' := [(4, .int (iI (z14 + 1))), (5, .int (iI z33)), (3, .int (iI z3)), (0, .ref (q 0)), (1, .int (iI x1)), (2, .int (iI x2))]) hx hb (dk_at dkX12_isRow_4 2 rfl) hl (k := 1) rfl (i_inc (by omega)) (by decide) rfl (fun ls hl => ?_)
                        refine lv_goto (tgt := 42) hx hb (dk_at dkX12_isRow_4 3 rfl) (by decide) ?_
                        exact ih17 _ (by omega) (z14 + 1) _ _ _ (by omega) (by omega) (fun zq uq ⟨mm1, mm2, hq⟩ => hk3 _ _ ⟨mm1, mm2, 0 + 1, (u_d_X12_isRow_3 ⟨f39, (Or.inl ⟨c40, hq⟩)⟩)⟩) rfl hP hS (lv_sub hl [0, 2, 3, 4, 5] rfl)
                      · have c40 : ¬ z14 ≤ z33 := mt (i_le (rb f20 (by decide) (by decide)) (rb f39 (by decide) (by decide))).mpr c40
                        refine lv_aload_n hx hb (dk_at dkX12_isRow_3 5 rfl) rfl (lv_at hl 3 rfl) ?_
                        refine va_get (D := (dC, dI)) (ci := 12) (v := .ref (q 54)) (C := RX12) (T := TX12) (N := 85) hx hb hts hiX12 hown hK hP 0 wm0 rfl 79 (by decide) (hts _ (List.mem_cons_of_mem _ wlq_8_10)) (fun _ h9 => h9) rfl (dk_at dkX12_isRow_3 6 rfl) ?_
                        refine lv_iload hx hb (dk_at dkX12_isRow_3 7 rfl) (lv_at hl 0 rfl) ?_
                        refine x_iald hx hb hK hP 54 1 wm54 rfl (by omega) (by decide) (dk_at dkX12_isRow_3 8 rfl) (fun z41 hz41 => ?_)
                        have rz41 : (0 : Int) ≤ z41 ∧ z41 ≤ 9 := by rw [hz41]; exact hI 54 _
                        have gz41 := Hd.mk hz41
                        have hz41 : z41 = A5 54 (z33).toNat := hz41
                        refine lv_aload_n hx hb (dk_at dkX12_isRow_3 9 rfl) rfl (lv_at hl 3 rfl) ?_
                        refine va_get (D := (dC, dI)) (ci := 12) (v := .ref (q 54)) (C := RX12) (T := TX12) (N := 85) hx hb hts hiX12 hown hK hP 0 wm0 rfl 79 (by decide) (hts _ (List.mem_cons_of_mem _ wlq_8_10)) (fun _ h9 => h9) rfl (dk_at dkX12_isRow_3 10 rfl) ?_
                        refine lv_iload hx hb (dk_at dkX12_isRow_3 11 rfl) (lv_at hl 1 rfl) ?_
                        refine x_iald hx hb hK hP 54 1 wm54 rfl (by omega) (by decide) (dk_at dkX12_isRow_3 12 rfl) (fun z42 hz42 => ?_)
                        have rz42 : (0 : Int) ≤ z42 ∧ z42 ≤ 9 := by rw [hz42]; exact hI 54 _
                        have gz42 := Hd.mk hz42
                        have hz42 : z42 = A5 54 (z14).toNat := hz42
                        have ez42 : z42 = z22 := hz42.trans hz22.symm
                        refine lv_icmp_ne (tgt := 112) hx hb (dk_at dkX12_isRow_3 13 rfl) (by decide) (fun c43 => ?_) (fun c43 => ?_)
                        · have c43 : ¬ z41 = z42 := mt (i_eq (rb rz41 (by decide) (by decide)) (rb rz42 (by decide) (by decide))).mpr c43
                          refine lv_iinc (v := iI (z33 + 1)) (lv' := [(5, .int (iI (z33 + 1))), (4, .int (iI z14)), (3, .int (iI z3)), (0, .ref (q 0)), (1, .int (iI x1)), (2, .int (iI x2))]) hx hb (dk_at dkX12_isRow_4 0 rfl) hl (k := 0) rfl (i_inc (by omega)) (by decide) rfl (fun ls hl => ?_)
                          refine lv_goto (tgt := 86) hx hb (dk_at dkX12_isRow_4 1 rfl) (by decide) ?_
                          exact ih36 _ (by omega) (z33 + 1) _ _ _ (by omega) (by omega) (fun zq uq ⟨mm1, mm2, mm3, hq⟩ => hk3 _ _ ⟨mm1, mm2, mm3 + 1, (u_d_X12_isRow_3 ⟨f39, (Or.inr ⟨c40, ⟨z41, gz41.out, ⟨z42, gz42.out, (Or.inl ⟨c43, hq⟩)⟩⟩⟩)⟩)⟩) rfl hP hS (lv_sub hl [0, 1, 2, 3, 4, 5] rfl)
                        · have c43 : z41 = z42 := (i_eq (rb rz41 (by decide) (by decide)) (rb rz42 (by decide) (by decide))).mp c43
                          refine lv_iconst (v := iI 0) hx hb (dk_at dkX12_isRow_3 14 rfl) (by decide +kernel) ?_
                          exact RET 0 _ _ _ _ _ ⟨hk3 _ _ ⟨0, 0, 0 + 1, (u_d_X12_isRow_3 ⟨f39, (Or.inr ⟨c40, ⟨z41, gz41.out, ⟨z42, gz42.out, (Or.inr ⟨c43, ⟨rfl, rfl⟩⟩)⟩⟩⟩)⟩)⟩, hI, fr.trans (fr_def hA1 (fr.sf (fr.rf) rfl)) hj4 rfl rfl, by omega⟩ hP hS (dk_at dkX12_isRow_3 15 rfl)
                  exact L86_35 _ 0 _ _ _ (by omega) (by omega) (fun zq uq ⟨mm1, mm2, mm3, hq⟩ => hk2 _ _ ⟨mm1, mm2 + 1, (u_d_X12_isRow_2 ⟨f20, (Or.inr ⟨c21, ⟨z22, gz22.out, ⟨z23, ghw25, (Or.inr ⟨c26, ⟨z27, gz27.out, ⟨z28, ghw30, ⟨z31, gz31.out, (Or.inl ⟨c32, ⟨mm3, hq⟩⟩)⟩⟩⟩⟩)⟩⟩⟩)⟩)⟩) rfl hP hS (lv_sub hl [0, 1, 2, 3, 4, 5] rfl)
                · have c32 : z31 = 0 := (i_eq0 (rb rz31 (by decide) (by decide))).mp c32
                  refine lv_iconst (v := iI 0) hx hb (dk_at dkX12_isRow_2 14 rfl) (by decide +kernel) ?_
                  exact RET 0 _ _ _ _ _ ⟨hk2 _ _ ⟨0, 0 + 1, (u_d_X12_isRow_2 ⟨f20, (Or.inr ⟨c21, ⟨z22, gz22.out, ⟨z23, ghw25, (Or.inr ⟨c26, ⟨z27, gz27.out, ⟨z28, ghw30, ⟨z31, gz31.out, (Or.inr ⟨c32, ⟨rfl, rfl⟩⟩)⟩⟩⟩⟩)⟩⟩⟩)⟩)⟩, hI, fr.trans (fr_def hA1 (fr.sf (fr.rf) rfl)) hj4 rfl rfl, by omega⟩ hP hS (dk_at dkX12_isRow_2 15 rfl)
        exact L42_16 _ 0 _ _ _ (by omega) (by omega) (fun zq uq ⟨mm1, mm2, hq⟩ => hk1 _ _ ⟨mm1 + 1, (u_d_X12_isRow_1 ⟨gI12.out, ⟨f10, ⟨f11, (Or.inl ⟨c13, ⟨mm2, hq⟩⟩)⟩⟩⟩)⟩) rfl hP hS (lv_sub hl [0, 1, 2, 3, 4] rfl)
      · have c13 : ¬ z2 < 0 := mt (i_lt0 (rb f10 (by decide) (by decide))).mpr c13
        refine lv_aload_n hx hb (dk_at dkX12_isRow_0 11 rfl) rfl (lv_at hl 2 rfl) ?_
        refine va_get (D := (dC, dI)) (ci := 12) (v := .ref (q 54)) (C := RX12) (T := TX12) (N := 85) hx hb hts hiX12 hown hK hP 0 wm0 rfl 79 (by decide) (hts _ (List.mem_cons_of_mem _ wlq_8_10)) (fun _ h9 => h9) rfl (dk_at dkX12_isRow_0 12 rfl) ?_
        refine lv_iload hx hb (dk_at dkX12_isRow_0 13 rfl) (lv_at hl 0 rfl) ?_
        refine lv_iload_n hx hb (dk_at dkX12_isRow_0 14 rfl) rfl (lv_at hl 1 rfl) ?_
        refine lv_bipush (v := iI 10) hx hb (dk_at dkX12_isRow_0 15 rfl) (by decide +kernel) ?_
        refine x_rem hx hb (dk_at dkX12_isRow_1 0 rfl) (by omega) (by omega) (fun z44 hz44 hz44b => ?_)
        refine x_iast hx hb hK hP hDD hS 54 1 wm54 rfl (by omega) (by decide) (dk_at dkX12_isRow_1 1 rfl) ws54 (fun H locs hP hS => ?_)
        have hI := hI.st (j := 54) (i := (z2).toNat) (v := z44) (show (0 : Int) ≤ z44 ∧ z44 ≤ 9 from (by omega))
        refine lv_iload_n hx hb (dk_at dkX12_isRow_1 2 rfl) rfl (lv_at hl 1 rfl) ?_
        refine lv_bipush (v := iI 10) hx hb (dk_at dkX12_isRow_1 3 rfl) (by decide +kernel) ?_
        refine x_div hx hb (dk_at dkX12_isRow_1 4 rfl) (by omega) (by omega) (fun z45 hz45 hz45b => ?_)
        refine lv_istore_n (lv' := [(3, .int (iI z45)), (4, .int (iI z2)), (0, .ref (q 0)), (1, .int (iI x1)), (2, .int (iI x2))]) hx hb (dk_at dkX12_isRow_1 5 rfl) rfl hl (by decide) rfl (fun ls hl => ?_)
        refine lv_iinc (v := iI (z2 - 1)) (lv' := [(4, .int (iI (z2 - 1))), (3, .int (iI z45)), (0, .ref (q 0)), (1, .int (iI x1)), (2, .int (iI x2))]) hx hb (dk_at dkX12_isRow_1 6 rfl) hl (k := 1) rfl (i_inc (by omega)) (by decide) rfl (fun ls hl => ?_)
        refine lv_goto (tgt := 12) hx hb (dk_at dkX12_isRow_1 7 rfl) (by decide) ?_
        obtain ⟨A46, hA46⟩ : ∃ A46 : St, A46 = (stA A5 54 (z2).toNat z44) := ⟨_, rfl⟩
        rw [← hA46] at hP hI
        exact ih7 _ (by omega) (z2 - 1) z45 _ _ _ _ (by omega) (by omega) (by omega) (fun zq uq ⟨mm1, hq⟩ => hk1 _ _ ⟨mm1 + 1, (u_d_X12_isRow_1 ⟨gI12.out, ⟨f10, ⟨f11, (Or.inr ⟨c13, ⟨z44, hz44, ⟨z45, hz45, ⟨A46, hA46, hq⟩⟩⟩⟩)⟩⟩⟩)⟩) rfl hI (fr_def hA46 (fr.st (fr.trans (fr.rf) hj4 rfl rfl) (by decide) rfl)) hP hS (lv_sub hl [0, 1, 2, 3, 4] rfl)
  exact L12_6 _ (x1 - 1) x2 _ _ _ _ (by omega) (by omega) (by omega) (fun zq uq ⟨mm1, hq⟩ => (u_r_X12_isRow ⟨A1, hA1, ⟨mm1, hq⟩⟩)) rfl hI (fr.rf) hP hS (lv_sub hl [0, 1, 2, 3, 4] rfl)

abbrev tr_d_X12_fitting_5 (K2 : Int → Int → St → Prop) (z16 : Int) (z17 : Int) (z : Int) (u : St) (z49 : Int) (A51 : St) : Prop := ((IM A51) ∧ ((0 ≤ z49 ∧ z49 ≤ 1) ∧ (∃ z55 : Int, z55 = oWrap (z17 + z49) ∧ (K2 (z16 + 1) z55 A51))))
def d_X12_fitting_5 (K2 : Int → Int → St → Prop) (z16 : Int) (z17 : Int) (z : Int) (u : St) (z49 : Int) (A51 : St) : Prop := tr_d_X12_fitting_5 K2 z16 z17 z u z49 A51
theorem u_d_X12_fitting_5 {K2 : Int → Int → St → Prop} {z16 : Int} {z17 : Int} {z : Int} {u : St} {z49 : Int} {A51 : St} (h : tr_d_X12_fitting_5 K2 z16 z17 z u z49 A51) : d_X12_fitting_5 K2 z16 z17 z u z49 A51 := h
abbrev tr_d_X12_fitting_4 (K2 : Int → Int → St → Prop) (z16 : Int) (z17 : Int) (z : Int) (u : St) (A47 : St) : Prop := ((IM A47) ∧ (d_X12_fitting_5 K2 z16 z17 z u 0 A47))
def d_X12_fitting_4 (K2 : Int → Int → St → Prop) (z16 : Int) (z17 : Int) (z : Int) (u : St) (A47 : St) : Prop := tr_d_X12_fitting_4 K2 z16 z17 z u A47
theorem u_d_X12_fitting_4 {K2 : Int → Int → St → Prop} {z16 : Int} {z17 : Int} {z : Int} {u : St} {A47 : St} (h : tr_d_X12_fitting_4 K2 z16 z17 z u A47) : d_X12_fitting_4 K2 z16 z17 z u A47 := h
abbrev tr_d_X12_fitting_3 (K2 : Int → Int → St → Prop) (z16 : Int) (z17 : Int) (A36 : St) (z : Int) (u : St) : Prop := (d_X12_fitting_5 K2 z16 z17 z u 1 A36)
def d_X12_fitting_3 (K2 : Int → Int → St → Prop) (z16 : Int) (z17 : Int) (A36 : St) (z : Int) (u : St) : Prop := tr_d_X12_fitting_3 K2 z16 z17 A36 z u
theorem u_d_X12_fitting_3 {K2 : Int → Int → St → Prop} {z16 : Int} {z17 : Int} {A36 : St} {z : Int} {u : St} (h : tr_d_X12_fitting_3 K2 z16 z17 A36 z u) : d_X12_fitting_3 K2 z16 z17 A36 z u := h
abbrev tr_d_X12_fitting_2 (K1 : Int → Int → Int → St → Prop) (x1 : Int) (z1 : Int) (z2 : Int) (z : Int) (u : St) (K2 : Int → Int → St → Prop) (z16 : Int) (z17 : Int) (A19 : St) : Prop := ((IM A19) ∧ ((0 ≤ z16 ∧ z16 ≤ 2147483647) ∧ ((-2147483648 ≤ z17 ∧ z17 ≤ 2147483647) ∧ (((z2 ≤ z16) ∧ (K1 (z1 + 1) (10 * z2) z17 A19)) ∨ ((¬ z2 ≤ z16) ∧ (∃ z28 : Int, ∃ A29 : St, q_X12_isRow z1 z16 A19 z28 A29 ∧ (((z28 = 0) ∧ (d_X12_fitting_4 K2 z16 z17 z u A29)) ∨ ((¬ z28 = 0) ∧ (∃ z35 : Int, ∃ A36 : St, q_X12_agrees A29 z35 A36 ∧ (((z35 = 0) ∧ (d_X12_fitting_4 K2 z16 z17 z u A36)) ∨ ((¬ z35 = 0) ∧ (((x1 = (-1)) ∧ (d_X12_fitting_3 K2 z16 z17 A36 z u)) ∨ ((¬ x1 = (-1)) ∧ ((((A36 0 80) ≤ 0) ∧ (d_X12_fitting_4 K2 z16 z17 z u A36)) ∨ ((¬ (A36 0 80) ≤ 0) ∧ (∃ z43 : Int, z43 = A36 54 ((A36 0 80) - 1).toNat ∧ (((¬ z43 = x1) ∧ (d_X12_fitting_4 K2 z16 z17 z u A36)) ∨ ((z43 = x1) ∧ (d_X12_fitting_3 K2 z16 z17 A36 z u)))))))))))))))))))
def d_X12_fitting_2 (K1 : Int → Int → Int → St → Prop) (x1 : Int) (z1 : Int) (z2 : Int) (z : Int) (u : St) : Nat → Int → Int → St → Prop
  | 0, _, _, _ => False
  | nn9 + 1, z16, z17, A19 => tr_d_X12_fitting_2 K1 x1 z1 z2 z u (fun z16 z17 A19 => d_X12_fitting_2 K1 x1 z1 z2 z u nn9 z16 z17 A19) z16 z17 A19
theorem u_d_X12_fitting_2 {K1 : Int → Int → Int → St → Prop} {x1 : Int} {z1 : Int} {z2 : Int} {z : Int} {u : St} {nn9 : Nat} {z16 : Int} {z17 : Int} {A19 : St} (h : tr_d_X12_fitting_2 K1 x1 z1 z2 z u (fun z16 z17 A19 => d_X12_fitting_2 K1 x1 z1 z2 z u nn9 z16 z17 A19) z16 z17 A19) : d_X12_fitting_2 K1 x1 z1 z2 z u (nn9 + 1) z16 z17 A19 := h
abbrev tr_d_X12_fitting_1 (x1 : Int) (z : Int) (u : St) (K1 : Int → Int → Int → St → Prop) (z1 : Int) (z2 : Int) (z3 : Int) (A5 : St) : Prop := ((IM A5) ∧ ((0 ≤ z1 ∧ z1 ≤ 4) ∧ ((1 ≤ z2 ∧ z2 ≤ 10000) ∧ ((-2147483648 ≤ z3 ∧ z3 ≤ 2147483647) ∧ (((3 < z1) ∧ (z = z3 ∧ u = A5)) ∨ ((¬ 3 < z1) ∧ (∃ nn9 : Nat, d_X12_fitting_2 K1 x1 z1 z2 z u nn9 0 z3 A5)))))))
def d_X12_fitting_1 (x1 : Int) (z : Int) (u : St) : Nat → Int → Int → Int → St → Prop
  | 0, _, _, _, _ => False
  | nn9 + 1, z1, z2, z3, A5 => tr_d_X12_fitting_1 x1 z u (fun z1 z2 z3 A5 => d_X12_fitting_1 x1 z u nn9 z1 z2 z3 A5) z1 z2 z3 A5
theorem u_d_X12_fitting_1 {x1 : Int} {z : Int} {u : St} {nn9 : Nat} {z1 : Int} {z2 : Int} {z3 : Int} {A5 : St} (h : tr_d_X12_fitting_1 x1 z u (fun z1 z2 z3 A5 => d_X12_fitting_1 x1 z u nn9 z1 z2 z3 A5) z1 z2 z3 A5) : d_X12_fitting_1 x1 z u (nn9 + 1) z1 z2 z3 A5 := h
abbrev tr_r_X12_fitting (x1 : Int) (A : St) (z : Int) (u : St) : Prop := (∃ nn9 : Nat, d_X12_fitting_1 x1 z u nn9 0 1 0 A)
def r_X12_fitting (x1 : Int) (A : St) (z : Int) (u : St) : Prop := tr_r_X12_fitting x1 A z u
theorem u_r_X12_fitting {x1 : Int} {A : St} {z : Int} {u : St} (h : tr_r_X12_fitting x1 A z u) : r_X12_fitting x1 A z u := h
def q_X12_fitting (x1 : Int) (A : St) (z : Int) (u : St) : Prop := r_X12_fitting x1 A z u ∧ IM u ∧ fr [54] [78, 80] A u ∧ (-2147483648 ≤ z ∧ z ≤ 2147483647)
def ws_mc_X12_fitting : List Cond := .code yX12_fitting cX12_fitting 6 (some .int) :: WX
set_option maxHeartbeats 4000000 in
set_option maxRecDepth 100000 in
theorem mc_X12_fitting (l : Launch) (dC : Nat → ClassId) (dI : Nat → Nat → Nat) (cB cI cJ cZ cQ : ClassId) (q : Nat → Nat) (A : St) (x1 : Int) (hI : IM A) (hx1 : (-2147483648 : Int) ≤ x1 ∧ x1 ≤ 2147483647) : XMi l yX12_fitting ws_mc_X12_fitting ({ frames := 3, cells := 0, slots := 0, locals := 68 } : Room) (dC, dI) (tyA cB cI cJ cZ cQ) (WM cI cJ cZ q) A [.ref (q 0), .int (iI x1)] (fun z u => r_X12_fitting x1 A z u ∧ IM u ∧ fr [54] [78, 80] A u ∧ (-2147483648 ≤ z ∧ z ≤ 2147483647)) := by
  refine x_meti (cc := cX12_fitting) (maxL := 6) WM_adr (by decide +kernel) rfl (Nat.le_of_ble_eq_true rfl) (fun p e s m below meth c Q AS ls hx hb hml hown hts hK hDD hA0 hP hS hl RET => ?_)
  have hown : s.vm.findClass RX12 = some m.cls := hown
  have hl : lv_has ls 6 [(0, .ref (q 0)), (1, .int (iI x1))] := hl
  have hiX12 : ∀ w ∈ u_ws RX12 TX12 85, w ∈ ws_mc_X12_fitting := fun w h => List.mem_cons_of_mem _ (wx_lay w h)
  obtain ⟨H, hHe⟩ : ∃ H : Heap, H = s.heap := ⟨_, rfl⟩
  rw [← hHe] at hP
  have hS : va_S AS s.heap H [] := by rw [hHe]; exact hS
  suffices hgo : ∀ locs : List Loc, va_S AS s.heap H locs → W p l e (headSpec ws_mc_X12_fitting ({ frames := 3, cells := 0, slots := 0, locals := 68 } : Room)).room s m [.ref (q 0), .int (iI x1)].toArray below meth c H locs 0 0 Q (F0 m 0 ls []) by
    have := hgo [] hS
    rw [hHe] at this
    exact this
  clear hS hHe
  intro locs hS
  refine lv_iconst (v := iI 0) hx hb (dk_at dkX12_fitting_0 0 rfl) (by decide +kernel) ?_
  refine lv_istore_n (lv' := [(2, .int (iI 0)), (0, .ref (q 0)), (1, .int (iI x1))]) hx hb (dk_at dkX12_fitting_0 1 rfl) rfl hl (by decide) rfl (fun ls hl => ?_)
  refine lv_iconst (v := iI 1) hx hb (dk_at dkX12_fitting_0 2 rfl) (by decide +kernel) ?_
  refine lv_istore_n (lv' := [(3, .int (iI 1)), (2, .int (iI 0)), (0, .ref (q 0)), (1, .int (iI x1))]) hx hb (dk_at dkX12_fitting_0 3 rfl) rfl hl (by decide) rfl (fun ls hl => ?_)
  refine lv_iconst (v := iI 0) hx hb (dk_at dkX12_fitting_0 4 rfl) (by decide +kernel) ?_
  refine lv_istore (lv' := [(4, .int (iI 0)), (3, .int (iI 1)), (2, .int (iI 0)), (0, .ref (q 0)), (1, .int (iI x1))]) hx hb (dk_at dkX12_fitting_0 5 rfl) hl (by decide) rfl (fun ls hl => ?_)
  have L7_6 : ∀ (n8 : Nat) (z1 z2 z3 : Int) (A5 : St) (H : Heap) (locs : List Loc) (ls : Array Slot), (0 ≤ z1) → (0 ≤ z1 ∧ z1 ≤ 4) → (1 ≤ z2 ∧ z2 ≤ 10000) → (-2147483648 ≤ z3 ∧ z3 ≤ 2147483647) → ((z1 = 0 → z2 = 1) ∧ (z1 = 1 → z2 = 10) ∧ (z1 = 2 → z2 = 100) ∧ (z1 = 3 → z2 = 1000)) → (∀ (z : Int) (u : St), (∃ mm1 : Nat, (d_X12_fitting_1 x1 z u mm1 z1 z2 z3 A5)) → r_X12_fitting x1 A z u) → ((3 - z1 + 1).toNat = n8) → IM A5 → fr [54] [78, 80] A A5 → va_P (dC, dI) vwCl (WM cI cJ cZ q A5) H → va_S AS s.heap H locs → lv_has ls 6 [(4, .int (iI z1)), (3, .int (iI z2)), (2, .int (iI z3)), (0, .ref (q 0)), (1, .int (iI x1))] → W p l e (headSpec ws_mc_X12_fitting ({ frames := 3, cells := 0, slots := 0, locals := 68 } : Room)).room s m [.ref (q 0), .int (iI x1)].toArray below meth c H locs 0 0 Q (F0 m 7 ls []) := by
    intro n8
    induction n8 using Nat.strongRecOn with
    | ind n8 ih7 =>
      intro z1 z2 z3 A5 H locs ls f9 f10 f11 f12 f13 hk1 hn8 hI hj4 hP hS hl
      have gI14 : Hd (IM A5) := Hd.mk hI
      refine lv_iload hx hb (dk_at dkX12_fitting_0 6 rfl) (lv_at hl 0 rfl) ?_
      refine lv_iconst (v := iI 3) hx hb (dk_at dkX12_fitting_0 7 rfl) (by decide +kernel) ?_
      refine lv_icmp_gt (tgt := 92) hx hb (dk_at dkX12_fitting_0 8 rfl) (by decide) (fun c15 => ?_) (fun c15 => ?_)
      · have c15 : 3 < z1 := (i_lt ⟨by decide, by decide⟩ (rb f10 (by decide) (by decide))).mp c15
        refine lv_iload_n hx hb (dk_at dkX12_fitting_3 3 rfl) rfl (lv_at hl 2 rfl) ?_
        exact RET z3 _ _ _ _ _ ⟨hk1 _ _ ⟨0 + 1, (u_d_X12_fitting_1 ⟨gI14.out, ⟨f10, ⟨f11, ⟨f12, (Or.inl ⟨c15, ⟨rfl, rfl⟩⟩)⟩⟩⟩⟩)⟩, hI, fr.trans (fr.rf) hj4 rfl rfl, by omega⟩ hP hS (dk_at dkX12_fitting_3 4 rfl)
      · have c15 : ¬ 3 < z1 := mt (i_lt ⟨by decide, by decide⟩ (rb f10 (by decide) (by decide))).mpr c15
        refine lv_iconst (v := iI 0) hx hb (dk_at dkX12_fitting_0 9 rfl) (by decide +kernel) ?_
        refine lv_istore (lv' := [(5, .int (iI 0)), (4, .int (iI z1)), (3, .int (iI z2)), (2, .int (iI z3)), (0, .ref (q 0)), (1, .int (iI x1))]) hx hb (dk_at dkX12_fitting_0 10 rfl) hl (by decide) rfl (fun ls hl => ?_)
        have L16_20 : ∀ (n22 : Nat) (z16 z17 : Int) (A19 : St) (H : Heap) (locs : List Loc) (ls : Array Slot), (0 ≤ z16) → (0 ≤ z16 ∧ z16 ≤ 2147483647) → (-2147483648 ≤ z17 ∧ z17 ≤ 2147483647) → (∀ (z : Int) (u : St), (∃ mm1 mm2 : Nat, (d_X12_fitting_2 (fun z1' z2' z3' A5' => d_X12_fitting_1 x1 z u mm1 z1' z2' z3' A5') x1 z1 z2 z u mm2 z16 z17 A19)) → r_X12_fitting x1 A z u) → ((z2 - z16 + 1).toNat = n22) → IM A19 → fr [54] [78, 80] A5 A19 → va_P (dC, dI) vwCl (WM cI cJ cZ q A19) H → va_S AS s.heap H locs → lv_has ls 6 [(5, .int (iI z16)), (4, .int (iI z1)), (3, .int (iI z2)), (2, .int (iI z17)), (0, .ref (q 0)), (1, .int (iI x1))] → W p l e (headSpec ws_mc_X12_fitting ({ frames := 3, cells := 0, slots := 0, locals := 68 } : Room)).room s m [.ref (q 0), .int (iI x1)].toArray below meth c H locs 0 0 Q (F0 m 16 ls []) := by
          intro n22
          induction n22 using Nat.strongRecOn with
          | ind n22 ih21 =>
            intro z16 z17 A19 H locs ls f23 f24 f25 hk2 hn22 hI hj18 hP hS hl
            have gI26 : Hd (IM A19) := Hd.mk hI
            refine lv_iload hx hb (dk_at dkX12_fitting_0 11 rfl) (lv_at hl 0 rfl) ?_
            refine lv_iload_n hx hb (dk_at dkX12_fitting_0 12 rfl) rfl (lv_at hl 2 rfl) ?_
            refine lv_icmp_ge (tgt := 81) hx hb (dk_at dkX12_fitting_0 13 rfl) (by decide) (fun c27 => ?_) (fun c27 => ?_)
            · have c27 : z2 ≤ z16 := (i_le (rb f11 (by decide) (by decide)) (rb f24 (by decide) (by decide))).mp c27
              refine lv_iload_n hx hb (dk_at dkX12_fitting_2 13 rfl) rfl (lv_at hl 2 rfl) ?_
              refine lv_bipush (v := iI 10) hx hb (dk_at dkX12_fitting_2 14 rfl) (by decide +kernel) ?_
              refine x_mulv (v := 10 * z2) hx hb (dk_at dkX12_fitting_2 15 rfl) (by omega) ?_
              refine lv_istore_n (lv' := [(3, .int (iI (10 * z2))), (5, .int (iI z16)), (4, .int (iI z1)), (2, .int (iI z17)), (0, .ref (q 0)), (1, .int (iI x1))]) hx hb (dk_at dkX12_fitting_3 0 rfl) rfl hl (by decide) rfl (fun ls hl => ?_)
              refine lv_iinc (v := iI (z1 + 1)) (lv' := [(4, .int (iI (z1 + 1))), (3, .int (iI (10 * z2))), (5, .int (iI z16)), (2, .int (iI z17)), (0, .ref (q 0)), (1, .int (iI x1))]) hx hb (dk_at dkX12_fitting_3 1 rfl) hl (k := 2) rfl (i_inc (by omega)) (by decide) rfl (fun ls hl => ?_)
              refine lv_goto (tgt := 7) hx hb (dk_at dkX12_fitting_3 2 rfl) (by decide) ?_
              exact ih7 _ (by omega) (z1 + 1) (10 * z2) z17 _ _ _ _ (by omega) (by omega) (by omega) (by omega) (by omega) (fun zq uq ⟨mm1, hq⟩ => hk2 _ _ ⟨mm1, 0 + 1, (u_d_X12_fitting_2 ⟨gI26.out, ⟨f24, ⟨f25, (Or.inl ⟨c27, hq⟩)⟩⟩⟩)⟩) rfl hI (fr.trans (fr.trans (fr.rf) hj4 rfl rfl) hj18 rfl rfl) hP hS (lv_sub hl [0, 1, 3, 4, 5] rfl)
            · have c27 : ¬ z2 ≤ z16 := mt (i_le (rb f11 (by decide) (by decide)) (rb f24 (by decide) (by decide))).mpr c27
              refine lv_iload_n hx hb (dk_at dkX12_fitting_0 14 rfl) rfl (lv_at hl 3 rfl) ?_
              refine lv_aload_n hx hb (dk_at dkX12_fitting_0 15 rfl) rfl (lv_at hl 4 rfl) ?_
              refine lv_iload hx hb (dk_at dkX12_fitting_1 0 rfl) (lv_at hl 1 rfl) ?_
              refine lv_iload hx hb (dk_at dkX12_fitting_1 1 rfl) (lv_at hl 0 rfl) ?_
              refine x_calli (As := [.int (iI z1), .int (iI z16)]) (rest := [.int (iI z17)]) ⟨hx, hb, hml, hown, hts⟩ (mc_X12_isRow l dC dI cB cI cJ cZ cQ q _ z1 z16 hI (by omega) (by omega)) (cwV 2 hts (goodV wlq_8_15 wlq_8_16 wlq_8_17 wlq_0_8 wlq_8_13) rfl rfl rfl (by decide +kernel) ⟨Nat.le_of_ble_eq_true rfl, Nat.le_of_ble_eq_true rfl⟩) hK hDD hA0 hP hS 0 12 wm0 rfl rfl hl.1 (Nat.le_of_ble_eq_true rfl) (dk_at dkX12_fitting_1 2 rfl) (fun z28 A29 H locs hw30 hP hS => ?_)
              have ghw30 : q_X12_isRow z1 z16 A19 z28 A29 := hw30
              obtain ⟨_, hI, hf31, hw30⟩ := hw30
              have J73_34 : ∀ (z49 : Int) (A51 : St) (H : Heap) (locs : List Loc) (ls : Array Slot), (0 ≤ z49 ∧ z49 ≤ 1) → ((z49 = 1 ∧ ¬ z28 = 0) ∨ (z49 = 0)) → (∀ (z : Int) (u : St), (∃ mm1 mm2 : Nat, (d_X12_fitting_5 (fun z16' z17' A19' => d_X12_fitting_2 (fun z1' z2' z3' A5' => d_X12_fitting_1 x1 z u mm1 z1' z2' z3' A5') x1 z1 z2 z u mm2 z16' z17' A19') z16 z17 z u z49 A51)) → r_X12_fitting x1 A z u) → IM A51 → fr [] [80] A29 A51 → va_P (dC, dI) vwCl (WM cI cJ cZ q A51) H → va_S AS s.heap H locs → lv_has ls 6 [(5, .int (iI z16)), (4, .int (iI z1)), (3, .int (iI z2)), (2, .int (iI z17)), (0, .ref (q 0)), (1, .int (iI x1))] → W p l e (headSpec ws_mc_X12_fitting ({ frames := 3, cells := 0, slots := 0, locals := 68 } : Room)).room s m [.ref (q 0), .int (iI x1)].toArray below meth c H locs 0 0 Q (F0 m 73 ls [.int (iI z49), .int (iI z17)]) := by
                intro z49 A51 H locs ls f52 f53 hk5 hI hj50 hP hS hl
                have gI54 : Hd (IM A51) := Hd.mk hI
                refine x_addv (v := z17 + z49) hx hb (dk_at dkX12_fitting_2 9 rfl) (by omega) ?_
                refine x_absE (fun z55 gz55 hz55 => ?_)
                refine lv_istore_n (lv' := [(2, .int (iI z55)), (5, .int (iI z16)), (4, .int (iI z1)), (3, .int (iI z2)), (0, .ref (q 0)), (1, .int (iI x1))]) hx hb (dk_at dkX12_fitting_2 10 rfl) rfl hl (by decide) rfl (fun ls hl => ?_)
                refine lv_iinc (v := iI (z16 + 1)) (lv' := [(5, .int (iI (z16 + 1))), (2, .int (iI z55)), (4, .int (iI z1)), (3, .int (iI z2)), (0, .ref (q 0)), (1, .int (iI x1))]) hx hb (dk_at dkX12_fitting_2 11 rfl) hl (k := 1) rfl (i_inc (by omega)) (by decide) rfl (fun ls hl => ?_)
                refine lv_goto (tgt := 16) hx hb (dk_at dkX12_fitting_2 12 rfl) (by decide) ?_
                exact ih21 _ (by omega) (z16 + 1) z55 _ _ _ _ (by omega) (by omega) (by omega) (fun zq uq ⟨mm1, mm2, hq⟩ => hk5 _ _ ⟨mm1, mm2, (u_d_X12_fitting_5 ⟨gI54.out, ⟨f52, ⟨z55, gz55.out, hq⟩⟩⟩)⟩) rfl hI (fr.trans (fr.trans (fr.trans (fr.rf) hj18 rfl rfl) hf31 rfl rfl) hj50 rfl rfl) hP hS (lv_sub hl [0, 2, 3, 1, 4, 5] rfl)
              have J72_33 : ∀ (A47 : St) (H : Heap) (locs : List Loc) (ls : Array Slot), (∀ (z : Int) (u : St), (∃ mm1 mm2 : Nat, (d_X12_fitting_4 (fun z16' z17' A19' => d_X12_fitting_2 (fun z1' z2' z3' A5' => d_X12_fitting_1 x1 z u mm1 z1' z2' z3' A5') x1 z1 z2 z u mm2 z16' z17' A19') z16 z17 z u A47)) → r_X12_fitting x1 A z u) → IM A47 → fr [] [80] A29 A47 → va_P (dC, dI) vwCl (WM cI cJ cZ q A47) H → va_S AS s.heap H locs → lv_has ls 6 [(5, .int (iI z16)), (4, .int (iI z1)), (3, .int (iI z2)), (2, .int (iI z17)), (0, .ref (q 0)), (1, .int (iI x1))] → W p l e (headSpec ws_mc_X12_fitting ({ frames := 3, cells := 0, slots := 0, locals := 68 } : Room)).room s m [.ref (q 0), .int (iI x1)].toArray below meth c H locs 0 0 Q (F0 m 72 ls [.int (iI z17)]) := by
                intro A47 H locs ls hk4 hI hj46 hP hS hl
                have gI48 : Hd (IM A47) := Hd.mk hI
                refine lv_iconst (v := iI 0) hx hb (dk_at dkX12_fitting_2 8 rfl) (by decide +kernel) ?_
                exact J73_34 0 _ _ _ _ (by omega) (by omega) (fun zq uq ⟨mm1, mm2, hq⟩ => hk4 _ _ ⟨mm1, mm2, (u_d_X12_fitting_4 ⟨gI48.out, hq⟩)⟩) hI (fr.trans (fr.rf) hj46 rfl rfl) hP hS (lv_sub hl [0, 1, 2, 3, 4, 5] rfl)
              refine lv_if_eq (tgt := 72) hx hb (dk_at dkX12_fitting_1 3 rfl) (by decide) (fun c32 => ?_) (fun c32 => ?_)
              · have c32 : z28 = 0 := (i_eq0 (rb hw30 (by decide) (by decide))).mp c32
                exact J72_33 _ _ _ _ (fun zq uq ⟨mm1, mm2, hq⟩ => hk2 _ _ ⟨mm1, mm2 + 1, (u_d_X12_fitting_2 ⟨gI26.out, ⟨f24, ⟨f25, (Or.inr ⟨c27, ⟨z28, A29, ghw30, (Or.inl ⟨c32, hq⟩)⟩⟩)⟩⟩⟩)⟩) hI (fr.rf) hP hS (lv_sub hl [0, 1, 2, 3, 4, 5] rfl)
              · have c32 : ¬ z28 = 0 := mt (i_eq0 (rb hw30 (by decide) (by decide))).mpr c32
                refine lv_aload_n hx hb (dk_at dkX12_fitting_1 4 rfl) rfl (lv_at hl 4 rfl) ?_
                refine x_calli (As := []) (rest := [.int (iI z17)]) ⟨hx, hb, hml, hown, hts⟩ (mc_X12_agrees l dC dI cB cI cJ cZ cQ q _ hI) (cwV 0 hts (goodV wlq_8_18 wlq_8_19 wlq_8_20 wlq_0_8 wlq_8_7) rfl rfl rfl (by decide +kernel) ⟨Nat.le_of_ble_eq_true rfl, Nat.le_of_ble_eq_true rfl⟩) hK hDD hA0 hP hS 0 12 wm0 rfl rfl hl.1 (Nat.le_of_ble_eq_true rfl) (dk_at dkX12_fitting_1 5 rfl) (fun z35 A36 H locs hw37 hP hS => ?_)
                have ghw37 : q_X12_agrees A29 z35 A36 := hw37
                obtain ⟨_, hI, hf38, hw37⟩ := hw37
                refine lv_if_eq (tgt := 72) hx hb (dk_at dkX12_fitting_1 6 rfl) (by decide) (fun c39 => ?_) (fun c39 => ?_)
                · have c39 : z35 = 0 := (i_eq0 (rb hw37 (by decide) (by decide))).mp c39
                  exact J72_33 _ _ _ _ (fun zq uq ⟨mm1, mm2, hq⟩ => hk2 _ _ ⟨mm1, mm2 + 1, (u_d_X12_fitting_2 ⟨gI26.out, ⟨f24, ⟨f25, (Or.inr ⟨c27, ⟨z28, A29, ghw30, (Or.inr ⟨c32, ⟨z35, A36, ghw37, (Or.inl ⟨c39, hq⟩)⟩⟩)⟩⟩)⟩⟩⟩)⟩) hI (fr.trans (fr.rf) hf38 rfl rfl) hP hS (lv_sub hl [0, 1, 2, 3, 4, 5] rfl)
                · have c39 : ¬ z35 = 0 := mt (i_eq0 (rb hw37 (by decide) (by decide))).mpr c39
                  refine lv_iload_n hx hb (dk_at dkX12_fitting_1 7 rfl) rfl (lv_at hl 5 rfl) ?_
                  refine lv_iconst (v := iI (-1)) hx hb (dk_at dkX12_fitting_1 8 rfl) (by decide +kernel) ?_
                  have J68_41 : ∀ (H : Heap) (locs : List Loc) (ls : Array Slot), (∀ (z : Int) (u : St), (∃ mm1 mm2 : Nat, (d_X12_fitting_3 (fun z16' z17' A19' => d_X12_fitting_2 (fun z1' z2' z3' A5' => d_X12_fitting_1 x1 z u mm1 z1' z2' z3' A5') x1 z1 z2 z u mm2 z16' z17' A19') z16 z17 A36 z u)) → r_X12_fitting x1 A z u) → va_P (dC, dI) vwCl (WM cI cJ cZ q A36) H → va_S AS s.heap H locs → lv_has ls 6 [(5, .int (iI z16)), (4, .int (iI z1)), (3, .int (iI z2)), (2, .int (iI z17)), (0, .ref (q 0)), (1, .int (iI x1))] → W p l e (headSpec ws_mc_X12_fitting ({ frames := 3, cells := 0, slots := 0, locals := 68 } : Room)).room s m [.ref (q 0), .int (iI x1)].toArray below meth c H locs 0 0 Q (F0 m 68 ls [.int (iI z17)]) := by
                    intro H locs ls hk3 hP hS hl
                    refine lv_iconst (v := iI 1) hx hb (dk_at dkX12_fitting_2 6 rfl) (by decide +kernel) ?_
                    refine lv_goto (tgt := 73) hx hb (dk_at dkX12_fitting_2 7 rfl) (by decide) ?_
                    exact J73_34 1 _ _ _ _ (by omega) (by omega) (fun zq uq ⟨mm1, mm2, hq⟩ => hk3 _ _ ⟨mm1, mm2, (u_d_X12_fitting_3 hq)⟩) hI (fr.trans (fr.rf) hf38 rfl rfl) hP hS (lv_sub hl [0, 1, 2, 3, 4, 5] rfl)
                  refine lv_icmp_eq (tgt := 68) hx hb (dk_at dkX12_fitting_1 9 rfl) (by decide) (fun c40 => ?_) (fun c40 => ?_)
                  · have c40 : x1 = (-1) := (i_eq hx1 ⟨by decide, by decide⟩).mp c40
                    exact J68_41 _ _ _ (fun zq uq ⟨mm1, mm2, hq⟩ => hk2 _ _ ⟨mm1, mm2 + 1, (u_d_X12_fitting_2 ⟨gI26.out, ⟨f24, ⟨f25, (Or.inr ⟨c27, ⟨z28, A29, ghw30, (Or.inr ⟨c32, ⟨z35, A36, ghw37, (Or.inr ⟨c39, (Or.inl ⟨c40, hq⟩)⟩)⟩⟩)⟩⟩)⟩⟩⟩)⟩) hP hS (lv_sub hl [0, 1, 2, 3, 4, 5] rfl)
                  · have c40 : ¬ x1 = (-1) := mt (i_eq hx1 ⟨by decide, by decide⟩).mpr c40
                    refine lv_aload_n hx hb (dk_at dkX12_fitting_1 10 rfl) rfl (lv_at hl 4 rfl) ?_
                    refine va_get (D := (dC, dI)) (ci := 12) (v := .int (iI (A36 0 80))) (C := RX12) (T := TX12) (N := 85) hx hb hts hiX12 hown hK hP 0 wm0 rfl 80 (by decide) (hts _ (List.mem_cons_of_mem _ wlq_8_9)) (fun _ h9 => h9) rfl (dk_at dkX12_fitting_1 11 rfl) ?_
                    have r_A36_0_80 : (0 : Int) ≤ (A36 0 80) ∧ (A36 0 80) ≤ 3 := hI 0 80
                    refine lv_if_le (tgt := 72) hx hb (dk_at dkX12_fitting_1 12 rfl) (by decide) (fun c42 => ?_) (fun c42 => ?_)
                    · have c42 : (A36 0 80) ≤ 0 := (i_le0 (rb r_A36_0_80 (by decide) (by decide))).mp c42
                      exact J72_33 _ _ _ _ (fun zq uq ⟨mm1, mm2, hq⟩ => hk2 _ _ ⟨mm1, mm2 + 1, (u_d_X12_fitting_2 ⟨gI26.out, ⟨f24, ⟨f25, (Or.inr ⟨c27, ⟨z28, A29, ghw30, (Or.inr ⟨c32, ⟨z35, A36, ghw37, (Or.inr ⟨c39, (Or.inr ⟨c40, (Or.inl ⟨c42, hq⟩)⟩)⟩)⟩⟩)⟩⟩)⟩⟩⟩)⟩) hI (fr.trans (fr.rf) hf38 rfl rfl) hP hS (lv_sub hl [0, 1, 2, 3, 4, 5] rfl)
                    · have c42 : ¬ (A36 0 80) ≤ 0 := mt (i_le0 (rb r_A36_0_80 (by decide) (by decide))).mpr c42
                      refine lv_aload_n hx hb (dk_at dkX12_fitting_1 13 rfl) rfl (lv_at hl 4 rfl) ?_
                      refine va_get (D := (dC, dI)) (ci := 12) (v := .ref (q 54)) (C := RX12) (T := TX12) (N := 85) hx hb hts hiX12 hown hK hP 0 wm0 rfl 79 (by decide) (hts _ (List.mem_cons_of_mem _ wlq_8_10)) (fun _ h9 => h9) rfl (dk_at dkX12_fitting_1 14 rfl) ?_
                      refine lv_aload_n hx hb (dk_at dkX12_fitting_1 15 rfl) rfl (lv_at hl 4 rfl) ?_
                      refine va_get (D := (dC, dI)) (ci := 12) (v := .int (iI (A36 0 80))) (C := RX12) (T := TX12) (N := 85) hx hb hts hiX12 hown hK hP 0 wm0 rfl 80 (by decide) (hts _ (List.mem_cons_of_mem _ wlq_8_9)) (fun _ h9 => h9) rfl (dk_at dkX12_fitting_2 0 rfl) ?_
                      refine lv_iconst (v := iI 1) hx hb (dk_at dkX12_fitting_2 1 rfl) (by decide +kernel) ?_
                      refine x_subv (v := (A36 0 80) - 1) hx hb (dk_at dkX12_fitting_2 2 rfl) (by omega) ?_
                      have a_A36_54 : A36 54 = A29 54 := (hf38.1 54 (by decide) rfl)
                      refine x_iald hx hb hK hP 54 1 wm54 rfl (by omega) (by decide) (dk_at dkX12_fitting_2 3 rfl) (fun z43 hz43 => ?_)
                      have rz43 : (0 : Int) ≤ z43 ∧ z43 ≤ 9 := by rw [hz43]; exact hI 54 _
                      have gz43 := Hd.mk hz43
                      have hz43 : z43 = A29 54 ((A36 0 80) - 1).toNat := hz43.trans (congrFun a_A36_54 _)
                      refine lv_iload_n hx hb (dk_at dkX12_fitting_2 4 rfl) rfl (lv_at hl 5 rfl) ?_
                      refine lv_icmp_ne (tgt := 72) hx hb (dk_at dkX12_fitting_2 5 rfl) (by decide) (fun c44 => ?_) (fun c44 => ?_)
                      · have c44 : ¬ z43 = x1 := mt (i_eq (rb rz43 (by decide) (by decide)) hx1).mpr c44
                        exact J72_33 _ _ _ _ (fun zq uq ⟨mm1, mm2, hq⟩ => hk2 _ _ ⟨mm1, mm2 + 1, (u_d_X12_fitting_2 ⟨gI26.out, ⟨f24, ⟨f25, (Or.inr ⟨c27, ⟨z28, A29, ghw30, (Or.inr ⟨c32, ⟨z35, A36, ghw37, (Or.inr ⟨c39, (Or.inr ⟨c40, (Or.inr ⟨c42, ⟨z43, gz43.out, (Or.inl ⟨c44, hq⟩)⟩⟩)⟩)⟩)⟩⟩)⟩⟩)⟩⟩⟩)⟩) hI (fr.trans (fr.rf) hf38 rfl rfl) hP hS (lv_sub hl [0, 1, 2, 3, 4, 5] rfl)
                      · have c44 : z43 = x1 := (i_eq (rb rz43 (by decide) (by decide)) hx1).mp c44
                        exact J68_41 _ _ _ (fun zq uq ⟨mm1, mm2, hq⟩ => hk2 _ _ ⟨mm1, mm2 + 1, (u_d_X12_fitting_2 ⟨gI26.out, ⟨f24, ⟨f25, (Or.inr ⟨c27, ⟨z28, A29, ghw30, (Or.inr ⟨c32, ⟨z35, A36, ghw37, (Or.inr ⟨c39, (Or.inr ⟨c40, (Or.inr ⟨c42, ⟨z43, gz43.out, (Or.inr ⟨c44, hq⟩)⟩⟩)⟩)⟩)⟩⟩)⟩⟩)⟩⟩⟩)⟩) hP hS (lv_sub hl [0, 1, 2, 3, 4, 5] rfl)
        exact L16_20 _ 0 z3 _ _ _ _ (by omega) (by omega) (by omega) (fun zq uq ⟨mm1, mm2, hq⟩ => hk1 _ _ ⟨mm1 + 1, (u_d_X12_fitting_1 ⟨gI14.out, ⟨f10, ⟨f11, ⟨f12, (Or.inr ⟨c15, ⟨mm2, hq⟩⟩)⟩⟩⟩⟩)⟩) rfl hI (fr.rf) hP hS (lv_sub hl [0, 1, 2, 3, 4, 5] rfl)
  exact L7_6 _ 0 1 0 _ _ _ _ (by omega) (by omega) (by omega) (by omega) (by omega) (fun zq uq ⟨mm1, hq⟩ => (u_r_X12_fitting ⟨mm1, hq⟩)) rfl hI (fr.rf) hP hS (lv_sub hl [0, 1, 2, 3, 4] rfl)

abbrev tr_r_X12_trial (x1 : Int) (x2 : Int) (A : St) (z : Int) (u : St) : Prop := (∃ z1 : Int, q_X12_isDoor x1 A z1 ∧ (((z1 = 0) ∧ (∃ z5 : Int, ∃ A6 : St, q_X12_refuses 4 A z5 A6 ∧ (z = z5 ∧ u = A6))) ∨ ((¬ z1 = 0) ∧ (((¬ (A 0 75) = 20) ∧ (∃ A10 : St, A10 = (stA (stA (stA A 52 ((A 0 75)).toNat x1) 53 ((A 0 75)).toNat x2) 0 75 ((A 0 75) + 1)) ∧ (∃ z11 : Int, ∃ A12 : St, q_X12_fitting (-1) A10 z11 A12 ∧ (z = z11 ∧ u = A12)))) ∨ (((A 0 75) = 20) ∧ (∃ z15 : Int, ∃ A16 : St, q_X12_refuses 4 A z15 A16 ∧ (z = z15 ∧ u = A16)))))))
def r_X12_trial (x1 : Int) (x2 : Int) (A : St) (z : Int) (u : St) : Prop := tr_r_X12_trial x1 x2 A z u
theorem u_r_X12_trial {x1 : Int} {x2 : Int} {A : St} {z : Int} {u : St} (h : tr_r_X12_trial x1 x2 A z u) : r_X12_trial x1 x2 A z u := h
def ws_mc_X12_trial : List Cond := .code yX12_trial cX12_trial 3 (some .int) :: WX
set_option maxHeartbeats 4000000 in
set_option maxRecDepth 100000 in
theorem mc_X12_trial (l : Launch) (dC : Nat → ClassId) (dI : Nat → Nat → Nat) (cB cI cJ cZ cQ : ClassId) (q : Nat → Nat) (A : St) (x1 x2 : Int) (hI : IM A) (hx1 : (-2147483648 : Int) ≤ x1 ∧ x1 ≤ 2147483647) (hx2 : (0 : Int) ≤ x2 ∧ x2 ≤ 1) : XMi l yX12_trial ws_mc_X12_trial ({ frames := 4, cells := 0, slots := 0, locals := 93 } : Room) (dC, dI) (tyA cB cI cJ cZ cQ) (WM cI cJ cZ q) A [.ref (q 0), .int (iI x1), .int (iI x2)] (fun z u => r_X12_trial x1 x2 A z u ∧ IM u ∧ fr [41, 52, 53, 54] [75, 78, 80] A u ∧ (-2147483648 ≤ z ∧ z ≤ 2147483647)) := by
  refine x_meti (cc := cX12_trial) (maxL := 3) WM_adr (by decide +kernel) rfl (Nat.le_of_ble_eq_true rfl) (fun p e s m below meth c Q AS ls hx hb hml hown hts hK hDD hA0 hP hS hl RET => ?_)
  have hown : s.vm.findClass RX12 = some m.cls := hown
  have hl : lv_has ls 3 [(0, .ref (q 0)), (1, .int (iI x1)), (2, .int (iI x2))] := hl
  have hiX12 : ∀ w ∈ u_ws RX12 TX12 85, w ∈ ws_mc_X12_trial := fun w h => List.mem_cons_of_mem _ (wx_lay w h)
  obtain ⟨H, hHe⟩ : ∃ H : Heap, H = s.heap := ⟨_, rfl⟩
  rw [← hHe] at hP
  have hS : va_S AS s.heap H [] := by rw [hHe]; exact hS
  suffices hgo : ∀ locs : List Loc, va_S AS s.heap H locs → W p l e (headSpec ws_mc_X12_trial ({ frames := 4, cells := 0, slots := 0, locals := 93 } : Room)).room s m [.ref (q 0), .int (iI x1), .int (iI x2)].toArray below meth c H locs 0 0 Q (F0 m 0 ls []) by
    have := hgo [] hS
    rw [hHe] at this
    exact this
  clear hS hHe
  intro locs hS
  refine lv_aload_n hx hb (dk_at dkX12_trial_0 0 rfl) rfl (lv_at hl 0 rfl) ?_
  refine lv_iload_n hx hb (dk_at dkX12_trial_0 1 rfl) rfl (lv_at hl 1 rfl) ?_
  have r_A_0_12 : (0 : Int) ≤ (A 0 12) ∧ (A 0 12) ≤ 1 := hI 0 12
  refine x_calli (As := [.int (iI x1)]) (rest := []) ⟨hx, hb, hml, hown, hts⟩ (mc_X12_isDoorB l dC dI cB cI cJ cZ cQ q _ x1 hI hx1) (cwV 1 hts (goodV wlq_5_14 wlq_5_15 wlq_5_16 wlq_0_8 wlq_4_38) rfl rfl rfl (by decide +kernel) ⟨Nat.le_of_ble_eq_true rfl, Nat.le_of_ble_eq_true rfl⟩) hK hDD hA0 hP hS 0 12 wm0 rfl rfl hl.1 (Nat.le_of_ble_eq_true rfl) (dk_at dkX12_trial_0 2 rfl) (fun z1 A2 H locs hw3 hP hS => ?_)
  obtain ⟨rfl, hw3⟩ := hw3
  have ghw3 : q_X12_isDoor x1 A z1 := hw3
  have hw3 := hw3.2
  have rz1 : 0 ≤ z1 ∧ z1 ≤ 1 := hw3.1
  refine lv_if_eq (tgt := 17) hx hb (dk_at dkX12_trial_0 3 rfl) (by decide) (fun c4 => ?_) (fun c4 => ?_)
  · have c4 : z1 = 0 := (i_eq0 (rb rz1 (by decide) (by decide))).mp c4
    clear hw3
    refine lv_aload_n hx hb (dk_at dkX12_trial_0 8 rfl) rfl (lv_at hl 0 rfl) ?_
    refine lv_iconst (v := iI 4) hx hb (dk_at dkX12_trial_0 9 rfl) (by decide +kernel) ?_
    refine x_calli (As := [.int (iI 4)]) (rest := []) ⟨hx, hb, hml, hown, hts⟩ (mc_X12_refuses l dC dI cB cI cJ cZ cQ q _ 4 hI ⟨by decide, by decide⟩) (cwV 1 hts (goodV wlq_0_5 wlq_0_6 wlq_0_7 wlq_0_8 wlq_0_9) rfl rfl rfl (by decide +kernel) ⟨Nat.le_of_ble_eq_true rfl, Nat.le_of_ble_eq_true rfl⟩) hK hDD hA0 hP hS 0 12 wm0 rfl rfl hl.1 (Nat.le_of_ble_eq_true rfl) (dk_at dkX12_trial_0 10 rfl) (fun z5 A6 H locs hw7 hP hS => ?_)
    have ghw7 : q_X12_refuses 4 A z5 A6 := hw7
    obtain ⟨_, hI, hf8, hw7⟩ := hw7
    exact RET z5 _ _ _ _ _ ⟨(u_r_X12_trial ⟨z1, ghw3, (Or.inl ⟨c4, ⟨z5, A6, ghw7, ⟨rfl, rfl⟩⟩⟩)⟩), hI, fr.trans (fr.rf) hf8 rfl rfl, by omega⟩ hP hS (dk_at dkX12_trial_0 11 rfl)
  · have c4 : ¬ z1 = 0 := mt (i_eq0 (rb rz1 (by decide) (by decide))).mpr c4
    have hw3b := hw3.2.mp (by omega)
    clear hw3
    refine lv_aload_n hx hb (dk_at dkX12_trial_0 4 rfl) rfl (lv_at hl 0 rfl) ?_
    refine va_get (D := (dC, dI)) (ci := 12) (v := .int (iI (A 0 75))) (C := RX12) (T := TX12) (N := 85) hx hb hts hiX12 hown hK hP 0 wm0 rfl 75 (by decide) (hts _ (List.mem_cons_of_mem _ wlq_4_17)) (fun _ h9 => h9) rfl (dk_at dkX12_trial_0 5 rfl) ?_
    have r_A_0_75 : (0 : Int) ≤ (A 0 75) ∧ (A 0 75) ≤ 20 := hI 0 75
    refine lv_bipush (v := iI 20) hx hb (dk_at dkX12_trial_0 6 rfl) (by decide +kernel) ?_
    refine lv_icmp_ne (tgt := 23) hx hb (dk_at dkX12_trial_0 7 rfl) (by decide) (fun c9 => ?_) (fun c9 => ?_)
    · have c9 : ¬ (A 0 75) = 20 := mt (i_eq (rb r_A_0_75 (by decide) (by decide)) ⟨by decide, by decide⟩).mpr c9
      refine lv_aload_n hx hb (dk_at dkX12_trial_0 12 rfl) rfl (lv_at hl 0 rfl) ?_
      refine va_get (D := (dC, dI)) (ci := 12) (v := .ref (q 52)) (C := RX12) (T := TX12) (N := 85) hx hb hts hiX12 hown hK hP 0 wm0 rfl 76 (by decide) (hts _ (List.mem_cons_of_mem _ wlq_8_11)) (fun _ h9 => h9) rfl (dk_at dkX12_trial_0 13 rfl) ?_
      refine lv_aload_n hx hb (dk_at dkX12_trial_0 14 rfl) rfl (lv_at hl 0 rfl) ?_
      refine va_get (D := (dC, dI)) (ci := 12) (v := .int (iI (A 0 75))) (C := RX12) (T := TX12) (N := 85) hx hb hts hiX12 hown hK hP 0 wm0 rfl 75 (by decide) (hts _ (List.mem_cons_of_mem _ wlq_4_17)) (fun _ h9 => h9) rfl (dk_at dkX12_trial_0 15 rfl) ?_
      refine lv_iload_n hx hb (dk_at dkX12_trial_1 0 rfl) rfl (lv_at hl 1 rfl) ?_
      refine x_iast hx hb hK hP hDD hS 52 1 wm52 rfl (by omega) (by decide) (dk_at dkX12_trial_1 1 rfl) ws52 (fun H locs hP hS => ?_)
      have hI := hI.st (j := 52) (i := ((A 0 75)).toNat) (v := x1) (show (0 : Int) ≤ x1 ∧ x1 ≤ 9 from (by omega))
      refine lv_aload_n hx hb (dk_at dkX12_trial_1 2 rfl) rfl (lv_at hl 0 rfl) ?_
      refine va_get (D := (dC, dI)) (ci := 12) (v := .ref (q 53)) (C := RX12) (T := TX12) (N := 85) hx hb hts hiX12 hown hK hP 0 wm0 rfl 77 (by decide) (hts _ (List.mem_cons_of_mem _ wlq_8_12)) (fun _ h9 => h9) rfl (dk_at dkX12_trial_1 3 rfl) ?_
      refine lv_aload_n hx hb (dk_at dkX12_trial_1 4 rfl) rfl (lv_at hl 0 rfl) ?_
      refine va_get (D := (dC, dI)) (ci := 12) (v := .int (iI (A 0 75))) (C := RX12) (T := TX12) (N := 85) hx hb hts hiX12 hown hK hP 0 wm0 rfl 75 (by decide) (hts _ (List.mem_cons_of_mem _ wlq_4_17)) (fun _ h9 => h9) rfl (dk_at dkX12_trial_1 5 rfl) ?_
      refine lv_iload_n hx hb (dk_at dkX12_trial_1 6 rfl) rfl (lv_at hl 2 rfl) ?_
      refine x_zast hx hb hK hP hDD hS 53 3 wm53 rfl (by omega) (by decide) (dk_at dkX12_trial_1 7 rfl) (by omega) ws53 (fun H locs hP hS => ?_)
      have hI := hI.st (j := 53) (i := ((A 0 75)).toNat) (v := x2) (show (0 : Int) ≤ x2 ∧ x2 ≤ 1 from (by omega))
      refine lv_aload_n hx hb (dk_at dkX12_trial_1 8 rfl) rfl (lv_at hl 0 rfl) ?_
      refine lv_dup hx hb (dk_at dkX12_trial_1 9 rfl) rfl ?_
      refine va_get (D := (dC, dI)) (ci := 12) (v := .int (iI (A 0 75))) (C := RX12) (T := TX12) (N := 85) hx hb hts hiX12 hown hK hP 0 wm0 rfl 75 (by decide) (hts _ (List.mem_cons_of_mem _ wlq_4_17)) (fun _ h9 => h9) rfl (dk_at dkX12_trial_1 10 rfl) ?_
      refine lv_iconst (v := iI 1) hx hb (dk_at dkX12_trial_1 11 rfl) (by decide +kernel) ?_
      refine x_addv (v := (A 0 75) + 1) hx hb (dk_at dkX12_trial_1 12 rfl) (by omega) ?_
      refine x_put (D := (dC, dI)) (ci := 12) (v := .int (iI ((A 0 75) + 1))) (ty := .int) (C := RX12) (T := TX12) (N := 85) hx hb hts hiX12 tyX12 tyX12_ok nmX12 hown hK hP hDD hS 0 wm0 rfl 75 (by decide) (hts _ (List.mem_cons_of_mem _ wlq_4_17)) (fun _ h9 => h9) rfl (by decide +kernel) rfl rfl (Nat.le_of_ble_eq_true rfl) (dk_at dkX12_trial_1 13 rfl) (wf75 (v := (A 0 75) + 1)) (fun H locs hP hS => ?_)
      have hI := hI.st (j := 0) (i := 75) (v := (A 0 75) + 1) (show (0 : Int) ≤ (A 0 75) + 1 ∧ (A 0 75) + 1 ≤ 20 from (by omega))
      refine lv_aload_n hx hb (dk_at dkX12_trial_1 14 rfl) rfl (lv_at hl 0 rfl) ?_
      refine lv_iconst (v := iI (-1)) hx hb (dk_at dkX12_trial_1 15 rfl) (by decide +kernel) ?_
      obtain ⟨A10, hA10⟩ : ∃ A10 : St, A10 = (stA (stA (stA A 52 ((A 0 75)).toNat x1) 53 ((A 0 75)).toNat x2) 0 75 ((A 0 75) + 1)) := ⟨_, rfl⟩
      rw [← hA10] at hP hI
      refine x_calli (As := [.int (iI (-1))]) (rest := []) ⟨hx, hb, hml, hown, hts⟩ (mc_X12_fitting l dC dI cB cI cJ cZ cQ q _ (-1) hI ⟨by decide, by decide⟩) (cwV 1 hts (goodV wlq_8_22 wlq_8_23 wlq_8_24 wlq_0_8 wlq_8_14) rfl rfl rfl (by decide +kernel) ⟨Nat.le_of_ble_eq_true rfl, Nat.le_of_ble_eq_true rfl⟩) hK hDD hA0 hP hS 0 12 wm0 rfl rfl hl.1 (Nat.le_of_ble_eq_true rfl) (dk_at dkX12_trial_2 0 rfl) (fun z11 A12 H locs hw13 hP hS => ?_)
      have ghw13 : q_X12_fitting (-1) A10 z11 A12 := hw13
      obtain ⟨_, hI, hf14, hw13⟩ := hw13
      exact RET z11 _ _ _ _ _ ⟨(u_r_X12_trial ⟨z1, ghw3, (Or.inr ⟨c4, (Or.inl ⟨c9, ⟨A10, hA10, ⟨z11, A12, ghw13, ⟨rfl, rfl⟩⟩⟩⟩)⟩)⟩), hI, fr.trans (fr_def hA10 (fr.sf (fr.st (fr.st (fr.rf) (by decide) rfl) (by decide) rfl) rfl)) hf14 rfl rfl, by omega⟩ hP hS (dk_at dkX12_trial_2 1 rfl)
    · have c9 : (A 0 75) = 20 := (i_eq (rb r_A_0_75 (by decide) (by decide)) ⟨by decide, by decide⟩).mp c9
      refine lv_aload_n hx hb (dk_at dkX12_trial_0 8 rfl) rfl (lv_at hl 0 rfl) ?_
      refine lv_iconst (v := iI 4) hx hb (dk_at dkX12_trial_0 9 rfl) (by decide +kernel) ?_
      refine x_calli (As := [.int (iI 4)]) (rest := []) ⟨hx, hb, hml, hown, hts⟩ (mc_X12_refuses l dC dI cB cI cJ cZ cQ q _ 4 hI ⟨by decide, by decide⟩) (cwV 1 hts (goodV wlq_0_5 wlq_0_6 wlq_0_7 wlq_0_8 wlq_0_9) rfl rfl rfl (by decide +kernel) ⟨Nat.le_of_ble_eq_true rfl, Nat.le_of_ble_eq_true rfl⟩) hK hDD hA0 hP hS 0 12 wm0 rfl rfl hl.1 (Nat.le_of_ble_eq_true rfl) (dk_at dkX12_trial_0 10 rfl) (fun z15 A16 H locs hw17 hP hS => ?_)
      have ghw17 : q_X12_refuses 4 A z15 A16 := hw17
      obtain ⟨_, hI, hf18, hw17⟩ := hw17
      exact RET z15 _ _ _ _ _ ⟨(u_r_X12_trial ⟨z1, ghw3, (Or.inr ⟨c4, (Or.inr ⟨c9, ⟨z15, A16, ghw17, ⟨rfl, rfl⟩⟩⟩)⟩)⟩), hI, fr.trans (fr.rf) hf18 rfl rfl, by omega⟩ hP hS (dk_at dkX12_trial_0 11 rfl)

abbrev tr_d_X12_fits_3 (K2 : Int → St → Prop) (z15 : Int) (z : Int) (u : St) (A42 : St) : Prop := ((IM A42) ∧ (K2 (z15 + 1) A42))
def d_X12_fits_3 (K2 : Int → St → Prop) (z15 : Int) (z : Int) (u : St) (A42 : St) : Prop := tr_d_X12_fits_3 K2 z15 z u A42
theorem u_d_X12_fits_3 {K2 : Int → St → Prop} {z15 : Int} {z : Int} {u : St} {A42 : St} (h : tr_d_X12_fits_3 K2 z15 z u A42) : d_X12_fits_3 K2 z15 z u A42 := h
abbrev tr_d_X12_fits_2 (K1 : Int → Int → St → Prop) (x1 : Int) (z2 : Int) (z3 : Int) (z : Int) (u : St) (K2 : Int → St → Prop) (z15 : Int) (A17 : St) : Prop := ((IM A17) ∧ ((0 ≤ z15 ∧ z15 ≤ 2147483647) ∧ (((z3 ≤ z15) ∧ (K1 (z2 + 1) (10 * z3) A17)) ∨ ((¬ z3 ≤ z15) ∧ (∃ z25 : Int, ∃ A26 : St, q_X12_isRow z2 z15 A17 z25 A26 ∧ (((z25 = 0) ∧ (d_X12_fits_3 K2 z15 z u A26)) ∨ ((¬ z25 = 0) ∧ (∃ z31 : Int, ∃ A32 : St, q_X12_agrees A26 z31 A32 ∧ (((z31 = 0) ∧ (d_X12_fits_3 K2 z15 z u A32)) ∨ ((¬ z31 = 0) ∧ (∃ z36 : Int, q_X12_is x1 0 (z2 - 1) A32 z36 ∧ (((z36 = 0) ∧ (z = (-1) ∧ u = A32)) ∨ ((¬ z36 = 0) ∧ (∃ z40 : Int, z40 = A32 54 (x1).toNat ∧ (z = z40 ∧ u = A32)))))))))))))))
def d_X12_fits_2 (K1 : Int → Int → St → Prop) (x1 : Int) (z2 : Int) (z3 : Int) (z : Int) (u : St) : Nat → Int → St → Prop
  | 0, _, _ => False
  | nn9 + 1, z15, A17 => tr_d_X12_fits_2 K1 x1 z2 z3 z u (fun z15 A17 => d_X12_fits_2 K1 x1 z2 z3 z u nn9 z15 A17) z15 A17
theorem u_d_X12_fits_2 {K1 : Int → Int → St → Prop} {x1 : Int} {z2 : Int} {z3 : Int} {z : Int} {u : St} {nn9 : Nat} {z15 : Int} {A17 : St} (h : tr_d_X12_fits_2 K1 x1 z2 z3 z u (fun z15 A17 => d_X12_fits_2 K1 x1 z2 z3 z u nn9 z15 A17) z15 A17) : d_X12_fits_2 K1 x1 z2 z3 z u (nn9 + 1) z15 A17 := h
abbrev tr_d_X12_fits_1 (x1 : Int) (z : Int) (u : St) (K1 : Int → Int → St → Prop) (z2 : Int) (z3 : Int) (A5 : St) : Prop := ((IM A5) ∧ ((0 ≤ z2 ∧ z2 ≤ 4) ∧ ((1 ≤ z3 ∧ z3 ≤ 10000) ∧ (((3 < z2) ∧ (z = (-1) ∧ u = A5)) ∨ ((¬ 3 < z2) ∧ (∃ nn9 : Nat, d_X12_fits_2 K1 x1 z2 z3 z u nn9 0 A5))))))
def d_X12_fits_1 (x1 : Int) (z : Int) (u : St) : Nat → Int → Int → St → Prop
  | 0, _, _, _ => False
  | nn9 + 1, z2, z3, A5 => tr_d_X12_fits_1 x1 z u (fun z2 z3 A5 => d_X12_fits_1 x1 z u nn9 z2 z3 A5) z2 z3 A5
theorem u_d_X12_fits_1 {x1 : Int} {z : Int} {u : St} {nn9 : Nat} {z2 : Int} {z3 : Int} {A5 : St} (h : tr_d_X12_fits_1 x1 z u (fun z2 z3 A5 => d_X12_fits_1 x1 z u nn9 z2 z3 A5) z2 z3 A5) : d_X12_fits_1 x1 z u (nn9 + 1) z2 z3 A5 := h
abbrev tr_r_X12_fits (x1 : Int) (A : St) (z : Int) (u : St) : Prop := (((¬ x1 = (-1)) ∧ (∃ nn9 : Nat, d_X12_fits_1 x1 z u nn9 0 1 A)) ∨ ((x1 = (-1)) ∧ (∃ z44 : Int, ∃ A45 : St, q_X12_fitting (-1) A z44 A45 ∧ (z = z44 ∧ u = A45))))
def r_X12_fits (x1 : Int) (A : St) (z : Int) (u : St) : Prop := tr_r_X12_fits x1 A z u
theorem u_r_X12_fits {x1 : Int} {A : St} {z : Int} {u : St} (h : tr_r_X12_fits x1 A z u) : r_X12_fits x1 A z u := h
def ws_mc_X12_fits : List Cond := .code yX12_fits cX12_fits 5 (some .int) :: WX
set_option maxHeartbeats 4000000 in
set_option maxRecDepth 100000 in
theorem mc_X12_fits (l : Launch) (dC : Nat → ClassId) (dI : Nat → Nat → Nat) (cB cI cJ cZ cQ : ClassId) (q : Nat → Nat) (A : St) (x1 : Int) (hI : IM A) (hx1 : (-2147483648 : Int) ≤ x1 ∧ x1 ≤ 2147483647) : XMi l yX12_fits ws_mc_X12_fits ({ frames := 4, cells := 0, slots := 0, locals := 93 } : Room) (dC, dI) (tyA cB cI cJ cZ cQ) (WM cI cJ cZ q) A [.ref (q 0), .int (iI x1)] (fun z u => r_X12_fits x1 A z u ∧ IM u ∧ fr [54] [78, 80] A u ∧ (-2147483648 ≤ z ∧ z ≤ 2147483647)) := by
  refine x_meti (cc := cX12_fits) (maxL := 5) WM_adr (by decide +kernel) rfl (Nat.le_of_ble_eq_true rfl) (fun p e s m below meth c Q AS ls hx hb hml hown hts hK hDD hA0 hP hS hl RET => ?_)
  have hown : s.vm.findClass RX12 = some m.cls := hown
  have hl : lv_has ls 5 [(0, .ref (q 0)), (1, .int (iI x1))] := hl
  have hiX12 : ∀ w ∈ u_ws RX12 TX12 85, w ∈ ws_mc_X12_fits := fun w h => List.mem_cons_of_mem _ (wx_lay w h)
  obtain ⟨H, hHe⟩ : ∃ H : Heap, H = s.heap := ⟨_, rfl⟩
  rw [← hHe] at hP
  have hS : va_S AS s.heap H [] := by rw [hHe]; exact hS
  suffices hgo : ∀ locs : List Loc, va_S AS s.heap H locs → W p l e (headSpec ws_mc_X12_fits ({ frames := 4, cells := 0, slots := 0, locals := 93 } : Room)).room s m [.ref (q 0), .int (iI x1)].toArray below meth c H locs 0 0 Q (F0 m 0 ls []) by
    have := hgo [] hS
    rw [hHe] at this
    exact this
  clear hS hHe
  intro locs hS
  refine lv_iload_n hx hb (dk_at dkX12_fits_0 0 rfl) rfl (lv_at hl 1 rfl) ?_
  refine lv_iconst (v := iI (-1)) hx hb (dk_at dkX12_fits_0 1 rfl) (by decide +kernel) ?_
  refine lv_icmp_ne (tgt := 11) hx hb (dk_at dkX12_fits_0 2 rfl) (by decide) (fun c1 => ?_) (fun c1 => ?_)
  · have c1 : ¬ x1 = (-1) := mt (i_eq hx1 ⟨by decide, by decide⟩).mpr c1
    refine lv_iconst (v := iI 1) hx hb (dk_at dkX12_fits_0 7 rfl) (by decide +kernel) ?_
    refine lv_istore_n (lv' := [(2, .int (iI 1)), (0, .ref (q 0)), (1, .int (iI x1))]) hx hb (dk_at dkX12_fits_0 8 rfl) rfl hl (by decide) rfl (fun ls hl => ?_)
    refine lv_iconst (v := iI 0) hx hb (dk_at dkX12_fits_0 9 rfl) (by decide +kernel) ?_
    refine lv_istore_n (lv' := [(3, .int (iI 0)), (2, .int (iI 1)), (0, .ref (q 0)), (1, .int (iI x1))]) hx hb (dk_at dkX12_fits_0 10 rfl) rfl hl (by decide) rfl (fun ls hl => ?_)
    have L15_6 : ∀ (n8 : Nat) (z2 z3 : Int) (A5 : St) (H : Heap) (locs : List Loc) (ls : Array Slot), (0 ≤ z2) → (0 ≤ z2 ∧ z2 ≤ 4) → (1 ≤ z3 ∧ z3 ≤ 10000) → ((z2 = 0 → z3 = 1) ∧ (z2 = 1 → z3 = 10) ∧ (z2 = 2 → z3 = 100) ∧ (z2 = 3 → z3 = 1000)) → (∀ (z : Int) (u : St), (∃ mm1 : Nat, (d_X12_fits_1 x1 z u mm1 z2 z3 A5)) → r_X12_fits x1 A z u) → ((3 - z2 + 1).toNat = n8) → IM A5 → fr [54] [78, 80] A A5 → va_P (dC, dI) vwCl (WM cI cJ cZ q A5) H → va_S AS s.heap H locs → lv_has ls 5 [(3, .int (iI z2)), (2, .int (iI z3)), (0, .ref (q 0)), (1, .int (iI x1))] → W p l e (headSpec ws_mc_X12_fits ({ frames := 4, cells := 0, slots := 0, locals := 93 } : Room)).room s m [.ref (q 0), .int (iI x1)].toArray below meth c H locs 0 0 Q (F0 m 15 ls []) := by
      intro n8
      induction n8 using Nat.strongRecOn with
      | ind n8 ih7 =>
        intro z2 z3 A5 H locs ls f9 f10 f11 f12 hk1 hn8 hI hj4 hP hS hl
        have gI13 : Hd (IM A5) := Hd.mk hI
        refine lv_iload_n hx hb (dk_at dkX12_fits_0 11 rfl) rfl (lv_at hl 0 rfl) ?_
        refine lv_iconst (v := iI 3) hx hb (dk_at dkX12_fits_0 12 rfl) (by decide +kernel) ?_
        refine lv_icmp_gt (tgt := 85) hx hb (dk_at dkX12_fits_0 13 rfl) (by decide) (fun c14 => ?_) (fun c14 => ?_)
        · have c14 : 3 < z2 := (i_lt ⟨by decide, by decide⟩ (rb f10 (by decide) (by decide))).mp c14
          refine lv_iconst (v := iI (-1)) hx hb (dk_at dkX12_fits_3 1 rfl) (by decide +kernel) ?_
          exact RET (-1) _ _ _ _ _ ⟨hk1 _ _ ⟨0 + 1, (u_d_X12_fits_1 ⟨gI13.out, ⟨f10, ⟨f11, (Or.inl ⟨c14, ⟨rfl, rfl⟩⟩)⟩⟩⟩)⟩, hI, fr.trans (fr.rf) hj4 rfl rfl, by omega⟩ hP hS (dk_at dkX12_fits_3 2 rfl)
        · have c14 : ¬ 3 < z2 := mt (i_lt ⟨by decide, by decide⟩ (rb f10 (by decide) (by decide))).mpr c14
          refine lv_iconst (v := iI 0) hx hb (dk_at dkX12_fits_0 14 rfl) (by decide +kernel) ?_
          refine lv_istore (lv' := [(4, .int (iI 0)), (3, .int (iI z2)), (2, .int (iI z3)), (0, .ref (q 0)), (1, .int (iI x1))]) hx hb (dk_at dkX12_fits_0 15 rfl) hl (by decide) rfl (fun ls hl => ?_)
          have L23_18 : ∀ (n20 : Nat) (z15 : Int) (A17 : St) (H : Heap) (locs : List Loc) (ls : Array Slot), (0 ≤ z15) → (0 ≤ z15 ∧ z15 ≤ 2147483647) → (∀ (z : Int) (u : St), (∃ mm1 mm2 : Nat, (d_X12_fits_2 (fun z2' z3' A5' => d_X12_fits_1 x1 z u mm1 z2' z3' A5') x1 z2 z3 z u mm2 z15 A17)) → r_X12_fits x1 A z u) → ((z3 - z15 + 1).toNat = n20) → IM A17 → fr [54] [78, 80] A5 A17 → va_P (dC, dI) vwCl (WM cI cJ cZ q A17) H → va_S AS s.heap H locs → lv_has ls 5 [(4, .int (iI z15)), (3, .int (iI z2)), (2, .int (iI z3)), (0, .ref (q 0)), (1, .int (iI x1))] → W p l e (headSpec ws_mc_X12_fits ({ frames := 4, cells := 0, slots := 0, locals := 93 } : Room)).room s m [.ref (q 0), .int (iI x1)].toArray below meth c H locs 0 0 Q (F0 m 23 ls []) := by
            intro n20
            induction n20 using Nat.strongRecOn with
            | ind n20 ih19 =>
              intro z15 A17 H locs ls f21 f22 hk2 hn20 hI hj16 hP hS hl
              have gI23 : Hd (IM A17) := Hd.mk hI
              refine lv_iload hx hb (dk_at dkX12_fits_1 0 rfl) (lv_at hl 0 rfl) ?_
              refine lv_iload_n hx hb (dk_at dkX12_fits_1 1 rfl) rfl (lv_at hl 2 rfl) ?_
              refine lv_icmp_ge (tgt := 74) hx hb (dk_at dkX12_fits_1 2 rfl) (by decide) (fun c24 => ?_) (fun c24 => ?_)
              · have c24 : z3 ≤ z15 := (i_le (rb f11 (by decide) (by decide)) (rb f22 (by decide) (by decide))).mp c24
                refine lv_iload_n hx hb (dk_at dkX12_fits_2 11 rfl) rfl (lv_at hl 2 rfl) ?_
                refine lv_bipush (v := iI 10) hx hb (dk_at dkX12_fits_2 12 rfl) (by decide +kernel) ?_
                refine x_mulv (v := 10 * z3) hx hb (dk_at dkX12_fits_2 13 rfl) (by omega) ?_
                refine lv_istore_n (lv' := [(2, .int (iI (10 * z3))), (4, .int (iI z15)), (3, .int (iI z2)), (0, .ref (q 0)), (1, .int (iI x1))]) hx hb (dk_at dkX12_fits_2 14 rfl) rfl hl (by decide) rfl (fun ls hl => ?_)
                refine lv_iinc (v := iI (z2 + 1)) (lv' := [(3, .int (iI (z2 + 1))), (2, .int (iI (10 * z3))), (4, .int (iI z15)), (0, .ref (q 0)), (1, .int (iI x1))]) hx hb (dk_at dkX12_fits_2 15 rfl) hl (k := 2) rfl (i_inc (by omega)) (by decide) rfl (fun ls hl => ?_)
                refine lv_goto (tgt := 15) hx hb (dk_at dkX12_fits_3 0 rfl) (by decide) ?_
                exact ih7 _ (by omega) (z2 + 1) (10 * z3) _ _ _ _ (by omega) (by omega) (by omega) (by omega) (fun zq uq ⟨mm1, hq⟩ => hk2 _ _ ⟨mm1, 0 + 1, (u_d_X12_fits_2 ⟨gI23.out, ⟨f22, (Or.inl ⟨c24, hq⟩)⟩⟩)⟩) rfl hI (fr.trans (fr.trans (fr.rf) hj4 rfl rfl) hj16 rfl rfl) hP hS (lv_sub hl [0, 1, 3, 4] rfl)
              · have c24 : ¬ z3 ≤ z15 := mt (i_le (rb f11 (by decide) (by decide)) (rb f22 (by decide) (by decide))).mpr c24
                refine lv_aload_n hx hb (dk_at dkX12_fits_1 3 rfl) rfl (lv_at hl 3 rfl) ?_
                refine lv_iload_n hx hb (dk_at dkX12_fits_1 4 rfl) rfl (lv_at hl 1 rfl) ?_
                refine lv_iload hx hb (dk_at dkX12_fits_1 5 rfl) (lv_at hl 0 rfl) ?_
                refine x_calli (As := [.int (iI z2), .int (iI z15)]) (rest := []) ⟨hx, hb, hml, hown, hts⟩ (mc_X12_isRow l dC dI cB cI cJ cZ cQ q _ z2 z15 hI (by omega) (by omega)) (cwV 2 hts (goodV wlq_8_15 wlq_8_16 wlq_8_17 wlq_0_8 wlq_8_13) rfl rfl rfl (by decide +kernel) ⟨Nat.le_of_ble_eq_true rfl, Nat.le_of_ble_eq_true rfl⟩) hK hDD hA0 hP hS 0 12 wm0 rfl rfl hl.1 (Nat.le_of_ble_eq_true rfl) (dk_at dkX12_fits_1 6 rfl) (fun z25 A26 H locs hw27 hP hS => ?_)
                have ghw27 : q_X12_isRow z2 z15 A17 z25 A26 := hw27
                obtain ⟨_, hI, hf28, hw27⟩ := hw27
                have J68_30 : ∀ (A42 : St) (H : Heap) (locs : List Loc) (ls : Array Slot), (∀ (z : Int) (u : St), (∃ mm1 mm2 : Nat, (d_X12_fits_3 (fun z15' A17' => d_X12_fits_2 (fun z2' z3' A5' => d_X12_fits_1 x1 z u mm1 z2' z3' A5') x1 z2 z3 z u mm2 z15' A17') z15 z u A42)) → r_X12_fits x1 A z u) → IM A42 → fr [] [80] A26 A42 → va_P (dC, dI) vwCl (WM cI cJ cZ q A42) H → va_S AS s.heap H locs → lv_has ls 5 [(4, .int (iI z15)), (3, .int (iI z2)), (2, .int (iI z3)), (0, .ref (q 0)), (1, .int (iI x1))] → W p l e (headSpec ws_mc_X12_fits ({ frames := 4, cells := 0, slots := 0, locals := 93 } : Room)).room s m [.ref (q 0), .int (iI x1)].toArray below meth c H locs 0 0 Q (F0 m 68 ls []) := by
                  intro A42 H locs ls hk3 hI hj41 hP hS hl
                  have gI43 : Hd (IM A42) := Hd.mk hI
                  refine lv_iinc (v := iI (z15 + 1)) (lv' := [(4, .int (iI (z15 + 1))), (3, .int (iI z2)), (2, .int (iI z3)), (0, .ref (q 0)), (1, .int (iI x1))]) hx hb (dk_at dkX12_fits_2 9 rfl) hl (k := 0) rfl (i_inc (by omega)) (by decide) rfl (fun ls hl => ?_)
                  refine lv_goto (tgt := 23) hx hb (dk_at dkX12_fits_2 10 rfl) (by decide) ?_
                  exact ih19 _ (by omega) (z15 + 1) _ _ _ _ (by omega) (by omega) (fun zq uq ⟨mm1, mm2, hq⟩ => hk3 _ _ ⟨mm1, mm2, (u_d_X12_fits_3 ⟨gI43.out, hq⟩)⟩) rfl hI (fr.trans (fr.trans (fr.trans (fr.rf) hj16 rfl rfl) hf28 rfl rfl) hj41 rfl rfl) hP hS (lv_sub hl [0, 1, 2, 3, 4] rfl)
                refine lv_if_eq (tgt := 68) hx hb (dk_at dkX12_fits_1 7 rfl) (by decide) (fun c29 => ?_) (fun c29 => ?_)
                · have c29 : z25 = 0 := (i_eq0 (rb hw27 (by decide) (by decide))).mp c29
                  exact J68_30 _ _ _ _ (fun zq uq ⟨mm1, mm2, hq⟩ => hk2 _ _ ⟨mm1, mm2 + 1, (u_d_X12_fits_2 ⟨gI23.out, ⟨f22, (Or.inr ⟨c24, ⟨z25, A26, ghw27, (Or.inl ⟨c29, hq⟩)⟩⟩)⟩⟩)⟩) hI (fr.rf) hP hS (lv_sub hl [0, 1, 2, 3, 4] rfl)
                · have c29 : ¬ z25 = 0 := mt (i_eq0 (rb hw27 (by decide) (by decide))).mpr c29
                  refine lv_aload_n hx hb (dk_at dkX12_fits_1 8 rfl) rfl (lv_at hl 3 rfl) ?_
                  refine x_calli (As := []) (rest := []) ⟨hx, hb, hml, hown, hts⟩ (mc_X12_agrees l dC dI cB cI cJ cZ cQ q _ hI) (cwV 0 hts (goodV wlq_8_18 wlq_8_19 wlq_8_20 wlq_0_8 wlq_8_7) rfl rfl rfl (by decide +kernel) ⟨Nat.le_of_ble_eq_true rfl, Nat.le_of_ble_eq_true rfl⟩) hK hDD hA0 hP hS 0 12 wm0 rfl rfl hl.1 (Nat.le_of_ble_eq_true rfl) (dk_at dkX12_fits_1 9 rfl) (fun z31 A32 H locs hw33 hP hS => ?_)
                  have ghw33 : q_X12_agrees A26 z31 A32 := hw33
                  obtain ⟨_, hI, hf34, hw33⟩ := hw33
                  refine lv_if_eq (tgt := 68) hx hb (dk_at dkX12_fits_1 10 rfl) (by decide) (fun c35 => ?_) (fun c35 => ?_)
                  · have c35 : z31 = 0 := (i_eq0 (rb hw33 (by decide) (by decide))).mp c35
                    exact J68_30 _ _ _ _ (fun zq uq ⟨mm1, mm2, hq⟩ => hk2 _ _ ⟨mm1, mm2 + 1, (u_d_X12_fits_2 ⟨gI23.out, ⟨f22, (Or.inr ⟨c24, ⟨z25, A26, ghw27, (Or.inr ⟨c29, ⟨z31, A32, ghw33, (Or.inl ⟨c35, hq⟩)⟩⟩)⟩⟩)⟩⟩)⟩) hI (fr.trans (fr.rf) hf34 rfl rfl) hP hS (lv_sub hl [0, 1, 2, 3, 4] rfl)
                  · have c35 : ¬ z31 = 0 := mt (i_eq0 (rb hw33 (by decide) (by decide))).mpr c35
                    refine lv_iload_n hx hb (dk_at dkX12_fits_1 11 rfl) rfl (lv_at hl 4 rfl) ?_
                    refine lv_iconst (v := iI 0) hx hb (dk_at dkX12_fits_1 12 rfl) (by decide +kernel) ?_
                    refine lv_iload_n hx hb (dk_at dkX12_fits_1 13 rfl) rfl (lv_at hl 1 rfl) ?_
                    refine lv_iconst (v := iI 1) hx hb (dk_at dkX12_fits_1 14 rfl) (by decide +kernel) ?_
                    refine x_subv (v := z2 - 1) hx hb (dk_at dkX12_fits_1 15 rfl) (by omega) ?_
                    refine x_callSi (As := [.int (iI x1), .int (iI 0), .int (iI (z2 - 1))]) (rest := []) ⟨hx, hb, hml, hown, hts⟩ (mc_X12_is l dC dI cB cI cJ cZ cQ q _ x1 0 (z2 - 1) hI hx1 ⟨by decide, by decide⟩ (by omega)) (va_cwS 3 hts (goodS wlq_1_27 wlq_1_28 wlq_0_8 wlq_0_0) rfl rfl rfl (by decide +kernel) ⟨Nat.le_of_ble_eq_true rfl, Nat.le_of_ble_eq_true rfl⟩) hK hDD hA0 hP hS rfl hl.1 (Nat.le_of_ble_eq_true rfl) (dk_at dkX12_fits_2 0 rfl) (fun z36 A37 H locs hw38 hP hS => ?_)
                    obtain ⟨rfl, hw38⟩ := hw38
                    have ghw38 : q_X12_is x1 0 (z2 - 1) A32 z36 := hw38
                    have hw38 := hw38.2
                    have rz36 : 0 ≤ z36 ∧ z36 ≤ 1 := hw38.1
                    refine lv_if_eq (tgt := 66) hx hb (dk_at dkX12_fits_2 1 rfl) (by decide) (fun c39 => ?_) (fun c39 => ?_)
                    · have c39 : z36 = 0 := (i_eq0 (rb rz36 (by decide) (by decide))).mp c39
                      have hw38b := mt hw38.2.mpr (by omega)
                      clear hw38
                      refine lv_iconst (v := iI (-1)) hx hb (dk_at dkX12_fits_2 7 rfl) (by decide +kernel) ?_
                      exact RET (-1) _ _ _ _ _ ⟨hk2 _ _ ⟨0, 0 + 1, (u_d_X12_fits_2 ⟨gI23.out, ⟨f22, (Or.inr ⟨c24, ⟨z25, A26, ghw27, (Or.inr ⟨c29, ⟨z31, A32, ghw33, (Or.inr ⟨c35, ⟨z36, ghw38, (Or.inl ⟨c39, ⟨rfl, rfl⟩⟩)⟩⟩)⟩⟩)⟩⟩)⟩⟩)⟩, hI, fr.trans (fr.trans (fr.trans (fr.trans (fr.rf) hj4 rfl rfl) hj16 rfl rfl) hf28 rfl rfl) hf34 rfl rfl, by omega⟩ hP hS (dk_at dkX12_fits_2 8 rfl)
                    · have c39 : ¬ z36 = 0 := mt (i_eq0 (rb rz36 (by decide) (by decide))).mpr c39
                      have hw38b := hw38.2.mp (by omega)
                      clear hw38
                      refine lv_aload_n hx hb (dk_at dkX12_fits_2 2 rfl) rfl (lv_at hl 3 rfl) ?_
                      refine va_get (D := (dC, dI)) (ci := 12) (v := .ref (q 54)) (C := RX12) (T := TX12) (N := 85) hx hb hts hiX12 hown hK hP 0 wm0 rfl 79 (by decide) (hts _ (List.mem_cons_of_mem _ wlq_8_10)) (fun _ h9 => h9) rfl (dk_at dkX12_fits_2 3 rfl) ?_
                      refine lv_iload_n hx hb (dk_at dkX12_fits_2 4 rfl) rfl (lv_at hl 4 rfl) ?_
                      have a_A32_54 : A32 54 = A26 54 := (hf34.1 54 (by decide) rfl)
                      refine x_iald hx hb hK hP 54 1 wm54 rfl (by omega) (by decide) (dk_at dkX12_fits_2 5 rfl) (fun z40 hz40 => ?_)
                      have rz40 : (0 : Int) ≤ z40 ∧ z40 ≤ 9 := by rw [hz40]; exact hI 54 _
                      have gz40 := Hd.mk hz40
                      have hz40 : z40 = A26 54 (x1).toNat := hz40.trans (congrFun a_A32_54 _)
                      refine lv_goto (tgt := 67) hx hb (dk_at dkX12_fits_2 6 rfl) (by decide) ?_
                      exact RET z40 _ _ _ _ _ ⟨hk2 _ _ ⟨0, 0 + 1, (u_d_X12_fits_2 ⟨gI23.out, ⟨f22, (Or.inr ⟨c24, ⟨z25, A26, ghw27, (Or.inr ⟨c29, ⟨z31, A32, ghw33, (Or.inr ⟨c35, ⟨z36, ghw38, (Or.inr ⟨c39, ⟨z40, gz40.out, ⟨rfl, rfl⟩⟩⟩)⟩⟩)⟩⟩)⟩⟩)⟩⟩)⟩, hI, fr.trans (fr.trans (fr.trans (fr.trans (fr.rf) hj4 rfl rfl) hj16 rfl rfl) hf28 rfl rfl) hf34 rfl rfl, by omega⟩ hP hS (dk_at dkX12_fits_2 8 rfl)
          exact L23_18 _ 0 _ _ _ _ (by omega) (by omega) (fun zq uq ⟨mm1, mm2, hq⟩ => hk1 _ _ ⟨mm1 + 1, (u_d_X12_fits_1 ⟨gI13.out, ⟨f10, ⟨f11, (Or.inr ⟨c14, ⟨mm2, hq⟩⟩)⟩⟩⟩)⟩) rfl hI (fr.rf) hP hS (lv_sub hl [0, 1, 2, 3, 4] rfl)
    exact L15_6 _ 0 1 _ _ _ _ (by omega) (by omega) (by omega) (by omega) (fun zq uq ⟨mm1, hq⟩ => (u_r_X12_fits (Or.inl ⟨c1, ⟨mm1, hq⟩⟩))) rfl hI (fr.rf) hP hS (lv_sub hl [0, 1, 2, 3] rfl)
  · have c1 : x1 = (-1) := (i_eq hx1 ⟨by decide, by decide⟩).mp c1
    refine lv_aload_n hx hb (dk_at dkX12_fits_0 3 rfl) rfl (lv_at hl 0 rfl) ?_
    refine lv_iconst (v := iI (-1)) hx hb (dk_at dkX12_fits_0 4 rfl) (by decide +kernel) ?_
    refine x_calli (As := [.int (iI (-1))]) (rest := []) ⟨hx, hb, hml, hown, hts⟩ (mc_X12_fitting l dC dI cB cI cJ cZ cQ q _ (-1) hI ⟨by decide, by decide⟩) (cwV 1 hts (goodV wlq_8_22 wlq_8_23 wlq_8_24 wlq_0_8 wlq_8_14) rfl rfl rfl (by decide +kernel) ⟨Nat.le_of_ble_eq_true rfl, Nat.le_of_ble_eq_true rfl⟩) hK hDD hA0 hP hS 0 12 wm0 rfl rfl hl.1 (Nat.le_of_ble_eq_true rfl) (dk_at dkX12_fits_0 5 rfl) (fun z44 A45 H locs hw46 hP hS => ?_)
    have ghw46 : q_X12_fitting (-1) A z44 A45 := hw46
    obtain ⟨_, hI, hf47, hw46⟩ := hw46
    exact RET z44 _ _ _ _ _ ⟨(u_r_X12_fits (Or.inr ⟨c1, ⟨z44, A45, ghw46, ⟨rfl, rfl⟩⟩⟩)), hI, fr.trans (fr.rf) hf47 rfl rfl, by omega⟩ hP hS (dk_at dkX12_fits_0 6 rfl)

abbrev tr_r_X12_would (x1 : Int) (A : St) (z : Int) (u : St) : Prop := (∃ z1 : Int, q_X12_isDoor x1 A z1 ∧ (((z1 = 0) ∧ (z = (-1) ∧ u = A)) ∨ ((¬ z1 = 0) ∧ (∃ z5 : Int, ∃ A6 : St, q_X12_fitting x1 A z5 A6 ∧ (z = z5 ∧ u = A6)))))
def r_X12_would (x1 : Int) (A : St) (z : Int) (u : St) : Prop := tr_r_X12_would x1 A z u
theorem u_r_X12_would {x1 : Int} {A : St} {z : Int} {u : St} (h : tr_r_X12_would x1 A z u) : r_X12_would x1 A z u := h
def ws_mc_X12_would : List Cond := .code yX12_would cX12_would 2 (some .int) :: WX
set_option maxHeartbeats 4000000 in
set_option maxRecDepth 100000 in
theorem mc_X12_would (l : Launch) (dC : Nat → ClassId) (dI : Nat → Nat → Nat) (cB cI cJ cZ cQ : ClassId) (q : Nat → Nat) (A : St) (x1 : Int) (hI : IM A) (hx1 : (-2147483648 : Int) ≤ x1 ∧ x1 ≤ 2147483647) : XMi l yX12_would ws_mc_X12_would ({ frames := 4, cells := 0, slots := 0, locals := 93 } : Room) (dC, dI) (tyA cB cI cJ cZ cQ) (WM cI cJ cZ q) A [.ref (q 0), .int (iI x1)] (fun z u => r_X12_would x1 A z u ∧ IM u ∧ fr [54] [78, 80] A u ∧ (-2147483648 ≤ z ∧ z ≤ 2147483647)) := by
  refine x_meti (cc := cX12_would) (maxL := 2) WM_adr (by decide +kernel) rfl (Nat.le_of_ble_eq_true rfl) (fun p e s m below meth c Q AS ls hx hb hml hown hts hK hDD hA0 hP hS hl RET => ?_)
  have hown : s.vm.findClass RX12 = some m.cls := hown
  have hl : lv_has ls 2 [(0, .ref (q 0)), (1, .int (iI x1))] := hl
  obtain ⟨H, hHe⟩ : ∃ H : Heap, H = s.heap := ⟨_, rfl⟩
  rw [← hHe] at hP
  have hS : va_S AS s.heap H [] := by rw [hHe]; exact hS
  suffices hgo : ∀ locs : List Loc, va_S AS s.heap H locs → W p l e (headSpec ws_mc_X12_would ({ frames := 4, cells := 0, slots := 0, locals := 93 } : Room)).room s m [.ref (q 0), .int (iI x1)].toArray below meth c H locs 0 0 Q (F0 m 0 ls []) by
    have := hgo [] hS
    rw [hHe] at this
    exact this
  clear hS hHe
  intro locs hS
  refine lv_aload_n hx hb (dk_at dkX12_would_0 0 rfl) rfl (lv_at hl 0 rfl) ?_
  refine lv_iload_n hx hb (dk_at dkX12_would_0 1 rfl) rfl (lv_at hl 1 rfl) ?_
  have r_A_0_12 : (0 : Int) ≤ (A 0 12) ∧ (A 0 12) ≤ 1 := hI 0 12
  refine x_calli (As := [.int (iI x1)]) (rest := []) ⟨hx, hb, hml, hown, hts⟩ (mc_X12_isDoorB l dC dI cB cI cJ cZ cQ q _ x1 hI hx1) (cwV 1 hts (goodV wlq_5_14 wlq_5_15 wlq_5_16 wlq_0_8 wlq_4_38) rfl rfl rfl (by decide +kernel) ⟨Nat.le_of_ble_eq_true rfl, Nat.le_of_ble_eq_true rfl⟩) hK hDD hA0 hP hS 0 12 wm0 rfl rfl hl.1 (Nat.le_of_ble_eq_true rfl) (dk_at dkX12_would_0 2 rfl) (fun z1 A2 H locs hw3 hP hS => ?_)
  obtain ⟨rfl, hw3⟩ := hw3
  have ghw3 : q_X12_isDoor x1 A z1 := hw3
  have hw3 := hw3.2
  have rz1 : 0 ≤ z1 ∧ z1 ≤ 1 := hw3.1
  refine lv_if_eq (tgt := 16) hx hb (dk_at dkX12_would_0 3 rfl) (by decide) (fun c4 => ?_) (fun c4 => ?_)
  · have c4 : z1 = 0 := (i_eq0 (rb rz1 (by decide) (by decide))).mp c4
    clear hw3
    refine lv_iconst (v := iI (-1)) hx hb (dk_at dkX12_would_0 8 rfl) (by decide +kernel) ?_
    exact RET (-1) _ _ _ _ _ ⟨(u_r_X12_would ⟨z1, ghw3, (Or.inl ⟨c4, ⟨rfl, rfl⟩⟩)⟩), hI, fr.rf, by omega⟩ hP hS (dk_at dkX12_would_0 9 rfl)
  · have c4 : ¬ z1 = 0 := mt (i_eq0 (rb rz1 (by decide) (by decide))).mpr c4
    have hw3b := hw3.2.mp (by omega)
    clear hw3
    refine lv_aload_n hx hb (dk_at dkX12_would_0 4 rfl) rfl (lv_at hl 0 rfl) ?_
    refine lv_iload_n hx hb (dk_at dkX12_would_0 5 rfl) rfl (lv_at hl 1 rfl) ?_
    refine x_calli (As := [.int (iI x1)]) (rest := []) ⟨hx, hb, hml, hown, hts⟩ (mc_X12_fitting l dC dI cB cI cJ cZ cQ q _ x1 hI hx1) (cwV 1 hts (goodV wlq_8_22 wlq_8_23 wlq_8_24 wlq_0_8 wlq_8_14) rfl rfl rfl (by decide +kernel) ⟨Nat.le_of_ble_eq_true rfl, Nat.le_of_ble_eq_true rfl⟩) hK hDD hA0 hP hS 0 12 wm0 rfl rfl hl.1 (Nat.le_of_ble_eq_true rfl) (dk_at dkX12_would_0 6 rfl) (fun z5 A6 H locs hw7 hP hS => ?_)
    have ghw7 : q_X12_fitting x1 A z5 A6 := hw7
    obtain ⟨_, hI, hf8, hw7⟩ := hw7
    refine lv_goto (tgt := 17) hx hb (dk_at dkX12_would_0 7 rfl) (by decide) ?_
    exact RET z5 _ _ _ _ _ ⟨(u_r_X12_would ⟨z1, ghw3, (Or.inr ⟨c4, ⟨z5, A6, ghw7, ⟨rfl, rfl⟩⟩⟩)⟩), hI, fr.trans (fr.rf) hf8 rfl rfl, by omega⟩ hP hS (dk_at dkX12_would_0 9 rfl)

abbrev tr_r_X12_unsay (A : St) (z : Int) (u : St) : Prop := (((¬ (A 0 75) = 0) ∧ (z = (A 0 75) - 1 ∧ u = (stA A 0 75 ((A 0 75) - 1)))) ∨ (((A 0 75) = 0) ∧ (∃ z2 : Int, ∃ A3 : St, q_X12_refuses 4 A z2 A3 ∧ (z = z2 ∧ u = A3))))
def r_X12_unsay (A : St) (z : Int) (u : St) : Prop := tr_r_X12_unsay A z u
theorem u_r_X12_unsay {A : St} {z : Int} {u : St} (h : tr_r_X12_unsay A z u) : r_X12_unsay A z u := h
def ws_mc_X12_unsay : List Cond := .code yX12_unsay cX12_unsay 1 (some .int) :: WX
set_option maxHeartbeats 4000000 in
set_option maxRecDepth 100000 in
theorem mc_X12_unsay (l : Launch) (dC : Nat → ClassId) (dI : Nat → Nat → Nat) (cB cI cJ cZ cQ : ClassId) (q : Nat → Nat) (A : St) (hI : IM A) : XMi l yX12_unsay ws_mc_X12_unsay ({ frames := 1, cells := 0, slots := 0, locals := 21 } : Room) (dC, dI) (tyA cB cI cJ cZ cQ) (WM cI cJ cZ q) A [.ref (q 0)] (fun z u => r_X12_unsay A z u ∧ IM u ∧ fr [41] [75] A u ∧ (-2147483648 ≤ z ∧ z ≤ 2147483647)) := by
  refine x_meti (cc := cX12_unsay) (maxL := 1) WM_adr (by decide +kernel) rfl (Nat.le_of_ble_eq_true rfl) (fun p e s m below meth c Q AS ls hx hb hml hown hts hK hDD hA0 hP hS hl RET => ?_)
  have hown : s.vm.findClass RX12 = some m.cls := hown
  have hl : lv_has ls 1 [(0, .ref (q 0))] := hl
  have hiX12 : ∀ w ∈ u_ws RX12 TX12 85, w ∈ ws_mc_X12_unsay := fun w h => List.mem_cons_of_mem _ (wx_lay w h)
  obtain ⟨H, hHe⟩ : ∃ H : Heap, H = s.heap := ⟨_, rfl⟩
  rw [← hHe] at hP
  have hS : va_S AS s.heap H [] := by rw [hHe]; exact hS
  suffices hgo : ∀ locs : List Loc, va_S AS s.heap H locs → W p l e (headSpec ws_mc_X12_unsay ({ frames := 1, cells := 0, slots := 0, locals := 21 } : Room)).room s m [.ref (q 0)].toArray below meth c H locs 0 0 Q (F0 m 0 ls []) by
    have := hgo [] hS
    rw [hHe] at this
    exact this
  clear hS hHe
  intro locs hS
  refine lv_aload_n hx hb (dk_at dkX12_unsay_0 0 rfl) rfl (lv_at hl 0 rfl) ?_
  refine va_get (D := (dC, dI)) (ci := 12) (v := .int (iI (A 0 75))) (C := RX12) (T := TX12) (N := 85) hx hb hts hiX12 hown hK hP 0 wm0 rfl 75 (by decide) (hts _ (List.mem_cons_of_mem _ wlq_4_17)) (fun _ h9 => h9) rfl (dk_at dkX12_unsay_0 1 rfl) ?_
  have r_A_0_75 : (0 : Int) ≤ (A 0 75) ∧ (A 0 75) ≤ 20 := hI 0 75
  refine lv_if_ne (tgt := 13) hx hb (dk_at dkX12_unsay_0 2 rfl) (by decide) (fun c1 => ?_) (fun c1 => ?_)
  · have c1 : ¬ (A 0 75) = 0 := mt (i_eq0 (rb r_A_0_75 (by decide) (by decide))).mpr c1
    refine lv_aload_n hx hb (dk_at dkX12_unsay_0 7 rfl) rfl (lv_at hl 0 rfl) ?_
    refine lv_dup hx hb (dk_at dkX12_unsay_0 8 rfl) rfl ?_
    refine va_get (D := (dC, dI)) (ci := 12) (v := .int (iI (A 0 75))) (C := RX12) (T := TX12) (N := 85) hx hb hts hiX12 hown hK hP 0 wm0 rfl 75 (by decide) (hts _ (List.mem_cons_of_mem _ wlq_4_17)) (fun _ h9 => h9) rfl (dk_at dkX12_unsay_0 9 rfl) ?_
    refine lv_iconst (v := iI 1) hx hb (dk_at dkX12_unsay_0 10 rfl) (by decide +kernel) ?_
    refine x_subv (v := (A 0 75) - 1) hx hb (dk_at dkX12_unsay_0 11 rfl) (by omega) ?_
    refine x_put (D := (dC, dI)) (ci := 12) (v := .int (iI ((A 0 75) - 1))) (ty := .int) (C := RX12) (T := TX12) (N := 85) hx hb hts hiX12 tyX12 tyX12_ok nmX12 hown hK hP hDD hS 0 wm0 rfl 75 (by decide) (hts _ (List.mem_cons_of_mem _ wlq_4_17)) (fun _ h9 => h9) rfl (by decide +kernel) rfl rfl (Nat.le_of_ble_eq_true rfl) (dk_at dkX12_unsay_0 12 rfl) (wf75 (v := (A 0 75) - 1)) (fun H locs hP hS => ?_)
    have hI := hI.st (j := 0) (i := 75) (v := (A 0 75) - 1) (show (0 : Int) ≤ (A 0 75) - 1 ∧ (A 0 75) - 1 ≤ 20 from (by omega))
    refine lv_aload_n hx hb (dk_at dkX12_unsay_0 13 rfl) rfl (lv_at hl 0 rfl) ?_
    refine va_get (D := (dC, dI)) (ci := 12) (v := .int (iI ((A 0 75) - 1))) (C := RX12) (T := TX12) (N := 85) hx hb hts hiX12 hown hK hP 0 wm0 rfl 75 (by decide) (hts _ (List.mem_cons_of_mem _ wlq_4_17)) (fun _ h9 => h9) rfl (dk_at dkX12_unsay_0 14 rfl) ?_
    exact RET ((A 0 75) - 1) _ _ _ _ _ ⟨(u_r_X12_unsay (Or.inl ⟨c1, ⟨rfl, rfl⟩⟩)), hI, fr.sf (fr.rf) rfl, by omega⟩ hP hS (dk_at dkX12_unsay_0 15 rfl)
  · have c1 : (A 0 75) = 0 := (i_eq0 (rb r_A_0_75 (by decide) (by decide))).mp c1
    refine lv_aload_n hx hb (dk_at dkX12_unsay_0 3 rfl) rfl (lv_at hl 0 rfl) ?_
    refine lv_iconst (v := iI 4) hx hb (dk_at dkX12_unsay_0 4 rfl) (by decide +kernel) ?_
    refine x_calli (As := [.int (iI 4)]) (rest := []) ⟨hx, hb, hml, hown, hts⟩ (mc_X12_refuses l dC dI cB cI cJ cZ cQ q _ 4 hI ⟨by decide, by decide⟩) (cwV 1 hts (goodV wlq_0_5 wlq_0_6 wlq_0_7 wlq_0_8 wlq_0_9) rfl rfl rfl (by decide +kernel) ⟨Nat.le_of_ble_eq_true rfl, Nat.le_of_ble_eq_true rfl⟩) hK hDD hA0 hP hS 0 12 wm0 rfl rfl hl.1 (Nat.le_of_ble_eq_true rfl) (dk_at dkX12_unsay_0 5 rfl) (fun z2 A3 H locs hw4 hP hS => ?_)
    have ghw4 : q_X12_refuses 4 A z2 A3 := hw4
    obtain ⟨_, hI, hf5, hw4⟩ := hw4
    exact RET z2 _ _ _ _ _ ⟨(u_r_X12_unsay (Or.inr ⟨c1, ⟨z2, A3, ghw4, ⟨rfl, rfl⟩⟩⟩)), hI, fr.trans (fr.rf) hf5 rfl rfl, by omega⟩ hP hS (dk_at dkX12_unsay_0 6 rfl)

abbrev tr_d_X12_ways_5 (K4 : Int → St → Prop) (z33 : Int) (A35 : St) (u : St) (z52 : Int) : Prop := ((-2147483648 ≤ z52 ∧ z52 ≤ 2147483647) ∧ (∃ A55 : St, A55 = (stA A35 55 (z33).toNat z52) ∧ (K4 (z33 + 1) A55)))
def d_X12_ways_5 (K4 : Int → St → Prop) (z33 : Int) (A35 : St) (u : St) (z52 : Int) : Prop := tr_d_X12_ways_5 K4 z33 A35 u z52
theorem u_d_X12_ways_5 {K4 : Int → St → Prop} {z33 : Int} {A35 : St} {u : St} {z52 : Int} (h : tr_d_X12_ways_5 K4 z33 A35 u z52) : d_X12_ways_5 K4 z33 A35 u z52 := h
abbrev tr_d_X12_ways_4 (K3 : Int → St → Prop) (z23 : Int) (u : St) (K4 : Int → St → Prop) (z33 : Int) (A35 : St) : Prop := ((IM A35) ∧ ((0 ≤ z33 ∧ z33 ≤ 2147483647) ∧ (((64 ≤ z33) ∧ (K3 (z23 + 1) A35)) ∨ ((¬ 64 ≤ z33) ∧ (∃ z43 : Int, z43 = z33 / 8 ∧ (∃ z44 : Int, z44 = A35 55 (8 * z43 + z23).toNat ∧ (∃ z45 : Int, z45 = z33 % 8 ∧ (∃ z46 : Int, z46 = A35 55 (8 * z23 + z45).toNat ∧ (∃ z47 : Int, z47 = oWrap (z44 + z46) ∧ (∃ z48 : Int, z48 = A35 55 (z33).toNat ∧ (((z48 ≤ z47) ∧ (∃ z51 : Int, z51 = A35 55 (z33).toNat ∧ (d_X12_ways_5 K4 z33 A35 u z51))) ∨ ((¬ z48 ≤ z47) ∧ (d_X12_ways_5 K4 z33 A35 u z47)))))))))))))
def d_X12_ways_4 (K3 : Int → St → Prop) (z23 : Int) (u : St) : Nat → Int → St → Prop
  | 0, _, _ => False
  | nn9 + 1, z33, A35 => tr_d_X12_ways_4 K3 z23 u (fun z33 A35 => d_X12_ways_4 K3 z23 u nn9 z33 A35) z33 A35
theorem u_d_X12_ways_4 {K3 : Int → St → Prop} {z23 : Int} {u : St} {nn9 : Nat} {z33 : Int} {A35 : St} (h : tr_d_X12_ways_4 K3 z23 u (fun z33 A35 => d_X12_ways_4 K3 z23 u nn9 z33 A35) z33 A35) : d_X12_ways_4 K3 z23 u (nn9 + 1) z33 A35 := h
abbrev tr_d_X12_ways_3 (u : St) (K3 : Int → St → Prop) (z23 : Int) (A25 : St) : Prop := ((IM A25) ∧ ((0 ≤ z23 ∧ z23 ≤ 2147483647) ∧ (((8 ≤ z23) ∧ (u = A25)) ∨ ((¬ 8 ≤ z23) ∧ (∃ nn9 : Nat, d_X12_ways_4 K3 z23 u nn9 0 A25)))))
def d_X12_ways_3 (u : St) : Nat → Int → St → Prop
  | 0, _, _ => False
  | nn9 + 1, z23, A25 => tr_d_X12_ways_3 u (fun z23 A25 => d_X12_ways_3 u nn9 z23 A25) z23 A25
theorem u_d_X12_ways_3 {u : St} {nn9 : Nat} {z23 : Int} {A25 : St} (h : tr_d_X12_ways_3 u (fun z23 A25 => d_X12_ways_3 u nn9 z23 A25) z23 A25) : d_X12_ways_3 u (nn9 + 1) z23 A25 := h
abbrev tr_d_X12_ways_6 (K2 : Int → St → Prop) (z11 : Int) (u : St) (A90 : St) : Prop := ((IM A90) ∧ (K2 (z11 + 1) A90))
def d_X12_ways_6 (K2 : Int → St → Prop) (z11 : Int) (u : St) (A90 : St) : Prop := tr_d_X12_ways_6 K2 z11 u A90
theorem u_d_X12_ways_6 {K2 : Int → St → Prop} {z11 : Int} {u : St} {A90 : St} (h : tr_d_X12_ways_6 K2 z11 u A90) : d_X12_ways_6 K2 z11 u A90 := h
abbrev tr_d_X12_ways_2 (A : St) (u : St) (K2 : Int → St → Prop) (z11 : Int) (A13 : St) : Prop := ((IM A13) ∧ ((0 ≤ z11 ∧ z11 ≤ 2147483647) ∧ (∃ z21 : Int, z21 = A13 4 ((A 0 12)).toNat ∧ (((z21 ≤ z11) ∧ (∃ nn9 : Nat, d_X12_ways_3 u nn9 0 A13)) ∨ ((¬ z21 ≤ z11) ∧ (∃ z56 : Int, q_X12_door10 z11 A13 z56 ∧ (∃ z59 : Int, z59 = A13 8 (10 * (A 0 12) + z11).toNat ∧ (((¬ z59 = 0) ∧ (d_X12_ways_6 K2 z11 u A13)) ∨ ((z59 = 0) ∧ (∃ z62 : Int, q_X12_isShut z11 A13 z62 ∧ (((z62 = 0) ∧ (∃ z66 : Int, q_X12_door10 z11 A13 z66 ∧ (∃ z69 : Int, z69 = A13 6 (10 * (A 0 12) + z11).toNat ∧ (∃ z70 : Int, q_X12_door10 z11 A13 z70 ∧ (∃ z73 : Int, z73 = A13 7 (10 * (A 0 12) + z11).toNat ∧ (∃ z74 : Int, q_X12_door10 z11 A13 z74 ∧ (∃ z77 : Int, z77 = A13 9 (10 * (A 0 12) + z11).toNat ∧ (∃ z78 : Int, z78 = A13 55 (8 * z69 + z73).toNat ∧ (((z77 < z78) ∧ (∃ z80 : Int, q_X12_door10 z11 A13 z80 ∧ (∃ z83 : Int, z83 = A13 9 (10 * (A 0 12) + z11).toNat ∧ (∃ A84 : St, A84 = (stA A13 55 (8 * z69 + z73).toNat z83) ∧ (∃ z85 : Int, q_X12_door10 z11 A84 z85 ∧ (∃ z88 : Int, z88 = A84 9 (10 * (A 0 12) + z11).toNat ∧ (d_X12_ways_6 K2 z11 u ((stA A84 55 (8 * z73 + z69).toNat z88))))))))) ∨ ((¬ z77 < z78) ∧ (d_X12_ways_6 K2 z11 u A13))))))))))) ∨ ((¬ z62 = 0) ∧ (d_X12_ways_6 K2 z11 u A13)))))))))))))
def d_X12_ways_2 (A : St) (u : St) : Nat → Int → St → Prop
  | 0, _, _ => False
  | nn9 + 1, z11, A13 => tr_d_X12_ways_2 A u (fun z11 A13 => d_X12_ways_2 A u nn9 z11 A13) z11 A13
theorem u_d_X12_ways_2 {A : St} {u : St} {nn9 : Nat} {z11 : Int} {A13 : St} (h : tr_d_X12_ways_2 A u (fun z11 A13 => d_X12_ways_2 A u nn9 z11 A13) z11 A13) : d_X12_ways_2 A u (nn9 + 1) z11 A13 := h
abbrev tr_d_X12_ways_7 (K1 : Int → St → Prop) (z1 : Int) (A3 : St) (u : St) (z96 : Int) : Prop := ((0 ≤ z96 ∧ z96 ≤ 1000000) ∧ (∃ A100 : St, A100 = (stA A3 55 (z1).toNat z96) ∧ (K1 (z1 + 1) A100)))
def d_X12_ways_7 (K1 : Int → St → Prop) (z1 : Int) (A3 : St) (u : St) (z96 : Int) : Prop := tr_d_X12_ways_7 K1 z1 A3 u z96
theorem u_d_X12_ways_7 {K1 : Int → St → Prop} {z1 : Int} {A3 : St} {u : St} {z96 : Int} (h : tr_d_X12_ways_7 K1 z1 A3 u z96) : d_X12_ways_7 K1 z1 A3 u z96 := h
abbrev tr_d_X12_ways_1 (A : St) (u : St) (K1 : Int → St → Prop) (z1 : Int) (A3 : St) : Prop := ((IM A3) ∧ ((0 ≤ z1 ∧ z1 ≤ 2147483647) ∧ (((64 ≤ z1) ∧ (∃ nn9 : Nat, d_X12_ways_2 A u nn9 0 A3)) ∨ ((¬ 64 ≤ z1) ∧ (∃ z92 : Int, z92 = z1 / 8 ∧ (∃ z93 : Int, z93 = z1 % 8 ∧ (((¬ z92 = z93) ∧ (d_X12_ways_7 K1 z1 A3 u 1000000)) ∨ ((z92 = z93) ∧ (d_X12_ways_7 K1 z1 A3 u 0)))))))))
def d_X12_ways_1 (A : St) (u : St) : Nat → Int → St → Prop
  | 0, _, _ => False
  | nn9 + 1, z1, A3 => tr_d_X12_ways_1 A u (fun z1 A3 => d_X12_ways_1 A u nn9 z1 A3) z1 A3
theorem u_d_X12_ways_1 {A : St} {u : St} {nn9 : Nat} {z1 : Int} {A3 : St} (h : tr_d_X12_ways_1 A u (fun z1 A3 => d_X12_ways_1 A u nn9 z1 A3) z1 A3) : d_X12_ways_1 A u (nn9 + 1) z1 A3 := h
abbrev tr_r_X12_ways (A : St) (u : St) : Prop := (∃ nn9 : Nat, d_X12_ways_1 A u nn9 0 A)
def r_X12_ways (A : St) (u : St) : Prop := tr_r_X12_ways A u
theorem u_r_X12_ways {A : St} {u : St} (h : tr_r_X12_ways A u) : r_X12_ways A u := h
def q_X12_ways (A : St) (u : St) : Prop := r_X12_ways A u ∧ IM u ∧ fr [55] [] A u ∧ (True)
def ws_mc_X12_ways : List Cond := .code yX12_ways cX12_ways 4 none :: WX
set_option maxHeartbeats 4000000 in
set_option maxRecDepth 100000 in
theorem mc_X12_ways (l : Launch) (dC : Nat → ClassId) (dI : Nat → Nat → Nat) (cB cI cJ cZ cQ : ClassId) (q : Nat → Nat) (A : St) (hI : IM A) : XMv l yX12_ways ws_mc_X12_ways ({ frames := 3, cells := 0, slots := 0, locals := 67 } : Room) (dC, dI) (tyA cB cI cJ cZ cQ) (WM cI cJ cZ q) A [.ref (q 0)] (fun u => r_X12_ways A u ∧ IM u ∧ fr [55] [] A u ∧ (True)) := by
  refine x_metv (cc := cX12_ways) (maxL := 4) WM_adr (by decide +kernel) rfl (Nat.le_of_ble_eq_true rfl) (fun p e s m below meth c Q AS ls hx hb hml hown hts hK hDD hA0 hP hS hl RET => ?_)
  have hown : s.vm.findClass RX12 = some m.cls := hown
  have hl : lv_has ls 4 [(0, .ref (q 0))] := hl
  have hiX12 : ∀ w ∈ u_ws RX12 TX12 85, w ∈ ws_mc_X12_ways := fun w h => List.mem_cons_of_mem _ (wx_lay w h)
  obtain ⟨H, hHe⟩ : ∃ H : Heap, H = s.heap := ⟨_, rfl⟩
  rw [← hHe] at hP
  have hS : va_S AS s.heap H [] := by rw [hHe]; exact hS
  suffices hgo : ∀ locs : List Loc, va_S AS s.heap H locs → W p l e (headSpec ws_mc_X12_ways ({ frames := 3, cells := 0, slots := 0, locals := 67 } : Room)).room s m [.ref (q 0)].toArray below meth c H locs 0 0 Q (F0 m 0 ls []) by
    have := hgo [] hS
    rw [hHe] at this
    exact this
  clear hS hHe
  intro locs hS
  refine lv_iconst (v := iI 0) hx hb (dk_at dkX12_ways_0 0 rfl) (by decide +kernel) ?_
  refine lv_istore_n (lv' := [(1, .int (iI 0)), (0, .ref (q 0))]) hx hb (dk_at dkX12_ways_0 1 rfl) rfl hl (by decide) rfl (fun ls hl => ?_)
  have L2_4 : ∀ (n6 : Nat) (z1 : Int) (A3 : St) (H : Heap) (locs : List Loc) (ls : Array Slot), (0 ≤ z1) → (0 ≤ z1 ∧ z1 ≤ 2147483647) → (∀ (u : St), (∃ mm1 : Nat, (d_X12_ways_1 A u mm1 z1 A3)) → r_X12_ways A u) → ((64 - z1 + 1).toNat = n6) → IM A3 → fr [55] [] A A3 → va_P (dC, dI) vwCl (WM cI cJ cZ q A3) H → va_S AS s.heap H locs → lv_has ls 4 [(1, .int (iI z1)), (0, .ref (q 0))] → W p l e (headSpec ws_mc_X12_ways ({ frames := 3, cells := 0, slots := 0, locals := 67 } : Room)).room s m [.ref (q 0)].toArray below meth c H locs 0 0 Q (F0 m 2 ls []) := by
    intro n6
    induction n6 using Nat.strongRecOn with
    | ind n6 ih5 =>
      intro z1 A3 H locs ls f7 f8 hk1 hn6 hI hj2 hP hS hl
      have gI9 : Hd (IM A3) := Hd.mk hI
      refine lv_iload_n hx hb (dk_at dkX12_ways_0 2 rfl) rfl (lv_at hl 0 rfl) ?_
      refine lv_bipush (v := iI 64) hx hb (dk_at dkX12_ways_0 3 rfl) (by decide +kernel) ?_
      refine lv_icmp_ge (tgt := 38) hx hb (dk_at dkX12_ways_0 4 rfl) (by decide) (fun c10 => ?_) (fun c10 => ?_)
      · have c10 : 64 ≤ z1 := (i_le ⟨by decide, by decide⟩ (rb f8 (by decide) (by decide))).mp c10
        refine lv_iconst (v := iI 0) hx hb (dk_at dkX12_ways_1 5 rfl) (by decide +kernel) ?_
        refine lv_istore_n (lv' := [(1, .int (iI 0)), (0, .ref (q 0))]) hx hb (dk_at dkX12_ways_1 6 rfl) rfl hl (by decide) rfl (fun ls hl => ?_)
        have L40_15 : ∀ (n17 : Nat) (z11 : Int) (A13 : St) (H : Heap) (locs : List Loc) (ls : Array Slot), (0 ≤ z11) → (0 ≤ z11 ∧ z11 ≤ 2147483647) → (∀ (u : St), (∃ mm1 mm2 : Nat, (d_X12_ways_2 A u mm2 z11 A13)) → r_X12_ways A u) → ((A 4 ((A 0 12)).toNat - z11 + 1).toNat = n17) → IM A13 → fr [55] [] A3 A13 → va_P (dC, dI) vwCl (WM cI cJ cZ q A13) H → va_S AS s.heap H locs → lv_has ls 4 [(1, .int (iI z11)), (0, .ref (q 0))] → W p l e (headSpec ws_mc_X12_ways ({ frames := 3, cells := 0, slots := 0, locals := 67 } : Room)).room s m [.ref (q 0)].toArray below meth c H locs 0 0 Q (F0 m 40 ls []) := by
          intro n17
          induction n17 using Nat.strongRecOn with
          | ind n17 ih16 =>
            intro z11 A13 H locs ls f18 f19 hk2 hn17 hI hj12 hP hS hl
            have gI20 : Hd (IM A13) := Hd.mk hI
            refine lv_iload_n hx hb (dk_at dkX12_ways_1 7 rfl) rfl (lv_at hl 0 rfl) ?_
            refine lv_aload_n hx hb (dk_at dkX12_ways_1 8 rfl) rfl (lv_at hl 1 rfl) ?_
            refine va_get (D := (dC, dI)) (ci := 12) (v := .ref (q 4)) (C := RX12) (T := TX12) (N := 85) hx hb hts hiX12 hown hK hP 0 wm0 rfl 15 (by decide) (hts _ (List.mem_cons_of_mem _ wlq_1_13)) (fun _ h9 => h9) rfl (dk_at dkX12_ways_1 9 rfl) ?_
            refine lv_aload_n hx hb (dk_at dkX12_ways_1 10 rfl) rfl (lv_at hl 1 rfl) ?_
            have e_A3_12 : A3 0 12 = (A 0 12) := (hj2.2 12 rfl)
            have e_A13_12 : A13 0 12 = (A 0 12) := (hj12.2 12 rfl).trans e_A3_12
            refine va_get (D := (dC, dI)) (ci := 12) (v := .int (iI (A13 0 12))) (C := RX12) (T := TX12) (N := 85) hx hb hts hiX12 hown hK hP 0 wm0 rfl 12 (by decide) (hts _ (List.mem_cons_of_mem _ wlq_4_14)) (fun _ h9 => h9) rfl (dk_at dkX12_ways_1 11 rfl) ?_
            refine tp_i (y := iI (A 0 12)) (congrArg iI e_A13_12) ?_
            have r_A_0_12 : (0 : Int) ≤ (A 0 12) ∧ (A 0 12) ≤ 1 := by rw [← e_A13_12]; exact hI 0 12
            have a_A3_4 : A3 4 = A 4 := (hj2.1 4 (by decide) rfl)
            have a_A13_4 : A13 4 = A 4 := (hj12.1 4 (by decide) rfl).trans a_A3_4
            refine x_iald hx hb hK hP 4 1 wm4 rfl (by omega) (by decide) (dk_at dkX12_ways_1 12 rfl) (fun z21 hz21 => ?_)
            have rz21 : (0 : Int) ≤ z21 ∧ z21 ≤ 10 := by rw [hz21]; exact hI 4 _
            have gz21 := Hd.mk hz21
            have hz21 : z21 = A 4 ((A 0 12)).toNat := hz21.trans (congrFun a_A13_4 _)
            refine lv_icmp_ge (tgt := 174) hx hb (dk_at dkX12_ways_1 13 rfl) (by decide) (fun c22 => ?_) (fun c22 => ?_)
            · have c22 : z21 ≤ z11 := (i_le (rb rz21 (by decide) (by decide)) (rb f19 (by decide) (by decide))).mp c22
              refine lv_iconst (v := iI 0) hx hb (dk_at dkX12_ways_6 6 rfl) (by decide +kernel) ?_
              refine lv_istore_n (lv' := [(1, .int (iI 0)), (0, .ref (q 0))]) hx hb (dk_at dkX12_ways_6 7 rfl) rfl hl (by decide) rfl (fun ls hl => ?_)
              have L176_26 : ∀ (n28 : Nat) (z23 : Int) (A25 : St) (H : Heap) (locs : List Loc) (ls : Array Slot), (0 ≤ z23) → (0 ≤ z23 ∧ z23 ≤ 2147483647) → (∀ (u : St), (∃ mm1 mm2 mm3 : Nat, (d_X12_ways_3 u mm3 z23 A25)) → r_X12_ways A u) → ((8 - z23 + 1).toNat = n28) → IM A25 → fr [55] [] A13 A25 → va_P (dC, dI) vwCl (WM cI cJ cZ q A25) H → va_S AS s.heap H locs → lv_has ls 4 [(1, .int (iI z23)), (0, .ref (q 0))] → W p l e (headSpec ws_mc_X12_ways ({ frames := 3, cells := 0, slots := 0, locals := 67 } : Room)).room s m [.ref (q 0)].toArray below meth c H locs 0 0 Q (F0 m 176 ls []) := by
                intro n28
                induction n28 using Nat.strongRecOn with
                | ind n28 ih27 =>
                  intro z23 A25 H locs ls f29 f30 hk3 hn28 hI hj24 hP hS hl
                  have gI31 : Hd (IM A25) := Hd.mk hI
                  refine lv_iload_n hx hb (dk_at dkX12_ways_6 8 rfl) rfl (lv_at hl 0 rfl) ?_
                  refine lv_bipush (v := iI 8) hx hb (dk_at dkX12_ways_6 9 rfl) (by decide +kernel) ?_
                  refine lv_icmp_ge (tgt := 258) hx hb (dk_at dkX12_ways_6 10 rfl) (by decide) (fun c32 => ?_) (fun c32 => ?_)
                  · have c32 : 8 ≤ z23 := (i_le ⟨by decide, by decide⟩ (rb f30 (by decide) (by decide))).mp c32
                    exact RET _ _ _ _ _ ⟨hk3 _ ⟨0, 0, 0 + 1, (u_d_X12_ways_3 ⟨gI31.out, ⟨f30, (Or.inl ⟨c32, rfl⟩)⟩⟩)⟩, hI, fr.trans (fr.trans (fr.trans (fr.rf) hj2 rfl rfl) hj12 rfl rfl) hj24 rfl rfl, trivial⟩ hP hS (dk_at dkX12_ways_9 10 rfl)
                  · have c32 : ¬ 8 ≤ z23 := mt (i_le ⟨by decide, by decide⟩ (rb f30 (by decide) (by decide))).mpr c32
                    refine lv_iconst (v := iI 0) hx hb (dk_at dkX12_ways_6 11 rfl) (by decide +kernel) ?_
                    refine lv_istore_n (lv' := [(2, .int (iI 0)), (1, .int (iI z23)), (0, .ref (q 0))]) hx hb (dk_at dkX12_ways_6 12 rfl) rfl hl (by decide) rfl (fun ls hl => ?_)
                    have L184_36 : ∀ (n38 : Nat) (z33 : Int) (A35 : St) (H : Heap) (locs : List Loc) (ls : Array Slot), (0 ≤ z33) → (0 ≤ z33 ∧ z33 ≤ 2147483647) → (∀ (u : St), (∃ mm1 mm2 mm3 mm4 : Nat, (d_X12_ways_4 (fun z23' A25' => d_X12_ways_3 u mm3 z23' A25') z23 u mm4 z33 A35)) → r_X12_ways A u) → ((64 - z33 + 1).toNat = n38) → IM A35 → fr [55] [] A25 A35 → va_P (dC, dI) vwCl (WM cI cJ cZ q A35) H → va_S AS s.heap H locs → lv_has ls 4 [(2, .int (iI z33)), (1, .int (iI z23)), (0, .ref (q 0))] → W p l e (headSpec ws_mc_X12_ways ({ frames := 3, cells := 0, slots := 0, locals := 67 } : Room)).room s m [.ref (q 0)].toArray below meth c H locs 0 0 Q (F0 m 184 ls []) := by
                      intro n38
                      induction n38 using Nat.strongRecOn with
                      | ind n38 ih37 =>
                        intro z33 A35 H locs ls f39 f40 hk4 hn38 hI hj34 hP hS hl
                        have gI41 : Hd (IM A35) := Hd.mk hI
                        refine lv_iload_n hx hb (dk_at dkX12_ways_6 13 rfl) rfl (lv_at hl 0 rfl) ?_
                        refine lv_bipush (v := iI 64) hx hb (dk_at dkX12_ways_6 14 rfl) (by decide +kernel) ?_
                        refine lv_icmp_ge (tgt := 252) hx hb (dk_at dkX12_ways_6 15 rfl) (by decide) (fun c42 => ?_) (fun c42 => ?_)
                        · have c42 : 64 ≤ z33 := (i_le ⟨by decide, by decide⟩ (rb f40 (by decide) (by decide))).mp c42
                          refine lv_iinc (v := iI (z23 + 1)) (lv' := [(1, .int (iI (z23 + 1))), (2, .int (iI z33)), (0, .ref (q 0))]) hx hb (dk_at dkX12_ways_9 8 rfl) hl (k := 1) rfl (i_inc (by omega)) (by decide) rfl (fun ls hl => ?_)
                          refine lv_goto (tgt := 176) hx hb (dk_at dkX12_ways_9 9 rfl) (by decide) ?_
                          exact ih27 _ (by omega) (z23 + 1) _ _ _ _ (by omega) (by omega) (fun uq ⟨mm1, mm2, mm3, hq⟩ => hk4 _ ⟨mm1, mm2, mm3, 0 + 1, (u_d_X12_ways_4 ⟨gI41.out, ⟨f40, (Or.inl ⟨c42, hq⟩)⟩⟩)⟩) rfl hI (fr.trans (fr.trans (fr.rf) hj24 rfl rfl) hj34 rfl rfl) hP hS (lv_sub hl [0, 2] rfl)
                        · have c42 : ¬ 64 ≤ z33 := mt (i_le ⟨by decide, by decide⟩ (rb f40 (by decide) (by decide))).mpr c42
                          refine lv_aload_n hx hb (dk_at dkX12_ways_7 0 rfl) rfl (lv_at hl 2 rfl) ?_
                          refine va_get (D := (dC, dI)) (ci := 12) (v := .ref (q 55)) (C := RX12) (T := TX12) (N := 85) hx hb hts hiX12 hown hK hP 0 wm0 rfl 81 (by decide) (hts _ (List.mem_cons_of_mem _ wlq_8_29)) (fun _ h9 => h9) rfl (dk_at dkX12_ways_7 1 rfl) ?_
                          refine lv_iload_n hx hb (dk_at dkX12_ways_7 2 rfl) rfl (lv_at hl 0 rfl) ?_
                          refine lv_bipush (v := iI 8) hx hb (dk_at dkX12_ways_7 3 rfl) (by decide +kernel) ?_
                          refine x_div hx hb (dk_at dkX12_ways_7 4 rfl) (by omega) (by omega) (fun z43 hz43 hz43b => ?_)
                          refine lv_bipush (v := iI 8) hx hb (dk_at dkX12_ways_7 5 rfl) (by decide +kernel) ?_
                          refine x_mulv (v := 8 * z43) hx hb (dk_at dkX12_ways_7 6 rfl) (by omega) ?_
                          refine lv_iload_n hx hb (dk_at dkX12_ways_7 7 rfl) rfl (lv_at hl 1 rfl) ?_
                          refine x_addv (v := 8 * z43 + z23) hx hb (dk_at dkX12_ways_7 8 rfl) (by omega) ?_
                          refine x_iald hx hb hK hP 55 1 wm55 rfl (by omega) (by decide) (dk_at dkX12_ways_7 9 rfl) (fun z44 hz44 => ?_)
                          have rz44 : (-2147483648 : Int) ≤ z44 ∧ z44 ≤ 2147483647 := by rw [hz44]; exact hI 55 _
                          have gz44 := Hd.mk hz44
                          have hz44 : z44 = A35 55 (8 * z43 + z23).toNat := hz44
                          refine lv_aload_n hx hb (dk_at dkX12_ways_7 10 rfl) rfl (lv_at hl 2 rfl) ?_
                          refine va_get (D := (dC, dI)) (ci := 12) (v := .ref (q 55)) (C := RX12) (T := TX12) (N := 85) hx hb hts hiX12 hown hK hP 0 wm0 rfl 81 (by decide) (hts _ (List.mem_cons_of_mem _ wlq_8_29)) (fun _ h9 => h9) rfl (dk_at dkX12_ways_7 11 rfl) ?_
                          refine lv_bipush (v := iI 8) hx hb (dk_at dkX12_ways_7 12 rfl) (by decide +kernel) ?_
                          refine lv_iload_n hx hb (dk_at dkX12_ways_7 13 rfl) rfl (lv_at hl 1 rfl) ?_
                          refine x_mulv (v := 8 * z23) hx hb (dk_at dkX12_ways_7 14 rfl) (by omega) ?_
                          refine lv_iload_n hx hb (dk_at dkX12_ways_7 15 rfl) rfl (lv_at hl 0 rfl) ?_
                          refine lv_bipush (v := iI 8) hx hb (dk_at dkX12_ways_8 0 rfl) (by decide +kernel) ?_
                          refine x_rem hx hb (dk_at dkX12_ways_8 1 rfl) (by omega) (by omega) (fun z45 hz45 hz45b => ?_)
                          refine x_addv (v := 8 * z23 + z45) hx hb (dk_at dkX12_ways_8 2 rfl) (by omega) ?_
                          refine x_iald hx hb hK hP 55 1 wm55 rfl (by omega) (by decide) (dk_at dkX12_ways_8 3 rfl) (fun z46 hz46 => ?_)
                          have rz46 : (-2147483648 : Int) ≤ z46 ∧ z46 ≤ 2147483647 := by rw [hz46]; exact hI 55 _
                          have gz46 := Hd.mk hz46
                          have hz46 : z46 = A35 55 (8 * z23 + z45).toNat := hz46
                          refine x_addv (v := z44 + z46) hx hb (dk_at dkX12_ways_8 4 rfl) (by omega) ?_
                          refine x_absE (fun z47 gz47 hz47 => ?_)
                          refine lv_istore_n (lv' := [(3, .int (iI z47)), (2, .int (iI z33)), (1, .int (iI z23)), (0, .ref (q 0))]) hx hb (dk_at dkX12_ways_8 5 rfl) rfl hl (by decide) rfl (fun ls hl => ?_)
                          refine lv_aload_n hx hb (dk_at dkX12_ways_8 6 rfl) rfl (lv_at hl 3 rfl) ?_
                          refine va_get (D := (dC, dI)) (ci := 12) (v := .ref (q 55)) (C := RX12) (T := TX12) (N := 85) hx hb hts hiX12 hown hK hP 0 wm0 rfl 81 (by decide) (hts _ (List.mem_cons_of_mem _ wlq_8_29)) (fun _ h9 => h9) rfl (dk_at dkX12_ways_8 7 rfl) ?_
                          refine lv_iload_n hx hb (dk_at dkX12_ways_8 8 rfl) rfl (lv_at hl 1 rfl) ?_
                          refine lv_iload_n hx hb (dk_at dkX12_ways_8 9 rfl) rfl (lv_at hl 0 rfl) ?_
                          refine lv_aload_n hx hb (dk_at dkX12_ways_8 10 rfl) rfl (lv_at hl 3 rfl) ?_
                          refine va_get (D := (dC, dI)) (ci := 12) (v := .ref (q 55)) (C := RX12) (T := TX12) (N := 85) hx hb hts hiX12 hown hK hP 0 wm0 rfl 81 (by decide) (hts _ (List.mem_cons_of_mem _ wlq_8_29)) (fun _ h9 => h9) rfl (dk_at dkX12_ways_8 11 rfl) ?_
                          refine lv_iload_n hx hb (dk_at dkX12_ways_8 12 rfl) rfl (lv_at hl 1 rfl) ?_
                          refine x_iald hx hb hK hP 55 1 wm55 rfl (by omega) (by decide) (dk_at dkX12_ways_8 13 rfl) (fun z48 hz48 => ?_)
                          have rz48 : (-2147483648 : Int) ≤ z48 ∧ z48 ≤ 2147483647 := by rw [hz48]; exact hI 55 _
                          have gz48 := Hd.mk hz48
                          have hz48 : z48 = A35 55 (z33).toNat := hz48
                          have J245_50 : ∀ (z52 : Int) (H : Heap) (locs : List Loc) (ls : Array Slot), (-2147483648 ≤ z52 ∧ z52 ≤ 2147483647) → (∀ (u : St), (∃ mm1 mm2 mm3 mm4 : Nat, (d_X12_ways_5 (fun z33' A35' => d_X12_ways_4 (fun z23' A25' => d_X12_ways_3 u mm3 z23' A25') z23 u mm4 z33' A35') z33 A35 u z52)) → r_X12_ways A u) → va_P (dC, dI) vwCl (WM cI cJ cZ q A35) H → va_S AS s.heap H locs → lv_has ls 4 [(3, .int (iI z47)), (2, .int (iI z33)), (1, .int (iI z23)), (0, .ref (q 0))] → W p l e (headSpec ws_mc_X12_ways ({ frames := 3, cells := 0, slots := 0, locals := 67 } : Room)).room s m [.ref (q 0)].toArray below meth c H locs 0 0 Q (F0 m 245 ls [.int (iI z52), .int (iI z33), .ref (q 55)]) := by
                            intro z52 H locs ls f54 hk5 hP hS hl
                            refine x_iast hx hb hK hP hDD hS 55 1 wm55 rfl (by omega) (by decide) (dk_at dkX12_ways_9 5 rfl) ws55 (fun H locs hP hS => ?_)
                            have hI := hI.st (j := 55) (i := (z33).toNat) (v := z52) (show (-2147483648 : Int) ≤ z52 ∧ z52 ≤ 2147483647 from (by omega))
                            refine lv_iinc (v := iI (z33 + 1)) (lv' := [(2, .int (iI (z33 + 1))), (3, .int (iI z47)), (1, .int (iI z23)), (0, .ref (q 0))]) hx hb (dk_at dkX12_ways_9 6 rfl) hl (k := 1) rfl (i_inc (by omega)) (by decide) rfl (fun ls hl => ?_)
                            refine lv_goto (tgt := 184) hx hb (dk_at dkX12_ways_9 7 rfl) (by decide) ?_
                            obtain ⟨A55, hA55⟩ : ∃ A55 : St, A55 = (stA A35 55 (z33).toNat z52) := ⟨_, rfl⟩
                            rw [← hA55] at hP hI
                            exact ih37 _ (by omega) (z33 + 1) _ _ _ _ (by omega) (by omega) (fun uq ⟨mm1, mm2, mm3, mm4, hq⟩ => hk5 _ ⟨mm1, mm2, mm3, mm4, (u_d_X12_ways_5 ⟨f54, ⟨A55, hA55, hq⟩⟩)⟩) rfl hI (fr_def hA55 (fr.st (fr.trans (fr.rf) hj34 rfl rfl) (by decide) rfl)) hP hS (lv_sub hl [0, 2, 3] rfl)
                          refine lv_icmp_ge (tgt := 239) hx hb (dk_at dkX12_ways_8 14 rfl) (by decide) (fun c49 => ?_) (fun c49 => ?_)
                          · have c49 : z48 ≤ z47 := (i_le rz48 (by omega)).mp c49
                            refine lv_aload_n hx hb (dk_at dkX12_ways_9 1 rfl) rfl (lv_at hl 3 rfl) ?_
                            refine va_get (D := (dC, dI)) (ci := 12) (v := .ref (q 55)) (C := RX12) (T := TX12) (N := 85) hx hb hts hiX12 hown hK hP 0 wm0 rfl 81 (by decide) (hts _ (List.mem_cons_of_mem _ wlq_8_29)) (fun _ h9 => h9) rfl (dk_at dkX12_ways_9 2 rfl) ?_
                            refine lv_iload_n hx hb (dk_at dkX12_ways_9 3 rfl) rfl (lv_at hl 1 rfl) ?_
                            refine x_iald hx hb hK hP 55 1 wm55 rfl (by omega) (by decide) (dk_at dkX12_ways_9 4 rfl) (fun z51 hz51 => ?_)
                            have rz51 : (-2147483648 : Int) ≤ z51 ∧ z51 ≤ 2147483647 := by rw [hz51]; exact hI 55 _
                            have gz51 := Hd.mk hz51
                            have hz51 : z51 = A35 55 (z33).toNat := hz51
                            have ez51 : z51 = z48 := hz51.trans hz48.symm
                            exact J245_50 z51 _ _ _ (by omega) (fun uq ⟨mm1, mm2, mm3, mm4, hq⟩ => hk4 _ ⟨mm1, mm2, mm3, mm4 + 1, (u_d_X12_ways_4 ⟨gI41.out, ⟨f40, (Or.inr ⟨c42, ⟨z43, hz43, ⟨z44, gz44.out, ⟨z45, hz45, ⟨z46, gz46.out, ⟨z47, gz47.out, ⟨z48, gz48.out, (Or.inl ⟨c49, ⟨z51, gz51.out, hq⟩⟩)⟩⟩⟩⟩⟩⟩⟩)⟩⟩)⟩) hP hS (lv_sub hl [0, 1, 2, 3] rfl)
                          · have c49 : ¬ z48 ≤ z47 := mt (i_le rz48 (by omega)).mpr c49
                            refine lv_iload_n hx hb (dk_at dkX12_ways_8 15 rfl) rfl (lv_at hl 0 rfl) ?_
                            refine lv_goto (tgt := 245) hx hb (dk_at dkX12_ways_9 0 rfl) (by decide) ?_
                            exact J245_50 z47 _ _ _ (by omega) (fun uq ⟨mm1, mm2, mm3, mm4, hq⟩ => hk4 _ ⟨mm1, mm2, mm3, mm4 + 1, (u_d_X12_ways_4 ⟨gI41.out, ⟨f40, (Or.inr ⟨c42, ⟨z43, hz43, ⟨z44, gz44.out, ⟨z45, hz45, ⟨z46, gz46.out, ⟨z47, gz47.out, ⟨z48, gz48.out, (Or.inr ⟨c49, hq⟩)⟩⟩⟩⟩⟩⟩⟩)⟩⟩)⟩) hP hS (lv_sub hl [0, 1, 2, 3] rfl)
                    exact L184_36 _ 0 _ _ _ _ (by omega) (by omega) (fun uq ⟨mm1, mm2, mm3, mm4, hq⟩ => hk3 _ ⟨mm1, mm2, mm3 + 1, (u_d_X12_ways_3 ⟨gI31.out, ⟨f30, (Or.inr ⟨c32, ⟨mm4, hq⟩⟩)⟩⟩)⟩) rfl hI (fr.rf) hP hS (lv_sub hl [0, 1, 2] rfl)
              exact L176_26 _ 0 _ _ _ _ (by omega) (by omega) (fun uq ⟨mm1, mm2, mm3, hq⟩ => hk2 _ ⟨mm1, mm2 + 1, (u_d_X12_ways_2 ⟨gI20.out, ⟨f19, ⟨z21, gz21.out, (Or.inl ⟨c22, ⟨mm3, hq⟩⟩)⟩⟩⟩)⟩) rfl hI (fr.rf) hP hS (lv_sub hl [0, 1] rfl)
            · have c22 : ¬ z21 ≤ z11 := mt (i_le (rb rz21 (by decide) (by decide)) (rb f19 (by decide) (by decide))).mpr c22
              refine lv_aload_n hx hb (dk_at dkX12_ways_1 14 rfl) rfl (lv_at hl 1 rfl) ?_
              refine va_get (D := (dC, dI)) (ci := 12) (v := .ref (q 8)) (C := RX12) (T := TX12) (N := 85) hx hb hts hiX12 hown hK hP 0 wm0 rfl 19 (by decide) (hts _ (List.mem_cons_of_mem _ wlq_2_41)) (fun _ h9 => h9) rfl (dk_at dkX12_ways_1 15 rfl) ?_
              refine lv_aload_n hx hb (dk_at dkX12_ways_2 0 rfl) rfl (lv_at hl 1 rfl) ?_
              refine lv_iload_n hx hb (dk_at dkX12_ways_2 1 rfl) rfl (lv_at hl 0 rfl) ?_
              refine x_calli (As := [.int (iI z11)]) (rest := [.ref (q 8)]) ⟨hx, hb, hml, hown, hts⟩ (mc_X12_door10 l dC dI cB cI cJ cZ cQ q _ z11 hI (by omega)) (cwV 1 hts (goodV wlq_4_49 wlq_4_50 wlq_4_51 wlq_0_8 wlq_4_42) rfl rfl rfl (by decide +kernel) ⟨Nat.le_of_ble_eq_true rfl, Nat.le_of_ble_eq_true rfl⟩) hK hDD hA0 hP hS 0 12 wm0 rfl rfl hl.1 (Nat.le_of_ble_eq_true rfl) (dk_at dkX12_ways_2 2 rfl) (fun z56 A57 H locs hw58 hP hS => ?_)
              obtain ⟨rfl, hw58⟩ := hw58
              have ghw58 : q_X12_door10 z11 A13 z56 := hw58
              have hw58 := hw58.2
              refine tp_i (y := iI (10 * (A 0 12) + z11)) (congrArg iI (show z56 = 10 * (A 0 12) + z11 by omega)) ?_
              clear hw58
              have a_A3_8 : A3 8 = A 8 := (hj2.1 8 (by decide) rfl)
              have a_A13_8 : A13 8 = A 8 := (hj12.1 8 (by decide) rfl).trans a_A3_8
              refine x_zald hx hb hK hP 8 3 wm8 rfl (by omega) (by decide) (dk_at dkX12_ways_2 3 rfl) (fun z59 hz59 => ?_)
              have rz59 : (0 : Int) ≤ z59 ∧ z59 ≤ 1 := by rw [hz59]; exact hI 8 _
              have gz59 := Hd.mk hz59
              have hz59 : z59 = A 8 (10 * (A 0 12) + z11).toNat := hz59.trans (congrFun a_A13_8 _)
              have J168_61 : ∀ (A90 : St) (H : Heap) (locs : List Loc) (ls : Array Slot), (∀ (u : St), (∃ mm1 mm2 : Nat, (d_X12_ways_6 (fun z11' A13' => d_X12_ways_2 A u mm2 z11' A13') z11 u A90)) → r_X12_ways A u) → IM A90 → fr [55] [] A13 A90 → va_P (dC, dI) vwCl (WM cI cJ cZ q A90) H → va_S AS s.heap H locs → lv_has ls 4 [(1, .int (iI z11)), (0, .ref (q 0))] → W p l e (headSpec ws_mc_X12_ways ({ frames := 3, cells := 0, slots := 0, locals := 67 } : Room)).room s m [.ref (q 0)].toArray below meth c H locs 0 0 Q (F0 m 168 ls []) := by
                intro A90 H locs ls hk6 hI hj89 hP hS hl
                have gI91 : Hd (IM A90) := Hd.mk hI
                refine lv_iinc (v := iI (z11 + 1)) (lv' := [(1, .int (iI (z11 + 1))), (0, .ref (q 0))]) hx hb (dk_at dkX12_ways_6 4 rfl) hl (k := 0) rfl (i_inc (by omega)) (by decide) rfl (fun ls hl => ?_)
                refine lv_goto (tgt := 40) hx hb (dk_at dkX12_ways_6 5 rfl) (by decide) ?_
                exact ih16 _ (by omega) (z11 + 1) _ _ _ _ (by omega) (by omega) (fun uq ⟨mm1, mm2, hq⟩ => hk6 _ ⟨mm1, mm2, (u_d_X12_ways_6 ⟨gI91.out, hq⟩)⟩) rfl hI (fr.trans (fr.trans (fr.rf) hj12 rfl rfl) hj89 rfl rfl) hP hS (lv_sub hl [0, 1] rfl)
              refine lv_if_ne (tgt := 168) hx hb (dk_at dkX12_ways_2 4 rfl) (by decide) (fun c60 => ?_) (fun c60 => ?_)
              · have c60 : ¬ z59 = 0 := mt (i_eq0 (rb rz59 (by decide) (by decide))).mpr c60
                exact J168_61 _ _ _ _ (fun uq ⟨mm1, mm2, hq⟩ => hk2 _ ⟨mm1, mm2 + 1, (u_d_X12_ways_2 ⟨gI20.out, ⟨f19, ⟨z21, gz21.out, (Or.inr ⟨c22, ⟨z56, ghw58, ⟨z59, gz59.out, (Or.inl ⟨c60, hq⟩)⟩⟩⟩)⟩⟩⟩)⟩) hI (fr.rf) hP hS (lv_sub hl [0, 1] rfl)
              · have c60 : z59 = 0 := (i_eq0 (rb rz59 (by decide) (by decide))).mp c60
                refine lv_aload_n hx hb (dk_at dkX12_ways_2 5 rfl) rfl (lv_at hl 1 rfl) ?_
                refine lv_iload_n hx hb (dk_at dkX12_ways_2 6 rfl) rfl (lv_at hl 0 rfl) ?_
                refine x_calli (As := [.int (iI z11)]) (rest := []) ⟨hx, hb, hml, hown, hts⟩ (mc_X12_isShut l dC dI cB cI cJ cZ cQ q _ z11 hI (by omega)) (cwV 1 hts (goodV wlq_4_57 wlq_4_58 wlq_4_59 wlq_0_8 wlq_4_48) rfl rfl rfl (by decide +kernel) ⟨Nat.le_of_ble_eq_true rfl, Nat.le_of_ble_eq_true rfl⟩) hK hDD hA0 hP hS 0 12 wm0 rfl rfl hl.1 (Nat.le_of_ble_eq_true rfl) (dk_at dkX12_ways_2 7 rfl) (fun z62 A63 H locs hw64 hP hS => ?_)
                obtain ⟨rfl, hw64⟩ := hw64
                have ghw64 : q_X12_isShut z11 A13 z62 := hw64
                have hw64 := hw64.2
                refine lv_if_eq (tgt := 77) hx hb (dk_at dkX12_ways_2 8 rfl) (by decide) (fun c65 => ?_) (fun c65 => ?_)
                · have c65 : z62 = 0 := (i_eq0 (rb hw64 (by decide) (by decide))).mp c65
                  refine lv_aload_n hx hb (dk_at dkX12_ways_2 10 rfl) rfl (lv_at hl 1 rfl) ?_
                  refine va_get (D := (dC, dI)) (ci := 12) (v := .ref (q 6)) (C := RX12) (T := TX12) (N := 85) hx hb hts hiX12 hown hK hP 0 wm0 rfl 17 (by decide) (hts _ (List.mem_cons_of_mem _ wlq_2_39)) (fun _ h9 => h9) rfl (dk_at dkX12_ways_2 11 rfl) ?_
                  refine lv_aload_n hx hb (dk_at dkX12_ways_2 12 rfl) rfl (lv_at hl 1 rfl) ?_
                  refine lv_iload_n hx hb (dk_at dkX12_ways_2 13 rfl) rfl (lv_at hl 0 rfl) ?_
                  refine x_calli (As := [.int (iI z11)]) (rest := [.ref (q 6)]) ⟨hx, hb, hml, hown, hts⟩ (mc_X12_door10 l dC dI cB cI cJ cZ cQ q _ z11 hI (by omega)) (cwV 1 hts (goodV wlq_4_49 wlq_4_50 wlq_4_51 wlq_0_8 wlq_4_42) rfl rfl rfl (by decide +kernel) ⟨Nat.le_of_ble_eq_true rfl, Nat.le_of_ble_eq_true rfl⟩) hK hDD hA0 hP hS 0 12 wm0 rfl rfl hl.1 (Nat.le_of_ble_eq_true rfl) (dk_at dkX12_ways_2 14 rfl) (fun z66 A67 H locs hw68 hP hS => ?_)
                  obtain ⟨rfl, hw68⟩ := hw68
                  have ghw68 : q_X12_door10 z11 A13 z66 := hw68
                  have hw68 := hw68.2
                  refine tp_i (y := iI (10 * (A 0 12) + z11)) (congrArg iI (show z66 = 10 * (A 0 12) + z11 by omega)) ?_
                  clear hw68
                  have a_A3_6 : A3 6 = A 6 := (hj2.1 6 (by decide) rfl)
                  have a_A13_6 : A13 6 = A 6 := (hj12.1 6 (by decide) rfl).trans a_A3_6
                  refine x_iald hx hb hK hP 6 1 wm6 rfl (by omega) (by decide) (dk_at dkX12_ways_2 15 rfl) (fun z69 hz69 => ?_)
                  have rz69 : (0 : Int) ≤ z69 ∧ z69 ≤ 7 := by rw [hz69]; exact hI 6 _
                  have gz69 := Hd.mk hz69
                  have hz69 : z69 = A 6 (10 * (A 0 12) + z11).toNat := hz69.trans (congrFun a_A13_6 _)
                  refine lv_istore_n (lv' := [(2, .int (iI z69)), (1, .int (iI z11)), (0, .ref (q 0))]) hx hb (dk_at dkX12_ways_3 0 rfl) rfl hl (by decide) rfl (fun ls hl => ?_)
                  refine lv_aload_n hx hb (dk_at dkX12_ways_3 1 rfl) rfl (lv_at hl 2 rfl) ?_
                  refine va_get (D := (dC, dI)) (ci := 12) (v := .ref (q 7)) (C := RX12) (T := TX12) (N := 85) hx hb hts hiX12 hown hK hP 0 wm0 rfl 18 (by decide) (hts _ (List.mem_cons_of_mem _ wlq_2_40)) (fun _ h9 => h9) rfl (dk_at dkX12_ways_3 2 rfl) ?_
                  refine lv_aload_n hx hb (dk_at dkX12_ways_3 3 rfl) rfl (lv_at hl 2 rfl) ?_
                  refine lv_iload_n hx hb (dk_at dkX12_ways_3 4 rfl) rfl (lv_at hl 1 rfl) ?_
                  refine x_calli (As := [.int (iI z11)]) (rest := [.ref (q 7)]) ⟨hx, hb, hml, hown, hts⟩ (mc_X12_door10 l dC dI cB cI cJ cZ cQ q _ z11 hI (by omega)) (cwV 1 hts (goodV wlq_4_49 wlq_4_50 wlq_4_51 wlq_0_8 wlq_4_42) rfl rfl rfl (by decide +kernel) ⟨Nat.le_of_ble_eq_true rfl, Nat.le_of_ble_eq_true rfl⟩) hK hDD hA0 hP hS 0 12 wm0 rfl rfl hl.1 (Nat.le_of_ble_eq_true rfl) (dk_at dkX12_ways_3 5 rfl) (fun z70 A71 H locs hw72 hP hS => ?_)
                  obtain ⟨rfl, hw72⟩ := hw72
                  have ghw72 : q_X12_door10 z11 A13 z70 := hw72
                  have hw72 := hw72.2
                  refine tp_i (y := iI (10 * (A 0 12) + z11)) (congrArg iI (show z70 = 10 * (A 0 12) + z11 by omega)) ?_
                  clear hw72
                  have a_A3_7 : A3 7 = A 7 := (hj2.1 7 (by decide) rfl)
                  have a_A13_7 : A13 7 = A 7 := (hj12.1 7 (by decide) rfl).trans a_A3_7
                  refine x_iald hx hb hK hP 7 1 wm7 rfl (by omega) (by decide) (dk_at dkX12_ways_3 6 rfl) (fun z73 hz73 => ?_)
                  have rz73 : (0 : Int) ≤ z73 ∧ z73 ≤ 7 := by rw [hz73]; exact hI 7 _
                  have gz73 := Hd.mk hz73
                  have hz73 : z73 = A 7 (10 * (A 0 12) + z11).toNat := hz73.trans (congrFun a_A13_7 _)
                  refine lv_istore_n (lv' := [(3, .int (iI z73)), (2, .int (iI z69)), (1, .int (iI z11)), (0, .ref (q 0))]) hx hb (dk_at dkX12_ways_3 7 rfl) rfl hl (by decide) rfl (fun ls hl => ?_)
                  refine lv_aload_n hx hb (dk_at dkX12_ways_3 8 rfl) rfl (lv_at hl 3 rfl) ?_
                  refine va_get (D := (dC, dI)) (ci := 12) (v := .ref (q 9)) (C := RX12) (T := TX12) (N := 85) hx hb hts hiX12 hown hK hP 0 wm0 rfl 20 (by decide) (hts _ (List.mem_cons_of_mem _ wlq_2_42)) (fun _ h9 => h9) rfl (dk_at dkX12_ways_3 9 rfl) ?_
                  refine lv_aload_n hx hb (dk_at dkX12_ways_3 10 rfl) rfl (lv_at hl 3 rfl) ?_
                  refine lv_iload_n hx hb (dk_at dkX12_ways_3 11 rfl) rfl (lv_at hl 2 rfl) ?_
                  refine x_calli (As := [.int (iI z11)]) (rest := [.ref (q 9)]) ⟨hx, hb, hml, hown, hts⟩ (mc_X12_door10 l dC dI cB cI cJ cZ cQ q _ z11 hI (by omega)) (cwV 1 hts (goodV wlq_4_49 wlq_4_50 wlq_4_51 wlq_0_8 wlq_4_42) rfl rfl rfl (by decide +kernel) ⟨Nat.le_of_ble_eq_true rfl, Nat.le_of_ble_eq_true rfl⟩) hK hDD hA0 hP hS 0 12 wm0 rfl rfl hl.1 (Nat.le_of_ble_eq_true rfl) (dk_at dkX12_ways_3 12 rfl) (fun z74 A75 H locs hw76 hP hS => ?_)
                  obtain ⟨rfl, hw76⟩ := hw76
                  have ghw76 : q_X12_door10 z11 A13 z74 := hw76
                  have hw76 := hw76.2
                  refine tp_i (y := iI (10 * (A 0 12) + z11)) (congrArg iI (show z74 = 10 * (A 0 12) + z11 by omega)) ?_
                  clear hw76
                  have a_A3_9 : A3 9 = A 9 := (hj2.1 9 (by decide) rfl)
                  have a_A13_9 : A13 9 = A 9 := (hj12.1 9 (by decide) rfl).trans a_A3_9
                  refine x_iald hx hb hK hP 9 1 wm9 rfl (by omega) (by decide) (dk_at dkX12_ways_3 13 rfl) (fun z77 hz77 => ?_)
                  have rz77 : (-2147483648 : Int) ≤ z77 ∧ z77 ≤ 2147483647 := by rw [hz77]; exact hI 9 _
                  have gz77 := Hd.mk hz77
                  have hz77 : z77 = A 9 (10 * (A 0 12) + z11).toNat := hz77.trans (congrFun a_A13_9 _)
                  refine lv_aload_n hx hb (dk_at dkX12_ways_3 14 rfl) rfl (lv_at hl 3 rfl) ?_
                  refine va_get (D := (dC, dI)) (ci := 12) (v := .ref (q 55)) (C := RX12) (T := TX12) (N := 85) hx hb hts hiX12 hown hK hP 0 wm0 rfl 81 (by decide) (hts _ (List.mem_cons_of_mem _ wlq_8_29)) (fun _ h9 => h9) rfl (dk_at dkX12_ways_3 15 rfl) ?_
                  refine lv_bipush (v := iI 8) hx hb (dk_at dkX12_ways_4 0 rfl) (by decide +kernel) ?_
                  refine lv_iload_n hx hb (dk_at dkX12_ways_4 1 rfl) rfl (lv_at hl 1 rfl) ?_
                  refine x_mulv (v := 8 * z69) hx hb (dk_at dkX12_ways_4 2 rfl) (by omega) ?_
                  refine lv_iload_n hx hb (dk_at dkX12_ways_4 3 rfl) rfl (lv_at hl 0 rfl) ?_
                  refine x_addv (v := 8 * z69 + z73) hx hb (dk_at dkX12_ways_4 4 rfl) (by omega) ?_
                  refine x_iald hx hb hK hP 55 1 wm55 rfl (by omega) (by decide) (dk_at dkX12_ways_4 5 rfl) (fun z78 hz78 => ?_)
                  have rz78 : (-2147483648 : Int) ≤ z78 ∧ z78 ≤ 2147483647 := by rw [hz78]; exact hI 55 _
                  have gz78 := Hd.mk hz78
                  have hz78 : z78 = A13 55 (8 * z69 + z73).toNat := hz78
                  refine lv_icmp_lt (tgt := 126) hx hb (dk_at dkX12_ways_4 6 rfl) (by decide) (fun c79 => ?_) (fun c79 => ?_)
                  · have c79 : z77 < z78 := (i_lt rz77 rz78).mp c79
                    refine lv_aload_n hx hb (dk_at dkX12_ways_4 8 rfl) rfl (lv_at hl 3 rfl) ?_
                    refine va_get (D := (dC, dI)) (ci := 12) (v := .ref (q 55)) (C := RX12) (T := TX12) (N := 85) hx hb hts hiX12 hown hK hP 0 wm0 rfl 81 (by decide) (hts _ (List.mem_cons_of_mem _ wlq_8_29)) (fun _ h9 => h9) rfl (dk_at dkX12_ways_4 9 rfl) ?_
                    refine lv_bipush (v := iI 8) hx hb (dk_at dkX12_ways_4 10 rfl) (by decide +kernel) ?_
                    refine lv_iload_n hx hb (dk_at dkX12_ways_4 11 rfl) rfl (lv_at hl 1 rfl) ?_
                    refine x_mulv (v := 8 * z69) hx hb (dk_at dkX12_ways_4 12 rfl) (by omega) ?_
                    refine lv_iload_n hx hb (dk_at dkX12_ways_4 13 rfl) rfl (lv_at hl 0 rfl) ?_
                    refine x_addv (v := 8 * z69 + z73) hx hb (dk_at dkX12_ways_4 14 rfl) (by omega) ?_
                    refine lv_aload_n hx hb (dk_at dkX12_ways_4 15 rfl) rfl (lv_at hl 3 rfl) ?_
                    refine va_get (D := (dC, dI)) (ci := 12) (v := .ref (q 9)) (C := RX12) (T := TX12) (N := 85) hx hb hts hiX12 hown hK hP 0 wm0 rfl 20 (by decide) (hts _ (List.mem_cons_of_mem _ wlq_2_42)) (fun _ h9 => h9) rfl (dk_at dkX12_ways_5 0 rfl) ?_
                    refine lv_aload_n hx hb (dk_at dkX12_ways_5 1 rfl) rfl (lv_at hl 3 rfl) ?_
                    refine lv_iload_n hx hb (dk_at dkX12_ways_5 2 rfl) rfl (lv_at hl 2 rfl) ?_
                    refine x_calli (As := [.int (iI z11)]) (rest := [.ref (q 9), .int (iI (8 * z69 + z73)), .ref (q 55)]) ⟨hx, hb, hml, hown, hts⟩ (mc_X12_door10 l dC dI cB cI cJ cZ cQ q _ z11 hI (by omega)) (cwV 1 hts (goodV wlq_4_49 wlq_4_50 wlq_4_51 wlq_0_8 wlq_4_42) rfl rfl rfl (by decide +kernel) ⟨Nat.le_of_ble_eq_true rfl, Nat.le_of_ble_eq_true rfl⟩) hK hDD hA0 hP hS 0 12 wm0 rfl rfl hl.1 (Nat.le_of_ble_eq_true rfl) (dk_at dkX12_ways_5 3 rfl) (fun z80 A81 H locs hw82 hP hS => ?_)
                    obtain ⟨rfl, hw82⟩ := hw82
                    have ghw82 : q_X12_door10 z11 A13 z80 := hw82
                    have hw82 := hw82.2
                    refine tp_i (y := iI (10 * (A 0 12) + z11)) (congrArg iI (show z80 = 10 * (A 0 12) + z11 by omega)) ?_
                    clear hw82
                    refine x_iald hx hb hK hP 9 1 wm9 rfl (by omega) (by decide) (dk_at dkX12_ways_5 4 rfl) (fun z83 hz83 => ?_)
                    have rz83 : (-2147483648 : Int) ≤ z83 ∧ z83 ≤ 2147483647 := by rw [hz83]; exact hI 9 _
                    have gz83 := Hd.mk hz83
                    have hz83 : z83 = A 9 (10 * (A 0 12) + z11).toNat := hz83.trans (congrFun a_A13_9 _)
                    have ez83 : z83 = z77 := hz83.trans hz77.symm
                    refine x_iast hx hb hK hP hDD hS 55 1 wm55 rfl (by omega) (by decide) (dk_at dkX12_ways_5 5 rfl) ws55 (fun H locs hP hS => ?_)
                    have hI := hI.st (j := 55) (i := (8 * z69 + z73).toNat) (v := z83) (show (-2147483648 : Int) ≤ z83 ∧ z83 ≤ 2147483647 from (by omega))
                    refine lv_aload_n hx hb (dk_at dkX12_ways_5 6 rfl) rfl (lv_at hl 3 rfl) ?_
                    refine va_get (D := (dC, dI)) (ci := 12) (v := .ref (q 55)) (C := RX12) (T := TX12) (N := 85) hx hb hts hiX12 hown hK hP 0 wm0 rfl 81 (by decide) (hts _ (List.mem_cons_of_mem _ wlq_8_29)) (fun _ h9 => h9) rfl (dk_at dkX12_ways_5 7 rfl) ?_
                    refine lv_bipush (v := iI 8) hx hb (dk_at dkX12_ways_5 8 rfl) (by decide +kernel) ?_
                    refine lv_iload_n hx hb (dk_at dkX12_ways_5 9 rfl) rfl (lv_at hl 0 rfl) ?_
                    refine x_mulv (v := 8 * z73) hx hb (dk_at dkX12_ways_5 10 rfl) (by omega) ?_
                    refine lv_iload_n hx hb (dk_at dkX12_ways_5 11 rfl) rfl (lv_at hl 1 rfl) ?_
                    refine x_addv (v := 8 * z73 + z69) hx hb (dk_at dkX12_ways_5 12 rfl) (by omega) ?_
                    refine lv_aload_n hx hb (dk_at dkX12_ways_5 13 rfl) rfl (lv_at hl 3 rfl) ?_
                    refine va_get (D := (dC, dI)) (ci := 12) (v := .ref (q 9)) (C := RX12) (T := TX12) (N := 85) hx hb hts hiX12 hown hK hP 0 wm0 rfl 20 (by decide) (hts _ (List.mem_cons_of_mem _ wlq_2_42)) (fun _ h9 => h9) rfl (dk_at dkX12_ways_5 14 rfl) ?_
                    refine lv_aload_n hx hb (dk_at dkX12_ways_5 15 rfl) rfl (lv_at hl 3 rfl) ?_
                    refine lv_iload_n hx hb (dk_at dkX12_ways_6 0 rfl) rfl (lv_at hl 2 rfl) ?_
                    obtain ⟨A84, hA84⟩ : ∃ A84 : St, A84 = (stA A13 55 (8 * z69 + z73).toNat z83) := ⟨_, rfl⟩
                    rw [← hA84] at hP hI
                    have e_A84_12 : A84 0 12 = (A 0 12) := by rw [hA84]; exact e_A13_12
                    refine x_calli (As := [.int (iI z11)]) (rest := [.ref (q 9), .int (iI (8 * z73 + z69)), .ref (q 55)]) ⟨hx, hb, hml, hown, hts⟩ (mc_X12_door10 l dC dI cB cI cJ cZ cQ q _ z11 hI (by omega)) (cwV 1 hts (goodV wlq_4_49 wlq_4_50 wlq_4_51 wlq_0_8 wlq_4_42) rfl rfl rfl (by decide +kernel) ⟨Nat.le_of_ble_eq_true rfl, Nat.le_of_ble_eq_true rfl⟩) hK hDD hA0 hP hS 0 12 wm0 rfl rfl hl.1 (Nat.le_of_ble_eq_true rfl) (dk_at dkX12_ways_6 1 rfl) (fun z85 A86 H locs hw87 hP hS => ?_)
                    obtain ⟨rfl, hw87⟩ := hw87
                    have ghw87 : q_X12_door10 z11 A84 z85 := hw87
                    have hw87 := hw87.2
                    refine tp_i (y := iI (10 * (A 0 12) + z11)) (congrArg iI (show z85 = 10 * (A 0 12) + z11 by omega)) ?_
                    clear hw87
                    have a_A84_9 : A84 9 = A 9 := by rw [hA84]; exact a_A13_9
                    refine x_iald hx hb hK hP 9 1 wm9 rfl (by omega) (by decide) (dk_at dkX12_ways_6 2 rfl) (fun z88 hz88 => ?_)
                    have rz88 : (-2147483648 : Int) ≤ z88 ∧ z88 ≤ 2147483647 := by rw [hz88]; exact hI 9 _
                    have gz88 := Hd.mk hz88
                    have hz88 : z88 = A 9 (10 * (A 0 12) + z11).toNat := hz88.trans (congrFun a_A84_9 _)
                    have ez88 : z88 = z77 := hz88.trans hz77.symm
                    refine x_iast hx hb hK hP hDD hS 55 1 wm55 rfl (by omega) (by decide) (dk_at dkX12_ways_6 3 rfl) ws55 (fun H locs hP hS => ?_)
                    have hI := hI.st (j := 55) (i := (8 * z73 + z69).toNat) (v := z88) (show (-2147483648 : Int) ≤ z88 ∧ z88 ≤ 2147483647 from (by omega))
                    exact J168_61 _ _ _ _ (fun uq ⟨mm1, mm2, hq⟩ => hk2 _ ⟨mm1, mm2 + 1, (u_d_X12_ways_2 ⟨gI20.out, ⟨f19, ⟨z21, gz21.out, (Or.inr ⟨c22, ⟨z56, ghw58, ⟨z59, gz59.out, (Or.inr ⟨c60, ⟨z62, ghw64, (Or.inl ⟨c65, ⟨z66, ghw68, ⟨z69, gz69.out, ⟨z70, ghw72, ⟨z73, gz73.out, ⟨z74, ghw76, ⟨z77, gz77.out, ⟨z78, gz78.out, (Or.inl ⟨c79, ⟨z80, ghw82, ⟨z83, gz83.out, ⟨A84, hA84, ⟨z85, ghw87, ⟨z88, gz88.out, hq⟩⟩⟩⟩⟩⟩)⟩⟩⟩⟩⟩⟩⟩⟩)⟩⟩)⟩⟩⟩)⟩⟩⟩)⟩) hI (fr.st (fr_def hA84 (fr.st (fr.rf) (by decide) rfl)) (by decide) rfl) hP hS (lv_sub hl [2, 3] rfl)
                  · have c79 : ¬ z77 < z78 := mt (i_lt rz77 rz78).mpr c79
                    refine lv_goto (tgt := 168) hx hb (dk_at dkX12_ways_4 7 rfl) (by decide) ?_
                    exact J168_61 _ _ _ _ (fun uq ⟨mm1, mm2, hq⟩ => hk2 _ ⟨mm1, mm2 + 1, (u_d_X12_ways_2 ⟨gI20.out, ⟨f19, ⟨z21, gz21.out, (Or.inr ⟨c22, ⟨z56, ghw58, ⟨z59, gz59.out, (Or.inr ⟨c60, ⟨z62, ghw64, (Or.inl ⟨c65, ⟨z66, ghw68, ⟨z69, gz69.out, ⟨z70, ghw72, ⟨z73, gz73.out, ⟨z74, ghw76, ⟨z77, gz77.out, ⟨z78, gz78.out, (Or.inr ⟨c79, hq⟩)⟩⟩⟩⟩⟩⟩⟩⟩)⟩⟩)⟩⟩⟩)⟩⟩⟩)⟩) hI (fr.rf) hP hS (lv_sub hl [2, 3] rfl)
                · have c65 : ¬ z62 = 0 := mt (i_eq0 (rb hw64 (by decide) (by decide))).mpr c65
                  refine lv_goto (tgt := 168) hx hb (dk_at dkX12_ways_2 9 rfl) (by decide) ?_
                  exact J168_61 _ _ _ _ (fun uq ⟨mm1, mm2, hq⟩ => hk2 _ ⟨mm1, mm2 + 1, (u_d_X12_ways_2 ⟨gI20.out, ⟨f19, ⟨z21, gz21.out, (Or.inr ⟨c22, ⟨z56, ghw58, ⟨z59, gz59.out, (Or.inr ⟨c60, ⟨z62, ghw64, (Or.inr ⟨c65, hq⟩)⟩⟩)⟩⟩⟩)⟩⟩⟩)⟩) hI (fr.rf) hP hS (lv_sub hl [0, 1] rfl)
        exact L40_15 _ 0 _ _ _ _ (by omega) (by omega) (fun uq ⟨mm1, mm2, hq⟩ => hk1 _ ⟨mm1 + 1, (u_d_X12_ways_1 ⟨gI9.out, ⟨f8, (Or.inl ⟨c10, ⟨mm2, hq⟩⟩)⟩⟩)⟩) rfl hI (fr.rf) hP hS (lv_sub hl [0, 1] rfl)
      · have c10 : ¬ 64 ≤ z1 := mt (i_le ⟨by decide, by decide⟩ (rb f8 (by decide) (by decide))).mpr c10
        refine lv_aload_n hx hb (dk_at dkX12_ways_0 5 rfl) rfl (lv_at hl 1 rfl) ?_
        refine va_get (D := (dC, dI)) (ci := 12) (v := .ref (q 55)) (C := RX12) (T := TX12) (N := 85) hx hb hts hiX12 hown hK hP 0 wm0 rfl 81 (by decide) (hts _ (List.mem_cons_of_mem _ wlq_8_29)) (fun _ h9 => h9) rfl (dk_at dkX12_ways_0 6 rfl) ?_
        refine lv_iload_n hx hb (dk_at dkX12_ways_0 7 rfl) rfl (lv_at hl 0 rfl) ?_
        refine lv_iload_n hx hb (dk_at dkX12_ways_0 8 rfl) rfl (lv_at hl 0 rfl) ?_
        refine lv_bipush (v := iI 8) hx hb (dk_at dkX12_ways_0 9 rfl) (by decide +kernel) ?_
        refine x_div hx hb (dk_at dkX12_ways_0 10 rfl) (by omega) (by omega) (fun z92 hz92 hz92b => ?_)
        refine lv_iload_n hx hb (dk_at dkX12_ways_0 11 rfl) rfl (lv_at hl 0 rfl) ?_
        refine lv_bipush (v := iI 8) hx hb (dk_at dkX12_ways_0 12 rfl) (by decide +kernel) ?_
        refine x_rem hx hb (dk_at dkX12_ways_0 13 rfl) (by omega) (by omega) (fun z93 hz93 hz93b => ?_)
        have J31_95 : ∀ (z96 : Int) (H : Heap) (locs : List Loc) (ls : Array Slot), (0 ≤ z96 ∧ z96 ≤ 1000000) → ((z96 = 1000000 ∧ ¬ z92 = z93) ∨ (z96 = 0 ∧ z92 = z93)) → (∀ (u : St), (∃ mm1 : Nat, (d_X12_ways_7 (fun z1' A3' => d_X12_ways_1 A u mm1 z1' A3') z1 A3 u z96)) → r_X12_ways A u) → va_P (dC, dI) vwCl (WM cI cJ cZ q A3) H → va_S AS s.heap H locs → lv_has ls 4 [(1, .int (iI z1)), (0, .ref (q 0))] → W p l e (headSpec ws_mc_X12_ways ({ frames := 3, cells := 0, slots := 0, locals := 67 } : Room)).room s m [.ref (q 0)].toArray below meth c H locs 0 0 Q (F0 m 31 ls [.int (iI z96), .int (iI z1), .ref (q 55)]) := by
          intro z96 H locs ls f98 f99 hk7 hP hS hl
          refine x_iast hx hb hK hP hDD hS 55 1 wm55 rfl (by omega) (by decide) (dk_at dkX12_ways_1 2 rfl) ws55 (fun H locs hP hS => ?_)
          have hI := hI.st (j := 55) (i := (z1).toNat) (v := z96) (show (-2147483648 : Int) ≤ z96 ∧ z96 ≤ 2147483647 from (by omega))
          refine lv_iinc (v := iI (z1 + 1)) (lv' := [(1, .int (iI (z1 + 1))), (0, .ref (q 0))]) hx hb (dk_at dkX12_ways_1 3 rfl) hl (k := 0) rfl (i_inc (by omega)) (by decide) rfl (fun ls hl => ?_)
          refine lv_goto (tgt := 2) hx hb (dk_at dkX12_ways_1 4 rfl) (by decide) ?_
          obtain ⟨A100, hA100⟩ : ∃ A100 : St, A100 = (stA A3 55 (z1).toNat z96) := ⟨_, rfl⟩
          rw [← hA100] at hP hI
          exact ih5 _ (by omega) (z1 + 1) _ _ _ _ (by omega) (by omega) (fun uq ⟨mm1, hq⟩ => hk7 _ ⟨mm1, (u_d_X12_ways_7 ⟨f98, ⟨A100, hA100, hq⟩⟩)⟩) rfl hI (fr_def hA100 (fr.st (fr.trans (fr.rf) hj2 rfl rfl) (by decide) rfl)) hP hS (lv_sub hl [0, 1] rfl)
        refine lv_icmp_ne (tgt := 28) hx hb (dk_at dkX12_ways_0 14 rfl) (by decide) (fun c94 => ?_) (fun c94 => ?_)
        · have c94 : ¬ z92 = z93 := mt (i_eq (by omega) (by omega)).mpr c94
          refine lv_ldcw (v := 1000000) hx hb hown (hts _ (List.mem_cons_of_mem _ wlq_8_30)) (dk_at dkX12_ways_1 1 rfl) ?_
          refine tp_i (y := iI 1000000) (by decide +kernel) ?_
          exact J31_95 1000000 _ _ _ (by omega) (by omega) (fun uq ⟨mm1, hq⟩ => hk1 _ ⟨mm1 + 1, (u_d_X12_ways_1 ⟨gI9.out, ⟨f8, (Or.inr ⟨c10, ⟨z92, hz92, ⟨z93, hz93, (Or.inl ⟨c94, hq⟩)⟩⟩⟩)⟩⟩)⟩) hP hS (lv_sub hl [0, 1] rfl)
        · have c94 : z92 = z93 := (i_eq (by omega) (by omega)).mp c94
          refine lv_iconst (v := iI 0) hx hb (dk_at dkX12_ways_0 15 rfl) (by decide +kernel) ?_
          refine lv_goto (tgt := 31) hx hb (dk_at dkX12_ways_1 0 rfl) (by decide) ?_
          exact J31_95 0 _ _ _ (by omega) (by omega) (fun uq ⟨mm1, hq⟩ => hk1 _ ⟨mm1 + 1, (u_d_X12_ways_1 ⟨gI9.out, ⟨f8, (Or.inr ⟨c10, ⟨z92, hz92, ⟨z93, hz93, (Or.inr ⟨c94, hq⟩)⟩⟩⟩)⟩⟩)⟩) hP hS (lv_sub hl [0, 1] rfl)
  exact L2_4 _ 0 _ _ _ _ (by omega) (by omega) (fun uq ⟨mm1, hq⟩ => (u_r_X12_ways ⟨mm1, hq⟩)) rfl hI (fr.rf) hP hS (lv_sub hl [0, 1] rfl)

abbrev tr_d_X12_round_7 (K3 : Int → Int → St → Prop) (z39 : Int) (z : Int) (u : St) (z90 : Int) (A92 : St) : Prop := ((IM A92) ∧ ((-2147483648 ≤ z90 ∧ z90 ≤ 2147483647) ∧ (K3 (z39 + 1) z90 A92)))
def d_X12_round_7 (K3 : Int → Int → St → Prop) (z39 : Int) (z : Int) (u : St) (z90 : Int) (A92 : St) : Prop := tr_d_X12_round_7 K3 z39 z u z90 A92
theorem u_d_X12_round_7 {K3 : Int → Int → St → Prop} {z39 : Int} {z : Int} {u : St} {z90 : Int} {A92 : St} (h : tr_d_X12_round_7 K3 z39 z u z90 A92) : d_X12_round_7 K3 z39 z u z90 A92 := h
abbrev tr_d_X12_round_6 (K5 : Int → St → Prop) (z65 : Int) (z : Int) (u : St) (A88 : St) : Prop := ((IM A88) ∧ (K5 (z65 + 1) A88))
def d_X12_round_6 (K5 : Int → St → Prop) (z65 : Int) (z : Int) (u : St) (A88 : St) : Prop := tr_d_X12_round_6 K5 z65 z u A88
theorem u_d_X12_round_6 {K5 : Int → St → Prop} {z65 : Int} {z : Int} {u : St} {A88 : St} (h : tr_d_X12_round_6 K5 z65 z u A88) : d_X12_round_6 K5 z65 z u A88 := h
abbrev tr_d_X12_round_5 (K3 : Int → Int → St → Prop) (z26 : Int) (z39 : Int) (z51 : Int) (z62 : Int) (z : Int) (u : St) (K5 : Int → St → Prop) (z65 : Int) (A67 : St) : Prop := ((IM A67) ∧ ((0 ≤ z65 ∧ z65 ≤ 2147483647) ∧ (((8 ≤ z65) ∧ (d_X12_round_7 K3 z39 z u z62 A67)) ∨ ((¬ 8 ≤ z65) ∧ (∃ z75 : Int, z75 = oShl 1 z65 ∧ (∃ z76 : Int, z76 = oOr z26 z75 ∧ (∃ z77 : Int, z77 = oShr z26 z65 ∧ (∃ z78 : Int, z78 = oAnd z77 1 ∧ (((¬ z78 = 0) ∧ (d_X12_round_6 K5 z65 z u A67)) ∨ ((z78 = 0) ∧ (∃ z81 : Int, z81 = A67 55 (8 * z39 + z65).toNat ∧ (∃ z82 : Int, z82 = oWrap (z51 + z81) ∧ (∃ z83 : Int, z83 = A67 56 (8 * z76 + z65).toNat ∧ (((z83 ≤ z82) ∧ (d_X12_round_6 K5 z65 z u A67)) ∨ ((¬ z83 ≤ z82) ∧ (∃ z85 : Int, z85 = A67 55 (8 * z39 + z65).toNat ∧ (∃ z86 : Int, z86 = oWrap (z51 + z85) ∧ (d_X12_round_6 K5 z65 z u ((stA A67 56 (8 * z76 + z65).toNat z86))))))))))))))))))))
def d_X12_round_5 (K3 : Int → Int → St → Prop) (z26 : Int) (z39 : Int) (z51 : Int) (z62 : Int) (z : Int) (u : St) : Nat → Int → St → Prop
  | 0, _, _ => False
  | nn9 + 1, z65, A67 => tr_d_X12_round_5 K3 z26 z39 z51 z62 z u (fun z65 A67 => d_X12_round_5 K3 z26 z39 z51 z62 z u nn9 z65 A67) z65 A67
theorem u_d_X12_round_5 {K3 : Int → Int → St → Prop} {z26 : Int} {z39 : Int} {z51 : Int} {z62 : Int} {z : Int} {u : St} {nn9 : Nat} {z65 : Int} {A67 : St} (h : tr_d_X12_round_5 K3 z26 z39 z51 z62 z u (fun z65 A67 => d_X12_round_5 K3 z26 z39 z51 z62 z u nn9 z65 A67) z65 A67) : d_X12_round_5 K3 z26 z39 z51 z62 z u (nn9 + 1) z65 A67 := h
abbrev tr_d_X12_round_4 (K3 : Int → Int → St → Prop) (z26 : Int) (z39 : Int) (z51 : Int) (A42 : St) (z : Int) (u : St) (z62 : Int) : Prop := ((-2147483648 ≤ z62 ∧ z62 ≤ 2147483647) ∧ (∃ nn9 : Nat, d_X12_round_5 K3 z26 z39 z51 z62 z u nn9 0 A42))
def d_X12_round_4 (K3 : Int → Int → St → Prop) (z26 : Int) (z39 : Int) (z51 : Int) (A42 : St) (z : Int) (u : St) (z62 : Int) : Prop := tr_d_X12_round_4 K3 z26 z39 z51 A42 z u z62
theorem u_d_X12_round_4 {K3 : Int → Int → St → Prop} {z26 : Int} {z39 : Int} {z51 : Int} {A42 : St} {z : Int} {u : St} {z62 : Int} (h : tr_d_X12_round_4 K3 z26 z39 z51 A42 z u z62) : d_X12_round_4 K3 z26 z39 z51 A42 z u z62 := h
abbrev tr_d_X12_round_3 (K2 : Int → Int → St → Prop) (z8 : Int) (z13 : Int) (z26 : Int) (z : Int) (u : St) (K3 : Int → Int → St → Prop) (z39 : Int) (z40 : Int) (A42 : St) : Prop := ((IM A42) ∧ ((0 ≤ z39 ∧ z39 ≤ 2147483647) ∧ ((-2147483648 ≤ z40 ∧ z40 ≤ 2147483647) ∧ (((8 ≤ z39) ∧ (K2 (z26 + 1) z40 A42)) ∨ ((¬ 8 ≤ z39) ∧ (∃ z51 : Int, z51 = A42 56 (8 * z26 + z39).toNat ∧ (((z51 < 1000000) ∧ (∃ z54 : Int, z54 = oAnd z26 z13 ∧ (((¬ z54 = z13) ∧ (d_X12_round_4 K3 z26 z39 z51 A42 z u z40)) ∨ ((z54 = z13) ∧ (∃ z57 : Int, z57 = A42 55 (8 * z39 + z8).toNat ∧ (∃ z58 : Int, z58 = oWrap (z51 + z57) ∧ (((z40 ≤ z58) ∧ (d_X12_round_4 K3 z26 z39 z51 A42 z u z40)) ∨ ((¬ z40 ≤ z58) ∧ (∃ z60 : Int, z60 = A42 55 (8 * z39 + z8).toNat ∧ (∃ z61 : Int, z61 = oWrap (z51 + z60) ∧ (d_X12_round_4 K3 z26 z39 z51 A42 z u z61))))))))))) ∨ ((¬ z51 < 1000000) ∧ (d_X12_round_7 K3 z39 z u z40 A42)))))))))
def d_X12_round_3 (K2 : Int → Int → St → Prop) (z8 : Int) (z13 : Int) (z26 : Int) (z : Int) (u : St) : Nat → Int → Int → St → Prop
  | 0, _, _, _ => False
  | nn9 + 1, z39, z40, A42 => tr_d_X12_round_3 K2 z8 z13 z26 z u (fun z39 z40 A42 => d_X12_round_3 K2 z8 z13 z26 z u nn9 z39 z40 A42) z39 z40 A42
theorem u_d_X12_round_3 {K2 : Int → Int → St → Prop} {z8 : Int} {z13 : Int} {z26 : Int} {z : Int} {u : St} {nn9 : Nat} {z39 : Int} {z40 : Int} {A42 : St} (h : tr_d_X12_round_3 K2 z8 z13 z26 z u (fun z39 z40 A42 => d_X12_round_3 K2 z8 z13 z26 z u nn9 z39 z40 A42) z39 z40 A42) : d_X12_round_3 K2 z8 z13 z26 z u (nn9 + 1) z39 z40 A42 := h
abbrev tr_d_X12_round_2 (z8 : Int) (z13 : Int) (z : Int) (u : St) (K2 : Int → Int → St → Prop) (z26 : Int) (z27 : Int) (A29 : St) : Prop := ((IM A29) ∧ ((0 ≤ z26 ∧ z26 ≤ 2147483647) ∧ ((-2147483648 ≤ z27 ∧ z27 ≤ 2147483647) ∧ (((256 ≤ z26) ∧ (((z27 < 1000000) ∧ (z = z27 ∧ u = A29)) ∨ ((¬ z27 < 1000000) ∧ (z = (-1) ∧ u = A29)))) ∨ ((¬ 256 ≤ z26) ∧ (∃ nn9 : Nat, d_X12_round_3 K2 z8 z13 z26 z u nn9 0 z27 A29))))))
def d_X12_round_2 (z8 : Int) (z13 : Int) (z : Int) (u : St) : Nat → Int → Int → St → Prop
  | 0, _, _, _ => False
  | nn9 + 1, z26, z27, A29 => tr_d_X12_round_2 z8 z13 z u (fun z26 z27 A29 => d_X12_round_2 z8 z13 z u nn9 z26 z27 A29) z26 z27 A29
theorem u_d_X12_round_2 {z8 : Int} {z13 : Int} {z : Int} {u : St} {nn9 : Nat} {z26 : Int} {z27 : Int} {A29 : St} (h : tr_d_X12_round_2 z8 z13 z u (fun z26 z27 A29 => d_X12_round_2 z8 z13 z u nn9 z26 z27 A29) z26 z27 A29) : d_X12_round_2 z8 z13 z u (nn9 + 1) z26 z27 A29 := h
abbrev tr_d_X12_round_1 (z8 : Int) (z13 : Int) (z : Int) (u : St) (K1 : Int → St → Prop) (z14 : Int) (A16 : St) : Prop := ((IM A16) ∧ ((0 ≤ z14 ∧ z14 ≤ 2147483647) ∧ (((2048 ≤ z14) ∧ (∃ z24 : Int, z24 = oShl 1 z8 ∧ (∃ A25 : St, A25 = (stA A16 56 (8 * z24 + z8).toNat 0) ∧ (∃ nn9 : Nat, d_X12_round_2 z8 z13 z u nn9 0 1000000 A25)))) ∨ ((¬ 2048 ≤ z14) ∧ (∃ A95 : St, A95 = (stA A16 56 (z14).toNat 1000000) ∧ (K1 (z14 + 1) A95))))))
def d_X12_round_1 (z8 : Int) (z13 : Int) (z : Int) (u : St) : Nat → Int → St → Prop
  | 0, _, _ => False
  | nn9 + 1, z14, A16 => tr_d_X12_round_1 z8 z13 z u (fun z14 A16 => d_X12_round_1 z8 z13 z u nn9 z14 A16) z14 A16
theorem u_d_X12_round_1 {z8 : Int} {z13 : Int} {z : Int} {u : St} {nn9 : Nat} {z14 : Int} {A16 : St} (h : tr_d_X12_round_1 z8 z13 z u (fun z14 A16 => d_X12_round_1 z8 z13 z u nn9 z14 A16) z14 A16) : d_X12_round_1 z8 z13 z u (nn9 + 1) z14 A16 := h
abbrev tr_r_X12_round (x1 : Int) (x2 : Int) (A : St) (z : Int) (u : St) : Prop := (∃ z1 : Int, q_X12_isPerson x1 A z1 ∧ (((¬ z1 = 0) ∧ (∃ A5 : St, q_X12_ways A A5 ∧ (∃ z8 : Int, q_X12_placeOf x1 A5 z8 ∧ (∃ z11 : Int, z11 = A5 2 ((A 0 12)).toNat ∧ (∃ z12 : Int, z12 = oShl 1 z11 ∧ (∃ z13 : Int, z13 = oAnd x2 (z12 - 1) ∧ (∃ nn9 : Nat, d_X12_round_1 z8 z13 z u nn9 0 A5))))))) ∨ ((z1 = 0) ∧ (z = (-1) ∧ u = A))))
def r_X12_round (x1 : Int) (x2 : Int) (A : St) (z : Int) (u : St) : Prop := tr_r_X12_round x1 x2 A z u
theorem u_r_X12_round {x1 : Int} {x2 : Int} {A : St} {z : Int} {u : St} (h : tr_r_X12_round x1 x2 A z u) : r_X12_round x1 x2 A z u := h
def ws_mc_X12_round : List Cond := .code yX12_round cX12_round 11 (some .int) :: WX
set_option maxHeartbeats 4000000 in
set_option maxRecDepth 100000 in
theorem mc_X12_round (l : Launch) (dC : Nat → ClassId) (dI : Nat → Nat → Nat) (cB cI cJ cZ cQ : ClassId) (q : Nat → Nat) (A : St) (x1 x2 : Int) (hI : IM A) (hx1 : (-2147483648 : Int) ≤ x1 ∧ x1 ≤ 2147483647) (hx2 : (-2147483648 : Int) ≤ x2 ∧ x2 ≤ 2147483647) : XMi l yX12_round ws_mc_X12_round ({ frames := 4, cells := 0, slots := 0, locals := 90 } : Room) (dC, dI) (tyA cB cI cJ cZ cQ) (WM cI cJ cZ q) A [.ref (q 0), .int (iI x1), .int (iI x2)] (fun z u => r_X12_round x1 x2 A z u ∧ IM u ∧ fr [55, 56] [] A u ∧ (-2147483648 ≤ z ∧ z ≤ 2147483647)) := by
  refine x_meti (cc := cX12_round) (maxL := 11) WM_adr (by decide +kernel) rfl (Nat.le_of_ble_eq_true rfl) (fun p e s m below meth c Q AS ls hx hb hml hown hts hK hDD hA0 hP hS hl RET => ?_)
  have hown : s.vm.findClass RX12 = some m.cls := hown
  have hl : lv_has ls 11 [(0, .ref (q 0)), (1, .int (iI x1)), (2, .int (iI x2))] := hl
  have hiX12 : ∀ w ∈ u_ws RX12 TX12 85, w ∈ ws_mc_X12_round := fun w h => List.mem_cons_of_mem _ (wx_lay w h)
  obtain ⟨H, hHe⟩ : ∃ H : Heap, H = s.heap := ⟨_, rfl⟩
  rw [← hHe] at hP
  have hS : va_S AS s.heap H [] := by rw [hHe]; exact hS
  suffices hgo : ∀ locs : List Loc, va_S AS s.heap H locs → W p l e (headSpec ws_mc_X12_round ({ frames := 4, cells := 0, slots := 0, locals := 90 } : Room)).room s m [.ref (q 0), .int (iI x1), .int (iI x2)].toArray below meth c H locs 0 0 Q (F0 m 0 ls []) by
    have := hgo [] hS
    rw [hHe] at this
    exact this
  clear hS hHe
  intro locs hS
  refine lv_aload_n hx hb (dk_at dkX12_round_0 0 rfl) rfl (lv_at hl 0 rfl) ?_
  refine lv_iload_n hx hb (dk_at dkX12_round_0 1 rfl) rfl (lv_at hl 1 rfl) ?_
  have r_A_0_12 : (0 : Int) ≤ (A 0 12) ∧ (A 0 12) ≤ 1 := hI 0 12
  refine x_calli (As := [.int (iI x1)]) (rest := []) ⟨hx, hb, hml, hown, hts⟩ (mc_X12_isPersonB l dC dI cB cI cJ cZ cQ q _ x1 hI hx1) (cwV 1 hts (goodV wlq_5_55 wlq_5_56 wlq_5_57 wlq_0_8 wlq_4_40) rfl rfl rfl (by decide +kernel) ⟨Nat.le_of_ble_eq_true rfl, Nat.le_of_ble_eq_true rfl⟩) hK hDD hA0 hP hS 0 12 wm0 rfl rfl hl.1 (Nat.le_of_ble_eq_true rfl) (dk_at dkX12_round_0 2 rfl) (fun z1 A2 H locs hw3 hP hS => ?_)
  obtain ⟨rfl, hw3⟩ := hw3
  have ghw3 : q_X12_isPerson x1 A z1 := hw3
  have hw3 := hw3.2
  have rz1 : 0 ≤ z1 ∧ z1 ≤ 1 := hw3.1
  refine lv_if_ne (tgt := 10) hx hb (dk_at dkX12_round_0 3 rfl) (by decide) (fun c4 => ?_) (fun c4 => ?_)
  · have c4 : ¬ z1 = 0 := mt (i_eq0 (rb rz1 (by decide) (by decide))).mpr c4
    have hw3b := hw3.2.mp (by omega)
    clear hw3
    refine lv_aload_n hx hb (dk_at dkX12_round_0 6 rfl) rfl (lv_at hl 0 rfl) ?_
    refine x_callv (As := []) (rest := []) ⟨hx, hb, hml, hown, hts⟩ (mc_X12_ways l dC dI cB cI cJ cZ cQ q _ hI) (cwV 0 hts (goodV wlq_8_33 wlq_8_34 wlq_8_35 wlq_0_8 wlq_8_28) rfl rfl rfl (by decide +kernel) ⟨Nat.le_of_ble_eq_true rfl, Nat.le_of_ble_eq_true rfl⟩) hK hDD hA0 hP hS 0 12 wm0 rfl rfl hl.1 (Nat.le_of_ble_eq_true rfl) (dk_at dkX12_round_0 7 rfl) (fun A5 H locs hw6 hP hS => ?_)
    have ghw6 : q_X12_ways A A5 := hw6
    obtain ⟨_, hI, hf7, hw6⟩ := hw6
    clear hw6
    refine lv_aload_n hx hb (dk_at dkX12_round_0 8 rfl) rfl (lv_at hl 0 rfl) ?_
    refine lv_iload_n hx hb (dk_at dkX12_round_0 9 rfl) rfl (lv_at hl 1 rfl) ?_
    refine x_calli (As := [.int (iI x1)]) (rest := []) ⟨hx, hb, hml, hown, hts⟩ (mc_X12_placeOf l dC dI cB cI cJ cZ cQ q _ x1 hI (by omega)) (cwV 1 hts (goodV wlq_5_35 wlq_5_36 wlq_5_37 wlq_0_8 wlq_5_25) rfl rfl rfl (by decide +kernel) ⟨Nat.le_of_ble_eq_true rfl, Nat.le_of_ble_eq_true rfl⟩) hK hDD hA0 hP hS 0 12 wm0 rfl rfl hl.1 (Nat.le_of_ble_eq_true rfl) (dk_at dkX12_round_0 10 rfl) (fun z8 A9 H locs hw10 hP hS => ?_)
    obtain ⟨rfl, hw10⟩ := hw10
    have ghw10 : q_X12_placeOf x1 A5 z8 := hw10
    have hw10 := hw10.2
    refine lv_istore_n (lv' := [(3, .int (iI z8)), (0, .ref (q 0)), (1, .int (iI x1)), (2, .int (iI x2))]) hx hb (dk_at dkX12_round_0 11 rfl) rfl hl (by decide) rfl (fun ls hl => ?_)
    refine lv_iload_n hx hb (dk_at dkX12_round_0 12 rfl) rfl (lv_at hl 3 rfl) ?_
    refine lv_iconst (v := iI 1) hx hb (dk_at dkX12_round_0 13 rfl) (by decide +kernel) ?_
    refine lv_aload_n hx hb (dk_at dkX12_round_0 14 rfl) rfl (lv_at hl 1 rfl) ?_
    refine va_get (D := (dC, dI)) (ci := 12) (v := .ref (q 2)) (C := RX12) (T := TX12) (N := 85) hx hb hts hiX12 hown hK hP 0 wm0 rfl 13 (by decide) (hts _ (List.mem_cons_of_mem _ wlq_1_11)) (fun _ h9 => h9) rfl (dk_at dkX12_round_0 15 rfl) ?_
    refine lv_aload_n hx hb (dk_at dkX12_round_1 0 rfl) rfl (lv_at hl 1 rfl) ?_
    have e_A5_12 : A5 0 12 = (A 0 12) := (hf7.2 12 rfl)
    refine va_get (D := (dC, dI)) (ci := 12) (v := .int (iI (A5 0 12))) (C := RX12) (T := TX12) (N := 85) hx hb hts hiX12 hown hK hP 0 wm0 rfl 12 (by decide) (hts _ (List.mem_cons_of_mem _ wlq_4_14)) (fun _ h9 => h9) rfl (dk_at dkX12_round_1 1 rfl) ?_
    refine tp_i (y := iI (A 0 12)) (congrArg iI e_A5_12) ?_
    have a_A5_2 : A5 2 = A 2 := (hf7.1 2 (by decide) rfl)
    refine x_iald hx hb hK hP 2 1 wm2 rfl (by omega) (by decide) (dk_at dkX12_round_1 2 rfl) (fun z11 hz11 => ?_)
    have rz11 : (0 : Int) ≤ z11 ∧ z11 ≤ 8 := by rw [hz11]; exact hI 2 _
    have gz11 := Hd.mk hz11
    have hz11 : z11 = A 2 ((A 0 12)).toNat := hz11.trans (congrFun a_A5_2 _)
    refine x_shl1E (M := 8) (t := 256) hx hb (dk_at dkX12_round_1 3 rfl) (by omega) (by decide) (by decide) (fun z12 gz12 hz12 => ?_)
    refine lv_iconst (v := iI 1) hx hb (dk_at dkX12_round_1 4 rfl) (by decide +kernel) ?_
    refine x_subv (v := z12 - 1) hx hb (dk_at dkX12_round_1 5 rfl) (by omega) ?_
    refine lv_iand hx hb (dk_at dkX12_round_1 6 rfl) ?_
    refine x_absE (fun z13 gz13 hz13 => ?_)
    refine lv_istore (lv' := [(4, .int (iI z13)), (3, .int (iI z8)), (0, .ref (q 0)), (1, .int (iI x1)), (2, .int (iI x2))]) hx hb (dk_at dkX12_round_1 7 rfl) hl (by decide) rfl (fun ls hl => ?_)
    refine lv_iconst (v := iI 0) hx hb (dk_at dkX12_round_1 8 rfl) (by decide +kernel) ?_
    refine lv_istore (lv' := [(5, .int (iI 0)), (4, .int (iI z13)), (3, .int (iI z8)), (0, .ref (q 0)), (1, .int (iI x1)), (2, .int (iI x2))]) hx hb (dk_at dkX12_round_1 9 rfl) hl (by decide) rfl (fun ls hl => ?_)
    have L40_17 : ∀ (n19 : Nat) (z14 : Int) (A16 : St) (H : Heap) (locs : List Loc) (ls : Array Slot), (0 ≤ z14) → (0 ≤ z14 ∧ z14 ≤ 2147483647) → (∀ (z : Int) (u : St), (∃ mm1 : Nat, (d_X12_round_1 z8 z13 z u mm1 z14 A16)) → r_X12_round x1 x2 A z u) → ((2048 - z14 + 1).toNat = n19) → IM A16 → fr [56] [] A5 A16 → va_P (dC, dI) vwCl (WM cI cJ cZ q A16) H → va_S AS s.heap H locs → lv_has ls 11 [(5, .int (iI z14)), (4, .int (iI z13)), (3, .int (iI z8)), (0, .ref (q 0)), (1, .int (iI x1)), (2, .int (iI x2))] → W p l e (headSpec ws_mc_X12_round ({ frames := 4, cells := 0, slots := 0, locals := 90 } : Room)).room s m [.ref (q 0), .int (iI x1), .int (iI x2)].toArray below meth c H locs 0 0 Q (F0 m 40 ls []) := by
      intro n19
      induction n19 using Nat.strongRecOn with
      | ind n19 ih18 =>
        intro z14 A16 H locs ls f20 f21 hk1 hn19 hI hj15 hP hS hl
        have gI22 : Hd (IM A16) := Hd.mk hI
        refine lv_iload hx hb (dk_at dkX12_round_1 10 rfl) (lv_at hl 0 rfl) ?_
        refine lv_sipush (v := iI 2048) hx hb (dk_at dkX12_round_1 11 rfl) (by decide +kernel) ?_
        refine lv_icmp_ge (tgt := 64) hx hb (dk_at dkX12_round_1 12 rfl) (by decide) (fun c23 => ?_) (fun c23 => ?_)
        · have c23 : 2048 ≤ z14 := (i_le ⟨by decide, by decide⟩ (rb f21 (by decide) (by decide))).mp c23
          refine lv_aload_n hx hb (dk_at dkX12_round_2 4 rfl) rfl (lv_at hl 3 rfl) ?_
          refine va_get (D := (dC, dI)) (ci := 12) (v := .ref (q 56)) (C := RX12) (T := TX12) (N := 85) hx hb hts hiX12 hown hK hP 0 wm0 rfl 82 (by decide) (hts _ (List.mem_cons_of_mem _ wlq_8_32)) (fun _ h9 => h9) rfl (dk_at dkX12_round_2 5 rfl) ?_
          refine lv_bipush (v := iI 8) hx hb (dk_at dkX12_round_2 6 rfl) (by decide +kernel) ?_
          refine lv_iconst (v := iI 1) hx hb (dk_at dkX12_round_2 7 rfl) (by decide +kernel) ?_
          refine lv_iload_n hx hb (dk_at dkX12_round_2 8 rfl) rfl (lv_at hl 2 rfl) ?_
          refine x_shl1E (M := 7) (t := 128) hx hb (dk_at dkX12_round_2 9 rfl) (by omega) (by decide) (by decide) (fun z24 gz24 hz24 => ?_)
          refine x_mulv (v := 8 * z24) hx hb (dk_at dkX12_round_2 10 rfl) (by omega) ?_
          refine lv_iload_n hx hb (dk_at dkX12_round_2 11 rfl) rfl (lv_at hl 2 rfl) ?_
          refine x_addv (v := 8 * z24 + z8) hx hb (dk_at dkX12_round_2 12 rfl) (by omega) ?_
          refine lv_iconst (v := iI 0) hx hb (dk_at dkX12_round_2 13 rfl) (by decide +kernel) ?_
          refine x_iast hx hb hK hP hDD hS 56 1 wm56 rfl (by omega) (by decide) (dk_at dkX12_round_2 14 rfl) ws56 (fun H locs hP hS => ?_)
          have hI := hI.st (j := 56) (i := (8 * z24 + z8).toNat) (v := 0) (show (-2147483648 : Int) ≤ 0 ∧ 0 ≤ 2147483647 from (by omega))
          refine lv_ldcw (v := 1000000) hx hb hown (hts _ (List.mem_cons_of_mem _ wlq_8_30)) (dk_at dkX12_round_2 15 rfl) ?_
          refine tp_i (y := iI 1000000) (by decide +kernel) ?_
          refine lv_istore (lv' := [(5, .int (iI 1000000)), (4, .int (iI z13)), (3, .int (iI z8)), (0, .ref (q 0)), (1, .int (iI x1)), (2, .int (iI x2))]) hx hb (dk_at dkX12_round_3 0 rfl) hl (by decide) rfl (fun ls hl => ?_)
          refine lv_iconst (v := iI 0) hx hb (dk_at dkX12_round_3 1 rfl) (by decide +kernel) ?_
          refine lv_istore (lv' := [(6, .int (iI 0)), (5, .int (iI 1000000)), (4, .int (iI z13)), (3, .int (iI z8)), (0, .ref (q 0)), (1, .int (iI x1)), (2, .int (iI x2))]) hx hb (dk_at dkX12_round_3 2 rfl) hl (by decide) rfl (fun ls hl => ?_)
          obtain ⟨A25, hA25⟩ : ∃ A25 : St, A25 = (stA A16 56 (8 * z24 + z8).toNat 0) := ⟨_, rfl⟩
          rw [← hA25] at hP hI
          have L86_30 : ∀ (n32 : Nat) (z26 z27 : Int) (A29 : St) (H : Heap) (locs : List Loc) (ls : Array Slot), (0 ≤ z26) → (0 ≤ z26 ∧ z26 ≤ 2147483647) → (-2147483648 ≤ z27 ∧ z27 ≤ 2147483647) → (∀ (z : Int) (u : St), (∃ mm1 mm2 : Nat, (d_X12_round_2 z8 z13 z u mm2 z26 z27 A29)) → r_X12_round x1 x2 A z u) → ((256 - z26 + 1).toNat = n32) → IM A29 → fr [56] [] A25 A29 → va_P (dC, dI) vwCl (WM cI cJ cZ q A29) H → va_S AS s.heap H locs → lv_has ls 11 [(6, .int (iI z26)), (5, .int (iI z27)), (4, .int (iI z13)), (3, .int (iI z8)), (0, .ref (q 0)), (1, .int (iI x1)), (2, .int (iI x2))] → W p l e (headSpec ws_mc_X12_round ({ frames := 4, cells := 0, slots := 0, locals := 90 } : Room)).room s m [.ref (q 0), .int (iI x1), .int (iI x2)].toArray below meth c H locs 0 0 Q (F0 m 86 ls []) := by
            intro n32
            induction n32 using Nat.strongRecOn with
            | ind n32 ih31 =>
              intro z26 z27 A29 H locs ls f33 f34 f35 hk2 hn32 hI hj28 hP hS hl
              have gI36 : Hd (IM A29) := Hd.mk hI
              refine lv_iload hx hb (dk_at dkX12_round_3 3 rfl) (lv_at hl 0 rfl) ?_
              refine lv_sipush (v := iI 256) hx hb (dk_at dkX12_round_3 4 rfl) (by decide +kernel) ?_
              refine lv_icmp_ge (tgt := 279) hx hb (dk_at dkX12_round_3 5 rfl) (by decide) (fun c37 => ?_) (fun c37 => ?_)
              · have c37 : 256 ≤ z26 := (i_le ⟨by decide, by decide⟩ (rb f34 (by decide) (by decide))).mp c37
                refine lv_iload hx hb (dk_at dkX12_round_9 12 rfl) (lv_at hl 1 rfl) ?_
                refine lv_ldcw (v := 1000000) hx hb hown (hts _ (List.mem_cons_of_mem _ wlq_8_30)) (dk_at dkX12_round_9 13 rfl) ?_
                refine tp_i (y := iI 1000000) (by decide +kernel) ?_
                refine lv_icmp_lt (tgt := 291) hx hb (dk_at dkX12_round_9 14 rfl) (by decide) (fun c38 => ?_) (fun c38 => ?_)
                · have c38 : z27 < 1000000 := (i_lt f35 ⟨by decide, by decide⟩).mp c38
                  refine lv_iload hx hb (dk_at dkX12_round_10 1 rfl) (lv_at hl 1 rfl) ?_
                  exact RET z27 _ _ _ _ _ ⟨hk2 _ _ ⟨0, 0 + 1, (u_d_X12_round_2 ⟨gI36.out, ⟨f34, ⟨f35, (Or.inl ⟨c37, (Or.inl ⟨c38, ⟨rfl, rfl⟩⟩)⟩)⟩⟩⟩)⟩, hI, fr.trans (fr_def hA25 (fr.st (fr.trans (fr.trans (fr.rf) hf7 rfl rfl) hj15 rfl rfl) (by decide) rfl)) hj28 rfl rfl, by omega⟩ hP hS (dk_at dkX12_round_10 2 rfl)
                · have c38 : ¬ z27 < 1000000 := mt (i_lt f35 ⟨by decide, by decide⟩).mpr c38
                  refine lv_iconst (v := iI (-1)) hx hb (dk_at dkX12_round_9 15 rfl) (by decide +kernel) ?_
                  refine lv_goto (tgt := 293) hx hb (dk_at dkX12_round_10 0 rfl) (by decide) ?_
                  exact RET (-1) _ _ _ _ _ ⟨hk2 _ _ ⟨0, 0 + 1, (u_d_X12_round_2 ⟨gI36.out, ⟨f34, ⟨f35, (Or.inl ⟨c37, (Or.inr ⟨c38, ⟨rfl, rfl⟩⟩)⟩)⟩⟩⟩)⟩, hI, fr.trans (fr_def hA25 (fr.st (fr.trans (fr.trans (fr.rf) hf7 rfl rfl) hj15 rfl rfl) (by decide) rfl)) hj28 rfl rfl, by omega⟩ hP hS (dk_at dkX12_round_10 2 rfl)
              · have c37 : ¬ 256 ≤ z26 := mt (i_le ⟨by decide, by decide⟩ (rb f34 (by decide) (by decide))).mpr c37
                refine lv_iconst (v := iI 0) hx hb (dk_at dkX12_round_3 6 rfl) (by decide +kernel) ?_
                refine lv_istore (lv' := [(7, .int (iI 0)), (6, .int (iI z26)), (5, .int (iI z27)), (4, .int (iI z13)), (3, .int (iI z8)), (0, .ref (q 0)), (1, .int (iI x1)), (2, .int (iI x2))]) hx hb (dk_at dkX12_round_3 7 rfl) hl (by decide) rfl (fun ls hl => ?_)
                have L97_43 : ∀ (n45 : Nat) (z39 z40 : Int) (A42 : St) (H : Heap) (locs : List Loc) (ls : Array Slot), (0 ≤ z39) → (0 ≤ z39 ∧ z39 ≤ 2147483647) → (-2147483648 ≤ z40 ∧ z40 ≤ 2147483647) → (∀ (z : Int) (u : St), (∃ mm1 mm2 mm3 : Nat, (d_X12_round_3 (fun z26' z27' A29' => d_X12_round_2 z8 z13 z u mm2 z26' z27' A29') z8 z13 z26 z u mm3 z39 z40 A42)) → r_X12_round x1 x2 A z u) → ((8 - z39 + 1).toNat = n45) → IM A42 → fr [56] [] A29 A42 → va_P (dC, dI) vwCl (WM cI cJ cZ q A42) H → va_S AS s.heap H locs → lv_has ls 11 [(7, .int (iI z39)), (6, .int (iI z26)), (5, .int (iI z40)), (4, .int (iI z13)), (3, .int (iI z8)), (0, .ref (q 0)), (1, .int (iI x1)), (2, .int (iI x2))] → W p l e (headSpec ws_mc_X12_round ({ frames := 4, cells := 0, slots := 0, locals := 90 } : Room)).room s m [.ref (q 0), .int (iI x1), .int (iI x2)].toArray below meth c H locs 0 0 Q (F0 m 97 ls []) := by
                  intro n45
                  induction n45 using Nat.strongRecOn with
                  | ind n45 ih44 =>
                    intro z39 z40 A42 H locs ls f46 f47 f48 hk3 hn45 hI hj41 hP hS hl
                    have gI49 : Hd (IM A42) := Hd.mk hI
                    refine lv_iload hx hb (dk_at dkX12_round_3 8 rfl) (lv_at hl 0 rfl) ?_
                    refine lv_bipush (v := iI 8) hx hb (dk_at dkX12_round_3 9 rfl) (by decide +kernel) ?_
                    refine lv_icmp_ge (tgt := 273) hx hb (dk_at dkX12_round_3 10 rfl) (by decide) (fun c50 => ?_) (fun c50 => ?_)
                    · have c50 : 8 ≤ z39 := (i_le ⟨by decide, by decide⟩ (rb f47 (by decide) (by decide))).mp c50
                      refine lv_iinc (v := iI (z26 + 1)) (lv' := [(6, .int (iI (z26 + 1))), (7, .int (iI z39)), (5, .int (iI z40)), (4, .int (iI z13)), (3, .int (iI z8)), (0, .ref (q 0)), (1, .int (iI x1)), (2, .int (iI x2))]) hx hb (dk_at dkX12_round_9 10 rfl) hl (k := 1) rfl (i_inc (by omega)) (by decide) rfl (fun ls hl => ?_)
                      refine lv_goto (tgt := 86) hx hb (dk_at dkX12_round_9 11 rfl) (by decide) ?_
                      exact ih31 _ (by omega) (z26 + 1) z40 _ _ _ _ (by omega) (by omega) (by omega) (fun zq uq ⟨mm1, mm2, hq⟩ => hk3 _ _ ⟨mm1, mm2, 0 + 1, (u_d_X12_round_3 ⟨gI49.out, ⟨f47, ⟨f48, (Or.inl ⟨c50, hq⟩)⟩⟩⟩)⟩) rfl hI (fr.trans (fr.trans (fr.rf) hj28 rfl rfl) hj41 rfl rfl) hP hS (lv_sub hl [0, 2, 3, 4, 5, 6, 7] rfl)
                    · have c50 : ¬ 8 ≤ z39 := mt (i_le ⟨by decide, by decide⟩ (rb f47 (by decide) (by decide))).mpr c50
                      refine lv_aload_n hx hb (dk_at dkX12_round_3 11 rfl) rfl (lv_at hl 5 rfl) ?_
                      refine va_get (D := (dC, dI)) (ci := 12) (v := .ref (q 56)) (C := RX12) (T := TX12) (N := 85) hx hb hts hiX12 hown hK hP 0 wm0 rfl 82 (by decide) (hts _ (List.mem_cons_of_mem _ wlq_8_32)) (fun _ h9 => h9) rfl (dk_at dkX12_round_3 12 rfl) ?_
                      refine lv_bipush (v := iI 8) hx hb (dk_at dkX12_round_3 13 rfl) (by decide +kernel) ?_
                      refine lv_iload hx hb (dk_at dkX12_round_3 14 rfl) (lv_at hl 1 rfl) ?_
                      refine x_mulv (v := 8 * z26) hx hb (dk_at dkX12_round_3 15 rfl) (by omega) ?_
                      refine lv_iload hx hb (dk_at dkX12_round_4 0 rfl) (lv_at hl 0 rfl) ?_
                      refine x_addv (v := 8 * z26 + z39) hx hb (dk_at dkX12_round_4 1 rfl) (by omega) ?_
                      refine x_iald hx hb hK hP 56 1 wm56 rfl (by omega) (by decide) (dk_at dkX12_round_4 2 rfl) (fun z51 hz51 => ?_)
                      have rz51 : (-2147483648 : Int) ≤ z51 ∧ z51 ≤ 2147483647 := by rw [hz51]; exact hI 56 _
                      have gz51 := Hd.mk hz51
                      have hz51 : z51 = A42 56 (8 * z26 + z39).toNat := hz51
                      refine lv_istore (lv' := [(8, .int (iI z51)), (7, .int (iI z39)), (6, .int (iI z26)), (5, .int (iI z40)), (4, .int (iI z13)), (3, .int (iI z8)), (0, .ref (q 0)), (1, .int (iI x1)), (2, .int (iI x2))]) hx hb (dk_at dkX12_round_4 3 rfl) hl (by decide) rfl (fun ls hl => ?_)
                      refine lv_iload hx hb (dk_at dkX12_round_4 4 rfl) (lv_at hl 0 rfl) ?_
                      refine lv_ldcw (v := 1000000) hx hb hown (hts _ (List.mem_cons_of_mem _ wlq_8_30)) (dk_at dkX12_round_4 5 rfl) ?_
                      refine tp_i (y := iI 1000000) (by decide +kernel) ?_
                      have J267_53 : ∀ (z90 : Int) (A92 : St) (H : Heap) (locs : List Loc) (ls : Array Slot), (-2147483648 ≤ z90 ∧ z90 ≤ 2147483647) → (∀ (z : Int) (u : St), (∃ mm1 mm2 mm3 : Nat, (d_X12_round_7 (fun z39' z40' A42' => d_X12_round_3 (fun z26' z27' A29' => d_X12_round_2 z8 z13 z u mm2 z26' z27' A29') z8 z13 z26 z u mm3 z39' z40' A42') z39 z u z90 A92)) → r_X12_round x1 x2 A z u) → IM A92 → fr [56] [] A42 A92 → va_P (dC, dI) vwCl (WM cI cJ cZ q A92) H → va_S AS s.heap H locs → lv_has ls 11 [(8, .int (iI z51)), (7, .int (iI z39)), (6, .int (iI z26)), (5, .int (iI z90)), (4, .int (iI z13)), (3, .int (iI z8)), (0, .ref (q 0)), (1, .int (iI x1)), (2, .int (iI x2))] → W p l e (headSpec ws_mc_X12_round ({ frames := 4, cells := 0, slots := 0, locals := 90 } : Room)).room s m [.ref (q 0), .int (iI x1), .int (iI x2)].toArray below meth c H locs 0 0 Q (F0 m 267 ls []) := by
                        intro z90 A92 H locs ls f93 hk7 hI hj91 hP hS hl
                        have gI94 : Hd (IM A92) := Hd.mk hI
                        refine lv_iinc (v := iI (z39 + 1)) (lv' := [(7, .int (iI (z39 + 1))), (8, .int (iI z51)), (6, .int (iI z26)), (5, .int (iI z90)), (4, .int (iI z13)), (3, .int (iI z8)), (0, .ref (q 0)), (1, .int (iI x1)), (2, .int (iI x2))]) hx hb (dk_at dkX12_round_9 8 rfl) hl (k := 1) rfl (i_inc (by omega)) (by decide) rfl (fun ls hl => ?_)
                        refine lv_goto (tgt := 97) hx hb (dk_at dkX12_round_9 9 rfl) (by decide) ?_
                        exact ih44 _ (by omega) (z39 + 1) z90 _ _ _ _ (by omega) (by omega) (by omega) (fun zq uq ⟨mm1, mm2, mm3, hq⟩ => hk7 _ _ ⟨mm1, mm2, mm3, (u_d_X12_round_7 ⟨gI94.out, ⟨f93, hq⟩⟩)⟩) rfl hI (fr.trans (fr.trans (fr.rf) hj41 rfl rfl) hj91 rfl rfl) hP hS (lv_sub hl [0, 2, 3, 4, 5, 6, 7, 8] rfl)
                      refine lv_icmp_lt (tgt := 130) hx hb (dk_at dkX12_round_4 6 rfl) (by decide) (fun c52 => ?_) (fun c52 => ?_)
                      · have c52 : z51 < 1000000 := (i_lt rz51 ⟨by decide, by decide⟩).mp c52
                        refine lv_iload hx hb (dk_at dkX12_round_4 8 rfl) (lv_at hl 2 rfl) ?_
                        refine lv_iload hx hb (dk_at dkX12_round_4 9 rfl) (lv_at hl 4 rfl) ?_
                        refine lv_iand hx hb (dk_at dkX12_round_4 10 rfl) ?_
                        refine x_absE (fun z54 gz54 hz54 => ?_)
                        refine lv_iload hx hb (dk_at dkX12_round_4 11 rfl) (lv_at hl 4 rfl) ?_
                        have J177_56 : ∀ (z62 : Int) (H : Heap) (locs : List Loc) (ls : Array Slot), (-2147483648 ≤ z62 ∧ z62 ≤ 2147483647) → (∀ (z : Int) (u : St), (∃ mm1 mm2 mm3 : Nat, (d_X12_round_4 (fun z39' z40' A42' => d_X12_round_3 (fun z26' z27' A29' => d_X12_round_2 z8 z13 z u mm2 z26' z27' A29') z8 z13 z26 z u mm3 z39' z40' A42') z26 z39 z51 A42 z u z62)) → r_X12_round x1 x2 A z u) → va_P (dC, dI) vwCl (WM cI cJ cZ q A42) H → va_S AS s.heap H locs → lv_has ls 11 [(8, .int (iI z51)), (7, .int (iI z39)), (6, .int (iI z26)), (5, .int (iI z62)), (4, .int (iI z13)), (3, .int (iI z8)), (0, .ref (q 0)), (1, .int (iI x1)), (2, .int (iI x2))] → W p l e (headSpec ws_mc_X12_round ({ frames := 4, cells := 0, slots := 0, locals := 90 } : Room)).room s m [.ref (q 0), .int (iI x1), .int (iI x2)].toArray below meth c H locs 0 0 Q (F0 m 177 ls []) := by
                          intro z62 H locs ls f64 hk4 hP hS hl
                          refine lv_iconst (v := iI 0) hx hb (dk_at dkX12_round_6 4 rfl) (by decide +kernel) ?_
                          refine lv_istore (lv' := [(9, .int (iI 0)), (8, .int (iI z51)), (7, .int (iI z39)), (6, .int (iI z26)), (5, .int (iI z62)), (4, .int (iI z13)), (3, .int (iI z8)), (0, .ref (q 0)), (1, .int (iI x1)), (2, .int (iI x2))]) hx hb (dk_at dkX12_round_6 5 rfl) hl (by decide) rfl (fun ls hl => ?_)
                          have L180_68 : ∀ (n70 : Nat) (z65 : Int) (A67 : St) (H : Heap) (locs : List Loc) (ls : Array Slot), (0 ≤ z65) → (0 ≤ z65 ∧ z65 ≤ 2147483647) → (∀ (z : Int) (u : St), (∃ mm1 mm2 mm3 mm5 : Nat, (d_X12_round_5 (fun z39' z40' A42' => d_X12_round_3 (fun z26' z27' A29' => d_X12_round_2 z8 z13 z u mm2 z26' z27' A29') z8 z13 z26 z u mm3 z39' z40' A42') z26 z39 z51 z62 z u mm5 z65 A67)) → r_X12_round x1 x2 A z u) → ((8 - z65 + 1).toNat = n70) → IM A67 → fr [56] [] A42 A67 → va_P (dC, dI) vwCl (WM cI cJ cZ q A67) H → va_S AS s.heap H locs → lv_has ls 11 [(9, .int (iI z65)), (8, .int (iI z51)), (7, .int (iI z39)), (6, .int (iI z26)), (5, .int (iI z62)), (4, .int (iI z13)), (3, .int (iI z8)), (0, .ref (q 0)), (1, .int (iI x1)), (2, .int (iI x2))] → W p l e (headSpec ws_mc_X12_round ({ frames := 4, cells := 0, slots := 0, locals := 90 } : Room)).room s m [.ref (q 0), .int (iI x1), .int (iI x2)].toArray below meth c H locs 0 0 Q (F0 m 180 ls []) := by
                            intro n70
                            induction n70 using Nat.strongRecOn with
                            | ind n70 ih69 =>
                              intro z65 A67 H locs ls f71 f72 hk5 hn70 hI hj66 hP hS hl
                              have gI73 : Hd (IM A67) := Hd.mk hI
                              refine lv_iload hx hb (dk_at dkX12_round_6 6 rfl) (lv_at hl 0 rfl) ?_
                              refine lv_bipush (v := iI 8) hx hb (dk_at dkX12_round_6 7 rfl) (by decide +kernel) ?_
                              refine lv_icmp_ge (tgt := 267) hx hb (dk_at dkX12_round_6 8 rfl) (by decide) (fun c74 => ?_) (fun c74 => ?_)
                              · have c74 : 8 ≤ z65 := (i_le ⟨by decide, by decide⟩ (rb f72 (by decide) (by decide))).mp c74
                                exact J267_53 z62 _ _ _ _ (by omega) (fun zq uq ⟨mm1, mm2, mm3, hq⟩ => hk5 _ _ ⟨mm1, mm2, mm3, 0 + 1, (u_d_X12_round_5 ⟨gI73.out, ⟨f72, (Or.inl ⟨c74, hq⟩)⟩⟩)⟩) hI (fr.trans (fr.rf) hj66 rfl rfl) hP hS (lv_sub hl [1, 2, 3, 4, 5, 6, 7, 8, 9] rfl)
                              · have c74 : ¬ 8 ≤ z65 := mt (i_le ⟨by decide, by decide⟩ (rb f72 (by decide) (by decide))).mpr c74
                                refine lv_bipush (v := iI 8) hx hb (dk_at dkX12_round_6 9 rfl) (by decide +kernel) ?_
                                refine lv_iload hx hb (dk_at dkX12_round_6 10 rfl) (lv_at hl 3 rfl) ?_
                                refine lv_iconst (v := iI 1) hx hb (dk_at dkX12_round_6 11 rfl) (by decide +kernel) ?_
                                refine lv_iload hx hb (dk_at dkX12_round_6 12 rfl) (lv_at hl 0 rfl) ?_
                                refine x_shl1E (M := 7) (t := 128) hx hb (dk_at dkX12_round_6 13 rfl) (by omega) (by decide) (by decide) (fun z75 gz75 hz75 => ?_)
                                refine lv_ior hx hb (dk_at dkX12_round_6 14 rfl) ?_
                                refine x_orE 8 (by decide) (by omega) (by omega) (fun z76 gz76 hz76 => ?_)
                                refine x_mulv (v := 8 * z76) hx hb (dk_at dkX12_round_6 15 rfl) (by omega) ?_
                                refine lv_iload hx hb (dk_at dkX12_round_7 0 rfl) (lv_at hl 0 rfl) ?_
                                refine x_addv (v := 8 * z76 + z65) hx hb (dk_at dkX12_round_7 1 rfl) (by omega) ?_
                                refine lv_istore (lv' := [(10, .int (iI (8 * z76 + z65))), (9, .int (iI z65)), (8, .int (iI z51)), (7, .int (iI z39)), (6, .int (iI z26)), (5, .int (iI z62)), (4, .int (iI z13)), (3, .int (iI z8)), (0, .ref (q 0)), (1, .int (iI x1)), (2, .int (iI x2))]) hx hb (dk_at dkX12_round_7 2 rfl) hl (by decide) rfl (fun ls hl => ?_)
                                refine lv_iload hx hb (dk_at dkX12_round_7 3 rfl) (lv_at hl 4 rfl) ?_
                                refine lv_iload hx hb (dk_at dkX12_round_7 4 rfl) (lv_at hl 1 rfl) ?_
                                refine lv_ishr hx hb (dk_at dkX12_round_7 5 rfl) ?_
                                refine x_absE (fun z77 gz77 hz77 => ?_)
                                refine lv_iconst (v := iI 1) hx hb (dk_at dkX12_round_7 6 rfl) (by decide +kernel) ?_
                                refine lv_iand hx hb (dk_at dkX12_round_7 7 rfl) ?_
                                refine x_andE (b := 1) (by omega) (fun z78 gz78 hz78 => ?_)
                                have J261_80 : ∀ (A88 : St) (H : Heap) (locs : List Loc) (ls : Array Slot), (∀ (z : Int) (u : St), (∃ mm1 mm2 mm3 mm5 : Nat, (d_X12_round_6 (fun z65' A67' => d_X12_round_5 (fun z39' z40' A42' => d_X12_round_3 (fun z26' z27' A29' => d_X12_round_2 z8 z13 z u mm2 z26' z27' A29') z8 z13 z26 z u mm3 z39' z40' A42') z26 z39 z51 z62 z u mm5 z65' A67') z65 z u A88)) → r_X12_round x1 x2 A z u) → IM A88 → fr [56] [] A67 A88 → va_P (dC, dI) vwCl (WM cI cJ cZ q A88) H → va_S AS s.heap H locs → lv_has ls 11 [(10, .int (iI (8 * z76 + z65))), (9, .int (iI z65)), (8, .int (iI z51)), (7, .int (iI z39)), (6, .int (iI z26)), (5, .int (iI z62)), (4, .int (iI z13)), (3, .int (iI z8)), (0, .ref (q 0)), (1, .int (iI x1)), (2, .int (iI x2))] → W p l e (headSpec ws_mc_X12_round ({ frames := 4, cells := 0, slots := 0, locals := 90 } : Room)).room s m [.ref (q 0), .int (iI x1), .int (iI x2)].toArray below meth c H locs 0 0 Q (F0 m 261 ls []) := by
                                  intro A88 H locs ls hk6 hI hj87 hP hS hl
                                  have gI89 : Hd (IM A88) := Hd.mk hI
                                  refine lv_iinc (v := iI (z65 + 1)) (lv' := [(9, .int (iI (z65 + 1))), (10, .int (iI (8 * z76 + z65))), (8, .int (iI z51)), (7, .int (iI z39)), (6, .int (iI z26)), (5, .int (iI z62)), (4, .int (iI z13)), (3, .int (iI z8)), (0, .ref (q 0)), (1, .int (iI x1)), (2, .int (iI x2))]) hx hb (dk_at dkX12_round_9 6 rfl) hl (k := 1) rfl (i_inc (by omega)) (by decide) rfl (fun ls hl => ?_)
                                  refine lv_goto (tgt := 180) hx hb (dk_at dkX12_round_9 7 rfl) (by decide) ?_
                                  exact ih69 _ (by omega) (z65 + 1) _ _ _ _ (by omega) (by omega) (fun zq uq ⟨mm1, mm2, mm3, mm5, hq⟩ => hk6 _ _ ⟨mm1, mm2, mm3, mm5, (u_d_X12_round_6 ⟨gI89.out, hq⟩)⟩) rfl hI (fr.trans (fr.trans (fr.rf) hj66 rfl rfl) hj87 rfl rfl) hP hS (lv_sub hl [0, 2, 3, 4, 5, 6, 7, 8, 9, 10] rfl)
                                refine lv_if_ne (tgt := 261) hx hb (dk_at dkX12_round_7 8 rfl) (by decide) (fun c79 => ?_) (fun c79 => ?_)
                                · have c79 : ¬ z78 = 0 := mt (i_eq0 (by omega)).mpr c79
                                  exact J261_80 _ _ _ _ (fun zq uq ⟨mm1, mm2, mm3, mm5, hq⟩ => hk5 _ _ ⟨mm1, mm2, mm3, mm5 + 1, (u_d_X12_round_5 ⟨gI73.out, ⟨f72, (Or.inr ⟨c74, ⟨z75, gz75.out, ⟨z76, gz76.out, ⟨z77, gz77.out, ⟨z78, gz78.out, (Or.inl ⟨c79, hq⟩)⟩⟩⟩⟩⟩)⟩⟩)⟩) hI (fr.rf) hP hS (lv_sub hl [0, 1, 2, 3, 4, 5, 6, 7, 8, 9, 10] rfl)
                                · have c79 : z78 = 0 := (i_eq0 (by omega)).mp c79
                                  refine lv_iload hx hb (dk_at dkX12_round_7 9 rfl) (lv_at hl 2 rfl) ?_
                                  refine lv_aload_n hx hb (dk_at dkX12_round_7 10 rfl) rfl (lv_at hl 8 rfl) ?_
                                  refine va_get (D := (dC, dI)) (ci := 12) (v := .ref (q 55)) (C := RX12) (T := TX12) (N := 85) hx hb hts hiX12 hown hK hP 0 wm0 rfl 81 (by decide) (hts _ (List.mem_cons_of_mem _ wlq_8_29)) (fun _ h9 => h9) rfl (dk_at dkX12_round_7 11 rfl) ?_
                                  refine lv_bipush (v := iI 8) hx hb (dk_at dkX12_round_7 12 rfl) (by decide +kernel) ?_
                                  refine lv_iload hx hb (dk_at dkX12_round_7 13 rfl) (lv_at hl 3 rfl) ?_
                                  refine x_mulv (v := 8 * z39) hx hb (dk_at dkX12_round_7 14 rfl) (by omega) ?_
                                  refine lv_iload hx hb (dk_at dkX12_round_7 15 rfl) (lv_at hl 1 rfl) ?_
                                  refine x_addv (v := 8 * z39 + z65) hx hb (dk_at dkX12_round_8 0 rfl) (by omega) ?_
                                  have a_A16_55 : A16 55 = A5 55 := (hj15.1 55 (by decide) rfl)
                                  have a_A25_55 : A25 55 = A5 55 := by rw [hA25]; exact a_A16_55
                                  have a_A29_55 : A29 55 = A5 55 := (hj28.1 55 (by decide) rfl).trans a_A25_55
                                  have a_A42_55 : A42 55 = A5 55 := (hj41.1 55 (by decide) rfl).trans a_A29_55
                                  have a_A67_55 : A67 55 = A5 55 := (hj66.1 55 (by decide) rfl).trans a_A42_55
                                  refine x_iald hx hb hK hP 55 1 wm55 rfl (by omega) (by decide) (dk_at dkX12_round_8 1 rfl) (fun z81 hz81 => ?_)
                                  have rz81 : (-2147483648 : Int) ≤ z81 ∧ z81 ≤ 2147483647 := by rw [hz81]; exact hI 55 _
                                  have gz81 := Hd.mk hz81
                                  have hz81 : z81 = A5 55 (8 * z39 + z65).toNat := hz81.trans (congrFun a_A67_55 _)
                                  refine x_addv (v := z51 + z81) hx hb (dk_at dkX12_round_8 2 rfl) (by omega) ?_
                                  refine x_absE (fun z82 gz82 hz82 => ?_)
                                  refine lv_aload_n hx hb (dk_at dkX12_round_8 3 rfl) rfl (lv_at hl 8 rfl) ?_
                                  refine va_get (D := (dC, dI)) (ci := 12) (v := .ref (q 56)) (C := RX12) (T := TX12) (N := 85) hx hb hts hiX12 hown hK hP 0 wm0 rfl 82 (by decide) (hts _ (List.mem_cons_of_mem _ wlq_8_32)) (fun _ h9 => h9) rfl (dk_at dkX12_round_8 4 rfl) ?_
                                  refine lv_iload hx hb (dk_at dkX12_round_8 5 rfl) (lv_at hl 0 rfl) ?_
                                  refine x_iald hx hb hK hP 56 1 wm56 rfl (by omega) (by decide) (dk_at dkX12_round_8 6 rfl) (fun z83 hz83 => ?_)
                                  have rz83 : (-2147483648 : Int) ≤ z83 ∧ z83 ≤ 2147483647 := by rw [hz83]; exact hI 56 _
                                  have gz83 := Hd.mk hz83
                                  have hz83 : z83 = A67 56 (8 * z76 + z65).toNat := hz83
                                  refine lv_icmp_ge (tgt := 261) hx hb (dk_at dkX12_round_8 7 rfl) (by decide) (fun c84 => ?_) (fun c84 => ?_)
                                  · have c84 : z83 ≤ z82 := (i_le rz83 (by omega)).mp c84
                                    exact J261_80 _ _ _ _ (fun zq uq ⟨mm1, mm2, mm3, mm5, hq⟩ => hk5 _ _ ⟨mm1, mm2, mm3, mm5 + 1, (u_d_X12_round_5 ⟨gI73.out, ⟨f72, (Or.inr ⟨c74, ⟨z75, gz75.out, ⟨z76, gz76.out, ⟨z77, gz77.out, ⟨z78, gz78.out, (Or.inr ⟨c79, ⟨z81, gz81.out, ⟨z82, gz82.out, ⟨z83, gz83.out, (Or.inl ⟨c84, hq⟩)⟩⟩⟩⟩)⟩⟩⟩⟩⟩)⟩⟩)⟩) hI (fr.rf) hP hS (lv_sub hl [0, 1, 2, 3, 4, 5, 6, 7, 8, 9, 10] rfl)
                                  · have c84 : ¬ z83 ≤ z82 := mt (i_le rz83 (by omega)).mpr c84
                                    refine lv_aload_n hx hb (dk_at dkX12_round_8 8 rfl) rfl (lv_at hl 8 rfl) ?_
                                    refine va_get (D := (dC, dI)) (ci := 12) (v := .ref (q 56)) (C := RX12) (T := TX12) (N := 85) hx hb hts hiX12 hown hK hP 0 wm0 rfl 82 (by decide) (hts _ (List.mem_cons_of_mem _ wlq_8_32)) (fun _ h9 => h9) rfl (dk_at dkX12_round_8 9 rfl) ?_
                                    refine lv_iload hx hb (dk_at dkX12_round_8 10 rfl) (lv_at hl 0 rfl) ?_
                                    refine lv_iload hx hb (dk_at dkX12_round_8 11 rfl) (lv_at hl 2 rfl) ?_
                                    refine lv_aload_n hx hb (dk_at dkX12_round_8 12 rfl) rfl (lv_at hl 8 rfl) ?_
                                    refine va_get (D := (dC, dI)) (ci := 12) (v := .ref (q 55)) (C := RX12) (T := TX12) (N := 85) hx hb hts hiX12 hown hK hP 0 wm0 rfl 81 (by decide) (hts _ (List.mem_cons_of_mem _ wlq_8_29)) (fun _ h9 => h9) rfl (dk_at dkX12_round_8 13 rfl) ?_
                                    refine lv_bipush (v := iI 8) hx hb (dk_at dkX12_round_8 14 rfl) (by decide +kernel) ?_
                                    refine lv_iload hx hb (dk_at dkX12_round_8 15 rfl) (lv_at hl 3 rfl) ?_
                                    refine x_mulv (v := 8 * z39) hx hb (dk_at dkX12_round_9 0 rfl) (by omega) ?_
                                    refine lv_iload hx hb (dk_at dkX12_round_9 1 rfl) (lv_at hl 1 rfl) ?_
                                    refine x_addv (v := 8 * z39 + z65) hx hb (dk_at dkX12_round_9 2 rfl) (by omega) ?_
                                    refine x_iald hx hb hK hP 55 1 wm55 rfl (by omega) (by decide) (dk_at dkX12_round_9 3 rfl) (fun z85 hz85 => ?_)
                                    have rz85 : (-2147483648 : Int) ≤ z85 ∧ z85 ≤ 2147483647 := by rw [hz85]; exact hI 55 _
                                    have gz85 := Hd.mk hz85
                                    have hz85 : z85 = A5 55 (8 * z39 + z65).toNat := hz85.trans (congrFun a_A67_55 _)
                                    have ez85 : z85 = z81 := hz85.trans hz81.symm
                                    refine x_addv (v := z51 + z85) hx hb (dk_at dkX12_round_9 4 rfl) (by omega) ?_
                                    refine x_absE (fun z86 gz86 hz86 => ?_)
                                    refine x_iast hx hb hK hP hDD hS 56 1 wm56 rfl (by omega) (by decide) (dk_at dkX12_round_9 5 rfl) ws56 (fun H locs hP hS => ?_)
                                    have hI := hI.st (j := 56) (i := (8 * z76 + z65).toNat) (v := z86) (show (-2147483648 : Int) ≤ z86 ∧ z86 ≤ 2147483647 from (by omega))
                                    exact J261_80 _ _ _ _ (fun zq uq ⟨mm1, mm2, mm3, mm5, hq⟩ => hk5 _ _ ⟨mm1, mm2, mm3, mm5 + 1, (u_d_X12_round_5 ⟨gI73.out, ⟨f72, (Or.inr ⟨c74, ⟨z75, gz75.out, ⟨z76, gz76.out, ⟨z77, gz77.out, ⟨z78, gz78.out, (Or.inr ⟨c79, ⟨z81, gz81.out, ⟨z82, gz82.out, ⟨z83, gz83.out, (Or.inr ⟨c84, ⟨z85, gz85.out, ⟨z86, gz86.out, hq⟩⟩⟩)⟩⟩⟩⟩)⟩⟩⟩⟩⟩)⟩⟩)⟩) hI (fr.st (fr.rf) (by decide) rfl) hP hS (lv_sub hl [0, 1, 2, 3, 4, 5, 6, 7, 8, 9, 10] rfl)
                          exact L180_68 _ 0 _ _ _ _ (by omega) (by omega) (fun zq uq ⟨mm1, mm2, mm3, mm5, hq⟩ => hk4 _ _ ⟨mm1, mm2, mm3, (u_d_X12_round_4 ⟨f64, ⟨mm5, hq⟩⟩)⟩) rfl hI (fr.rf) hP hS (lv_sub hl [0, 1, 2, 3, 4, 5, 6, 7, 8, 9] rfl)
                        refine lv_icmp_ne (tgt := 177) hx hb (dk_at dkX12_round_4 12 rfl) (by decide) (fun c55 => ?_) (fun c55 => ?_)
                        · have c55 : ¬ z54 = z13 := mt (i_eq (by omega) (by omega)).mpr c55
                          exact J177_56 z40 _ _ _ (by omega) (fun zq uq ⟨mm1, mm2, mm3, hq⟩ => hk3 _ _ ⟨mm1, mm2, mm3 + 1, (u_d_X12_round_3 ⟨gI49.out, ⟨f47, ⟨f48, (Or.inr ⟨c50, ⟨z51, gz51.out, (Or.inl ⟨c52, ⟨z54, gz54.out, (Or.inl ⟨c55, hq⟩)⟩⟩)⟩⟩)⟩⟩⟩)⟩) hP hS (lv_sub hl [0, 1, 2, 3, 4, 5, 6, 7, 8] rfl)
                        · have c55 : z54 = z13 := (i_eq (by omega) (by omega)).mp c55
                          refine lv_iload hx hb (dk_at dkX12_round_4 13 rfl) (lv_at hl 0 rfl) ?_
                          refine lv_aload_n hx hb (dk_at dkX12_round_4 14 rfl) rfl (lv_at hl 6 rfl) ?_
                          refine va_get (D := (dC, dI)) (ci := 12) (v := .ref (q 55)) (C := RX12) (T := TX12) (N := 85) hx hb hts hiX12 hown hK hP 0 wm0 rfl 81 (by decide) (hts _ (List.mem_cons_of_mem _ wlq_8_29)) (fun _ h9 => h9) rfl (dk_at dkX12_round_4 15 rfl) ?_
                          refine lv_bipush (v := iI 8) hx hb (dk_at dkX12_round_5 0 rfl) (by decide +kernel) ?_
                          refine lv_iload hx hb (dk_at dkX12_round_5 1 rfl) (lv_at hl 1 rfl) ?_
                          refine x_mulv (v := 8 * z39) hx hb (dk_at dkX12_round_5 2 rfl) (by omega) ?_
                          refine lv_iload_n hx hb (dk_at dkX12_round_5 3 rfl) rfl (lv_at hl 5 rfl) ?_
                          refine x_addv (v := 8 * z39 + z8) hx hb (dk_at dkX12_round_5 4 rfl) (by omega) ?_
                          have a_A16_55 : A16 55 = A5 55 := (hj15.1 55 (by decide) rfl)
                          have a_A25_55 : A25 55 = A5 55 := by rw [hA25]; exact a_A16_55
                          have a_A29_55 : A29 55 = A5 55 := (hj28.1 55 (by decide) rfl).trans a_A25_55
                          have a_A42_55 : A42 55 = A5 55 := (hj41.1 55 (by decide) rfl).trans a_A29_55
                          refine x_iald hx hb hK hP 55 1 wm55 rfl (by omega) (by decide) (dk_at dkX12_round_5 5 rfl) (fun z57 hz57 => ?_)
                          have rz57 : (-2147483648 : Int) ≤ z57 ∧ z57 ≤ 2147483647 := by rw [hz57]; exact hI 55 _
                          have gz57 := Hd.mk hz57
                          have hz57 : z57 = A5 55 (8 * z39 + z8).toNat := hz57.trans (congrFun a_A42_55 _)
                          refine x_addv (v := z51 + z57) hx hb (dk_at dkX12_round_5 6 rfl) (by omega) ?_
                          refine x_absE (fun z58 gz58 hz58 => ?_)
                          refine lv_iload hx hb (dk_at dkX12_round_5 7 rfl) (lv_at hl 3 rfl) ?_
                          refine lv_icmp_ge (tgt := 177) hx hb (dk_at dkX12_round_5 8 rfl) (by decide) (fun c59 => ?_) (fun c59 => ?_)
                          · have c59 : z40 ≤ z58 := (i_le f48 (by omega)).mp c59
                            exact J177_56 z40 _ _ _ (by omega) (fun zq uq ⟨mm1, mm2, mm3, hq⟩ => hk3 _ _ ⟨mm1, mm2, mm3 + 1, (u_d_X12_round_3 ⟨gI49.out, ⟨f47, ⟨f48, (Or.inr ⟨c50, ⟨z51, gz51.out, (Or.inl ⟨c52, ⟨z54, gz54.out, (Or.inr ⟨c55, ⟨z57, gz57.out, ⟨z58, gz58.out, (Or.inl ⟨c59, hq⟩)⟩⟩⟩)⟩⟩)⟩⟩)⟩⟩⟩)⟩) hP hS (lv_sub hl [0, 1, 2, 3, 4, 5, 6, 7, 8] rfl)
                          · have c59 : ¬ z40 ≤ z58 := mt (i_le f48 (by omega)).mpr c59
                            refine lv_iload hx hb (dk_at dkX12_round_5 9 rfl) (lv_at hl 0 rfl) ?_
                            refine lv_aload_n hx hb (dk_at dkX12_round_5 10 rfl) rfl (lv_at hl 6 rfl) ?_
                            refine va_get (D := (dC, dI)) (ci := 12) (v := .ref (q 55)) (C := RX12) (T := TX12) (N := 85) hx hb hts hiX12 hown hK hP 0 wm0 rfl 81 (by decide) (hts _ (List.mem_cons_of_mem _ wlq_8_29)) (fun _ h9 => h9) rfl (dk_at dkX12_round_5 11 rfl) ?_
                            refine lv_bipush (v := iI 8) hx hb (dk_at dkX12_round_5 12 rfl) (by decide +kernel) ?_
                            refine lv_iload hx hb (dk_at dkX12_round_5 13 rfl) (lv_at hl 1 rfl) ?_
                            refine x_mulv (v := 8 * z39) hx hb (dk_at dkX12_round_5 14 rfl) (by omega) ?_
                            refine lv_iload_n hx hb (dk_at dkX12_round_5 15 rfl) rfl (lv_at hl 5 rfl) ?_
                            refine x_addv (v := 8 * z39 + z8) hx hb (dk_at dkX12_round_6 0 rfl) (by omega) ?_
                            refine x_iald hx hb hK hP 55 1 wm55 rfl (by omega) (by decide) (dk_at dkX12_round_6 1 rfl) (fun z60 hz60 => ?_)
                            have rz60 : (-2147483648 : Int) ≤ z60 ∧ z60 ≤ 2147483647 := by rw [hz60]; exact hI 55 _
                            have gz60 := Hd.mk hz60
                            have hz60 : z60 = A5 55 (8 * z39 + z8).toNat := hz60.trans (congrFun a_A42_55 _)
                            have ez60 : z60 = z57 := hz60.trans hz57.symm
                            refine x_addv (v := z51 + z60) hx hb (dk_at dkX12_round_6 2 rfl) (by omega) ?_
                            refine x_absE (fun z61 gz61 hz61 => ?_)
                            refine lv_istore (lv' := [(5, .int (iI z61)), (8, .int (iI z51)), (7, .int (iI z39)), (6, .int (iI z26)), (4, .int (iI z13)), (3, .int (iI z8)), (0, .ref (q 0)), (1, .int (iI x1)), (2, .int (iI x2))]) hx hb (dk_at dkX12_round_6 3 rfl) hl (by decide) rfl (fun ls hl => ?_)
                            exact J177_56 z61 _ _ _ (by omega) (fun zq uq ⟨mm1, mm2, mm3, hq⟩ => hk3 _ _ ⟨mm1, mm2, mm3 + 1, (u_d_X12_round_3 ⟨gI49.out, ⟨f47, ⟨f48, (Or.inr ⟨c50, ⟨z51, gz51.out, (Or.inl ⟨c52, ⟨z54, gz54.out, (Or.inr ⟨c55, ⟨z57, gz57.out, ⟨z58, gz58.out, (Or.inr ⟨c59, ⟨z60, gz60.out, ⟨z61, gz61.out, hq⟩⟩⟩)⟩⟩⟩)⟩⟩)⟩⟩)⟩⟩⟩)⟩) hP hS (lv_sub hl [1, 2, 3, 0, 4, 5, 6, 7, 8] rfl)
                      · have c52 : ¬ z51 < 1000000 := mt (i_lt rz51 ⟨by decide, by decide⟩).mpr c52
                        refine lv_goto (tgt := 267) hx hb (dk_at dkX12_round_4 7 rfl) (by decide) ?_
                        exact J267_53 z40 _ _ _ _ (by omega) (fun zq uq ⟨mm1, mm2, mm3, hq⟩ => hk3 _ _ ⟨mm1, mm2, mm3 + 1, (u_d_X12_round_3 ⟨gI49.out, ⟨f47, ⟨f48, (Or.inr ⟨c50, ⟨z51, gz51.out, (Or.inr ⟨c52, hq⟩)⟩⟩)⟩⟩⟩)⟩) hI (fr.rf) hP hS (lv_sub hl [0, 1, 2, 3, 4, 5, 6, 7, 8] rfl)
                exact L97_43 _ 0 z27 _ _ _ _ (by omega) (by omega) (by omega) (fun zq uq ⟨mm1, mm2, mm3, hq⟩ => hk2 _ _ ⟨mm1, mm2 + 1, (u_d_X12_round_2 ⟨gI36.out, ⟨f34, ⟨f35, (Or.inr ⟨c37, ⟨mm3, hq⟩⟩)⟩⟩⟩)⟩) rfl hI (fr.rf) hP hS (lv_sub hl [0, 1, 2, 3, 4, 5, 6, 7] rfl)
          exact L86_30 _ 0 1000000 _ _ _ _ (by omega) (by omega) (by omega) (fun zq uq ⟨mm1, mm2, hq⟩ => hk1 _ _ ⟨mm1 + 1, (u_d_X12_round_1 ⟨gI22.out, ⟨f21, (Or.inl ⟨c23, ⟨z24, gz24.out, ⟨A25, hA25, ⟨mm2, hq⟩⟩⟩⟩)⟩⟩)⟩) rfl hI (fr.rf) hP hS (lv_sub hl [0, 1, 2, 3, 4, 5, 6] rfl)
        · have c23 : ¬ 2048 ≤ z14 := mt (i_le ⟨by decide, by decide⟩ (rb f21 (by decide) (by decide))).mpr c23
          refine lv_aload_n hx hb (dk_at dkX12_round_1 13 rfl) rfl (lv_at hl 3 rfl) ?_
          refine va_get (D := (dC, dI)) (ci := 12) (v := .ref (q 56)) (C := RX12) (T := TX12) (N := 85) hx hb hts hiX12 hown hK hP 0 wm0 rfl 82 (by decide) (hts _ (List.mem_cons_of_mem _ wlq_8_32)) (fun _ h9 => h9) rfl (dk_at dkX12_round_1 14 rfl) ?_
          refine lv_iload hx hb (dk_at dkX12_round_1 15 rfl) (lv_at hl 0 rfl) ?_
          refine lv_ldcw (v := 1000000) hx hb hown (hts _ (List.mem_cons_of_mem _ wlq_8_30)) (dk_at dkX12_round_2 0 rfl) ?_
          refine tp_i (y := iI 1000000) (by decide +kernel) ?_
          refine x_iast hx hb hK hP hDD hS 56 1 wm56 rfl (by omega) (by decide) (dk_at dkX12_round_2 1 rfl) ws56 (fun H locs hP hS => ?_)
          have hI := hI.st (j := 56) (i := (z14).toNat) (v := 1000000) (show (-2147483648 : Int) ≤ 1000000 ∧ 1000000 ≤ 2147483647 from (by omega))
          refine lv_iinc (v := iI (z14 + 1)) (lv' := [(5, .int (iI (z14 + 1))), (4, .int (iI z13)), (3, .int (iI z8)), (0, .ref (q 0)), (1, .int (iI x1)), (2, .int (iI x2))]) hx hb (dk_at dkX12_round_2 2 rfl) hl (k := 0) rfl (i_inc (by omega)) (by decide) rfl (fun ls hl => ?_)
          refine lv_goto (tgt := 40) hx hb (dk_at dkX12_round_2 3 rfl) (by decide) ?_
          obtain ⟨A95, hA95⟩ : ∃ A95 : St, A95 = (stA A16 56 (z14).toNat 1000000) := ⟨_, rfl⟩
          rw [← hA95] at hP hI
          exact ih18 _ (by omega) (z14 + 1) _ _ _ _ (by omega) (by omega) (fun zq uq ⟨mm1, hq⟩ => hk1 _ _ ⟨mm1 + 1, (u_d_X12_round_1 ⟨gI22.out, ⟨f21, (Or.inr ⟨c23, ⟨A95, hA95, hq⟩⟩)⟩⟩)⟩) rfl hI (fr_def hA95 (fr.st (fr.trans (fr.rf) hj15 rfl rfl) (by decide) rfl)) hP hS (lv_sub hl [0, 1, 2, 3, 4, 5] rfl)
    exact L40_17 _ 0 _ _ _ _ (by omega) (by omega) (fun zq uq ⟨mm1, hq⟩ => (u_r_X12_round ⟨z1, ghw3, (Or.inl ⟨c4, ⟨A5, ghw6, ⟨z8, ghw10, ⟨z11, gz11.out, ⟨z12, gz12.out, ⟨z13, gz13.out, ⟨mm1, hq⟩⟩⟩⟩⟩⟩⟩)⟩)) rfl hI (fr.rf) hP hS (lv_sub hl [0, 1, 2, 3, 4, 5] rfl)
  · have c4 : z1 = 0 := (i_eq0 (rb rz1 (by decide) (by decide))).mp c4
    clear hw3
    refine lv_iconst (v := iI (-1)) hx hb (dk_at dkX12_round_0 4 rfl) (by decide +kernel) ?_
    exact RET (-1) _ _ _ _ _ ⟨(u_r_X12_round ⟨z1, ghw3, (Or.inr ⟨c4, ⟨rfl, rfl⟩⟩)⟩), hI, fr.rf, by omega⟩ hP hS (dk_at dkX12_round_0 5 rfl)
theorem dkX12_add_0 : dkq cX12_add [(0, .aload_n 0, 1), (1, .getfield 146, 3), (4, .sipush 1600, 3), (7, .aload_n 0, 1), (8, .getfield 155, 3), (11, .imul, 1), (12, .aload_n 0, 1), (13, .getfield 152, 3), (16, .iadd, 1), (17, .iload_n 1, 1), (18, .iastore, 1), (19, .aload_n 0, 1), (20, .getfield 149, 3), (23, .sipush 1600, 3), (26, .aload_n 0, 1), (27, .getfield 155, 3)] = true := by decide +kernel
theorem dkX12_add_1 : dkq cX12_add [(30, .imul, 1), (31, .aload_n 0, 1), (32, .getfield 152, 3), (35, .iadd, 1), (36, .iload_n 2, 1), (37, .iastore, 1), (38, .aload_n 0, 1), (39, .dup, 1), (40, .getfield 152, 3), (43, .iconst 1, 1), (44, .iadd, 1), (45, .putfield 152, 3), (48, .return_, 1)] = true := by decide +kernel
theorem dkX12_rank_0 : dkq cX12_rank [(0, .iload_n 0, 1), (1, .bipush 21, 2), (3, .if_icmp .ne 7, 3), (6, .iconst 1, 1), (7, .goto 63, 3), (10, .iload_n 0, 1), (11, .bipush 20, 2), (13, .if_icmp .ne 7, 3), (16, .iconst 2, 1), (17, .goto 53, 3), (20, .iload_n 0, 1), (21, .bipush 22, 2), (23, .if_icmp .ne 7, 3), (26, .iconst 3, 1), (27, .goto 43, 3), (30, .iload_n 0, 1)] = true := by decide +kernel
theorem dkX12_rank_1 : dkq cX12_rank [(31, .bipush 17, 2), (33, .if_icmp .eq 15, 3), (36, .iload_n 0, 1), (37, .bipush 18, 2), (39, .if_icmp .eq 9, 3), (42, .iload_n 0, 1), (43, .bipush 19, 2), (45, .if_icmp .ne 7, 3), (48, .iconst 4, 1), (49, .goto 21, 3), (52, .iload_n 0, 1), (53, .bipush 10, 2), (55, .if_icmp .eq 9, 3), (58, .iload_n 0, 1), (59, .bipush 11, 2), (61, .if_icmp .ne 7, 3)] = true := by decide +kernel
theorem dkX12_rank_2 : dkq cX12_rank [(64, .iconst 5, 1), (65, .goto 5, 3), (68, .bipush 6, 2), (70, .ireturn, 1)] = true := by decide +kernel
theorem dkX12_holdsBack_0 : dkq cX12_holdsBack [(0, .aload_n 0, 1), (1, .getfield 179, 3), (4, .aload_n 0, 1), (5, .getfield 182, 3), (8, .iload_n 1, 1), (9, .iastore, 1), (10, .aload_n 0, 1), (11, .dup, 1), (12, .getfield 182, 3), (15, .iconst 1, 1), (16, .iadd, 1), (17, .putfield 182, 3), (20, .return_, 1)] = true := by decide +kernel
theorem dkX12_pushes_0 : dkq cX12_pushes [(0, .aload_n 0, 1), (1, .getfield 158, 3), (4, .aload_n 0, 1), (5, .getfield 173, 3), (8, .iload_n 1, 1), (9, .iastore, 1), (10, .aload_n 0, 1), (11, .getfield 161, 3), (14, .aload_n 0, 1), (15, .getfield 173, 3), (18, .iconst 0, 1), (19, .iastore, 1), (20, .aload_n 0, 1), (21, .getfield 164, 3), (24, .aload_n 0, 1), (25, .getfield 173, 3)] = true := by decide +kernel
theorem dkX12_pushes_1 : dkq cX12_pushes [(28, .iconst 1, 1), (29, .bastore, 1), (30, .aload_n 0, 1), (31, .getfield 170, 3), (34, .aload_n 0, 1), (35, .getfield 173, 3), (38, .aload_n 0, 1), (39, .getfield 182, 3), (42, .iastore, 1), (43, .aload_n 0, 1), (44, .dup, 1), (45, .getfield 173, 3), (48, .iconst 1, 1), (49, .iadd, 1), (50, .putfield 173, 3), (53, .return_, 1)] = true := by decide +kernel
theorem dkX12_isTest_0 : dkq cX12_isTest [(0, .iload_n 0, 1), (1, .iconst 1, 1), (2, .if_icmp .eq 8, 3), (5, .iload_n 0, 1), (6, .iconst 5, 1), (7, .if_icmp .ne 7, 3), (10, .iconst 1, 1), (11, .goto 4, 3), (14, .iconst 0, 1), (15, .ireturn, 1)] = true := by decide +kernel
theorem dkX12_writes_0 : dkq cX12_writes [(0, .aload_n 0, 1), (1, .getfield 265, 3), (4, .aload_n 0, 1), (5, .getfield 268, 3), (8, .iload_n 1, 1), (9, .sipush 255, 3), (12, .iand, 1), (13, .iastore, 1), (14, .aload_n 0, 1), (15, .dup, 1), (16, .getfield 268, 3), (19, .iconst 1, 1), (20, .iadd, 1), (21, .putfield 268, 3), (24, .return_, 1)] = true := by decide +kernel
theorem dkX12_image_0 : dkq cX12_image [(0, .aload_n 0, 1), (1, .iconst 0, 1), (2, .putfield 268, 3), (5, .iconst 0, 1), (6, .istore_n 1, 1), (7, .iload_n 1, 1), (8, .aload_n 0, 1), (9, .getfield 95, 3), (12, .aload_n 0, 1), (13, .getfield 48, 3), (16, .iaload, 1), (17, .if_icmp .ge 18, 3), (20, .aload_n 0, 1), (21, .aload_n 0, 1), (22, .iload_n 1, 1), (23, .invokevirtual 520, 3)] = true := by decide +kernel
theorem dkX12_image_1 : dkq cX12_image [(26, .invokevirtual 631, 3), (29, .iinc 1 1, 3), (32, .goto (-25), 3), (35, .iconst 0, 1), (36, .istore_n 1, 1), (37, .iload_n 1, 1), (38, .aload_n 0, 1), (39, .getfield 80, 3), (42, .aload_n 0, 1), (43, .getfield 48, 3), (46, .iaload, 1), (47, .if_icmp .ge 78, 3), (50, .aload_n 0, 1), (51, .aload_n 0, 1), (52, .getfield 86, 3), (55, .aload_n 0, 1)] = true := by decide +kernel
theorem dkX12_image_2 : dkq cX12_image [(56, .iload_n 1, 1), (57, .invokevirtual 484, 3), (60, .iaload, 1), (61, .invokevirtual 631, 3), (64, .aload_n 0, 1), (65, .aload_n 0, 1), (66, .getfield 89, 3), (69, .aload_n 0, 1), (70, .iload_n 1, 1), (71, .invokevirtual 484, 3), (74, .iaload, 1), (75, .invokevirtual 631, 3), (78, .iconst 0, 1), (79, .istore_n 2, 1), (80, .iload_n 2, 1), (81, .aload_n 0, 1)] = true := by decide +kernel
theorem dkX12_image_3 : dkq cX12_image [(82, .getfield 89, 3), (85, .aload_n 0, 1), (86, .iload_n 1, 1), (87, .invokevirtual 484, 3), (90, .iaload, 1), (91, .if_icmp .ge 28, 3), (94, .aload_n 0, 1), (95, .aload_n 0, 1), (96, .getfield 92, 3), (99, .bipush 10, 2), (101, .aload_n 0, 1), (102, .iload_n 1, 1), (103, .invokevirtual 484, 3), (106, .imul, 1), (107, .iload_n 2, 1), (108, .iadd, 1)] = true := by decide +kernel
theorem dkX12_image_4 : dkq cX12_image [(109, .iaload, 1), (110, .invokevirtual 631, 3), (113, .iinc 2 1, 3), (116, .goto (-36), 3), (119, .iinc 1 1, 3), (122, .goto (-85), 3), (125, .bipush 19, 2), (127, .istore_n 1, 1), (128, .iconst 0, 1), (129, .istore_n 2, 1), (130, .iload_n 2, 1), (131, .aload_n 0, 1), (132, .getfield 268, 3), (135, .if_icmp .ge 24, 3), (138, .iconst 3, 1), (139, .iload_n 1, 1)] = true := by decide +kernel
theorem dkX12_image_5 : dkq cX12_image [(140, .imul, 1), (141, .aload_n 0, 1), (142, .getfield 265, 3), (145, .iload_n 2, 1), (146, .iaload, 1), (147, .iadd, 1), (148, .sipush 233, 3), (151, .irem, 1), (152, .istore_n 1, 1), (153, .iinc 2 1, 3), (156, .goto (-26), 3), (159, .aload_n 0, 1), (160, .iload_n 1, 1), (161, .invokevirtual 631, 3), (164, .aload_n 0, 1), (165, .getfield 268, 3)] = true := by decide +kernel
theorem dkX12_image_6 : dkq cX12_image [(168, .ireturn, 1)] = true := by decide +kernel
theorem dkX12_octet_0 : dkq cX12_octet [(0, .iload_n 1, 1), (1, .ifCond .lt 20, 3), (4, .iload_n 1, 1), (5, .aload_n 0, 1), (6, .getfield 268, 3), (9, .if_icmp .ge 12, 3), (12, .aload_n 0, 1), (13, .getfield 265, 3), (16, .iload_n 1, 1), (17, .iaload, 1), (18, .goto 4, 3), (21, .iconst (-1), 1), (22, .ireturn, 1)] = true := by decide +kernel
theorem dkX12_mayBeAt_0 : dkq cX12_mayBeAt [(0, .iload_n 1, 1), (1, .bipush 10, 2), (3, .if_icmp .ge 9, 3), (6, .aload_n 0, 1), (7, .iload_n 1, 1), (8, .invokevirtual 539, 3), (11, .ireturn, 1), (12, .iload_n 1, 1), (13, .bipush 20, 2), (15, .if_icmp .ge 12, 3), (18, .aload_n 0, 1), (19, .iload_n 1, 1), (20, .bipush 10, 2), (22, .isub, 1), (23, .invokevirtual 594, 3), (26, .ireturn, 1)] = true := by decide +kernel
theorem dkX12_mayBeAt_1 : dkq cX12_mayBeAt [(27, .iload_n 1, 1), (28, .bipush 40, 2), (30, .if_icmp .eq 36, 3), (33, .iload_n 1, 1), (34, .bipush 40, 2), (36, .if_icmp .ge 34, 3), (39, .aload_n 0, 1), (40, .iload_n 1, 1), (41, .bipush 20, 2), (43, .isub, 1), (44, .invokevirtual 507, 3), (47, .ifCond .eq 23, 3), (50, .aload_n 0, 1), (51, .getfield 70, 3), (54, .aload_n 0, 1), (55, .iload_n 1, 1)] = true := by decide +kernel
theorem dkX12_mayBeAt_2 : dkq cX12_mayBeAt [(56, .bipush 20, 2), (58, .isub, 1), (59, .invokevirtual 487, 3), (62, .baload, 1), (63, .ifCond .eq 7, 3), (66, .iconst 1, 1), (67, .goto 4, 3), (70, .iconst 0, 1), (71, .ireturn, 1)] = true := by decide +kernel
theorem dkX12_isRowAt_0 : dkq cX12_isRowAt [(0, .iconst 0, 1), (1, .istore_n 3, 1), (2, .iload_n 3, 1), (3, .iload_n 2, 1), (4, .if_icmp .ge 63, 3), (7, .aload_n 0, 1), (8, .aload_n 0, 1), (9, .getfield 7, 3), (12, .iload_n 1, 1), (13, .iload_n 3, 1), (14, .iadd, 1), (15, .iaload, 1), (16, .invokevirtual 507, 3), (19, .ifCond .ne 5, 3), (22, .iconst 0, 1), (23, .ireturn, 1)] = true := by decide +kernel
theorem dkX12_isRowAt_1 : dkq cX12_isRowAt [(24, .iconst 0, 1), (25, .istore 4, 2), (27, .iload 4, 2), (29, .iload_n 3, 1), (30, .if_icmp .ge 31, 3), (33, .aload_n 0, 1), (34, .getfield 7, 3), (37, .iload_n 1, 1), (38, .iload 4, 2), (40, .iadd, 1), (41, .iaload, 1), (42, .aload_n 0, 1), (43, .getfield 7, 3), (46, .iload_n 1, 1), (47, .iload_n 3, 1), (48, .iadd, 1)] = true := by decide +kernel
theorem dkX12_isRowAt_2 : dkq cX12_isRowAt [(49, .iaload, 1), (50, .if_icmp .ne 5, 3), (53, .iconst 0, 1), (54, .ireturn, 1), (55, .iinc 4 1, 3), (58, .goto (-31), 3), (61, .iinc 3 1, 3), (64, .goto (-62), 3), (67, .iconst 1, 1), (68, .ireturn, 1)] = true := by decide +kernel
theorem dkX12_isWhole_0 : dkq cX12_isWhole [(0, .iload_n 1, 1), (1, .iconst 1, 1), (2, .if_icmp .ge 5, 3), (5, .iconst 0, 1), (6, .ireturn, 1), (7, .bipush 19, 2), (9, .istore_n 2, 1), (10, .iconst 0, 1), (11, .istore_n 3, 1), (12, .iload_n 3, 1), (13, .iload_n 1, 1), (14, .iconst 1, 1), (15, .isub, 1), (16, .if_icmp .ge 24, 3), (19, .iconst 3, 1), (20, .iload_n 2, 1)] = true := by decide +kernel
theorem dkX12_isWhole_1 : dkq cX12_isWhole [(21, .imul, 1), (22, .aload_n 0, 1), (23, .getfield 7, 3), (26, .iload_n 3, 1), (27, .iaload, 1), (28, .iadd, 1), (29, .sipush 233, 3), (32, .irem, 1), (33, .istore_n 2, 1), (34, .iinc 3 1, 3), (37, .goto (-25), 3), (40, .aload_n 0, 1), (41, .getfield 7, 3), (44, .iload_n 1, 1), (45, .iconst 1, 1), (46, .isub, 1)] = true := by decide +kernel
theorem dkX12_isWhole_2 : dkq cX12_isWhole [(47, .iaload, 1), (48, .iload_n 2, 1), (49, .if_icmp .eq 5, 3), (52, .iconst 0, 1), (53, .ireturn, 1), (54, .aload_n 0, 1), (55, .getfield 95, 3), (58, .aload_n 0, 1), (59, .getfield 48, 3), (62, .iaload, 1), (63, .istore_n 3, 1), (64, .iconst 0, 1), (65, .istore 4, 2), (67, .iload 4, 2), (69, .aload_n 0, 1), (70, .getfield 95, 3)] = true := by decide +kernel
theorem dkX12_isWhole_3 : dkq cX12_isWhole [(73, .aload_n 0, 1), (74, .getfield 48, 3), (77, .iaload, 1), (78, .if_icmp .ge 33, 3), (81, .iload 4, 2), (83, .iload_n 1, 1), (84, .iconst 1, 1), (85, .isub, 1), (86, .if_icmp .ge 17, 3), (89, .aload_n 0, 1), (90, .aload_n 0, 1), (91, .getfield 7, 3), (94, .iload 4, 2), (96, .iaload, 1), (97, .invokevirtual 594, 3), (100, .ifCond .ne 5, 3)] = true := by decide +kernel
theorem dkX12_isWhole_4 : dkq cX12_isWhole [(103, .iconst 0, 1), (104, .ireturn, 1), (105, .iinc 4 1, 3), (108, .goto (-41), 3), (111, .iconst 0, 1), (112, .istore 4, 2), (114, .iload 4, 2), (116, .aload_n 0, 1), (117, .getfield 80, 3), (120, .aload_n 0, 1), (121, .getfield 48, 3), (124, .iaload, 1), (125, .if_icmp .ge 89, 3), (128, .iload_n 3, 1), (129, .iconst 2, 1), (130, .iadd, 1)] = true := by decide +kernel
theorem dkX12_isWhole_5 : dkq cX12_isWhole [(131, .iload_n 1, 1), (132, .iconst 1, 1), (133, .isub, 1), (134, .if_icmp .gt 29, 3), (137, .aload_n 0, 1), (138, .aload_n 0, 1), (139, .getfield 7, 3), (142, .iload_n 3, 1), (143, .iaload, 1), (144, .invokevirtual 634, 3), (147, .ifCond .eq 16, 3), (150, .aload_n 0, 1), (151, .getfield 7, 3), (154, .iload_n 3, 1), (155, .iconst 1, 1), (156, .iadd, 1)] = true := by decide +kernel
theorem dkX12_isWhole_6 : dkq cX12_isWhole [(157, .iaload, 1), (158, .bipush 6, 2), (160, .if_icmp .le 5, 3), (163, .iconst 0, 1), (164, .ireturn, 1), (165, .aload_n 0, 1), (166, .getfield 7, 3), (169, .iload_n 3, 1), (170, .iconst 1, 1), (171, .iadd, 1), (172, .iaload, 1), (173, .istore 5, 2), (175, .iload_n 3, 1), (176, .iconst 2, 1), (177, .iadd, 1), (178, .iload 5, 2)] = true := by decide +kernel
theorem dkX12_isWhole_7 : dkq cX12_isWhole [(180, .iadd, 1), (181, .iload_n 1, 1), (182, .iconst 1, 1), (183, .isub, 1), (184, .if_icmp .gt 15, 3), (187, .aload_n 0, 1), (188, .iload_n 3, 1), (189, .iconst 2, 1), (190, .iadd, 1), (191, .iload 5, 2), (193, .invokevirtual 637, 3), (196, .ifCond .ne 5, 3), (199, .iconst 0, 1), (200, .ireturn, 1), (201, .iload_n 3, 1), (202, .iconst 2, 1)] = true := by decide +kernel
theorem dkX12_isWhole_8 : dkq cX12_isWhole [(203, .iload 5, 2), (205, .iadd, 1), (206, .iadd, 1), (207, .istore_n 3, 1), (208, .iinc 4 1, 3), (211, .goto (-97), 3), (214, .iload_n 3, 1), (215, .iload_n 1, 1), (216, .iconst 1, 1), (217, .isub, 1), (218, .if_icmp .ne 7, 3), (221, .iconst 1, 1), (222, .goto 4, 3), (225, .iconst 0, 1), (226, .ireturn, 1)] = true := by decide +kernel
