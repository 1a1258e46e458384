abbrev tr_d_X12_may_2 (K1 : Int → Prop) (z1 : Int) (z : Int) : Prop := (K1 (z1 + 1))
def d_X12_may_2 (K1 : Int → Prop) (z1 : Int) (z : Int) : Prop := tr_d_X12_may_2 K1 z1 z
theorem u_d_X12_may_2 {K1 : Int → Prop} {z1 : Int} {z : Int} (h : tr_d_X12_may_2 K1 z1 z) : d_X12_may_2 K1 z1 z := h
abbrev tr_d_X12_may_1 (x1 : Int) (A : St) (z : Int) (K1 : Int → Prop) (z1 : Int) : Prop := ((0 ≤ z1 ∧ z1 ≤ 2147483647) ∧ (((x1 ≤ z1) ∧ (z = 1)) ∨ ((¬ x1 ≤ z1) ∧ (∃ z9 : Int, z9 = A 51 (z1).toNat ∧ (∃ z10 : Int, z10 = A 51 (x1).toNat ∧ (((¬ z9 = z10) ∧ (d_X12_may_2 K1 z1 z)) ∨ ((z9 = z10) ∧ (∃ z13 : Int, q_X12_crosses z1 x1 A z13 ∧ (((z13 = 0) ∧ (d_X12_may_2 K1 z1 z)) ∨ ((¬ z13 = 0) ∧ (z = 0)))))))))))
def d_X12_may_1 (x1 : Int) (A : St) (z : Int) : Nat → Int → Prop
  | 0, _ => False
  | nn9 + 1, z1 => tr_d_X12_may_1 x1 A z (fun z1 => d_X12_may_1 x1 A z nn9 z1) z1
theorem u_d_X12_may_1 {x1 : Int} {A : St} {z : Int} {nn9 : Nat} {z1 : Int} (h : tr_d_X12_may_1 x1 A z (fun z1 => d_X12_may_1 x1 A z nn9 z1) z1) : d_X12_may_1 x1 A z (nn9 + 1) z1 := h
abbrev tr_r_X12_may (x1 : Int) (A : St) (z : Int) : Prop := (∃ nn9 : Nat, d_X12_may_1 x1 A z nn9 0)
def r_X12_may (x1 : Int) (A : St) (z : Int) : Prop := tr_r_X12_may x1 A z
theorem u_r_X12_may {x1 : Int} {A : St} {z : Int} (h : tr_r_X12_may x1 A z) : r_X12_may x1 A z := h
def q_X12_may (x1 : Int) (A : St) (z : Int) : Prop := r_X12_may x1 A z ∧ ((0 ≤ z ∧ z ≤ 1) ∧ (Hd (z = 0 → ∃ o : Nat, (o : Int) < x1 ∧ A 51 o = A 51 x1.toNat)))
def ws_mb_X12_may : List Cond := .code yX12_may cX12_may 3 (some .boolean) :: WX
set_option maxHeartbeats 4000000 in
set_option maxRecDepth 100000 in
theorem mb_X12_may (l : Launch) (dC : Nat → ClassId) (dI : Nat → Nat → Nat) (cB cI cJ cZ cQ : ClassId) (q : Nat → Nat) (A : St) (x1 : Int) (hI : IM A) (hx1 : (0 : Int) ≤ x1 ∧ x1 ≤ 7) : XMi l yX12_may ws_mb_X12_may ({ frames := 1, cells := 0, slots := 0, locals := 27 } : Room) (dC, dI) (tyA cB cI cJ cZ cQ) (WM cI cJ cZ q) A [.ref (q 0), .int (iI x1)] (fun z u => A = u ∧ r_X12_may x1 A z ∧ ((0 ≤ z ∧ z ≤ 1) ∧ (Hd (z = 0 → ∃ o : Nat, (o : Int) < x1 ∧ A 51 o = A 51 x1.toNat)))) := by
  refine x_metz (cc := cX12_may) (maxL := 3) WM_adr (by decide +kernel) rfl (Nat.le_of_ble_eq_true rfl) (fun z u h => h.2.2.1) (fun p e s m below meth c Q AS ls hx hb hml hown hts hK hDD hA0 hP hS hl RET => ?_)
  have hown : s.vm.findClass RX12 = some m.cls := hown
  have hl : lv_has ls 3 [(0, .ref (q 0)), (1, .int (iI x1))] := hl
  have hiX12 : ∀ w ∈ u_ws RX12 TX12 85, w ∈ ws_mb_X12_may := fun w h => List.mem_cons_of_mem _ (wx_lay w h)
  obtain ⟨H, hHe⟩ : ∃ H : Heap, H = s.heap := ⟨_, rfl⟩
  rw [← hHe] at hP
  have hS : va_S AS s.heap H [] := by rw [hHe]; exact hS
  suffices hgo : ∀ locs : List Loc, va_S AS s.heap H locs → W p l e (headSpec ws_mb_X12_may ({ frames := 1, cells := 0, slots := 0, locals := 27 } : Room)).room s m [.ref (q 0), .int (iI x1)].toArray below meth c H locs 0 0 Q (F0 m 0 ls []) by
    have := hgo [] hS
    rw [hHe] at this
    exact this
  clear hS hHe
  intro locs hS
  refine lv_iconst (v := iI 0) hx hb (dk_at dkX12_may_0 0 rfl) (by decide +kernel) ?_
  refine lv_istore_n (lv' := [(2, .int (iI 0)), (0, .ref (q 0)), (1, .int (iI x1))]) hx hb (dk_at dkX12_may_0 1 rfl) rfl hl (by decide) rfl (fun ls hl => ?_)
  have L2_3 : ∀ (n5 : Nat) (z1 : Int) (H : Heap) (locs : List Loc) (ls : Array Slot), (0 ≤ z1) → (0 ≤ z1 ∧ z1 ≤ 2147483647) → (∀ (z : Int), (∃ mm1 : Nat, (d_X12_may_1 x1 A z mm1 z1)) → r_X12_may x1 A z) → ((x1 - z1 + 1).toNat = n5) → va_P (dC, dI) vwCl (WM cI cJ cZ q A) H → va_S AS s.heap H locs → lv_has ls 3 [(2, .int (iI z1)), (0, .ref (q 0)), (1, .int (iI x1))] → W p l e (headSpec ws_mb_X12_may ({ frames := 1, cells := 0, slots := 0, locals := 27 } : Room)).room s m [.ref (q 0), .int (iI x1)].toArray below meth c H locs 0 0 Q (F0 m 2 ls []) := by
    intro n5
    induction n5 using Nat.strongRecOn with
    | ind n5 ih4 =>
      intro z1 H locs ls f6 f7 hk1 hn5 hP hS hl
      refine lv_iload_n hx hb (dk_at dkX12_may_0 2 rfl) rfl (lv_at hl 0 rfl) ?_
      refine lv_iload_n hx hb (dk_at dkX12_may_0 3 rfl) rfl (lv_at hl 2 rfl) ?_
      refine lv_icmp_ge (tgt := 39) hx hb (dk_at dkX12_may_0 4 rfl) (by decide) (fun c8 => ?_) (fun c8 => ?_)
      · have c8 : x1 ≤ z1 := (i_le (rb hx1 (by decide) (by decide)) (rb f7 (by decide) (by decide))).mp c8
        refine lv_iconst (v := iI 1) hx hb (dk_at dkX12_may_1 7 rfl) (by decide +kernel) ?_
        exact RET 1 _ _ _ _ _ ⟨rfl, hk1 _ ⟨0 + 1, (u_d_X12_may_1 ⟨f7, (Or.inl ⟨c8, rfl⟩)⟩)⟩, ⟨by decide, Hd.mk (fun h => absurd h (by decide))⟩⟩ hP hS (dk_at dkX12_may_1 8 rfl)
      · have c8 : ¬ x1 ≤ z1 := mt (i_le (rb hx1 (by decide) (by decide)) (rb f7 (by decide) (by decide))).mpr c8
        refine lv_aload_n hx hb (dk_at dkX12_may_0 5 rfl) rfl (lv_at hl 1 rfl) ?_
        refine va_get (D := (dC, dI)) (ci := 12) (v := .ref (q 51)) (C := RX12) (T := TX12) (N := 85) hx hb hts hiX12 hown hK hP 0 wm0 rfl 74 (by decide) (hts _ (List.mem_cons_of_mem _ wlq_7_53)) (fun _ h9 => h9) rfl (dk_at dkX12_may_0 6 rfl) ?_
        refine lv_iload_n hx hb (dk_at dkX12_may_0 7 rfl) rfl (lv_at hl 0 rfl) ?_
        refine x_iald hx hb hK hP 51 1 wm51 rfl (by omega) (by decide) (dk_at dkX12_may_0 8 rfl) (fun z9 hz9 => ?_)
        have rz9 : (-1 : Int) ≤ z9 ∧ z9 ≤ 8 := by rw [hz9]; exact hI 51 _
        have gz9 := Hd.mk hz9
        have hz9 : z9 = A 51 (z1).toNat := hz9
        refine lv_aload_n hx hb (dk_at dkX12_may_0 9 rfl) rfl (lv_at hl 1 rfl) ?_
        refine va_get (D := (dC, dI)) (ci := 12) (v := .ref (q 51)) (C := RX12) (T := TX12) (N := 85) hx hb hts hiX12 hown hK hP 0 wm0 rfl 74 (by decide) (hts _ (List.mem_cons_of_mem _ wlq_7_53)) (fun _ h9 => h9) rfl (dk_at dkX12_may_0 10 rfl) ?_
        refine lv_iload_n hx hb (dk_at dkX12_may_0 11 rfl) rfl (lv_at hl 2 rfl) ?_
        refine x_iald hx hb hK hP 51 1 wm51 rfl (by omega) (by decide) (dk_at dkX12_may_0 12 rfl) (fun z10 hz10 => ?_)
        have rz10 : (-1 : Int) ≤ z10 ∧ z10 ≤ 8 := by rw [hz10]; exact hI 51 _
        have gz10 := Hd.mk hz10
        have hz10 : z10 = A 51 (x1).toNat := hz10
        have J33_12 : ∀ (H : Heap) (locs : List Loc) (ls : Array Slot), (∀ (z : Int), (∃ mm1 : Nat, (d_X12_may_2 (fun z1' => d_X12_may_1 x1 A z mm1 z1') z1 z)) → r_X12_may x1 A z) → va_P (dC, dI) vwCl (WM cI cJ cZ q A) H → va_S AS s.heap H locs → lv_has ls 3 [(2, .int (iI z1)), (0, .ref (q 0)), (1, .int (iI x1))] → W p l e (headSpec ws_mb_X12_may ({ frames := 1, cells := 0, slots := 0, locals := 27 } : Room)).room s m [.ref (q 0), .int (iI x1)].toArray below meth c H locs 0 0 Q (F0 m 33 ls []) := by
          intro H locs ls hk2 hP hS hl
          refine lv_iinc (v := iI (z1 + 1)) (lv' := [(2, .int (iI (z1 + 1))), (0, .ref (q 0)), (1, .int (iI x1))]) hx hb (dk_at dkX12_may_1 5 rfl) hl (k := 0) rfl (i_inc (by omega)) (by decide) rfl (fun ls hl => ?_)
          refine lv_goto (tgt := 2) hx hb (dk_at dkX12_may_1 6 rfl) (by decide) ?_
          exact ih4 _ (by omega) (z1 + 1) _ _ _ (by omega) (by omega) (fun zq ⟨mm1, hq⟩ => hk2 _ ⟨mm1, (u_d_X12_may_2 hq)⟩) rfl hP hS (lv_sub hl [0, 1, 2] rfl)
        refine lv_icmp_ne (tgt := 33) hx hb (dk_at dkX12_may_0 13 rfl) (by decide) (fun c11 => ?_) (fun c11 => ?_)
        · have c11 : ¬ z9 = z10 := mt (i_eq (rb rz9 (by decide) (by decide)) (rb rz10 (by decide) (by decide))).mpr c11
          exact J33_12 _ _ _ (fun zq ⟨mm1, hq⟩ => hk1 _ ⟨mm1 + 1, (u_d_X12_may_1 ⟨f7, (Or.inr ⟨c8, ⟨z9, gz9.out, ⟨z10, gz10.out, (Or.inl ⟨c11, hq⟩)⟩⟩⟩)⟩)⟩) hP hS (lv_sub hl [0, 1, 2] rfl)
        · have c11 : z9 = z10 := (i_eq (rb rz9 (by decide) (by decide)) (rb rz10 (by decide) (by decide))).mp c11
          refine lv_aload_n hx hb (dk_at dkX12_may_0 14 rfl) rfl (lv_at hl 1 rfl) ?_
          refine lv_iload_n hx hb (dk_at dkX12_may_0 15 rfl) rfl (lv_at hl 0 rfl) ?_
          refine lv_iload_n hx hb (dk_at dkX12_may_1 0 rfl) rfl (lv_at hl 2 rfl) ?_
          refine x_calli (As := [.int (iI z1), .int (iI x1)]) (rest := []) ⟨hx, hb, hml, hown, hts⟩ (mc_X12_crosses l dC dI cB cI cJ cZ cQ q _ z1 x1 hI (by omega) hx1) (cwV 2 hts (goodV wlq_7_49 wlq_7_50 wlq_7_51 wlq_0_8 wlq_7_47) rfl rfl rfl (by decide +kernel) ⟨Nat.le_of_ble_eq_true rfl, Nat.le_of_ble_eq_true rfl⟩) hK hDD hA0 hP hS 0 12 wm0 rfl rfl hl.1 (Nat.le_of_ble_eq_true rfl) (dk_at dkX12_may_1 1 rfl) (fun z13 A14 H locs hw15 hP hS => ?_)
          obtain ⟨rfl, hw15⟩ := hw15
          have ghw15 : q_X12_crosses z1 x1 A z13 := hw15
          have hw15 := hw15.2
          refine lv_if_eq (tgt := 33) hx hb (dk_at dkX12_may_1 2 rfl) (by decide) (fun c16 => ?_) (fun c16 => ?_)
          · have c16 : z13 = 0 := (i_eq0 (rb hw15 (by decide) (by decide))).mp c16
            exact J33_12 _ _ _ (fun zq ⟨mm1, hq⟩ => hk1 _ ⟨mm1 + 1, (u_d_X12_may_1 ⟨f7, (Or.inr ⟨c8, ⟨z9, gz9.out, ⟨z10, gz10.out, (Or.inr ⟨c11, ⟨z13, ghw15, (Or.inl ⟨c16, hq⟩)⟩⟩)⟩⟩⟩)⟩)⟩) hP hS (lv_sub hl [0, 1, 2] rfl)
          · have c16 : ¬ z13 = 0 := mt (i_eq0 (rb hw15 (by decide) (by decide))).mpr c16
            refine lv_iconst (v := iI 0) hx hb (dk_at dkX12_may_1 3 rfl) (by decide +kernel) ?_
            exact RET 0 _ _ _ _ _ ⟨rfl, hk1 _ ⟨0 + 1, (u_d_X12_may_1 ⟨f7, (Or.inr ⟨c8, ⟨z9, gz9.out, ⟨z10, gz10.out, (Or.inr ⟨c11, ⟨z13, ghw15, (Or.inr ⟨c16, rfl⟩)⟩⟩)⟩⟩⟩)⟩)⟩, ⟨by decide, Hd.mk (fun _ => ⟨(z1).toNat, by omega, by rw [← hz9, ← hz10]; omega⟩)⟩⟩ hP hS (dk_at dkX12_may_1 4 rfl)
  exact L2_3 _ 0 _ _ _ (by omega) (by omega) (fun zq ⟨mm1, hq⟩ => (u_r_X12_may ⟨mm1, hq⟩)) rfl hP hS (lv_sub hl [0, 1, 2] rfl)

abbrev tr_d_X12_fits8_3 (K1 : Int → St → Prop) (x1 : Int) (z2 : Int) (A20 : St) (z : Int) (u : St) : Prop := (∃ z38 : Int, z38 = A20 51 (z2).toNat ∧ (((x1 ≤ z38) ∧ (K1 (z2 - 1) A20)) ∨ ((¬ x1 ≤ z38) ∧ (∃ A40 : St, A40 = (stA A20 51 (z2 + 1).toNat (-1)) ∧ (K1 (z2 + 1) A40)))))
def d_X12_fits8_3 (K1 : Int → St → Prop) (x1 : Int) (z2 : Int) (A20 : St) (z : Int) (u : St) : Prop := tr_d_X12_fits8_3 K1 x1 z2 A20 z u
theorem u_d_X12_fits8_3 {K1 : Int → St → Prop} {x1 : Int} {z2 : Int} {A20 : St} {z : Int} {u : St} (h : tr_d_X12_fits8_3 K1 x1 z2 A20 z u) : d_X12_fits8_3 K1 x1 z2 A20 z u := h
abbrev tr_d_X12_fits8_2 (K1 : Int → St → Prop) (x1 : Int) (z2 : Int) (z : Int) (u : St) (K2 : St → Prop) (A20 : St) : Prop := ((IM A20) ∧ (∃ z28 : Int, z28 = A20 51 (z2).toNat ∧ (((x1 ≤ z28) ∧ (d_X12_fits8_3 K1 x1 z2 A20 z u)) ∨ ((¬ x1 ≤ z28) ∧ (∃ z31 : Int, q_X12_may z2 A20 z31 ∧ (((¬ z31 = 0) ∧ (d_X12_fits8_3 K1 x1 z2 A20 z u)) ∨ ((z31 = 0) ∧ (∃ z35 : Int, z35 = A20 51 (z2).toNat ∧ (∃ A36 : St, A36 = (stA A20 51 (z2).toNat (z35 + 1)) ∧ (K2 A36))))))))))
def d_X12_fits8_2 (K1 : Int → St → Prop) (x1 : Int) (z2 : Int) (z : Int) (u : St) : Nat → St → Prop
  | 0, _ => False
  | nn9 + 1, A20 => tr_d_X12_fits8_2 K1 x1 z2 z u (fun A20 => d_X12_fits8_2 K1 x1 z2 z u nn9 A20) A20
theorem u_d_X12_fits8_2 {K1 : Int → St → Prop} {x1 : Int} {z2 : Int} {z : Int} {u : St} {nn9 : Nat} {A20 : St} (h : tr_d_X12_fits8_2 K1 x1 z2 z u (fun A20 => d_X12_fits8_2 K1 x1 z2 z u nn9 A20) A20) : d_X12_fits8_2 K1 x1 z2 z u (nn9 + 1) A20 := h
abbrev tr_d_X12_fits8_1 (x1 : Int) (A : St) (z : Int) (u : St) (K1 : Int → St → Prop) (z2 : Int) (A4 : St) : Prop := ((IM A4) ∧ ((-1 ≤ z2 ∧ z2 ≤ 6) ∧ (((z2 < 0) ∧ (z = 0 ∧ u = A4)) ∨ ((¬ z2 < 0) ∧ (∃ z14 : Int, z14 = A4 25 ((A 0 12)).toNat ∧ (((z14 ≤ z2) ∧ (z = 1 ∧ u = A4)) ∨ ((¬ z14 ≤ z2) ∧ (∃ z17 : Int, z17 = A4 51 (z2).toNat ∧ (∃ A18 : St, A18 = (stA A4 51 (z2).toNat (z17 + 1)) ∧ (∃ nn9 : Nat, d_X12_fits8_2 K1 x1 z2 z u nn9 A18))))))))))
def d_X12_fits8_1 (x1 : Int) (A : St) (z : Int) (u : St) : Nat → Int → St → Prop
  | 0, _, _ => False
  | nn9 + 1, z2, A4 => tr_d_X12_fits8_1 x1 A z u (fun z2 A4 => d_X12_fits8_1 x1 A z u nn9 z2 A4) z2 A4
theorem u_d_X12_fits8_1 {x1 : Int} {A : St} {z : Int} {u : St} {nn9 : Nat} {z2 : Int} {A4 : St} (h : tr_d_X12_fits8_1 x1 A z u (fun z2 A4 => d_X12_fits8_1 x1 A z u nn9 z2 A4) z2 A4) : d_X12_fits8_1 x1 A z u (nn9 + 1) z2 A4 := h
abbrev tr_r_X12_fits8 (x1 : Int) (A : St) (z : Int) (u : St) : Prop := (∃ A1 : St, A1 = (stA A 51 (0 : Int).toNat (-1)) ∧ (∃ nn9 : Nat, d_X12_fits8_1 x1 A z u nn9 0 A1))
def r_X12_fits8 (x1 : Int) (A : St) (z : Int) (u : St) : Prop := tr_r_X12_fits8 x1 A z u
theorem u_r_X12_fits8 {x1 : Int} {A : St} {z : Int} {u : St} (h : tr_r_X12_fits8 x1 A z u) : r_X12_fits8 x1 A z u := h
def q_X12_fits8 (x1 : Int) (A : St) (z : Int) (u : St) : Prop := r_X12_fits8 x1 A z u ∧ IM u ∧ fr [51] [] A u ∧ ((0 ≤ z ∧ z ≤ 1) ∧ (Hd (A 25 (A 0 12).toNat ≤ x1 → z = 1)))
def ws_mb_X12_fits8 : List Cond := .code yX12_fits8 cX12_fits8 3 (some .boolean) :: WX
set_option maxHeartbeats 4000000 in
set_option maxRecDepth 100000 in
theorem mb_X12_fits8 (l : Launch) (dC : Nat → ClassId) (dI : Nat → Nat → Nat) (cB cI cJ cZ cQ : ClassId) (q : Nat → Nat) (A : St) (x1 : Int) (hI : IM A) (hx1 : (0 : Int) ≤ x1 ∧ x1 ≤ 6) : XMi l yX12_fits8 ws_mb_X12_fits8 ({ frames := 2, cells := 0, slots := 0, locals := 49 } : Room) (dC, dI) (tyA cB cI cJ cZ cQ) (WM cI cJ cZ q) A [.ref (q 0), .int (iI x1)] (fun z u => r_X12_fits8 x1 A z u ∧ IM u ∧ fr [51] [] A u ∧ ((0 ≤ z ∧ z ≤ 1) ∧ (Hd (A 25 (A 0 12).toNat ≤ x1 → z = 1)))) := by
  refine x_metz (cc := cX12_fits8) (maxL := 3) WM_adr (by decide +kernel) rfl (Nat.le_of_ble_eq_true rfl) (fun z u h => h.2.2.2.1) (fun p e s m below meth c Q AS ls hx hb hml hown hts hK hDD hA0 hP hS hl RET => ?_)
  have hown : s.vm.findClass RX12 = some m.cls := hown
  have hl : lv_has ls 3 [(0, .ref (q 0)), (1, .int (iI x1))] := hl
  have hiX12 : ∀ w ∈ u_ws RX12 TX12 85, w ∈ ws_mb_X12_fits8 := fun w h => List.mem_cons_of_mem _ (wx_lay w h)
  obtain ⟨H, hHe⟩ : ∃ H : Heap, H = s.heap := ⟨_, rfl⟩
  rw [← hHe] at hP
  have hS : va_S AS s.heap H [] := by rw [hHe]; exact hS
  suffices hgo : ∀ locs : List Loc, va_S AS s.heap H locs → W p l e (headSpec ws_mb_X12_fits8 ({ frames := 2, cells := 0, slots := 0, locals := 49 } : Room)).room s m [.ref (q 0), .int (iI x1)].toArray below meth c H locs 0 0 Q (F0 m 0 ls []) by
    have := hgo [] hS
    rw [hHe] at this
    exact this
  clear hS hHe
  intro locs hS
  refine lv_iconst (v := iI 0) hx hb (dk_at dkX12_fits8_0 0 rfl) (by decide +kernel) ?_
  refine lv_istore_n (lv' := [(2, .int (iI 0)), (0, .ref (q 0)), (1, .int (iI x1))]) hx hb (dk_at dkX12_fits8_0 1 rfl) rfl hl (by decide) rfl (fun ls hl => ?_)
  refine lv_aload_n hx hb (dk_at dkX12_fits8_0 2 rfl) rfl (lv_at hl 1 rfl) ?_
  refine va_get (D := (dC, dI)) (ci := 12) (v := .ref (q 51)) (C := RX12) (T := TX12) (N := 85) hx hb hts hiX12 hown hK hP 0 wm0 rfl 74 (by decide) (hts _ (List.mem_cons_of_mem _ wlq_7_53)) (fun _ h9 => h9) rfl (dk_at dkX12_fits8_0 3 rfl) ?_
  refine lv_iconst (v := iI 0) hx hb (dk_at dkX12_fits8_0 4 rfl) (by decide +kernel) ?_
  refine lv_iconst (v := iI (-1)) hx hb (dk_at dkX12_fits8_0 5 rfl) (by decide +kernel) ?_
  refine x_iast hx hb hK hP hDD hS 51 1 wm51 rfl (by omega) (by decide) (dk_at dkX12_fits8_0 6 rfl) ws51 (fun H locs hP hS => ?_)
  have hI := hI.st (j := 51) (i := (0 : Int).toNat) (v := (-1)) (show (-1 : Int) ≤ (-1) ∧ (-1) ≤ 8 from (by omega))
  obtain ⟨A1, hA1⟩ : ∃ A1 : St, A1 = (stA A 51 (0 : Int).toNat (-1)) := ⟨_, rfl⟩
  rw [← hA1] at hP hI
  have L9_5 : ∀ (n7 : Nat) (z2 : Int) (A4 : St) (H : Heap) (locs : List Loc) (ls : Array Slot), (-1 ≤ z2 ∧ z2 ≤ 6) → (Hd (∀ i : Nat, (i : Int) ≤ z2 → A4 51 i < x1)) → (Hd (A 25 (A 0 12).toNat ≤ x1 → 0 ≤ z2 ∧ A4 51 z2.toNat = -1)) → (∀ (z : Int) (u : St), (∃ mm1 : Nat, (d_X12_fits8_1 x1 A z u mm1 z2 A4)) → r_X12_fits8 x1 A z u) → (fmz (A4 51) z2 = n7) → IM A4 → fr [51] [] A1 A4 → va_P (dC, dI) vwCl (WM cI cJ cZ q A4) H → va_S AS s.heap H locs → lv_has ls 3 [(2, .int (iI z2)), (0, .ref (q 0)), (1, .int (iI x1))] → W p l e (headSpec ws_mb_X12_fits8 ({ frames := 2, cells := 0, slots := 0, locals := 49 } : Room)).room s m [.ref (q 0), .int (iI x1)].toArray below meth c H locs 0 0 Q (F0 m 9 ls []) := by
    intro n7
    induction n7 using Nat.strongRecOn with
    | ind n7 ih6 =>
      intro z2 A4 H locs ls f8 f9 f10 hk1 hn7 hI hj3 hP hS hl
      have gI11 : Hd (IM A4) := Hd.mk hI
      have hIb := hI
      refine lv_iload_n hx hb (dk_at dkX12_fits8_0 7 rfl) rfl (lv_at hl 0 rfl) ?_
      refine lv_if_lt (tgt := 96) hx hb (dk_at dkX12_fits8_0 8 rfl) (by decide) (fun c12 => ?_) (fun c12 => ?_)
      · have c12 : z2 < 0 := (i_lt0 (rb f8 (by decide) (by decide))).mp c12
        refine lv_iload_n hx hb (dk_at dkX12_fits8_3 10 rfl) rfl (lv_at hl 0 rfl) ?_
        refine lv_if_lt (tgt := 104) hx hb (dk_at dkX12_fits8_3 11 rfl) (by decide) (fun _ => ?_) (fun c13 => False.elim (by have c13 : ¬ z2 < 0 := mt (i_lt0 (rb f8 (by decide) (by decide))).mpr c13; omega))
        refine lv_iconst (v := iI 0) hx hb (dk_at dkX12_fits8_3 14 rfl) (by decide +kernel) ?_
        exact RET 0 _ _ _ _ _ ⟨hk1 _ _ ⟨0 + 1, (u_d_X12_fits8_1 ⟨gI11.out, ⟨f8, (Or.inl ⟨c12, ⟨rfl, rfl⟩⟩)⟩⟩)⟩, hI, fr.trans (fr_def hA1 (fr.st (fr.rf) (by decide) rfl)) hj3 rfl rfl, ⟨by decide, Hd.mk (fun h => absurd (f10.out h).1 (by omega))⟩⟩ hP hS (dk_at dkX12_fits8_3 15 rfl)
      · have c12 : ¬ z2 < 0 := mt (i_lt0 (rb f8 (by decide) (by decide))).mpr c12
        refine lv_iload_n hx hb (dk_at dkX12_fits8_0 9 rfl) rfl (lv_at hl 0 rfl) ?_
        refine lv_aload_n hx hb (dk_at dkX12_fits8_0 10 rfl) rfl (lv_at hl 1 rfl) ?_
        refine va_get (D := (dC, dI)) (ci := 12) (v := .ref (q 25)) (C := RX12) (T := TX12) (N := 85) hx hb hts hiX12 hown hK hP 0 wm0 rfl 36 (by decide) (hts _ (List.mem_cons_of_mem _ wlq_3_20)) (fun _ h9 => h9) rfl (dk_at dkX12_fits8_0 11 rfl) ?_
        refine lv_aload_n hx hb (dk_at dkX12_fits8_0 12 rfl) rfl (lv_at hl 1 rfl) ?_
        have e_A1_12 : A1 0 12 = (A 0 12) := by rw [hA1]; exact rfl
        have e_A4_12 : A4 0 12 = (A 0 12) := (hj3.2 12 rfl).trans e_A1_12
        refine va_get (D := (dC, dI)) (ci := 12) (v := .int (iI (A4 0 12))) (C := RX12) (T := TX12) (N := 85) hx hb hts hiX12 hown hK hP 0 wm0 rfl 12 (by decide) (hts _ (List.mem_cons_of_mem _ wlq_4_14)) (fun _ h9 => h9) rfl (dk_at dkX12_fits8_0 13 rfl) ?_
        refine tp_i (y := iI (A 0 12)) (congrArg iI e_A4_12) ?_
        have r_A_0_12 : (0 : Int) ≤ (A 0 12) ∧ (A 0 12) ≤ 1 := by rw [← e_A4_12]; exact hI 0 12
        have a_A1_25 : A1 25 = A 25 := by rw [hA1]; exact rfl
        have a_A4_25 : A4 25 = A 25 := (hj3.1 25 (by decide) rfl).trans a_A1_25
        refine x_iald hx hb hK hP 25 1 wm25 rfl (by omega) (by decide) (dk_at dkX12_fits8_0 14 rfl) (fun z14 hz14 => ?_)
        have rz14 : (0 : Int) ≤ z14 ∧ z14 ≤ 6 := by rw [hz14]; exact hI 25 _
        have gz14 := Hd.mk hz14
        have hz14 : z14 = A 25 ((A 0 12)).toNat := hz14.trans (congrFun a_A4_25 _)
        refine lv_icmp_ge (tgt := 96) hx hb (dk_at dkX12_fits8_0 15 rfl) (by decide) (fun c15 => ?_) (fun c15 => ?_)
        · have c15 : z14 ≤ z2 := (i_le (rb rz14 (by decide) (by decide)) (rb f8 (by decide) (by decide))).mp c15
          refine lv_iload_n hx hb (dk_at dkX12_fits8_3 10 rfl) rfl (lv_at hl 0 rfl) ?_
          refine lv_if_lt (tgt := 104) hx hb (dk_at dkX12_fits8_3 11 rfl) (by decide) (fun c16 => False.elim (by have c16 : z2 < 0 := (i_lt0 (rb f8 (by decide) (by decide))).mp c16; omega)) (fun _ => ?_)
          refine lv_iconst (v := iI 1) hx hb (dk_at dkX12_fits8_3 12 rfl) (by decide +kernel) ?_
          refine lv_goto (tgt := 105) hx hb (dk_at dkX12_fits8_3 13 rfl) (by decide) ?_
          exact RET 1 _ _ _ _ _ ⟨hk1 _ _ ⟨0 + 1, (u_d_X12_fits8_1 ⟨gI11.out, ⟨f8, (Or.inr ⟨c12, ⟨z14, gz14.out, (Or.inl ⟨c15, ⟨rfl, rfl⟩⟩)⟩⟩)⟩⟩)⟩, hI, fr.trans (fr_def hA1 (fr.st (fr.rf) (by decide) rfl)) hj3 rfl rfl, ⟨by decide, Hd.mk (fun _ => rfl)⟩⟩ hP hS (dk_at dkX12_fits8_3 15 rfl)
        · have c15 : ¬ z14 ≤ z2 := mt (i_le (rb rz14 (by decide) (by decide)) (rb f8 (by decide) (by decide))).mpr c15
          refine lv_aload_n hx hb (dk_at dkX12_fits8_1 0 rfl) rfl (lv_at hl 1 rfl) ?_
          refine va_get (D := (dC, dI)) (ci := 12) (v := .ref (q 51)) (C := RX12) (T := TX12) (N := 85) hx hb hts hiX12 hown hK hP 0 wm0 rfl 74 (by decide) (hts _ (List.mem_cons_of_mem _ wlq_7_53)) (fun _ h9 => h9) rfl (dk_at dkX12_fits8_1 1 rfl) ?_
          refine lv_iload_n hx hb (dk_at dkX12_fits8_1 2 rfl) rfl (lv_at hl 0 rfl) ?_
          refine lv_dup2_11 hx hb (dk_at dkX12_fits8_1 3 rfl) rfl rfl ?_
          refine x_iald hx hb hK hP 51 1 wm51 rfl (by omega) (by decide) (dk_at dkX12_fits8_1 4 rfl) (fun z17 hz17 => ?_)
          have rz17 : (-1 : Int) ≤ z17 ∧ z17 ≤ 8 := by rw [hz17]; exact hI 51 _
          have gz17 := Hd.mk hz17
          have hz17 : z17 = A4 51 (z2).toNat := hz17
          have ga := f9.out (z2).toNat (by omega)
          rw [← hz17] at ga
          refine lv_iconst (v := iI 1) hx hb (dk_at dkX12_fits8_1 5 rfl) (by decide +kernel) ?_
          refine x_addv (v := z17 + 1) hx hb (dk_at dkX12_fits8_1 6 rfl) (by omega) ?_
          refine x_iast hx hb hK hP hDD hS 51 1 wm51 rfl (by omega) (by decide) (dk_at dkX12_fits8_1 7 rfl) ws51 (fun H locs hP hS => ?_)
          have hI := hI.st (j := 51) (i := (z2).toNat) (v := z17 + 1) (show (-1 : Int) ≤ z17 + 1 ∧ z17 + 1 ≤ 8 from (by omega))
          obtain ⟨A18, hA18⟩ : ∃ A18 : St, A18 = (stA A4 51 (z2).toNat (z17 + 1)) := ⟨_, rfl⟩
          rw [← hA18] at hP hI
          have L36_21 : ∀ (n23 : Nat) (A20 : St) (H : Heap) (locs : List Loc) (ls : Array Slot), (Hd (A20 51 = up (A18 51) z2.toNat (A20 51 z2.toNat))) → (A18 51 z2.toNat ≤ A20 51 z2.toNat ∧ A20 51 z2.toNat ≤ x1) → (Hd (A 25 (A 0 12).toNat ≤ x1 → used (A20 51) z2 (A20 51 z2.toNat))) → (∀ (z : Int) (u : St), (∃ mm1 mm2 : Nat, (d_X12_fits8_2 (fun z2' A4' => d_X12_fits8_1 x1 A z u mm1 z2' A4') x1 z2 z u mm2 A20)) → r_X12_fits8 x1 A z u) → ((x1 - A20 51 z2.toNat + 1).toNat = n23) → IM A20 → fr [51] [] A18 A20 → va_P (dC, dI) vwCl (WM cI cJ cZ q A20) H → va_S AS s.heap H locs → lv_has ls 3 [(2, .int (iI z2)), (0, .ref (q 0)), (1, .int (iI x1))] → W p l e (headSpec ws_mb_X12_fits8 ({ frames := 2, cells := 0, slots := 0, locals := 49 } : Room)).room s m [.ref (q 0), .int (iI x1)].toArray below meth c H locs 0 0 Q (F0 m 36 ls []) := by
            intro n23
            induction n23 using Nat.strongRecOn with
            | ind n23 ih22 =>
              intro A20 H locs ls f24 f25 f26 hk2 hn23 hI hj19 hP hS hl
              have gI27 : Hd (IM A20) := Hd.mk hI
              refine lv_aload_n hx hb (dk_at dkX12_fits8_1 8 rfl) rfl (lv_at hl 1 rfl) ?_
              refine va_get (D := (dC, dI)) (ci := 12) (v := .ref (q 51)) (C := RX12) (T := TX12) (N := 85) hx hb hts hiX12 hown hK hP 0 wm0 rfl 74 (by decide) (hts _ (List.mem_cons_of_mem _ wlq_7_53)) (fun _ h9 => h9) rfl (dk_at dkX12_fits8_1 9 rfl) ?_
              refine lv_iload_n hx hb (dk_at dkX12_fits8_1 10 rfl) rfl (lv_at hl 0 rfl) ?_
              refine x_iald hx hb hK hP 51 1 wm51 rfl (by omega) (by decide) (dk_at dkX12_fits8_1 11 rfl) (fun z28 hz28 => ?_)
              have rz28 : (-1 : Int) ≤ z28 ∧ z28 ≤ 8 := by rw [hz28]; exact hI 51 _
              have gz28 := Hd.mk hz28
              have hz28 : z28 = A20 51 (z2).toNat := hz28
              refine lv_iload_n hx hb (dk_at dkX12_fits8_1 12 rfl) rfl (lv_at hl 2 rfl) ?_
              have J67_30 : ∀ (H : Heap) (locs : List Loc) (ls : Array Slot), (∀ (z : Int) (u : St), (∃ mm1 mm2 : Nat, (d_X12_fits8_3 (fun z2' A4' => d_X12_fits8_1 x1 A z u mm1 z2' A4') x1 z2 A20 z u)) → r_X12_fits8 x1 A z u) → va_P (dC, dI) vwCl (WM cI cJ cZ q A20) H → va_S AS s.heap H locs → lv_has ls 3 [(2, .int (iI z2)), (0, .ref (q 0)), (1, .int (iI x1))] → W p l e (headSpec ws_mb_X12_fits8 ({ frames := 2, cells := 0, slots := 0, locals := 49 } : Room)).room s m [.ref (q 0), .int (iI x1)].toArray below meth c H locs 0 0 Q (F0 m 67 ls []) := by
                intro H locs ls hk3 hP hS hl
                refine lv_aload_n hx hb (dk_at dkX12_fits8_2 11 rfl) rfl (lv_at hl 1 rfl) ?_
                refine va_get (D := (dC, dI)) (ci := 12) (v := .ref (q 51)) (C := RX12) (T := TX12) (N := 85) hx hb hts hiX12 hown hK hP 0 wm0 rfl 74 (by decide) (hts _ (List.mem_cons_of_mem _ wlq_7_53)) (fun _ h9 => h9) rfl (dk_at dkX12_fits8_2 12 rfl) ?_
                refine lv_iload_n hx hb (dk_at dkX12_fits8_2 13 rfl) rfl (lv_at hl 0 rfl) ?_
                refine x_iald hx hb hK hP 51 1 wm51 rfl (by omega) (by decide) (dk_at dkX12_fits8_2 14 rfl) (fun z38 hz38 => ?_)
                have rz38 : (-1 : Int) ≤ z38 ∧ z38 ≤ 8 := by rw [hz38]; exact hI 51 _
                have gz38 := Hd.mk hz38
                have hz38 : z38 = A20 51 (z2).toNat := hz38
                have ez38 : z38 = z28 := hz38.trans hz28.symm
                refine lv_iload_n hx hb (dk_at dkX12_fits8_2 15 rfl) rfl (lv_at hl 2 rfl) ?_
                refine lv_icmp_ge (tgt := 90) hx hb (dk_at dkX12_fits8_3 0 rfl) (by decide) (fun c39 => ?_) (fun c39 => ?_)
                · have c39 : x1 ≤ z38 := (i_le (rb hx1 (by decide) (by decide)) (rb rz38 (by decide) (by decide))).mp c39
                  refine lv_iinc (v := iI (z2 - 1)) (lv' := [(2, .int (iI (z2 - 1))), (0, .ref (q 0)), (1, .int (iI x1))]) hx hb (dk_at dkX12_fits8_3 8 rfl) hl (k := 0) rfl (i_inc (by omega)) (by decide) rfl (fun ls hl => ?_)
                  refine lv_goto (tgt := 9) hx hb (dk_at dkX12_fits8_3 9 rfl) (by decide) ?_
                  have eP : A20 51 = up (A4 51) (z2).toNat (A20 51 (z2).toNat) := (f24.out).trans (by rw [hA18, stA_same, up_up])
                  have e0 : A18 51 (z2).toNat = z17 + 1 := by rw [hA18, stA_same, up_same]
                  have ezb : z17 = A4 51 (z2).toNat := hz17
                  have gm := fm_bwd (f := A4 51) (m := z2) (by omega) (fun i hi => ⟨(hIb 51 i).1, by have := f9.out i (by omega); omega⟩) eP
                  exact ih6 _ (by omega) (z2 - 1) _ _ _ _ (by omega) (by exact Hd.mk (kr_bwd f9.out eP (by omega))) (by exact Hd.mk (fun h => absurd h (by have gu := f26.out; intro h; have g2 := used_le (by omega) (by omega) (gu h); omega))) (fun zq uq ⟨mm1, hq⟩ => hk3 _ _ ⟨mm1, 0, (u_d_X12_fits8_3 ⟨z38, gz38.out, (Or.inl ⟨c39, hq⟩)⟩)⟩) rfl hI (fr.trans (fr_def hA18 (fr.st (fr.trans (fr.rf) hj3 rfl rfl) (by decide) rfl)) hj19 rfl rfl) hP hS (lv_sub hl [0, 1, 2] rfl)
                · have c39 : ¬ x1 ≤ z38 := mt (i_le (rb hx1 (by decide) (by decide)) (rb rz38 (by decide) (by decide))).mpr c39
                  refine lv_iinc (v := iI (z2 + 1)) (lv' := [(2, .int (iI (z2 + 1))), (0, .ref (q 0)), (1, .int (iI x1))]) hx hb (dk_at dkX12_fits8_3 1 rfl) hl (k := 0) rfl (i_inc (by omega)) (by decide) rfl (fun ls hl => ?_)
                  refine lv_aload_n hx hb (dk_at dkX12_fits8_3 2 rfl) rfl (lv_at hl 1 rfl) ?_
                  refine va_get (D := (dC, dI)) (ci := 12) (v := .ref (q 51)) (C := RX12) (T := TX12) (N := 85) hx hb hts hiX12 hown hK hP 0 wm0 rfl 74 (by decide) (hts _ (List.mem_cons_of_mem _ wlq_7_53)) (fun _ h9 => h9) rfl (dk_at dkX12_fits8_3 3 rfl) ?_
                  refine lv_iload_n hx hb (dk_at dkX12_fits8_3 4 rfl) rfl (lv_at hl 0 rfl) ?_
                  refine lv_iconst (v := iI (-1)) hx hb (dk_at dkX12_fits8_3 5 rfl) (by decide +kernel) ?_
                  refine x_iast hx hb hK hP hDD hS 51 1 wm51 rfl (by omega) (by decide) (dk_at dkX12_fits8_3 6 rfl) ws51 (fun H locs hP hS => ?_)
                  have hI := hI.st (j := 51) (i := (z2 + 1).toNat) (v := (-1)) (show (-1 : Int) ≤ (-1) ∧ (-1) ≤ 8 from (by omega))
                  refine lv_goto (tgt := 9) hx hb (dk_at dkX12_fits8_3 7 rfl) (by decide) ?_
                  obtain ⟨A40, hA40⟩ : ∃ A40 : St, A40 = (stA A20 51 (z2 + 1).toNat (-1)) := ⟨_, rfl⟩
                  rw [← hA40] at hP hI
                  have eP : A20 51 = up (A4 51) (z2).toNat (A20 51 (z2).toNat) := (f24.out).trans (by rw [hA18, stA_same, up_up])
                  have e0 : A18 51 (z2).toNat = z17 + 1 := by rw [hA18, stA_same, up_same]
                  have ezb : z17 = A4 51 (z2).toNat := hz17
                  have eV : A40 51 = up (up (A4 51) (z2).toNat (A20 51 (z2).toNat)) (z2 + 1).toNat (-1) := by rw [hA40, stA_same, ← eP]
                  have gm := fm_fwd (f := A4 51) (m := z2) (by omega) (fun i hi => by have := f9.out i (by omega); omega) (by omega) eV
                  exact ih6 _ (by omega) (z2 + 1) _ _ _ _ (by omega) (by exact Hd.mk (kr_fwd (by omega) f9.out (w := A20 51 (z2).toNat) (by omega) (by omega) eV)) (by exact Hd.mk (fun _ => ⟨by omega, by rw [eV, up_same]⟩)) (fun zq uq ⟨mm1, hq⟩ => hk3 _ _ ⟨mm1, 0, (u_d_X12_fits8_3 ⟨z38, gz38.out, (Or.inr ⟨c39, ⟨A40, hA40, hq⟩⟩)⟩)⟩) rfl hI (fr_def hA40 (fr.st (fr.trans (fr_def hA18 (fr.st (fr.trans (fr.rf) hj3 rfl rfl) (by decide) rfl)) hj19 rfl rfl) (by decide) rfl)) hP hS (lv_sub hl [0, 1, 2] rfl)
              refine lv_icmp_ge (tgt := 67) hx hb (dk_at dkX12_fits8_1 13 rfl) (by decide) (fun c29 => ?_) (fun c29 => ?_)
              · have c29 : x1 ≤ z28 := (i_le (rb hx1 (by decide) (by decide)) (rb rz28 (by decide) (by decide))).mp c29
                exact J67_30 _ _ _ (fun zq uq ⟨mm1, mm2, hq⟩ => hk2 _ _ ⟨mm1, mm2 + 1, (u_d_X12_fits8_2 ⟨gI27.out, ⟨z28, gz28.out, (Or.inl ⟨c29, hq⟩)⟩⟩)⟩) hP hS (lv_sub hl [0, 1, 2] rfl)
              · have c29 : ¬ x1 ≤ z28 := mt (i_le (rb hx1 (by decide) (by decide)) (rb rz28 (by decide) (by decide))).mpr c29
                refine lv_aload_n hx hb (dk_at dkX12_fits8_1 14 rfl) rfl (lv_at hl 1 rfl) ?_
                refine lv_iload_n hx hb (dk_at dkX12_fits8_1 15 rfl) rfl (lv_at hl 0 rfl) ?_
                refine x_calli (As := [.int (iI z2)]) (rest := []) ⟨hx, hb, hml, hown, hts⟩ (mb_X12_may l dC dI cB cI cJ cZ cQ q _ z2 hI (by omega)) (cwV 1 hts (goodV wlq_7_55 wlq_7_56 wlq_7_57 wlq_0_8 wlq_7_52) rfl rfl rfl (by decide +kernel) ⟨Nat.le_of_ble_eq_true rfl, Nat.le_of_ble_eq_true rfl⟩) hK hDD hA0 hP hS 0 12 wm0 rfl rfl hl.1 (Nat.le_of_ble_eq_true rfl) (dk_at dkX12_fits8_2 0 rfl) (fun z31 A32 H locs hw33 hP hS => ?_)
                obtain ⟨rfl, hw33⟩ := hw33
                have ghw33 : q_X12_may z2 A20 z31 := hw33
                have hw33 := hw33.2
                have rz31 : 0 ≤ z31 ∧ z31 ≤ 1 := hw33.1
                refine lv_if_ne (tgt := 67) hx hb (dk_at dkX12_fits8_2 1 rfl) (by decide) (fun c34 => ?_) (fun c34 => ?_)
                · have c34 : ¬ z31 = 0 := mt (i_eq0 (rb rz31 (by decide) (by decide))).mpr c34
                  exact J67_30 _ _ _ (fun zq uq ⟨mm1, mm2, hq⟩ => hk2 _ _ ⟨mm1, mm2 + 1, (u_d_X12_fits8_2 ⟨gI27.out, ⟨z28, gz28.out, (Or.inr ⟨c29, ⟨z31, ghw33, (Or.inl ⟨c34, hq⟩)⟩⟩)⟩⟩)⟩) hP hS (lv_sub hl [0, 1, 2] rfl)
                · have c34 : z31 = 0 := (i_eq0 (rb rz31 (by decide) (by decide))).mp c34
                  refine lv_aload_n hx hb (dk_at dkX12_fits8_2 2 rfl) rfl (lv_at hl 1 rfl) ?_
                  refine va_get (D := (dC, dI)) (ci := 12) (v := .ref (q 51)) (C := RX12) (T := TX12) (N := 85) hx hb hts hiX12 hown hK hP 0 wm0 rfl 74 (by decide) (hts _ (List.mem_cons_of_mem _ wlq_7_53)) (fun _ h9 => h9) rfl (dk_at dkX12_fits8_2 3 rfl) ?_
                  refine lv_iload_n hx hb (dk_at dkX12_fits8_2 4 rfl) rfl (lv_at hl 0 rfl) ?_
                  refine lv_dup2_11 hx hb (dk_at dkX12_fits8_2 5 rfl) rfl rfl ?_
                  refine x_iald hx hb hK hP 51 1 wm51 rfl (by omega) (by decide) (dk_at dkX12_fits8_2 6 rfl) (fun z35 hz35 => ?_)
                  have rz35 : (-1 : Int) ≤ z35 ∧ z35 ≤ 8 := by rw [hz35]; exact hI 51 _
                  have gz35 := Hd.mk hz35
                  have hz35 : z35 = A20 51 (z2).toNat := hz35
                  have ez35 : z35 = z28 := hz35.trans hz28.symm
                  refine lv_iconst (v := iI 1) hx hb (dk_at dkX12_fits8_2 7 rfl) (by decide +kernel) ?_
                  refine x_addv (v := z35 + 1) hx hb (dk_at dkX12_fits8_2 8 rfl) (by omega) ?_
                  refine x_iast hx hb hK hP hDD hS 51 1 wm51 rfl (by omega) (by decide) (dk_at dkX12_fits8_2 9 rfl) ws51 (fun H locs hP hS => ?_)
                  have hI := hI.st (j := 51) (i := (z2).toNat) (v := z35 + 1) (show (-1 : Int) ≤ z35 + 1 ∧ z35 + 1 ≤ 8 from (by omega))
                  refine lv_goto (tgt := 36) hx hb (dk_at dkX12_fits8_2 10 rfl) (by decide) ?_
                  obtain ⟨A36, hA36⟩ : ∃ A36 : St, A36 = (stA A20 51 (z2).toNat (z35 + 1)) := ⟨_, rfl⟩
                  rw [← hA36] at hP hI
                  have ezw : z35 = A20 51 (z2).toNat := by omega
                  have eW : A36 51 = up (A20 51) (z2).toNat (A20 51 (z2).toNat + 1) := by rw [hA36, stA_same, ← ezw]
                  have e1 : A36 51 (z2).toNat = A20 51 (z2).toNat + 1 := by rw [eW, up_same]
                  exact ih22 _ (by omega) _ _ _ _ (by exact Hd.mk (by rw [hA36, stA_same, up_same, f24.out, up_up])) (by omega) (by exact Hd.mk (fun h => by rw [e1]; exact used_step (by omega) (f26.out h) (hw33.2.out (by omega)) eW)) (fun zq uq ⟨mm1, mm2, hq⟩ => hk2 _ _ ⟨mm1, mm2 + 1, (u_d_X12_fits8_2 ⟨gI27.out, ⟨z28, gz28.out, (Or.inr ⟨c29, ⟨z31, ghw33, (Or.inr ⟨c34, ⟨z35, gz35.out, ⟨A36, hA36, hq⟩⟩⟩)⟩⟩)⟩⟩)⟩) rfl hI (fr_def hA36 (fr.st (fr.trans (fr.rf) hj19 rfl rfl) (by decide) rfl)) hP hS (lv_sub hl [0, 1, 2] rfl)
          have e0 : A18 51 (z2).toNat = z17 + 1 := by rw [hA18, stA_same, up_same]
          exact L36_21 _ _ _ _ _ (by exact Hd.mk up_id) (by omega) (by exact Hd.mk (fun h => by have g := f10.out h; rw [← hz17] at g; intro c hc; omega)) (fun zq uq ⟨mm1, mm2, hq⟩ => hk1 _ _ ⟨mm1 + 1, (u_d_X12_fits8_1 ⟨gI11.out, ⟨f8, (Or.inr ⟨c12, ⟨z14, gz14.out, (Or.inr ⟨c15, ⟨z17, gz17.out, ⟨A18, hA18, ⟨mm2, hq⟩⟩⟩⟩)⟩⟩)⟩⟩)⟩) rfl hI (fr.rf) hP hS (lv_sub hl [0, 1, 2] rfl)
  exact L9_5 _ 0 _ _ _ _ (by omega) (by exact Hd.mk (fun i hi => by have hi2 : (i : Int) ≤ 0 := hi; have e : i = 0 := (by omega); rw [e, hA1]; show (-1 : Int) < x1; omega)) (by exact Hd.mk (fun _ => ⟨by omega, by rw [hA1]; rfl⟩)) (fun zq uq ⟨mm1, hq⟩ => (u_r_X12_fits8 ⟨A1, hA1, ⟨mm1, hq⟩⟩)) rfl hI (fr.rf) hP hS (lv_sub hl [0, 1, 2] rfl)

abbrev tr_d_X12_fewest_2 (x1 : Int) (z : Int) (u : St) (K2 : Int → St → Prop) (z10 : Int) (A12 : St) : Prop := ((IM A12) ∧ ((0 ≤ z10 ∧ z10 ≤ 6) ∧ (∃ z19 : Int, ∃ A20 : St, q_X12_fits8 z10 A12 z19 A20 ∧ (((¬ z19 = 0) ∧ (((¬ x1 = (-1)) ∧ (∃ z25 : Int, z25 = A20 51 (x1).toNat ∧ (z = z25 ∧ u = A20))) ∨ ((x1 = (-1)) ∧ (z = z10 ∧ u = A20)))) ∨ ((z19 = 0) ∧ (K2 (z10 + 1) A20))))))
def d_X12_fewest_2 (x1 : Int) (z : Int) (u : St) : Nat → Int → St → Prop
  | 0, _, _ => False
  | nn9 + 1, z10, A12 => tr_d_X12_fewest_2 x1 z u (fun z10 A12 => d_X12_fewest_2 x1 z u nn9 z10 A12) z10 A12
theorem u_d_X12_fewest_2 {x1 : Int} {z : Int} {u : St} {nn9 : Nat} {z10 : Int} {A12 : St} (h : tr_d_X12_fewest_2 x1 z u (fun z10 A12 => d_X12_fewest_2 x1 z u nn9 z10 A12) z10 A12) : d_X12_fewest_2 x1 z u (nn9 + 1) z10 A12 := h
abbrev tr_d_X12_fewest_1 (x1 : Int) (A : St) (z : Int) (u : St) : Prop := (∃ nn9 : Nat, d_X12_fewest_2 x1 z u nn9 0 A)
def d_X12_fewest_1 (x1 : Int) (A : St) (z : Int) (u : St) : Prop := tr_d_X12_fewest_1 x1 A z u
theorem u_d_X12_fewest_1 {x1 : Int} {A : St} {z : Int} {u : St} (h : tr_d_X12_fewest_1 x1 A z u) : d_X12_fewest_1 x1 A z u := h
abbrev tr_r_X12_fewest (x1 : Int) (A : St) (z : Int) (u : St) : Prop := (((x1 = (-1)) ∧ (d_X12_fewest_1 x1 A z u)) ∨ ((¬ x1 = (-1)) ∧ (∃ z3 : Int, z3 = A 25 ((A 0 12)).toNat ∧ (∃ z4 : Int, q_X12_is x1 0 (z3 - 1) A z4 ∧ (((¬ z4 = 0) ∧ (d_X12_fewest_1 x1 A z u)) ∨ ((z4 = 0) ∧ (z = (-1) ∧ u = A)))))))
def r_X12_fewest (x1 : Int) (A : St) (z : Int) (u : St) : Prop := tr_r_X12_fewest x1 A z u
theorem u_r_X12_fewest {x1 : Int} {A : St} {z : Int} {u : St} (h : tr_r_X12_fewest x1 A z u) : r_X12_fewest x1 A z u := h
def ws_mb_X12_fewest : List Cond := .code yX12_fewest cX12_fewest 3 (some .int) :: WX
set_option maxHeartbeats 4000000 in
set_option maxRecDepth 100000 in
theorem mb_X12_fewest (l : Launch) (dC : Nat → ClassId) (dI : Nat → Nat → Nat) (cB cI cJ cZ cQ : ClassId) (q : Nat → Nat) (A : St) (x1 : Int) (hI : IM A) (hx1 : (-2147483648 : Int) ≤ x1 ∧ x1 ≤ 2147483647) : XMi l yX12_fewest ws_mb_X12_fewest ({ frames := 3, cells := 0, slots := 0, locals := 71 } : Room) (dC, dI) (tyA cB cI cJ cZ cQ) (WM cI cJ cZ q) A [.ref (q 0), .int (iI x1)] (fun z u => r_X12_fewest x1 A z u ∧ IM u ∧ fr [51] [] A u ∧ (-2147483648 ≤ z ∧ z ≤ 2147483647)) := by
  refine x_meti (cc := cX12_fewest) (maxL := 3) WM_adr (by decide +kernel) rfl (Nat.le_of_ble_eq_true rfl) (fun p e s m below meth c Q AS ls hx hb hml hown hts hK hDD hA0 hP hS hl RET => ?_)
  have hown : s.vm.findClass RX12 = some m.cls := hown
  have hl : lv_has ls 3 [(0, .ref (q 0)), (1, .int (iI x1))] := hl
  have hiX12 : ∀ w ∈ u_ws RX12 TX12 85, w ∈ ws_mb_X12_fewest := fun w h => List.mem_cons_of_mem _ (wx_lay w h)
  obtain ⟨H, hHe⟩ : ∃ H : Heap, H = s.heap := ⟨_, rfl⟩
  rw [← hHe] at hP
  have hS : va_S AS s.heap H [] := by rw [hHe]; exact hS
  suffices hgo : ∀ locs : List Loc, va_S AS s.heap H locs → W p l e (headSpec ws_mb_X12_fewest ({ frames := 3, cells := 0, slots := 0, locals := 71 } : Room)).room s m [.ref (q 0), .int (iI x1)].toArray below meth c H locs 0 0 Q (F0 m 0 ls []) by
    have := hgo [] hS
    rw [hHe] at this
    exact this
  clear hS hHe
  intro locs hS
  refine lv_iload_n hx hb (dk_at dkX12_fewest_0 0 rfl) rfl (lv_at hl 1 rfl) ?_
  refine lv_iconst (v := iI (-1)) hx hb (dk_at dkX12_fewest_0 1 rfl) (by decide +kernel) ?_
  have J26_2 : ∀ (H : Heap) (locs : List Loc) (ls : Array Slot), (x1 = -1 ∨ (0 ≤ x1 ∧ x1 ≤ 5)) → (∀ (z : Int) (u : St), (d_X12_fewest_1 x1 A z u) → r_X12_fewest x1 A z u) → va_P (dC, dI) vwCl (WM cI cJ cZ q A) H → va_S AS s.heap H locs → lv_has ls 3 [(0, .ref (q 0)), (1, .int (iI x1))] → W p l e (headSpec ws_mb_X12_fewest ({ frames := 3, cells := 0, slots := 0, locals := 71 } : Room)).room s m [.ref (q 0), .int (iI x1)].toArray below meth c H locs 0 0 Q (F0 m 26 ls []) := by
    intro H locs ls f9 hk1 hP hS hl
    refine lv_iconst (v := iI 0) hx hb (dk_at dkX12_fewest_1 0 rfl) (by decide +kernel) ?_
    refine lv_istore_n (lv' := [(2, .int (iI 0)), (0, .ref (q 0)), (1, .int (iI x1))]) hx hb (dk_at dkX12_fewest_1 1 rfl) rfl hl (by decide) rfl (fun ls hl => ?_)
    have L28_13 : ∀ (n15 : Nat) (z10 : Int) (A12 : St) (H : Heap) (locs : List Loc) (ls : Array Slot), (0 ≤ z10 ∧ z10 ≤ 6) → (z10 ≤ A 25 (A 0 12).toNat) → (∀ (z : Int) (u : St), (∃ mm2 : Nat, (d_X12_fewest_2 x1 z u mm2 z10 A12)) → r_X12_fewest x1 A z u) → ((A 25 (A 0 12).toNat - z10).toNat = n15) → IM A12 → fr [51] [] A A12 → va_P (dC, dI) vwCl (WM cI cJ cZ q A12) H → va_S AS s.heap H locs → lv_has ls 3 [(2, .int (iI z10)), (0, .ref (q 0)), (1, .int (iI x1))] → W p l e (headSpec ws_mb_X12_fewest ({ frames := 3, cells := 0, slots := 0, locals := 71 } : Room)).room s m [.ref (q 0), .int (iI x1)].toArray below meth c H locs 0 0 Q (F0 m 28 ls []) := by
      intro n15
      induction n15 using Nat.strongRecOn with
      | ind n15 ih14 =>
        intro z10 A12 H locs ls f16 f17 hk2 hn15 hI hj11 hP hS hl
        have gI18 : Hd (IM A12) := Hd.mk hI
        have hIb := hI
        refine lv_aload_n hx hb (dk_at dkX12_fewest_1 2 rfl) rfl (lv_at hl 1 rfl) ?_
        refine lv_iload_n hx hb (dk_at dkX12_fewest_1 3 rfl) rfl (lv_at hl 0 rfl) ?_
        have e_A12_12 : A12 0 12 = (A 0 12) := (hj11.2 12 rfl)
        have r_A_0_12 : (0 : Int) ≤ (A 0 12) ∧ (A 0 12) ≤ 1 := by rw [← e_A12_12]; exact hI 0 12
        refine x_calli (As := [.int (iI z10)]) (rest := []) ⟨hx, hb, hml, hown, hts⟩ (mb_X12_fits8 l dC dI cB cI cJ cZ cQ q _ z10 hI f16) (cwV 1 hts (goodV wlq_7_59 wlq_8_0 wlq_8_1 wlq_0_8 wlq_7_54) rfl rfl rfl (by decide +kernel) ⟨Nat.le_of_ble_eq_true rfl, Nat.le_of_ble_eq_true rfl⟩) hK hDD hA0 hP hS 0 12 wm0 rfl rfl hl.1 (Nat.le_of_ble_eq_true rfl) (dk_at dkX12_fewest_1 4 rfl) (fun z19 A20 H locs hw21 hP hS => ?_)
        have ghw21 : q_X12_fits8 z10 A12 z19 A20 := hw21
        obtain ⟨_, hI, hf22, hw21⟩ := hw21
        have rz19 : 0 ≤ z19 ∧ z19 ≤ 1 := hw21.1
        refine lv_if_ne (tgt := 42) hx hb (dk_at dkX12_fewest_1 5 rfl) (by decide) (fun c23 => ?_) (fun c23 => ?_)
        · have c23 : ¬ z19 = 0 := mt (i_eq0 (rb rz19 (by decide) (by decide))).mpr c23
          refine lv_iload_n hx hb (dk_at dkX12_fewest_1 8 rfl) rfl (lv_at hl 2 rfl) ?_
          refine lv_iconst (v := iI (-1)) hx hb (dk_at dkX12_fewest_1 9 rfl) (by decide +kernel) ?_
          refine lv_icmp_ne (tgt := 51) hx hb (dk_at dkX12_fewest_1 10 rfl) (by decide) (fun c24 => ?_) (fun c24 => ?_)
          · have c24 : ¬ x1 = (-1) := mt (i_eq hx1 ⟨by decide, by decide⟩).mpr c24
            refine lv_aload_n hx hb (dk_at dkX12_fewest_1 13 rfl) rfl (lv_at hl 1 rfl) ?_
            refine va_get (D := (dC, dI)) (ci := 12) (v := .ref (q 51)) (C := RX12) (T := TX12) (N := 85) hx hb hts hiX12 hown hK hP 0 wm0 rfl 74 (by decide) (hts _ (List.mem_cons_of_mem _ wlq_7_53)) (fun _ h9 => h9) rfl (dk_at dkX12_fewest_1 14 rfl) ?_
            refine lv_iload_n hx hb (dk_at dkX12_fewest_1 15 rfl) rfl (lv_at hl 2 rfl) ?_
            refine x_iald hx hb hK hP 51 1 wm51 rfl (by omega) (by decide) (dk_at dkX12_fewest_2 0 rfl) (fun z25 hz25 => ?_)
            have rz25 : (-1 : Int) ≤ z25 ∧ z25 ≤ 8 := by rw [hz25]; exact hI 51 _
            have gz25 := Hd.mk hz25
            have hz25 : z25 = A20 51 (x1).toNat := hz25
            exact RET z25 _ _ _ _ _ ⟨hk2 _ _ ⟨0 + 1, (u_d_X12_fewest_2 ⟨gI18.out, ⟨f16, ⟨z19, A20, ghw21, (Or.inl ⟨c23, (Or.inl ⟨c24, ⟨z25, gz25.out, ⟨rfl, rfl⟩⟩⟩)⟩)⟩⟩⟩)⟩, hI, fr.trans (fr.trans (fr.rf) hj11 rfl rfl) hf22 rfl rfl, by omega⟩ hP hS (dk_at dkX12_fewest_2 1 rfl)
          · have c24 : x1 = (-1) := (i_eq hx1 ⟨by decide, by decide⟩).mp c24
            refine lv_iload_n hx hb (dk_at dkX12_fewest_1 11 rfl) rfl (lv_at hl 0 rfl) ?_
            refine lv_goto (tgt := 57) hx hb (dk_at dkX12_fewest_1 12 rfl) (by decide) ?_
            exact RET z10 _ _ _ _ _ ⟨hk2 _ _ ⟨0 + 1, (u_d_X12_fewest_2 ⟨gI18.out, ⟨f16, ⟨z19, A20, ghw21, (Or.inl ⟨c23, (Or.inr ⟨c24, ⟨rfl, rfl⟩⟩)⟩)⟩⟩⟩)⟩, hI, fr.trans (fr.trans (fr.rf) hj11 rfl rfl) hf22 rfl rfl, by omega⟩ hP hS (dk_at dkX12_fewest_2 1 rfl)
        · have c23 : z19 = 0 := (i_eq0 (rb rz19 (by decide) (by decide))).mp c23
          refine lv_iinc (v := iI (z10 + 1)) (lv' := [(2, .int (iI (z10 + 1))), (0, .ref (q 0)), (1, .int (iI x1))]) hx hb (dk_at dkX12_fewest_1 6 rfl) hl (k := 0) rfl (i_inc (by omega)) (by decide) rfl (fun ls hl => ?_)
          refine lv_goto (tgt := 28) hx hb (dk_at dkX12_fewest_1 7 rfl) (by decide) ?_
          have gf := hw21.2.out
          have ca26 : A12 25 = A 25 := (hj11.1 25 (by decide) rfl)
          rw [e_A12_12, ca26] at gf
          have rmu : (0 : Int) ≤ A 25 (A 0 12).toNat ∧ A 25 (A 0 12).toNat ≤ 6 := by rw [← ca26]; exact hIb 25 _
          exact ih14 _ (by omega) (z10 + 1) _ _ _ _ (by omega) (by omega) (fun zq uq ⟨mm2, hq⟩ => hk2 _ _ ⟨mm2 + 1, (u_d_X12_fewest_2 ⟨gI18.out, ⟨f16, ⟨z19, A20, ghw21, (Or.inr ⟨c23, hq⟩)⟩⟩⟩)⟩) rfl hI (fr.trans (fr.trans (fr.rf) hj11 rfl rfl) hf22 rfl rfl) hP hS (lv_sub hl [0, 1, 2] rfl)
    have rmu : (0 : Int) ≤ A 25 (A 0 12).toNat ∧ A 25 (A 0 12).toNat ≤ 6 := hI 25 _
    exact L28_13 _ 0 _ _ _ _ (by omega) (by omega) (fun zq uq ⟨mm2, hq⟩ => hk1 _ _ (u_d_X12_fewest_1 ⟨mm2, hq⟩)) rfl hI (fr.rf) hP hS (lv_sub hl [0, 1, 2] rfl)
  refine lv_icmp_eq (tgt := 26) hx hb (dk_at dkX12_fewest_0 2 rfl) (by decide) (fun c1 => ?_) (fun c1 => ?_)
  · have c1 : x1 = (-1) := (i_eq hx1 ⟨by decide, by decide⟩).mp c1
    exact J26_2 _ _ _ (by omega) (fun zq uq hq => (u_r_X12_fewest (Or.inl ⟨c1, hq⟩))) hP hS (lv_sub hl [0, 1] rfl)
  · have c1 : ¬ x1 = (-1) := mt (i_eq hx1 ⟨by decide, by decide⟩).mpr c1
    refine lv_iload_n hx hb (dk_at dkX12_fewest_0 3 rfl) rfl (lv_at hl 1 rfl) ?_
    refine lv_iconst (v := iI 0) hx hb (dk_at dkX12_fewest_0 4 rfl) (by decide +kernel) ?_
    refine lv_aload_n hx hb (dk_at dkX12_fewest_0 5 rfl) rfl (lv_at hl 0 rfl) ?_
    refine va_get (D := (dC, dI)) (ci := 12) (v := .ref (q 25)) (C := RX12) (T := TX12) (N := 85) hx hb hts hiX12 hown hK hP 0 wm0 rfl 36 (by decide) (hts _ (List.mem_cons_of_mem _ wlq_3_20)) (fun _ h9 => h9) rfl (dk_at dkX12_fewest_0 6 rfl) ?_
    refine lv_aload_n hx hb (dk_at dkX12_fewest_0 7 rfl) rfl (lv_at hl 0 rfl) ?_
    refine va_get (D := (dC, dI)) (ci := 12) (v := .int (iI (A 0 12))) (C := RX12) (T := TX12) (N := 85) hx hb hts hiX12 hown hK hP 0 wm0 rfl 12 (by decide) (hts _ (List.mem_cons_of_mem _ wlq_4_14)) (fun _ h9 => h9) rfl (dk_at dkX12_fewest_0 8 rfl) ?_
    have r_A_0_12 : (0 : Int) ≤ (A 0 12) ∧ (A 0 12) ≤ 1 := hI 0 12
    refine x_iald hx hb hK hP 25 1 wm25 rfl (by omega) (by decide) (dk_at dkX12_fewest_0 9 rfl) (fun z3 hz3 => ?_)
    have rz3 : (0 : Int) ≤ z3 ∧ z3 ≤ 6 := by rw [hz3]; exact hI 25 _
    have gz3 := Hd.mk hz3
    have hz3 : z3 = A 25 ((A 0 12)).toNat := hz3
    refine lv_iconst (v := iI 1) hx hb (dk_at dkX12_fewest_0 10 rfl) (by decide +kernel) ?_
    refine x_subv (v := z3 - 1) hx hb (dk_at dkX12_fewest_0 11 rfl) (by omega) ?_
    refine x_callSi (As := [.int (iI x1), .int (iI 0), .int (iI (z3 - 1))]) (rest := []) ⟨hx, hb, hml, hown, hts⟩ (mc_X12_is l dC dI cB cI cJ cZ cQ q _ x1 0 (z3 - 1) hI hx1 ⟨by decide, by decide⟩ (by omega)) (va_cwS 3 hts (goodS wlq_1_27 wlq_1_28 wlq_0_8 wlq_0_0) rfl rfl rfl (by decide +kernel) ⟨Nat.le_of_ble_eq_true rfl, Nat.le_of_ble_eq_true rfl⟩) hK hDD hA0 hP hS rfl hl.1 (Nat.le_of_ble_eq_true rfl) (dk_at dkX12_fewest_0 12 rfl) (fun z4 A5 H locs hw6 hP hS => ?_)
    obtain ⟨rfl, hw6⟩ := hw6
    have ghw6 : q_X12_is x1 0 (z3 - 1) A z4 := hw6
    have hw6 := hw6.2
    have rz4 : 0 ≤ z4 ∧ z4 ≤ 1 := hw6.1
    refine lv_if_ne (tgt := 26) hx hb (dk_at dkX12_fewest_0 13 rfl) (by decide) (fun c7 => ?_) (fun c7 => ?_)
    · have c7 : ¬ z4 = 0 := mt (i_eq0 (rb rz4 (by decide) (by decide))).mpr c7
      have hw6b := hw6.2.mp (by omega)
      clear hw6
      exact J26_2 _ _ _ (by omega) (fun zq uq hq => (u_r_X12_fewest (Or.inr ⟨c1, ⟨z3, gz3.out, ⟨z4, ghw6, (Or.inl ⟨c7, hq⟩)⟩⟩⟩))) hP hS (lv_sub hl [0, 1] rfl)
    · have c7 : z4 = 0 := (i_eq0 (rb rz4 (by decide) (by decide))).mp c7
      have hw6b := mt hw6.2.mpr (by omega)
      clear hw6
      refine lv_iconst (v := iI (-1)) hx hb (dk_at dkX12_fewest_0 14 rfl) (by decide +kernel) ?_
      exact RET (-1) _ _ _ _ _ ⟨(u_r_X12_fewest (Or.inr ⟨c1, ⟨z3, gz3.out, ⟨z4, ghw6, (Or.inr ⟨c7, ⟨rfl, rfl⟩⟩)⟩⟩⟩)), hI, fr.rf, by omega⟩ hP hS (dk_at dkX12_fewest_0 15 rfl)
abbrev tr_r_X12_mayBeAt (x1 : Int) (A : St) (z : Int) : Prop := (((10 ≤ x1) ∧ (((20 ≤ x1) ∧ (((x1 = 40) ∧ (z = 1)) ∨ ((¬ x1 = 40) ∧ (((40 ≤ x1) ∧ (z = 0)) ∨ ((¬ 40 ≤ x1) ∧ (∃ z5 : Int, q_X12_isDoor (x1 - 20) A z5 ∧ (((z5 = 0) ∧ (z = 0)) ∨ ((¬ z5 = 0) ∧ (∃ z9 : Int, q_X12_door10 (x1 - 20) A z9 ∧ (∃ z12 : Int, z12 = A 8 (10 * (A 0 12) + x1 - 20).toNat ∧ (((z12 = 0) ∧ (z = 0)) ∨ ((¬ z12 = 0) ∧ (z = 1))))))))))))) ∨ ((¬ 20 ≤ x1) ∧ (∃ z14 : Int, q_X12_isPlace (x1 - 10) A z14 ∧ (z = z14))))) ∨ ((¬ 10 ≤ x1) ∧ (∃ z17 : Int, q_X12_isPerson x1 A z17 ∧ (z = z17))))
def r_X12_mayBeAt (x1 : Int) (A : St) (z : Int) : Prop := tr_r_X12_mayBeAt x1 A z
theorem u_r_X12_mayBeAt {x1 : Int} {A : St} {z : Int} (h : tr_r_X12_mayBeAt x1 A z) : r_X12_mayBeAt x1 A z := h
def q_X12_mayBeAt (x1 : Int) (A : St) (z : Int) : Prop := r_X12_mayBeAt x1 A z ∧ ((0 ≤ z ∧ z ≤ 1) ∧ (Hd (z = 1 → x1 ≤ 40)))
def ws_mb_X12_mayBeAt : List Cond := .code yX12_mayBeAt cX12_mayBeAt 2 (some .boolean) :: WX
set_option maxHeartbeats 4000000 in
set_option maxRecDepth 100000 in
theorem mb_X12_mayBeAt (l : Launch) (dC : Nat → ClassId) (dI : Nat → Nat → Nat) (cB cI cJ cZ cQ : ClassId) (q : Nat → Nat) (A : St) (x1 : Int) (hI : IM A) (hx1 : (0 : Int) ≤ x1 ∧ x1 ≤ 255) : XMi l yX12_mayBeAt ws_mb_X12_mayBeAt ({ frames := 2, cells := 0, slots := 0, locals := 43 } : Room) (dC, dI) (tyA cB cI cJ cZ cQ) (WM cI cJ cZ q) A [.ref (q 0), .int (iI x1)] (fun z u => A = u ∧ r_X12_mayBeAt x1 A z ∧ ((0 ≤ z ∧ z ≤ 1) ∧ (Hd (z = 1 → x1 ≤ 40)))) := by
  refine x_metz (cc := cX12_mayBeAt) (maxL := 2) WM_adr (by decide +kernel) rfl (Nat.le_of_ble_eq_true rfl) (fun z u h => h.2.2.1) (fun p e s m below meth c Q AS ls hx hb hml hown hts hK hDD hA0 hP hS hl RET => ?_)
  have hown : s.vm.findClass RX12 = some m.cls := hown
  have hl : lv_has ls 2 [(0, .ref (q 0)), (1, .int (iI x1))] := hl
  have hiX12 : ∀ w ∈ u_ws RX12 TX12 85, w ∈ ws_mb_X12_mayBeAt := fun w h => List.mem_cons_of_mem _ (wx_lay w h)
  obtain ⟨H, hHe⟩ : ∃ H : Heap, H = s.heap := ⟨_, rfl⟩
  rw [← hHe] at hP
  have hS : va_S AS s.heap H [] := by rw [hHe]; exact hS
  suffices hgo : ∀ locs : List Loc, va_S AS s.heap H locs → W p l e (headSpec ws_mb_X12_mayBeAt ({ frames := 2, cells := 0, slots := 0, locals := 43 } : Room)).room s m [.ref (q 0), .int (iI x1)].toArray below meth c H locs 0 0 Q (F0 m 0 ls []) by
    have := hgo [] hS
    rw [hHe] at this
    exact this
  clear hS hHe
  intro locs hS
  refine lv_iload_n hx hb (dk_at dkX12_mayBeAt_0 0 rfl) rfl (lv_at hl 1 rfl) ?_
  refine lv_bipush (v := iI 10) hx hb (dk_at dkX12_mayBeAt_0 1 rfl) (by decide +kernel) ?_
  refine lv_icmp_ge (tgt := 12) hx hb (dk_at dkX12_mayBeAt_0 2 rfl) (by decide) (fun c1 => ?_) (fun c1 => ?_)
  · have c1 : 10 ≤ x1 := (i_le ⟨by decide, by decide⟩ (rb hx1 (by decide) (by decide))).mp c1
    refine lv_iload_n hx hb (dk_at dkX12_mayBeAt_0 7 rfl) rfl (lv_at hl 1 rfl) ?_
    refine lv_bipush (v := iI 20) hx hb (dk_at dkX12_mayBeAt_0 8 rfl) (by decide +kernel) ?_
    refine lv_icmp_ge (tgt := 27) hx hb (dk_at dkX12_mayBeAt_0 9 rfl) (by decide) (fun c2 => ?_) (fun c2 => ?_)
    · have c2 : 20 ≤ x1 := (i_le ⟨by decide, by decide⟩ (rb hx1 (by decide) (by decide))).mp c2
      refine lv_iload_n hx hb (dk_at dkX12_mayBeAt_1 0 rfl) rfl (lv_at hl 1 rfl) ?_
      refine lv_bipush (v := iI 40) hx hb (dk_at dkX12_mayBeAt_1 1 rfl) (by decide +kernel) ?_
      refine lv_icmp_eq (tgt := 66) hx hb (dk_at dkX12_mayBeAt_1 2 rfl) (by decide) (fun c3 => ?_) (fun c3 => ?_)
      · have c3 : x1 = 40 := (i_eq (rb hx1 (by decide) (by decide)) ⟨by decide, by decide⟩).mp c3
        refine lv_iconst (v := iI 1) hx hb (dk_at dkX12_mayBeAt_2 5 rfl) (by decide +kernel) ?_
        refine lv_goto (tgt := 71) hx hb (dk_at dkX12_mayBeAt_2 6 rfl) (by decide) ?_
        exact RET 1 _ _ _ _ _ ⟨rfl, (u_r_X12_mayBeAt (Or.inl ⟨c1, (Or.inl ⟨c2, (Or.inl ⟨c3, rfl⟩)⟩)⟩)), ⟨by decide, Hd.mk (fun h => by omega)⟩⟩ hP hS (dk_at dkX12_mayBeAt_2 8 rfl)
      · have c3 : ¬ x1 = 40 := mt (i_eq (rb hx1 (by decide) (by decide)) ⟨by decide, by decide⟩).mpr c3
        refine lv_iload_n hx hb (dk_at dkX12_mayBeAt_1 3 rfl) rfl (lv_at hl 1 rfl) ?_
        refine lv_bipush (v := iI 40) hx hb (dk_at dkX12_mayBeAt_1 4 rfl) (by decide +kernel) ?_
        refine lv_icmp_ge (tgt := 70) hx hb (dk_at dkX12_mayBeAt_1 5 rfl) (by decide) (fun c4 => ?_) (fun c4 => ?_)
        · have c4 : 40 ≤ x1 := (i_le ⟨by decide, by decide⟩ (rb hx1 (by decide) (by decide))).mp c4
          refine lv_iconst (v := iI 0) hx hb (dk_at dkX12_mayBeAt_2 7 rfl) (by decide +kernel) ?_
          exact RET 0 _ _ _ _ _ ⟨rfl, (u_r_X12_mayBeAt (Or.inl ⟨c1, (Or.inl ⟨c2, (Or.inr ⟨c3, (Or.inl ⟨c4, rfl⟩)⟩)⟩)⟩)), ⟨by decide, Hd.mk (fun h => by omega)⟩⟩ hP hS (dk_at dkX12_mayBeAt_2 8 rfl)
        · have c4 : ¬ 40 ≤ x1 := mt (i_le ⟨by decide, by decide⟩ (rb hx1 (by decide) (by decide))).mpr c4
          refine lv_aload_n hx hb (dk_at dkX12_mayBeAt_1 6 rfl) rfl (lv_at hl 0 rfl) ?_
          refine lv_iload_n hx hb (dk_at dkX12_mayBeAt_1 7 rfl) rfl (lv_at hl 1 rfl) ?_
          refine lv_bipush (v := iI 20) hx hb (dk_at dkX12_mayBeAt_1 8 rfl) (by decide +kernel) ?_
          refine x_subv (v := x1 - 20) hx hb (dk_at dkX12_mayBeAt_1 9 rfl) (by omega) ?_
          have r_A_0_12 : (0 : Int) ≤ (A 0 12) ∧ (A 0 12) ≤ 1 := hI 0 12
          refine x_calli (As := [.int (iI (x1 - 20))]) (rest := []) ⟨hx, hb, hml, hown, hts⟩ (mc_X12_isDoorB l dC dI cB cI cJ cZ cQ q _ (x1 - 20) hI (by omega)) (cwV 1 hts (goodV wlq_5_14 wlq_5_15 wlq_5_16 wlq_0_8 wlq_4_38) rfl rfl rfl (by decide +kernel) ⟨Nat.le_of_ble_eq_true rfl, Nat.le_of_ble_eq_true rfl⟩) hK hDD hA0 hP hS 0 12 wm0 rfl rfl hl.1 (Nat.le_of_ble_eq_true rfl) (dk_at dkX12_mayBeAt_1 10 rfl) (fun z5 A6 H locs hw7 hP hS => ?_)
          obtain ⟨rfl, hw7⟩ := hw7
          have ghw7 : q_X12_isDoor (x1 - 20) A z5 := hw7
          have hw7 := hw7.2
          have rz5 : 0 ≤ z5 ∧ z5 ≤ 1 := hw7.1
          refine lv_if_eq (tgt := 70) hx hb (dk_at dkX12_mayBeAt_1 11 rfl) (by decide) (fun c8 => ?_) (fun c8 => ?_)
          · have c8 : z5 = 0 := (i_eq0 (rb rz5 (by decide) (by decide))).mp c8
            clear hw7
            refine lv_iconst (v := iI 0) hx hb (dk_at dkX12_mayBeAt_2 7 rfl) (by decide +kernel) ?_
            exact RET 0 _ _ _ _ _ ⟨rfl, (u_r_X12_mayBeAt (Or.inl ⟨c1, (Or.inl ⟨c2, (Or.inr ⟨c3, (Or.inr ⟨c4, ⟨z5, ghw7, (Or.inl ⟨c8, rfl⟩)⟩⟩)⟩)⟩)⟩)), ⟨by decide, Hd.mk (fun h => by omega)⟩⟩ hP hS (dk_at dkX12_mayBeAt_2 8 rfl)
          · have c8 : ¬ z5 = 0 := mt (i_eq0 (rb rz5 (by decide) (by decide))).mpr c8
            have hw7b := hw7.2.mp (by omega)
            clear hw7
            refine lv_aload_n hx hb (dk_at dkX12_mayBeAt_1 12 rfl) rfl (lv_at hl 0 rfl) ?_
            refine va_get (D := (dC, dI)) (ci := 12) (v := .ref (q 8)) (C := RX12) (T := TX12) (N := 85) hx hb hts hiX12 hown hK hP 0 wm0 rfl 19 (by decide) (hts _ (List.mem_cons_of_mem _ wlq_2_41)) (fun _ h9 => h9) rfl (dk_at dkX12_mayBeAt_1 13 rfl) ?_
            refine lv_aload_n hx hb (dk_at dkX12_mayBeAt_1 14 rfl) rfl (lv_at hl 0 rfl) ?_
            refine lv_iload_n hx hb (dk_at dkX12_mayBeAt_1 15 rfl) rfl (lv_at hl 1 rfl) ?_
            refine lv_bipush (v := iI 20) hx hb (dk_at dkX12_mayBeAt_2 0 rfl) (by decide +kernel) ?_
            refine x_subv (v := x1 - 20) hx hb (dk_at dkX12_mayBeAt_2 1 rfl) (by omega) ?_
            refine x_calli (As := [.int (iI (x1 - 20))]) (rest := [.ref (q 8)]) ⟨hx, hb, hml, hown, hts⟩ (mc_X12_door10 l dC dI cB cI cJ cZ cQ q _ (x1 - 20) hI (by omega)) (cwV 1 hts (goodV wlq_4_49 wlq_4_50 wlq_4_51 wlq_0_8 wlq_4_42) rfl rfl rfl (by decide +kernel) ⟨Nat.le_of_ble_eq_true rfl, Nat.le_of_ble_eq_true rfl⟩) hK hDD hA0 hP hS 0 12 wm0 rfl rfl hl.1 (Nat.le_of_ble_eq_true rfl) (dk_at dkX12_mayBeAt_2 2 rfl) (fun z9 A10 H locs hw11 hP hS => ?_)
            obtain ⟨rfl, hw11⟩ := hw11
            have ghw11 : q_X12_door10 (x1 - 20) A z9 := hw11
            have hw11 := hw11.2
            refine tp_i (y := iI (10 * (A 0 12) + x1 - 20)) (congrArg iI (show z9 = 10 * (A 0 12) + x1 - 20 by omega)) ?_
            clear hw11
            refine x_zald hx hb hK hP 8 3 wm8 rfl (by omega) (by decide) (dk_at dkX12_mayBeAt_2 3 rfl) (fun z12 hz12 => ?_)
            have rz12 : (0 : Int) ≤ z12 ∧ z12 ≤ 1 := by rw [hz12]; exact hI 8 _
            have gz12 := Hd.mk hz12
            have hz12 : z12 = A 8 (10 * (A 0 12) + x1 - 20).toNat := hz12
            refine lv_if_eq (tgt := 70) hx hb (dk_at dkX12_mayBeAt_2 4 rfl) (by decide) (fun c13 => ?_) (fun c13 => ?_)
            · have c13 : z12 = 0 := (i_eq0 (rb rz12 (by decide) (by decide))).mp c13
              refine lv_iconst (v := iI 0) hx hb (dk_at dkX12_mayBeAt_2 7 rfl) (by decide +kernel) ?_
              exact RET 0 _ _ _ _ _ ⟨rfl, (u_r_X12_mayBeAt (Or.inl ⟨c1, (Or.inl ⟨c2, (Or.inr ⟨c3, (Or.inr ⟨c4, ⟨z5, ghw7, (Or.inr ⟨c8, ⟨z9, ghw11, ⟨z12, gz12.out, (Or.inl ⟨c13, rfl⟩)⟩⟩⟩)⟩⟩)⟩)⟩)⟩)), ⟨by decide, Hd.mk (fun h => by omega)⟩⟩ hP hS (dk_at dkX12_mayBeAt_2 8 rfl)
            · have c13 : ¬ z12 = 0 := mt (i_eq0 (rb rz12 (by decide) (by decide))).mpr c13
              refine lv_iconst (v := iI 1) hx hb (dk_at dkX12_mayBeAt_2 5 rfl) (by decide +kernel) ?_
              refine lv_goto (tgt := 71) hx hb (dk_at dkX12_mayBeAt_2 6 rfl) (by decide) ?_
              exact RET 1 _ _ _ _ _ ⟨rfl, (u_r_X12_mayBeAt (Or.inl ⟨c1, (Or.inl ⟨c2, (Or.inr ⟨c3, (Or.inr ⟨c4, ⟨z5, ghw7, (Or.inr ⟨c8, ⟨z9, ghw11, ⟨z12, gz12.out, (Or.inr ⟨c13, rfl⟩)⟩⟩⟩)⟩⟩)⟩)⟩)⟩)), ⟨by decide, Hd.mk (fun h => by omega)⟩⟩ hP hS (dk_at dkX12_mayBeAt_2 8 rfl)
    · have c2 : ¬ 20 ≤ x1 := mt (i_le ⟨by decide, by decide⟩ (rb hx1 (by decide) (by decide))).mpr c2
      refine lv_aload_n hx hb (dk_at dkX12_mayBeAt_0 10 rfl) rfl (lv_at hl 0 rfl) ?_
      refine lv_iload_n hx hb (dk_at dkX12_mayBeAt_0 11 rfl) rfl (lv_at hl 1 rfl) ?_
      refine lv_bipush (v := iI 10) hx hb (dk_at dkX12_mayBeAt_0 12 rfl) (by decide +kernel) ?_
      refine x_subv (v := x1 - 10) hx hb (dk_at dkX12_mayBeAt_0 13 rfl) (by omega) ?_
      have r_A_0_12 : (0 : Int) ≤ (A 0 12) ∧ (A 0 12) ≤ 1 := hI 0 12
      refine x_calli (As := [.int (iI (x1 - 10))]) (rest := []) ⟨hx, hb, hml, hown, hts⟩ (mc_X12_isPlaceB l dC dI cB cI cJ cZ cQ q _ (x1 - 10) hI (by omega)) (cwV 1 hts (goodV wlq_7_27 wlq_7_28 wlq_7_29 wlq_0_8 wlq_4_37) rfl rfl rfl (by decide +kernel) ⟨Nat.le_of_ble_eq_true rfl, Nat.le_of_ble_eq_true rfl⟩) hK hDD hA0 hP hS 0 12 wm0 rfl rfl hl.1 (Nat.le_of_ble_eq_true rfl) (dk_at dkX12_mayBeAt_0 14 rfl) (fun z14 A15 H locs hw16 hP hS => ?_)
      obtain ⟨rfl, hw16⟩ := hw16
      have ghw16 : q_X12_isPlace (x1 - 10) A z14 := hw16
      have hw16 := hw16.2
      have rz14 : 0 ≤ z14 ∧ z14 ≤ 1 := hw16.1
      exact RET z14 _ _ _ _ _ ⟨rfl, (u_r_X12_mayBeAt (Or.inl ⟨c1, (Or.inr ⟨c2, ⟨z14, ghw16, rfl⟩⟩)⟩)), ⟨by omega, Hd.mk (fun h => by omega)⟩⟩ hP hS (dk_at dkX12_mayBeAt_0 15 rfl)
  · have c1 : ¬ 10 ≤ x1 := mt (i_le ⟨by decide, by decide⟩ (rb hx1 (by decide) (by decide))).mpr c1
    refine lv_aload_n hx hb (dk_at dkX12_mayBeAt_0 3 rfl) rfl (lv_at hl 0 rfl) ?_
    refine lv_iload_n hx hb (dk_at dkX12_mayBeAt_0 4 rfl) rfl (lv_at hl 1 rfl) ?_
    have r_A_0_12 : (0 : Int) ≤ (A 0 12) ∧ (A 0 12) ≤ 1 := hI 0 12
    refine x_calli (As := [.int (iI x1)]) (rest := []) ⟨hx, hb, hml, hown, hts⟩ (mc_X12_isPersonB l dC dI cB cI cJ cZ cQ q _ x1 hI (rb hx1 (by decide) (by decide))) (cwV 1 hts (goodV wlq_5_55 wlq_5_56 wlq_5_57 wlq_0_8 wlq_4_40) rfl rfl rfl (by decide +kernel) ⟨Nat.le_of_ble_eq_true rfl, Nat.le_of_ble_eq_true rfl⟩) hK hDD hA0 hP hS 0 12 wm0 rfl rfl hl.1 (Nat.le_of_ble_eq_true rfl) (dk_at dkX12_mayBeAt_0 5 rfl) (fun z17 A18 H locs hw19 hP hS => ?_)
    obtain ⟨rfl, hw19⟩ := hw19
    have ghw19 : q_X12_isPerson x1 A z17 := hw19
    have hw19 := hw19.2
    have rz17 : 0 ≤ z17 ∧ z17 ≤ 1 := hw19.1
    exact RET z17 _ _ _ _ _ ⟨rfl, (u_r_X12_mayBeAt (Or.inr ⟨c1, ⟨z17, ghw19, rfl⟩⟩)), ⟨by omega, Hd.mk (fun h => by omega)⟩⟩ hP hS (dk_at dkX12_mayBeAt_0 6 rfl)

abbrev tr_d_X12_isRowAt_2 (K1 : Int → Prop) (x1 : Int) (z1 : Int) (A : St) (z : Int) (K2 : Int → Prop) (z15 : Int) : Prop := ((0 ≤ z15 ∧ z15 ≤ 2147483647) ∧ (((z1 ≤ z15) ∧ (K1 (z1 + 1))) ∨ ((¬ z1 ≤ z15) ∧ (∃ z23 : Int, z23 = A 1 (x1 + z15).toNat ∧ (∃ z24 : Int, z24 = A 1 (x1 + z1).toNat ∧ (((¬ z23 = z24) ∧ (K2 (z15 + 1))) ∨ ((z23 = z24) ∧ (z = 0))))))))
def d_X12_isRowAt_2 (K1 : Int → Prop) (x1 : Int) (z1 : Int) (A : St) (z : Int) : Nat → Int → Prop
  | 0, _ => False
  | nn9 + 1, z15 => tr_d_X12_isRowAt_2 K1 x1 z1 A z (fun z15 => d_X12_isRowAt_2 K1 x1 z1 A z nn9 z15) z15
theorem u_d_X12_isRowAt_2 {K1 : Int → Prop} {x1 : Int} {z1 : Int} {A : St} {z : Int} {nn9 : Nat} {z15 : Int} (h : tr_d_X12_isRowAt_2 K1 x1 z1 A z (fun z15 => d_X12_isRowAt_2 K1 x1 z1 A z nn9 z15) z15) : d_X12_isRowAt_2 K1 x1 z1 A z (nn9 + 1) z15 := h
abbrev tr_d_X12_isRowAt_1 (x1 : Int) (x2 : Int) (A : St) (z : Int) (K1 : Int → Prop) (z1 : Int) : Prop := ((0 ≤ z1 ∧ z1 ≤ 2147483647) ∧ (((x2 ≤ z1) ∧ (z = 1)) ∨ ((¬ x2 ≤ z1) ∧ (∃ z10 : Int, z10 = A 1 (x1 + z1).toNat ∧ (∃ z11 : Int, q_X12_isDoor z10 A z11 ∧ (((¬ z11 = 0) ∧ (∃ nn9 : Nat, d_X12_isRowAt_2 K1 x1 z1 A z nn9 0)) ∨ ((z11 = 0) ∧ (z = 0))))))))
def d_X12_isRowAt_1 (x1 : Int) (x2 : Int) (A : St) (z : Int) : Nat → Int → Prop
  | 0, _ => False
  | nn9 + 1, z1 => tr_d_X12_isRowAt_1 x1 x2 A z (fun z1 => d_X12_isRowAt_1 x1 x2 A z nn9 z1) z1
theorem u_d_X12_isRowAt_1 {x1 : Int} {x2 : Int} {A : St} {z : Int} {nn9 : Nat} {z1 : Int} (h : tr_d_X12_isRowAt_1 x1 x2 A z (fun z1 => d_X12_isRowAt_1 x1 x2 A z nn9 z1) z1) : d_X12_isRowAt_1 x1 x2 A z (nn9 + 1) z1 := h
abbrev tr_r_X12_isRowAt (x1 : Int) (x2 : Int) (A : St) (z : Int) : Prop := (∃ nn9 : Nat, d_X12_isRowAt_1 x1 x2 A z nn9 0)
def r_X12_isRowAt (x1 : Int) (x2 : Int) (A : St) (z : Int) : Prop := tr_r_X12_isRowAt x1 x2 A z
theorem u_r_X12_isRowAt {x1 : Int} {x2 : Int} {A : St} {z : Int} (h : tr_r_X12_isRowAt x1 x2 A z) : r_X12_isRowAt x1 x2 A z := h
def q_X12_isRowAt (x1 : Int) (x2 : Int) (A : St) (z : Int) : Prop := r_X12_isRowAt x1 x2 A z ∧ ((0 ≤ z ∧ z ≤ 1) ∧ (Hd (z = 1 → ∀ j : Nat, (j : Int) < x2 → 0 ≤ A 1 (x1 + j).toNat ∧ A 1 (x1 + j).toNat ≤ 9)))
def ws_mb_X12_isRowAt : List Cond := .code yX12_isRowAt cX12_isRowAt 5 (some .boolean) :: WX
set_option maxHeartbeats 4000000 in
set_option maxRecDepth 100000 in
theorem mb_X12_isRowAt (l : Launch) (dC : Nat → ClassId) (dI : Nat → Nat → Nat) (cB cI cJ cZ cQ : ClassId) (q : Nat → Nat) (A : St) (x1 x2 : Int) (hI : IM A) (hx1 : (0 : Int) ≤ x1 ∧ x1 ≤ 1600) (hx2 : (0 : Int) ≤ x2 ∧ x2 ≤ 6) : XMi l yX12_isRowAt ws_mb_X12_isRowAt ({ frames := 2, cells := 0, slots := 0, locals := 43 } : Room) (dC, dI) (tyA cB cI cJ cZ cQ) (WM cI cJ cZ q) A [.ref (q 0), .int (iI x1), .int (iI x2)] (fun z u => A = u ∧ r_X12_isRowAt x1 x2 A z ∧ ((0 ≤ z ∧ z ≤ 1) ∧ (Hd (z = 1 → ∀ j : Nat, (j : Int) < x2 → 0 ≤ A 1 (x1 + j).toNat ∧ A 1 (x1 + j).toNat ≤ 9)))) := by
  refine x_metz (cc := cX12_isRowAt) (maxL := 5) WM_adr (by decide +kernel) rfl (Nat.le_of_ble_eq_true rfl) (fun z u h => h.2.2.1) (fun p e s m below meth c Q AS ls hx hb hml hown hts hK hDD hA0 hP hS hl RET => ?_)
  have hown : s.vm.findClass RX12 = some m.cls := hown
  have hl : lv_has ls 5 [(0, .ref (q 0)), (1, .int (iI x1)), (2, .int (iI x2))] := hl
  have hiX12 : ∀ w ∈ u_ws RX12 TX12 85, w ∈ ws_mb_X12_isRowAt := fun w h => List.mem_cons_of_mem _ (wx_lay w h)
  obtain ⟨H, hHe⟩ : ∃ H : Heap, H = s.heap := ⟨_, rfl⟩
  rw [← hHe] at hP
  have hS : va_S AS s.heap H [] := by rw [hHe]; exact hS
  suffices hgo : ∀ locs : List Loc, va_S AS s.heap H locs → W p l e (headSpec ws_mb_X12_isRowAt ({ frames := 2, cells := 0, slots := 0, locals := 43 } : Room)).room s m [.ref (q 0), .int (iI x1), .int (iI x2)].toArray below meth c H locs 0 0 Q (F0 m 0 ls []) by
    have := hgo [] hS
    rw [hHe] at this
    exact this
  clear hS hHe
  intro locs hS
  refine lv_iconst (v := iI 0) hx hb (dk_at dkX12_isRowAt_0 0 rfl) (by decide +kernel) ?_
  refine lv_istore_n (lv' := [(3, .int (iI 0)), (0, .ref (q 0)), (1, .int (iI x1)), (2, .int (iI x2))]) hx hb (dk_at dkX12_isRowAt_0 1 rfl) rfl hl (by decide) rfl (fun ls hl => ?_)
  have L2_3 : ∀ (n5 : Nat) (z1 : Int) (H : Heap) (locs : List Loc) (ls : Array Slot), (0 ≤ z1) → (0 ≤ z1 ∧ z1 ≤ 2147483647) → (Hd (∀ j : Nat, (j : Int) < z1 → 0 ≤ A 1 (x1 + j).toNat ∧ A 1 (x1 + j).toNat ≤ 9)) → (∀ (z : Int), (∃ mm1 : Nat, (d_X12_isRowAt_1 x1 x2 A z mm1 z1)) → r_X12_isRowAt x1 x2 A z) → ((x2 - z1 + 1).toNat = n5) → va_P (dC, dI) vwCl (WM cI cJ cZ q A) H → va_S AS s.heap H locs → lv_has ls 5 [(3, .int (iI z1)), (0, .ref (q 0)), (1, .int (iI x1)), (2, .int (iI x2))] → W p l e (headSpec ws_mb_X12_isRowAt ({ frames := 2, cells := 0, slots := 0, locals := 43 } : Room)).room s m [.ref (q 0), .int (iI x1), .int (iI x2)].toArray below meth c H locs 0 0 Q (F0 m 2 ls []) := by
    intro n5
    induction n5 using Nat.strongRecOn with
    | ind n5 ih4 =>
      intro z1 H locs ls f6 f7 f8 hk1 hn5 hP hS hl
      refine lv_iload_n hx hb (dk_at dkX12_isRowAt_0 2 rfl) rfl (lv_at hl 0 rfl) ?_
      refine lv_iload_n hx hb (dk_at dkX12_isRowAt_0 3 rfl) rfl (lv_at hl 3 rfl) ?_
      refine lv_icmp_ge (tgt := 67) hx hb (dk_at dkX12_isRowAt_0 4 rfl) (by decide) (fun c9 => ?_) (fun c9 => ?_)
      · have c9 : x2 ≤ z1 := (i_le (rb hx2 (by decide) (by decide)) (rb f7 (by decide) (by decide))).mp c9
        refine lv_iconst (v := iI 1) hx hb (dk_at dkX12_isRowAt_2 8 rfl) (by decide +kernel) ?_
        exact RET 1 _ _ _ _ _ ⟨rfl, hk1 _ ⟨0 + 1, (u_d_X12_isRowAt_1 ⟨f7, (Or.inl ⟨c9, rfl⟩)⟩)⟩, ⟨by decide, Hd.mk (fun _ j hj => f8.out j (by omega))⟩⟩ hP hS (dk_at dkX12_isRowAt_2 9 rfl)
      · have c9 : ¬ x2 ≤ z1 := mt (i_le (rb hx2 (by decide) (by decide)) (rb f7 (by decide) (by decide))).mpr c9
        refine lv_aload_n hx hb (dk_at dkX12_isRowAt_0 5 rfl) rfl (lv_at hl 1 rfl) ?_
        refine lv_aload_n hx hb (dk_at dkX12_isRowAt_0 6 rfl) rfl (lv_at hl 1 rfl) ?_
        refine va_get (D := (dC, dI)) (ci := 12) (v := .ref (q 1)) (C := RX12) (T := TX12) (N := 85) hx hb hts hiX12 hown hK hP 0 wm0 rfl 0 (by decide) (hts _ (List.mem_cons_of_mem _ wlq_0_2)) (fun _ h9 => h9) rfl (dk_at dkX12_isRowAt_0 7 rfl) ?_
        refine lv_iload_n hx hb (dk_at dkX12_isRowAt_0 8 rfl) rfl (lv_at hl 2 rfl) ?_
        refine lv_iload_n hx hb (dk_at dkX12_isRowAt_0 9 rfl) rfl (lv_at hl 0 rfl) ?_
        refine x_addv (v := x1 + z1) hx hb (dk_at dkX12_isRowAt_0 10 rfl) (by omega) ?_
        refine x_iald hx hb hK hP 1 1 wm1 rfl (by omega) (by decide) (dk_at dkX12_isRowAt_0 11 rfl) (fun z10 hz10 => ?_)
        have rz10 : (0 : Int) ≤ z10 ∧ z10 ≤ 255 := by rw [hz10]; exact hI 1 _
        have gz10 := Hd.mk hz10
        have hz10 : z10 = A 1 (x1 + z1).toNat := hz10
        have r_A_0_12 : (0 : Int) ≤ (A 0 12) ∧ (A 0 12) ≤ 1 := hI 0 12
        refine x_calli (As := [.int (iI z10)]) (rest := []) ⟨hx, hb, hml, hown, hts⟩ (mc_X12_isDoorB l dC dI cB cI cJ cZ cQ q _ z10 hI (rb rz10 (by decide) (by decide))) (cwV 1 hts (goodV wlq_5_14 wlq_5_15 wlq_5_16 wlq_0_8 wlq_4_38) rfl rfl rfl (by decide +kernel) ⟨Nat.le_of_ble_eq_true rfl, Nat.le_of_ble_eq_true rfl⟩) hK hDD hA0 hP hS 0 12 wm0 rfl rfl hl.1 (Nat.le_of_ble_eq_true rfl) (dk_at dkX12_isRowAt_0 12 rfl) (fun z11 A12 H locs hw13 hP hS => ?_)
        obtain ⟨rfl, hw13⟩ := hw13
        have ghw13 : q_X12_isDoor z10 A z11 := hw13
        have hw13 := hw13.2
        have rz11 : 0 ≤ z11 ∧ z11 ≤ 1 := hw13.1
        refine lv_if_ne (tgt := 24) hx hb (dk_at dkX12_isRowAt_0 13 rfl) (by decide) (fun c14 => ?_) (fun c14 => ?_)
        · have c14 : ¬ z11 = 0 := mt (i_eq0 (rb rz11 (by decide) (by decide))).mpr c14
          have hw13b := hw13.2.mp (by omega)
          clear hw13
          have gz : 0 ≤ A 1 (x1 + z1).toNat ∧ A 1 (x1 + z1).toNat ≤ 9 := by rw [← hz10]; omega
          refine lv_iconst (v := iI 0) hx hb (dk_at dkX12_isRowAt_1 0 rfl) (by decide +kernel) ?_
          refine lv_istore (lv' := [(4, .int (iI 0)), (3, .int (iI z1)), (0, .ref (q 0)), (1, .int (iI x1)), (2, .int (iI x2))]) hx hb (dk_at dkX12_isRowAt_1 1 rfl) hl (by decide) rfl (fun ls hl => ?_)
          have L27_17 : ∀ (n19 : Nat) (z15 : Int) (H : Heap) (locs : List Loc) (ls : Array Slot), (0 ≤ z15) → (0 ≤ z15 ∧ z15 ≤ 2147483647) → (∀ (z : Int), (∃ mm1 mm2 : Nat, (d_X12_isRowAt_2 (fun z1' => d_X12_isRowAt_1 x1 x2 A z mm1 z1') x1 z1 A z mm2 z15)) → r_X12_isRowAt x1 x2 A z) → ((z1 - z15 + 1).toNat = n19) → va_P (dC, dI) vwCl (WM cI cJ cZ q A) H → va_S AS s.heap H locs → lv_has ls 5 [(4, .int (iI z15)), (3, .int (iI z1)), (0, .ref (q 0)), (1, .int (iI x1)), (2, .int (iI x2))] → W p l e (headSpec ws_mb_X12_isRowAt ({ frames := 2, cells := 0, slots := 0, locals := 43 } : Room)).room s m [.ref (q 0), .int (iI x1), .int (iI x2)].toArray below meth c H locs 0 0 Q (F0 m 27 ls []) := by
            intro n19
            induction n19 using Nat.strongRecOn with
            | ind n19 ih18 =>
              intro z15 H locs ls f20 f21 hk2 hn19 hP hS hl
              refine lv_iload hx hb (dk_at dkX12_isRowAt_1 2 rfl) (lv_at hl 0 rfl) ?_
              refine lv_iload_n hx hb (dk_at dkX12_isRowAt_1 3 rfl) rfl (lv_at hl 1 rfl) ?_
              refine lv_icmp_ge (tgt := 61) hx hb (dk_at dkX12_isRowAt_1 4 rfl) (by decide) (fun c22 => ?_) (fun c22 => ?_)
              · have c22 : z1 ≤ z15 := (i_le (rb f7 (by decide) (by decide)) (rb f21 (by decide) (by decide))).mp c22
                refine lv_iinc (v := iI (z1 + 1)) (lv' := [(3, .int (iI (z1 + 1))), (4, .int (iI z15)), (0, .ref (q 0)), (1, .int (iI x1)), (2, .int (iI x2))]) hx hb (dk_at dkX12_isRowAt_2 6 rfl) hl (k := 1) rfl (i_inc (by omega)) (by decide) rfl (fun ls hl => ?_)
                refine lv_goto (tgt := 2) hx hb (dk_at dkX12_isRowAt_2 7 rfl) (by decide) ?_
                exact ih4 _ (by omega) (z1 + 1) _ _ _ (by omega) (by omega) (by exact Hd.mk (rowI (by omega) f8.out gz)) (fun zq ⟨mm1, hq⟩ => hk2 _ ⟨mm1, 0 + 1, (u_d_X12_isRowAt_2 ⟨f21, (Or.inl ⟨c22, hq⟩)⟩)⟩) rfl hP hS (lv_sub hl [0, 2, 3, 4] rfl)
              · have c22 : ¬ z1 ≤ z15 := mt (i_le (rb f7 (by decide) (by decide)) (rb f21 (by decide) (by decide))).mpr c22
                refine lv_aload_n hx hb (dk_at dkX12_isRowAt_1 5 rfl) rfl (lv_at hl 2 rfl) ?_
                refine va_get (D := (dC, dI)) (ci := 12) (v := .ref (q 1)) (C := RX12) (T := TX12) (N := 85) hx hb hts hiX12 hown hK hP 0 wm0 rfl 0 (by decide) (hts _ (List.mem_cons_of_mem _ wlq_0_2)) (fun _ h9 => h9) rfl (dk_at dkX12_isRowAt_1 6 rfl) ?_
                refine lv_iload_n hx hb (dk_at dkX12_isRowAt_1 7 rfl) rfl (lv_at hl 3 rfl) ?_
                refine lv_iload hx hb (dk_at dkX12_isRowAt_1 8 rfl) (lv_at hl 0 rfl) ?_
                refine x_addv (v := x1 + z15) hx hb (dk_at dkX12_isRowAt_1 9 rfl) (by omega) ?_
                refine x_iald hx hb hK hP 1 1 wm1 rfl (by omega) (by decide) (dk_at dkX12_isRowAt_1 10 rfl) (fun z23 hz23 => ?_)
                have rz23 : (0 : Int) ≤ z23 ∧ z23 ≤ 255 := by rw [hz23]; exact hI 1 _
                have gz23 := Hd.mk hz23
                have hz23 : z23 = A 1 (x1 + z15).toNat := hz23
                refine lv_aload_n hx hb (dk_at dkX12_isRowAt_1 11 rfl) rfl (lv_at hl 2 rfl) ?_
                refine va_get (D := (dC, dI)) (ci := 12) (v := .ref (q 1)) (C := RX12) (T := TX12) (N := 85) hx hb hts hiX12 hown hK hP 0 wm0 rfl 0 (by decide) (hts _ (List.mem_cons_of_mem _ wlq_0_2)) (fun _ h9 => h9) rfl (dk_at dkX12_isRowAt_1 12 rfl) ?_
                refine lv_iload_n hx hb (dk_at dkX12_isRowAt_1 13 rfl) rfl (lv_at hl 3 rfl) ?_
                refine lv_iload_n hx hb (dk_at dkX12_isRowAt_1 14 rfl) rfl (lv_at hl 1 rfl) ?_
                refine x_addv (v := x1 + z1) hx hb (dk_at dkX12_isRowAt_1 15 rfl) (by omega) ?_
                refine x_iald hx hb hK hP 1 1 wm1 rfl (by omega) (by decide) (dk_at dkX12_isRowAt_2 0 rfl) (fun z24 hz24 => ?_)
                have rz24 : (0 : Int) ≤ z24 ∧ z24 ≤ 255 := by rw [hz24]; exact hI 1 _
                have gz24 := Hd.mk hz24
                have hz24 : z24 = A 1 (x1 + z1).toNat := hz24
                have ez24 : z24 = z10 := hz24.trans hz10.symm
                refine lv_icmp_ne (tgt := 55) hx hb (dk_at dkX12_isRowAt_2 1 rfl) (by decide) (fun c25 => ?_) (fun c25 => ?_)
                · have c25 : ¬ z23 = z24 := mt (i_eq (rb rz23 (by decide) (by decide)) (rb rz24 (by decide) (by decide))).mpr c25
                  refine lv_iinc (v := iI (z15 + 1)) (lv' := [(4, .int (iI (z15 + 1))), (3, .int (iI z1)), (0, .ref (q 0)), (1, .int (iI x1)), (2, .int (iI x2))]) hx hb (dk_at dkX12_isRowAt_2 4 rfl) hl (k := 0) rfl (i_inc (by omega)) (by decide) rfl (fun ls hl => ?_)
                  refine lv_goto (tgt := 27) hx hb (dk_at dkX12_isRowAt_2 5 rfl) (by decide) ?_
                  exact ih18 _ (by omega) (z15 + 1) _ _ _ (by omega) (by omega) (fun zq ⟨mm1, mm2, hq⟩ => hk2 _ ⟨mm1, mm2 + 1, (u_d_X12_isRowAt_2 ⟨f21, (Or.inr ⟨c22, ⟨z23, gz23.out, ⟨z24, gz24.out, (Or.inl ⟨c25, hq⟩)⟩⟩⟩)⟩)⟩) rfl hP hS (lv_sub hl [0, 1, 2, 3, 4] rfl)
                · have c25 : z23 = z24 := (i_eq (rb rz23 (by decide) (by decide)) (rb rz24 (by decide) (by decide))).mp c25
                  refine lv_iconst (v := iI 0) hx hb (dk_at dkX12_isRowAt_2 2 rfl) (by decide +kernel) ?_
                  exact RET 0 _ _ _ _ _ ⟨rfl, hk2 _ ⟨0, 0 + 1, (u_d_X12_isRowAt_2 ⟨f21, (Or.inr ⟨c22, ⟨z23, gz23.out, ⟨z24, gz24.out, (Or.inr ⟨c25, rfl⟩)⟩⟩⟩)⟩)⟩, ⟨by decide, Hd.mk (fun h => absurd h (by decide))⟩⟩ hP hS (dk_at dkX12_isRowAt_2 3 rfl)
          exact L27_17 _ 0 _ _ _ (by omega) (by omega) (fun zq ⟨mm1, mm2, hq⟩ => hk1 _ ⟨mm1 + 1, (u_d_X12_isRowAt_1 ⟨f7, (Or.inr ⟨c9, ⟨z10, gz10.out, ⟨z11, ghw13, (Or.inl ⟨c14, ⟨mm2, hq⟩⟩)⟩⟩⟩)⟩)⟩) rfl hP hS (lv_sub hl [0, 1, 2, 3, 4] rfl)
        · have c14 : z11 = 0 := (i_eq0 (rb rz11 (by decide) (by decide))).mp c14
          clear hw13
          refine lv_iconst (v := iI 0) hx hb (dk_at dkX12_isRowAt_0 14 rfl) (by decide +kernel) ?_
          exact RET 0 _ _ _ _ _ ⟨rfl, hk1 _ ⟨0 + 1, (u_d_X12_isRowAt_1 ⟨f7, (Or.inr ⟨c9, ⟨z10, gz10.out, ⟨z11, ghw13, (Or.inr ⟨c14, rfl⟩)⟩⟩⟩)⟩)⟩, ⟨by decide, Hd.mk (fun h => absurd h (by decide))⟩⟩ hP hS (dk_at dkX12_isRowAt_0 15 rfl)
  exact L2_3 _ 0 _ _ _ (by omega) (by omega) (by exact Hd.mk (fun j hj => absurd (show (j : Int) < 0 from hj) (by omega))) (fun zq ⟨mm1, hq⟩ => (u_r_X12_isRowAt ⟨mm1, hq⟩)) rfl hP hS (lv_sub hl [0, 1, 2, 3] rfl)

abbrev tr_d_X12_isWhole_3 (x1 : Int) (A : St) (z : Int) (K3 : Int → Int → Prop) (z26 : Int) (z27 : Int) : Prop := ((0 ≤ z26 ∧ z26 ≤ 2147483647) ∧ ((0 ≤ z27 ∧ z27 ≤ 1600) ∧ (∃ z38 : Int, z38 = A 11 ((A 0 12)).toNat ∧ (((z38 ≤ z26) ∧ (((¬ z27 = x1 - 1) ∧ (z = 0)) ∨ ((z27 = x1 - 1) ∧ (z = 1)))) ∨ ((¬ z38 ≤ z26) ∧ (((x1 - 1 < z27 + 2) ∧ (z = 0)) ∨ ((¬ x1 - 1 < z27 + 2) ∧ (∃ z42 : Int, z42 = A 1 (z27).toNat ∧ (∃ z43 : Int, q_X12_mayBeAt z42 A z43 ∧ (((z43 = 0) ∧ (z = 0)) ∨ ((¬ z43 = 0) ∧ (∃ z47 : Int, z47 = A 1 (z27 + 1).toNat ∧ (((z47 ≤ 6) ∧ (∃ z49 : Int, z49 = A 1 (z27 + 1).toNat ∧ (((x1 - 1 < z27 + z49 + 2) ∧ (z = 0)) ∨ ((¬ x1 - 1 < z27 + z49 + 2) ∧ (∃ z51 : Int, q_X12_isRowAt (z27 + 2) z49 A z51 ∧ (((¬ z51 = 0) ∧ (K3 (z26 + 1) (z27 + z49 + 2))) ∨ ((z51 = 0) ∧ (z = 0)))))))) ∨ ((¬ z47 ≤ 6) ∧ (z = 0)))))))))))))))
def d_X12_isWhole_3 (x1 : Int) (A : St) (z : Int) : Nat → Int → Int → Prop
  | 0, _, _ => False
  | nn9 + 1, z26, z27 => tr_d_X12_isWhole_3 x1 A z (fun z26 z27 => d_X12_isWhole_3 x1 A z nn9 z26 z27) z26 z27
theorem u_d_X12_isWhole_3 {x1 : Int} {A : St} {z : Int} {nn9 : Nat} {z26 : Int} {z27 : Int} (h : tr_d_X12_isWhole_3 x1 A z (fun z26 z27 => d_X12_isWhole_3 x1 A z nn9 z26 z27) z26 z27) : d_X12_isWhole_3 x1 A z (nn9 + 1) z26 z27 := h
abbrev tr_d_X12_isWhole_2 (x1 : Int) (z14 : Int) (A : St) (z : Int) (K2 : Int → Prop) (z15 : Int) : Prop := ((0 ≤ z15 ∧ z15 ≤ 2147483647) ∧ (∃ z24 : Int, z24 = A 16 ((A 0 12)).toNat ∧ (((z24 ≤ z15) ∧ (∃ nn9 : Nat, d_X12_isWhole_3 x1 A z nn9 0 z14)) ∨ ((¬ z24 ≤ z15) ∧ (((x1 - 1 ≤ z15) ∧ (z = 0)) ∨ ((¬ x1 - 1 ≤ z15) ∧ (∃ z56 : Int, z56 = A 1 (z15).toNat ∧ (∃ z57 : Int, q_X12_isPlace z56 A z57 ∧ (((¬ z57 = 0) ∧ (K2 (z15 + 1))) ∨ ((z57 = 0) ∧ (z = 0)))))))))))
def d_X12_isWhole_2 (x1 : Int) (z14 : Int) (A : St) (z : Int) : Nat → Int → Prop
  | 0, _ => False
  | nn9 + 1, z15 => tr_d_X12_isWhole_2 x1 z14 A z (fun z15 => d_X12_isWhole_2 x1 z14 A z nn9 z15) z15
theorem u_d_X12_isWhole_2 {x1 : Int} {z14 : Int} {A : St} {z : Int} {nn9 : Nat} {z15 : Int} (h : tr_d_X12_isWhole_2 x1 z14 A z (fun z15 => d_X12_isWhole_2 x1 z14 A z nn9 z15) z15) : d_X12_isWhole_2 x1 z14 A z (nn9 + 1) z15 := h
abbrev tr_d_X12_isWhole_1 (x1 : Int) (A : St) (z : Int) (K1 : Int → Int → Prop) (z2 : Int) (z3 : Int) : Prop := ((0 ≤ z2 ∧ z2 ≤ 2147483647) ∧ ((0 ≤ z3 ∧ z3 ≤ 232) ∧ (((x1 - 1 ≤ z2) ∧ (∃ z12 : Int, z12 = A 1 (x1 - 1).toNat ∧ (((z12 = z3) ∧ (∃ z14 : Int, z14 = A 16 ((A 0 12)).toNat ∧ (∃ nn9 : Nat, d_X12_isWhole_2 x1 z14 A z nn9 0))) ∨ ((¬ z12 = z3) ∧ (z = 0))))) ∨ ((¬ x1 - 1 ≤ z2) ∧ (∃ z61 : Int, z61 = A 1 (z2).toNat ∧ (∃ z62 : Int, z62 = (3 * z3 + z61) % 233 ∧ (K1 (z2 + 1) z62)))))))
def d_X12_isWhole_1 (x1 : Int) (A : St) (z : Int) : Nat → Int → Int → Prop
  | 0, _, _ => False
  | nn9 + 1, z2, z3 => tr_d_X12_isWhole_1 x1 A z (fun z2 z3 => d_X12_isWhole_1 x1 A z nn9 z2 z3) z2 z3
theorem u_d_X12_isWhole_1 {x1 : Int} {A : St} {z : Int} {nn9 : Nat} {z2 : Int} {z3 : Int} (h : tr_d_X12_isWhole_1 x1 A z (fun z2 z3 => d_X12_isWhole_1 x1 A z nn9 z2 z3) z2 z3) : d_X12_isWhole_1 x1 A z (nn9 + 1) z2 z3 := h
abbrev tr_r_X12_isWhole (x1 : Int) (A : St) (z : Int) : Prop := (((1 ≤ x1) ∧ (∃ nn9 : Nat, d_X12_isWhole_1 x1 A z nn9 0 19)) ∨ ((¬ 1 ≤ x1) ∧ (z = 0)))
def r_X12_isWhole (x1 : Int) (A : St) (z : Int) : Prop := tr_r_X12_isWhole x1 A z
theorem u_r_X12_isWhole {x1 : Int} {A : St} {z : Int} (h : tr_r_X12_isWhole x1 A z) : r_X12_isWhole x1 A z := h
def q_X12_isWhole (x1 : Int) (A : St) (z : Int) : Prop := r_X12_isWhole x1 A z ∧ ((0 ≤ z ∧ z ≤ 1) ∧ (Hd (z = 1 → (∀ j : Nat, (j : Int) < A 16 (A 0 12).toNat → 0 ≤ A 1 j ∧ A 1 j ≤ 7) ∧ (∀ j : Nat, (j : Int) < A 11 (A 0 12).toNat → wgd (A 1) (A 16 (A 0 12).toNat) (x1 - 1) j))))
def ws_mb_X12_isWhole : List Cond := .code yX12_isWhole cX12_isWhole 6 (some .boolean) :: WX
set_option maxHeartbeats 4000000 in
set_option maxRecDepth 100000 in
theorem mb_X12_isWhole (l : Launch) (dC : Nat → ClassId) (dI : Nat → Nat → Nat) (cB cI cJ cZ cQ : ClassId) (q : Nat → Nat) (A : St) (x1 : Int) (hI : IM A) (hx1 : (0 : Int) ≤ x1 ∧ x1 ≤ 1600) : XMi l yX12_isWhole ws_mb_X12_isWhole ({ frames := 3, cells := 0, slots := 0, locals := 67 } : Room) (dC, dI) (tyA cB cI cJ cZ cQ) (WM cI cJ cZ q) A [.ref (q 0), .int (iI x1)] (fun z u => A = u ∧ r_X12_isWhole x1 A z ∧ ((0 ≤ z ∧ z ≤ 1) ∧ (Hd (z = 1 → (∀ j : Nat, (j : Int) < A 16 (A 0 12).toNat → 0 ≤ A 1 j ∧ A 1 j ≤ 7) ∧ (∀ j : Nat, (j : Int) < A 11 (A 0 12).toNat → wgd (A 1) (A 16 (A 0 12).toNat) (x1 - 1) j))))) := by
  refine x_metz (cc := cX12_isWhole) (maxL := 6) WM_adr (by decide +kernel) rfl (Nat.le_of_ble_eq_true rfl) (fun z u h => h.2.2.1) (fun p e s m below meth c Q AS ls hx hb hml hown hts hK hDD hA0 hP hS hl RET => ?_)
  have hown : s.vm.findClass RX12 = some m.cls := hown
  have hl : lv_has ls 6 [(0, .ref (q 0)), (1, .int (iI x1))] := hl
  have hiX12 : ∀ w ∈ u_ws RX12 TX12 85, w ∈ ws_mb_X12_isWhole := fun w h => List.mem_cons_of_mem _ (wx_lay w h)
  obtain ⟨H, hHe⟩ : ∃ H : Heap, H = s.heap := ⟨_, rfl⟩
  rw [← hHe] at hP
  have hS : va_S AS s.heap H [] := by rw [hHe]; exact hS
  suffices hgo : ∀ locs : List Loc, va_S AS s.heap H locs → W p l e (headSpec ws_mb_X12_isWhole ({ frames := 3, cells := 0, slots := 0, locals := 67 } : Room)).room s m [.ref (q 0), .int (iI x1)].toArray below meth c H locs 0 0 Q (F0 m 0 ls []) by
    have := hgo [] hS
    rw [hHe] at this
    exact this
  clear hS hHe
  intro locs hS
  refine lv_iload_n hx hb (dk_at dkX12_isWhole_0 0 rfl) rfl (lv_at hl 1 rfl) ?_
  refine lv_iconst (v := iI 1) hx hb (dk_at dkX12_isWhole_0 1 rfl) (by decide +kernel) ?_
  refine lv_icmp_ge (tgt := 7) hx hb (dk_at dkX12_isWhole_0 2 rfl) (by decide) (fun c1 => ?_) (fun c1 => ?_)
  · have c1 : 1 ≤ x1 := (i_le ⟨by decide, by decide⟩ (rb hx1 (by decide) (by decide))).mp c1
    refine lv_bipush (v := iI 19) hx hb (dk_at dkX12_isWhole_0 5 rfl) (by decide +kernel) ?_
    refine lv_istore_n (lv' := [(2, .int (iI 19)), (0, .ref (q 0)), (1, .int (iI x1))]) hx hb (dk_at dkX12_isWhole_0 6 rfl) rfl hl (by decide) rfl (fun ls hl => ?_)
    refine lv_iconst (v := iI 0) hx hb (dk_at dkX12_isWhole_0 7 rfl) (by decide +kernel) ?_
    refine lv_istore_n (lv' := [(3, .int (iI 0)), (2, .int (iI 19)), (0, .ref (q 0)), (1, .int (iI x1))]) hx hb (dk_at dkX12_isWhole_0 8 rfl) rfl hl (by decide) rfl (fun ls hl => ?_)
    have L12_5 : ∀ (n7 : Nat) (z2 z3 : Int) (H : Heap) (locs : List Loc) (ls : Array Slot), (0 ≤ z2) → (0 ≤ z2 ∧ z2 ≤ 2147483647) → (0 ≤ z3 ∧ z3 ≤ 232) → (∀ (z : Int), (∃ mm1 : Nat, (d_X12_isWhole_1 x1 A z mm1 z2 z3)) → r_X12_isWhole x1 A z) → ((x1 - 1 - z2 + 1).toNat = n7) → va_P (dC, dI) vwCl (WM cI cJ cZ q A) H → va_S AS s.heap H locs → lv_has ls 6 [(3, .int (iI z2)), (2, .int (iI z3)), (0, .ref (q 0)), (1, .int (iI x1))] → W p l e (headSpec ws_mb_X12_isWhole ({ frames := 3, cells := 0, slots := 0, locals := 67 } : Room)).room s m [.ref (q 0), .int (iI x1)].toArray below meth c H locs 0 0 Q (F0 m 12 ls []) := by
      intro n7
      induction n7 using Nat.strongRecOn with
      | ind n7 ih6 =>
        intro z2 z3 H locs ls f8 f9 f10 hk1 hn7 hP hS hl
        refine lv_iload_n hx hb (dk_at dkX12_isWhole_0 9 rfl) rfl (lv_at hl 0 rfl) ?_
        refine lv_iload_n hx hb (dk_at dkX12_isWhole_0 10 rfl) rfl (lv_at hl 3 rfl) ?_
        refine lv_iconst (v := iI 1) hx hb (dk_at dkX12_isWhole_0 11 rfl) (by decide +kernel) ?_
        refine x_subv (v := x1 - 1) hx hb (dk_at dkX12_isWhole_0 12 rfl) (by omega) ?_
        refine lv_icmp_ge (tgt := 40) hx hb (dk_at dkX12_isWhole_0 13 rfl) (by decide) (fun c11 => ?_) (fun c11 => ?_)
        · have c11 : x1 - 1 ≤ z2 := (i_le (by omega) (rb f9 (by decide) (by decide))).mp c11
          refine lv_aload_n hx hb (dk_at dkX12_isWhole_1 11 rfl) rfl (lv_at hl 2 rfl) ?_
          refine va_get (D := (dC, dI)) (ci := 12) (v := .ref (q 1)) (C := RX12) (T := TX12) (N := 85) hx hb hts hiX12 hown hK hP 0 wm0 rfl 0 (by decide) (hts _ (List.mem_cons_of_mem _ wlq_0_2)) (fun _ h9 => h9) rfl (dk_at dkX12_isWhole_1 12 rfl) ?_
          refine lv_iload_n hx hb (dk_at dkX12_isWhole_1 13 rfl) rfl (lv_at hl 3 rfl) ?_
          refine lv_iconst (v := iI 1) hx hb (dk_at dkX12_isWhole_1 14 rfl) (by decide +kernel) ?_
          refine x_subv (v := x1 - 1) hx hb (dk_at dkX12_isWhole_1 15 rfl) (by omega) ?_
          refine x_iald hx hb hK hP 1 1 wm1 rfl (by omega) (by decide) (dk_at dkX12_isWhole_2 0 rfl) (fun z12 hz12 => ?_)
          have rz12 : (0 : Int) ≤ z12 ∧ z12 ≤ 255 := by rw [hz12]; exact hI 1 _
          have gz12 := Hd.mk hz12
          have hz12 : z12 = A 1 (x1 - 1).toNat := hz12
          refine lv_iload_n hx hb (dk_at dkX12_isWhole_2 1 rfl) rfl (lv_at hl 1 rfl) ?_
          refine lv_icmp_eq (tgt := 54) hx hb (dk_at dkX12_isWhole_2 2 rfl) (by decide) (fun c13 => ?_) (fun c13 => ?_)
          · have c13 : z12 = z3 := (i_eq (rb rz12 (by decide) (by decide)) (rb f10 (by decide) (by decide))).mp c13
            refine lv_aload_n hx hb (dk_at dkX12_isWhole_2 5 rfl) rfl (lv_at hl 2 rfl) ?_
            refine va_get (D := (dC, dI)) (ci := 12) (v := .ref (q 16)) (C := RX12) (T := TX12) (N := 85) hx hb hts hiX12 hown hK hP 0 wm0 rfl 27 (by decide) (hts _ (List.mem_cons_of_mem _ wlq_1_15)) (fun _ h9 => h9) rfl (dk_at dkX12_isWhole_2 6 rfl) ?_
            refine lv_aload_n hx hb (dk_at dkX12_isWhole_2 7 rfl) rfl (lv_at hl 2 rfl) ?_
            refine va_get (D := (dC, dI)) (ci := 12) (v := .int (iI (A 0 12))) (C := RX12) (T := TX12) (N := 85) hx hb hts hiX12 hown hK hP 0 wm0 rfl 12 (by decide) (hts _ (List.mem_cons_of_mem _ wlq_4_14)) (fun _ h9 => h9) rfl (dk_at dkX12_isWhole_2 8 rfl) ?_
            have r_A_0_12 : (0 : Int) ≤ (A 0 12) ∧ (A 0 12) ≤ 1 := hI 0 12
            refine x_iald hx hb hK hP 16 1 wm16 rfl (by omega) (by decide) (dk_at dkX12_isWhole_2 9 rfl) (fun z14 hz14 => ?_)
            have rz14 : (0 : Int) ≤ z14 ∧ z14 ≤ 3 := by rw [hz14]; exact hI 16 _
            have gz14 := Hd.mk hz14
            have hz14 : z14 = A 16 ((A 0 12)).toNat := hz14
            refine lv_istore_n (lv' := [(3, .int (iI z14)), (2, .int (iI z3)), (0, .ref (q 0)), (1, .int (iI x1))]) hx hb (dk_at dkX12_isWhole_2 10 rfl) rfl hl (by decide) rfl (fun ls hl => ?_)
            refine lv_iconst (v := iI 0) hx hb (dk_at dkX12_isWhole_2 11 rfl) (by decide +kernel) ?_
            refine lv_istore (lv' := [(4, .int (iI 0)), (3, .int (iI z14)), (2, .int (iI z3)), (0, .ref (q 0)), (1, .int (iI x1))]) hx hb (dk_at dkX12_isWhole_2 12 rfl) hl (by decide) rfl (fun ls hl => ?_)
            have L67_18 : ∀ (n20 : Nat) (z15 : Int) (H : Heap) (locs : List Loc) (ls : Array Slot), (0 ≤ z15) → (0 ≤ z15 ∧ z15 ≤ 2147483647) → (Hd (∀ j : Nat, (j : Int) < z15 → 0 ≤ A 1 j ∧ A 1 j ≤ 7)) → (∀ (z : Int), (∃ mm1 mm2 : Nat, (d_X12_isWhole_2 x1 z14 A z mm2 z15)) → r_X12_isWhole x1 A z) → ((A 16 ((A 0 12)).toNat - z15 + 1).toNat = n20) → va_P (dC, dI) vwCl (WM cI cJ cZ q A) H → va_S AS s.heap H locs → lv_has ls 6 [(4, .int (iI z15)), (3, .int (iI z14)), (2, .int (iI z3)), (0, .ref (q 0)), (1, .int (iI x1))] → W p l e (headSpec ws_mb_X12_isWhole ({ frames := 3, cells := 0, slots := 0, locals := 67 } : Room)).room s m [.ref (q 0), .int (iI x1)].toArray below meth c H locs 0 0 Q (F0 m 67 ls []) := by
              intro n20
              induction n20 using Nat.strongRecOn with
              | ind n20 ih19 =>
                intro z15 H locs ls f21 f22 f23 hk2 hn20 hP hS hl
                refine lv_iload hx hb (dk_at dkX12_isWhole_2 13 rfl) (lv_at hl 0 rfl) ?_
                refine lv_aload_n hx hb (dk_at dkX12_isWhole_2 14 rfl) rfl (lv_at hl 3 rfl) ?_
                refine va_get (D := (dC, dI)) (ci := 12) (v := .ref (q 16)) (C := RX12) (T := TX12) (N := 85) hx hb hts hiX12 hown hK hP 0 wm0 rfl 27 (by decide) (hts _ (List.mem_cons_of_mem _ wlq_1_15)) (fun _ h9 => h9) rfl (dk_at dkX12_isWhole_2 15 rfl) ?_
                refine lv_aload_n hx hb (dk_at dkX12_isWhole_3 0 rfl) rfl (lv_at hl 3 rfl) ?_
                refine va_get (D := (dC, dI)) (ci := 12) (v := .int (iI (A 0 12))) (C := RX12) (T := TX12) (N := 85) hx hb hts hiX12 hown hK hP 0 wm0 rfl 12 (by decide) (hts _ (List.mem_cons_of_mem _ wlq_4_14)) (fun _ h9 => h9) rfl (dk_at dkX12_isWhole_3 1 rfl) ?_
                refine x_iald hx hb hK hP 16 1 wm16 rfl (by omega) (by decide) (dk_at dkX12_isWhole_3 2 rfl) (fun z24 hz24 => ?_)
                have rz24 : (0 : Int) ≤ z24 ∧ z24 ≤ 3 := by rw [hz24]; exact hI 16 _
                have gz24 := Hd.mk hz24
                have hz24 : z24 = A 16 ((A 0 12)).toNat := hz24
                have ez24 : z24 = z14 := hz24.trans hz14.symm
                refine lv_icmp_ge (tgt := 111) hx hb (dk_at dkX12_isWhole_3 3 rfl) (by decide) (fun c25 => ?_) (fun c25 => ?_)
                · have c25 : z24 ≤ z15 := (i_le (rb rz24 (by decide) (by decide)) (rb f22 (by decide) (by decide))).mp c25
                  have gpp : ∀ j : Nat, (j : Int) < A 16 (A 0 12).toNat → 0 ≤ A 1 j ∧ A 1 j ≤ 7 := fun j hj => f23.out j (by omega)
                  refine lv_iconst (v := iI 0) hx hb (dk_at dkX12_isWhole_4 4 rfl) (by decide +kernel) ?_
                  refine lv_istore (lv' := [(4, .int (iI 0)), (3, .int (iI z14)), (2, .int (iI z3)), (0, .ref (q 0)), (1, .int (iI x1))]) hx hb (dk_at dkX12_isWhole_4 5 rfl) hl (by decide) rfl (fun ls hl => ?_)
                  have L114_30 : ∀ (n32 : Nat) (z26 z27 : Int) (H : Heap) (locs : List Loc) (ls : Array Slot), (0 ≤ z26) → (0 ≤ z26 ∧ z26 ≤ 2147483647) → (0 ≤ z27 ∧ z27 ≤ 1600) → (Hd (∀ j : Nat, (j : Int) < z26 → wgd (A 1) (A 16 (A 0 12).toNat) (x1 - 1) j)) → (Hd (z27 = wlk (A 1) (A 16 (A 0 12).toNat) z26.toNat)) → (∀ (z : Int), (∃ mm1 mm2 mm3 : Nat, (d_X12_isWhole_3 x1 A z mm3 z26 z27)) → r_X12_isWhole x1 A z) → ((A 11 ((A 0 12)).toNat - z26 + 1).toNat = n32) → va_P (dC, dI) vwCl (WM cI cJ cZ q A) H → va_S AS s.heap H locs → lv_has ls 6 [(4, .int (iI z26)), (3, .int (iI z27)), (2, .int (iI z3)), (0, .ref (q 0)), (1, .int (iI x1))] → W p l e (headSpec ws_mb_X12_isWhole ({ frames := 3, cells := 0, slots := 0, locals := 67 } : Room)).room s m [.ref (q 0), .int (iI x1)].toArray below meth c H locs 0 0 Q (F0 m 114 ls []) := by
                    intro n32
                    induction n32 using Nat.strongRecOn with
                    | ind n32 ih31 =>
                      intro z26 z27 H locs ls f33 f34 f35 f36 f37 hk3 hn32 hP hS hl
                      refine lv_iload hx hb (dk_at dkX12_isWhole_4 6 rfl) (lv_at hl 0 rfl) ?_
                      refine lv_aload_n hx hb (dk_at dkX12_isWhole_4 7 rfl) rfl (lv_at hl 3 rfl) ?_
                      refine va_get (D := (dC, dI)) (ci := 12) (v := .ref (q 11)) (C := RX12) (T := TX12) (N := 85) hx hb hts hiX12 hown hK hP 0 wm0 rfl 22 (by decide) (hts _ (List.mem_cons_of_mem _ wlq_1_14)) (fun _ h9 => h9) rfl (dk_at dkX12_isWhole_4 8 rfl) ?_
                      refine lv_aload_n hx hb (dk_at dkX12_isWhole_4 9 rfl) rfl (lv_at hl 3 rfl) ?_
                      refine va_get (D := (dC, dI)) (ci := 12) (v := .int (iI (A 0 12))) (C := RX12) (T := TX12) (N := 85) hx hb hts hiX12 hown hK hP 0 wm0 rfl 12 (by decide) (hts _ (List.mem_cons_of_mem _ wlq_4_14)) (fun _ h9 => h9) rfl (dk_at dkX12_isWhole_4 10 rfl) ?_
                      refine x_iald hx hb hK hP 11 1 wm11 rfl (by omega) (by decide) (dk_at dkX12_isWhole_4 11 rfl) (fun z38 hz38 => ?_)
                      have rz38 : (0 : Int) ≤ z38 ∧ z38 ≤ 4 := by rw [hz38]; exact hI 11 _
                      have gz38 := Hd.mk hz38
                      have hz38 : z38 = A 11 ((A 0 12)).toNat := hz38
                      refine lv_icmp_ge (tgt := 214) hx hb (dk_at dkX12_isWhole_4 12 rfl) (by decide) (fun c39 => ?_) (fun c39 => ?_)
                      · have c39 : z38 ≤ z26 := (i_le (rb rz38 (by decide) (by decide)) (rb f34 (by decide) (by decide))).mp c39
                        refine lv_iload_n hx hb (dk_at dkX12_isWhole_8 6 rfl) rfl (lv_at hl 1 rfl) ?_
                        refine lv_iload_n hx hb (dk_at dkX12_isWhole_8 7 rfl) rfl (lv_at hl 4 rfl) ?_
                        refine lv_iconst (v := iI 1) hx hb (dk_at dkX12_isWhole_8 8 rfl) (by decide +kernel) ?_
                        refine x_subv (v := x1 - 1) hx hb (dk_at dkX12_isWhole_8 9 rfl) (by omega) ?_
                        refine lv_icmp_ne (tgt := 225) hx hb (dk_at dkX12_isWhole_8 10 rfl) (by decide) (fun c40 => ?_) (fun c40 => ?_)
                        · have c40 : ¬ z27 = x1 - 1 := mt (i_eq (rb f35 (by decide) (by decide)) (by omega)).mpr c40
                          refine lv_iconst (v := iI 0) hx hb (dk_at dkX12_isWhole_8 13 rfl) (by decide +kernel) ?_
                          exact RET 0 _ _ _ _ _ ⟨rfl, hk3 _ ⟨0, 0, 0 + 1, (u_d_X12_isWhole_3 ⟨f34, ⟨f35, ⟨z38, gz38.out, (Or.inl ⟨c39, (Or.inl ⟨c40, rfl⟩)⟩)⟩⟩⟩)⟩, ⟨by decide, Hd.mk (fun h => absurd h (by decide))⟩⟩ hP hS (dk_at dkX12_isWhole_8 14 rfl)
                        · have c40 : z27 = x1 - 1 := (i_eq (rb f35 (by decide) (by decide)) (by omega)).mp c40
                          refine lv_iconst (v := iI 1) hx hb (dk_at dkX12_isWhole_8 11 rfl) (by decide +kernel) ?_
                          refine lv_goto (tgt := 226) hx hb (dk_at dkX12_isWhole_8 12 rfl) (by decide) ?_
                          exact RET 1 _ _ _ _ _ ⟨rfl, hk3 _ ⟨0, 0, 0 + 1, (u_d_X12_isWhole_3 ⟨f34, ⟨f35, ⟨z38, gz38.out, (Or.inl ⟨c39, (Or.inr ⟨c40, rfl⟩)⟩)⟩⟩⟩)⟩, ⟨by decide, Hd.mk (fun _ => ⟨gpp, fun j hj => f36.out j (by omega)⟩)⟩⟩ hP hS (dk_at dkX12_isWhole_8 14 rfl)
                      · have c39 : ¬ z38 ≤ z26 := mt (i_le (rb rz38 (by decide) (by decide)) (rb f34 (by decide) (by decide))).mpr c39
                        refine lv_iload_n hx hb (dk_at dkX12_isWhole_4 13 rfl) rfl (lv_at hl 1 rfl) ?_
                        refine lv_iconst (v := iI 2) hx hb (dk_at dkX12_isWhole_4 14 rfl) (by decide +kernel) ?_
                        refine x_addv (v := z27 + 2) hx hb (dk_at dkX12_isWhole_4 15 rfl) (by omega) ?_
                        refine lv_iload_n hx hb (dk_at dkX12_isWhole_5 0 rfl) rfl (lv_at hl 4 rfl) ?_
                        refine lv_iconst (v := iI 1) hx hb (dk_at dkX12_isWhole_5 1 rfl) (by decide +kernel) ?_
                        refine x_subv (v := x1 - 1) hx hb (dk_at dkX12_isWhole_5 2 rfl) (by omega) ?_
                        refine lv_icmp_gt (tgt := 163) hx hb (dk_at dkX12_isWhole_5 3 rfl) (by decide) (fun c41 => ?_) (fun c41 => ?_)
                        · have c41 : x1 - 1 < z27 + 2 := (i_lt (by omega) (by omega)).mp c41
                          refine lv_iconst (v := iI 0) hx hb (dk_at dkX12_isWhole_6 3 rfl) (by decide +kernel) ?_
                          exact RET 0 _ _ _ _ _ ⟨rfl, hk3 _ ⟨0, 0, 0 + 1, (u_d_X12_isWhole_3 ⟨f34, ⟨f35, ⟨z38, gz38.out, (Or.inr ⟨c39, (Or.inl ⟨c41, rfl⟩)⟩)⟩⟩⟩)⟩, ⟨by decide, Hd.mk (fun h => absurd h (by decide))⟩⟩ hP hS (dk_at dkX12_isWhole_6 4 rfl)
                        · have c41 : ¬ x1 - 1 < z27 + 2 := mt (i_lt (by omega) (by omega)).mpr c41
                          refine lv_aload_n hx hb (dk_at dkX12_isWhole_5 4 rfl) rfl (lv_at hl 3 rfl) ?_
                          refine lv_aload_n hx hb (dk_at dkX12_isWhole_5 5 rfl) rfl (lv_at hl 3 rfl) ?_
                          refine va_get (D := (dC, dI)) (ci := 12) (v := .ref (q 1)) (C := RX12) (T := TX12) (N := 85) hx hb hts hiX12 hown hK hP 0 wm0 rfl 0 (by decide) (hts _ (List.mem_cons_of_mem _ wlq_0_2)) (fun _ h9 => h9) rfl (dk_at dkX12_isWhole_5 6 rfl) ?_
                          refine lv_iload_n hx hb (dk_at dkX12_isWhole_5 7 rfl) rfl (lv_at hl 1 rfl) ?_
                          refine x_iald hx hb hK hP 1 1 wm1 rfl (by omega) (by decide) (dk_at dkX12_isWhole_5 8 rfl) (fun z42 hz42 => ?_)
                          have rz42 : (0 : Int) ≤ z42 ∧ z42 ≤ 255 := by rw [hz42]; exact hI 1 _
                          have gz42 := Hd.mk hz42
                          have hz42 : z42 = A 1 (z27).toNat := hz42
                          refine x_calli (As := [.int (iI z42)]) (rest := []) ⟨hx, hb, hml, hown, hts⟩ (mb_X12_mayBeAt l dC dI cB cI cJ cZ cQ q _ z42 hI rz42) (cwV 1 hts (goodV wlq_8_47 wlq_8_48 wlq_8_49 wlq_0_8 wlq_8_44) rfl rfl rfl (by decide +kernel) ⟨Nat.le_of_ble_eq_true rfl, Nat.le_of_ble_eq_true rfl⟩) hK hDD hA0 hP hS 0 12 wm0 rfl rfl hl.1 (Nat.le_of_ble_eq_true rfl) (dk_at dkX12_isWhole_5 9 rfl) (fun z43 A44 H locs hw45 hP hS => ?_)
                          obtain ⟨rfl, hw45⟩ := hw45
                          have ghw45 : q_X12_mayBeAt z42 A z43 := hw45
                          have hw45 := hw45.2
                          have rz43 : 0 ≤ z43 ∧ z43 ≤ 1 := hw45.1
                          refine lv_if_eq (tgt := 163) hx hb (dk_at dkX12_isWhole_5 10 rfl) (by decide) (fun c46 => ?_) (fun c46 => ?_)
                          · have c46 : z43 = 0 := (i_eq0 (rb rz43 (by decide) (by decide))).mp c46
                            refine lv_iconst (v := iI 0) hx hb (dk_at dkX12_isWhole_6 3 rfl) (by decide +kernel) ?_
                            exact RET 0 _ _ _ _ _ ⟨rfl, hk3 _ ⟨0, 0, 0 + 1, (u_d_X12_isWhole_3 ⟨f34, ⟨f35, ⟨z38, gz38.out, (Or.inr ⟨c39, (Or.inr ⟨c41, ⟨z42, gz42.out, ⟨z43, ghw45, (Or.inl ⟨c46, rfl⟩)⟩⟩⟩)⟩)⟩⟩⟩)⟩, ⟨by decide, Hd.mk (fun h => absurd h (by decide))⟩⟩ hP hS (dk_at dkX12_isWhole_6 4 rfl)
                          · have c46 : ¬ z43 = 0 := mt (i_eq0 (rb rz43 (by decide) (by decide))).mpr c46
                            refine lv_aload_n hx hb (dk_at dkX12_isWhole_5 11 rfl) rfl (lv_at hl 3 rfl) ?_
                            refine va_get (D := (dC, dI)) (ci := 12) (v := .ref (q 1)) (C := RX12) (T := TX12) (N := 85) hx hb hts hiX12 hown hK hP 0 wm0 rfl 0 (by decide) (hts _ (List.mem_cons_of_mem _ wlq_0_2)) (fun _ h9 => h9) rfl (dk_at dkX12_isWhole_5 12 rfl) ?_
                            refine lv_iload_n hx hb (dk_at dkX12_isWhole_5 13 rfl) rfl (lv_at hl 1 rfl) ?_
                            refine lv_iconst (v := iI 1) hx hb (dk_at dkX12_isWhole_5 14 rfl) (by decide +kernel) ?_
                            refine x_addv (v := z27 + 1) hx hb (dk_at dkX12_isWhole_5 15 rfl) (by omega) ?_
                            refine x_iald hx hb hK hP 1 1 wm1 rfl (by omega) (by decide) (dk_at dkX12_isWhole_6 0 rfl) (fun z47 hz47 => ?_)
                            have rz47 : (0 : Int) ≤ z47 ∧ z47 ≤ 255 := by rw [hz47]; exact hI 1 _
                            have gz47 := Hd.mk hz47
                            have hz47 : z47 = A 1 (z27 + 1).toNat := hz47
                            refine lv_bipush (v := iI 6) hx hb (dk_at dkX12_isWhole_6 1 rfl) (by decide +kernel) ?_
                            refine lv_icmp_le (tgt := 165) hx hb (dk_at dkX12_isWhole_6 2 rfl) (by decide) (fun c48 => ?_) (fun c48 => ?_)
                            · have c48 : z47 ≤ 6 := (i_le (rb rz47 (by decide) (by decide)) ⟨by decide, by decide⟩).mp c48
                              refine lv_aload_n hx hb (dk_at dkX12_isWhole_6 5 rfl) rfl (lv_at hl 3 rfl) ?_
                              refine va_get (D := (dC, dI)) (ci := 12) (v := .ref (q 1)) (C := RX12) (T := TX12) (N := 85) hx hb hts hiX12 hown hK hP 0 wm0 rfl 0 (by decide) (hts _ (List.mem_cons_of_mem _ wlq_0_2)) (fun _ h9 => h9) rfl (dk_at dkX12_isWhole_6 6 rfl) ?_
                              refine lv_iload_n hx hb (dk_at dkX12_isWhole_6 7 rfl) rfl (lv_at hl 1 rfl) ?_
                              refine lv_iconst (v := iI 1) hx hb (dk_at dkX12_isWhole_6 8 rfl) (by decide +kernel) ?_
                              refine x_addv (v := z27 + 1) hx hb (dk_at dkX12_isWhole_6 9 rfl) (by omega) ?_
                              refine x_iald hx hb hK hP 1 1 wm1 rfl (by omega) (by decide) (dk_at dkX12_isWhole_6 10 rfl) (fun z49 hz49 => ?_)
                              have rz49 : (0 : Int) ≤ z49 ∧ z49 ≤ 255 := by rw [hz49]; exact hI 1 _
                              have gz49 := Hd.mk hz49
                              have hz49 : z49 = A 1 (z27 + 1).toNat := hz49
                              have ez49 : z49 = z47 := hz49.trans hz47.symm
                              refine lv_istore (lv' := [(5, .int (iI z49)), (4, .int (iI z26)), (3, .int (iI z27)), (2, .int (iI z3)), (0, .ref (q 0)), (1, .int (iI x1))]) hx hb (dk_at dkX12_isWhole_6 11 rfl) hl (by decide) rfl (fun ls hl => ?_)
                              refine lv_iload_n hx hb (dk_at dkX12_isWhole_6 12 rfl) rfl (lv_at hl 2 rfl) ?_
                              refine lv_iconst (v := iI 2) hx hb (dk_at dkX12_isWhole_6 13 rfl) (by decide +kernel) ?_
                              refine x_addv (v := z27 + 2) hx hb (dk_at dkX12_isWhole_6 14 rfl) (by omega) ?_
                              refine lv_iload hx hb (dk_at dkX12_isWhole_6 15 rfl) (lv_at hl 0 rfl) ?_
                              refine x_addv (v := z27 + z49 + 2) hx hb (dk_at dkX12_isWhole_7 0 rfl) (by omega) ?_
                              refine lv_iload_n hx hb (dk_at dkX12_isWhole_7 1 rfl) rfl (lv_at hl 5 rfl) ?_
                              refine lv_iconst (v := iI 1) hx hb (dk_at dkX12_isWhole_7 2 rfl) (by decide +kernel) ?_
                              refine x_subv (v := x1 - 1) hx hb (dk_at dkX12_isWhole_7 3 rfl) (by omega) ?_
                              refine lv_icmp_gt (tgt := 199) hx hb (dk_at dkX12_isWhole_7 4 rfl) (by decide) (fun c50 => ?_) (fun c50 => ?_)
                              · have c50 : x1 - 1 < z27 + z49 + 2 := (i_lt (by omega) (by omega)).mp c50
                                refine lv_iconst (v := iI 0) hx hb (dk_at dkX12_isWhole_7 12 rfl) (by decide +kernel) ?_
                                exact RET 0 _ _ _ _ _ ⟨rfl, hk3 _ ⟨0, 0, 0 + 1, (u_d_X12_isWhole_3 ⟨f34, ⟨f35, ⟨z38, gz38.out, (Or.inr ⟨c39, (Or.inr ⟨c41, ⟨z42, gz42.out, ⟨z43, ghw45, (Or.inr ⟨c46, ⟨z47, gz47.out, (Or.inl ⟨c48, ⟨z49, gz49.out, (Or.inl ⟨c50, rfl⟩)⟩⟩)⟩⟩)⟩⟩⟩)⟩)⟩⟩⟩)⟩, ⟨by decide, Hd.mk (fun h => absurd h (by decide))⟩⟩ hP hS (dk_at dkX12_isWhole_7 13 rfl)
                              · have c50 : ¬ x1 - 1 < z27 + z49 + 2 := mt (i_lt (by omega) (by omega)).mpr c50
                                refine lv_aload_n hx hb (dk_at dkX12_isWhole_7 5 rfl) rfl (lv_at hl 4 rfl) ?_
                                refine lv_iload_n hx hb (dk_at dkX12_isWhole_7 6 rfl) rfl (lv_at hl 2 rfl) ?_
                                refine lv_iconst (v := iI 2) hx hb (dk_at dkX12_isWhole_7 7 rfl) (by decide +kernel) ?_
                                refine x_addv (v := z27 + 2) hx hb (dk_at dkX12_isWhole_7 8 rfl) (by omega) ?_
                                refine lv_iload hx hb (dk_at dkX12_isWhole_7 9 rfl) (lv_at hl 0 rfl) ?_
                                refine x_calli (As := [.int (iI (z27 + 2)), .int (iI z49)]) (rest := []) ⟨hx, hb, hml, hown, hts⟩ (mb_X12_isRowAt l dC dI cB cI cJ cZ cQ q _ (z27 + 2) z49 hI (by omega) (by omega)) (cwV 2 hts (goodV wlq_8_50 wlq_8_51 wlq_8_52 wlq_0_8 wlq_8_45) rfl rfl rfl (by decide +kernel) ⟨Nat.le_of_ble_eq_true rfl, Nat.le_of_ble_eq_true rfl⟩) hK hDD hA0 hP hS 0 12 wm0 rfl rfl hl.1 (Nat.le_of_ble_eq_true rfl) (dk_at dkX12_isWhole_7 10 rfl) (fun z51 A52 H locs hw53 hP hS => ?_)
                                obtain ⟨rfl, hw53⟩ := hw53
                                have ghw53 : q_X12_isRowAt (z27 + 2) z49 A z51 := hw53
                                have hw53 := hw53.2
                                have rz51 : 0 ≤ z51 ∧ z51 ≤ 1 := hw53.1
                                refine lv_if_ne (tgt := 201) hx hb (dk_at dkX12_isWhole_7 11 rfl) (by decide) (fun c54 => ?_) (fun c54 => ?_)
                                · have c54 : ¬ z51 = 0 := mt (i_eq0 (rb rz51 (by decide) (by decide))).mpr c54
                                  have gv := hw45.2.out (by omega)
                                  have gg := wgd_mk (t := A 1) (a := A 16 (A 0 12).toNat) (n := x1 - 1) (k := z26) f37.out hz42 hz49 (by omega) (by omega) (by omega) (hw53.2.out (by omega))
                                  have gs := wlk_s (t := A 1) (a := A 16 (A 0 12).toNat) (k := z26) (by omega) f37.out hz49
                                  refine lv_iload_n hx hb (dk_at dkX12_isWhole_7 14 rfl) rfl (lv_at hl 2 rfl) ?_
                                  refine lv_iconst (v := iI 2) hx hb (dk_at dkX12_isWhole_7 15 rfl) (by decide +kernel) ?_
                                  refine lv_iload hx hb (dk_at dkX12_isWhole_8 0 rfl) (lv_at hl 0 rfl) ?_
                                  refine x_addv (v := z49 + 2) hx hb (dk_at dkX12_isWhole_8 1 rfl) (by omega) ?_
                                  refine x_addv (v := z27 + z49 + 2) hx hb (dk_at dkX12_isWhole_8 2 rfl) (by omega) ?_
                                  refine lv_istore_n (lv' := [(3, .int (iI (z27 + z49 + 2))), (5, .int (iI z49)), (4, .int (iI z26)), (2, .int (iI z3)), (0, .ref (q 0)), (1, .int (iI x1))]) hx hb (dk_at dkX12_isWhole_8 3 rfl) rfl hl (by decide) rfl (fun ls hl => ?_)
                                  refine lv_iinc (v := iI (z26 + 1)) (lv' := [(4, .int (iI (z26 + 1))), (3, .int (iI (z27 + z49 + 2))), (5, .int (iI z49)), (2, .int (iI z3)), (0, .ref (q 0)), (1, .int (iI x1))]) hx hb (dk_at dkX12_isWhole_8 4 rfl) hl (k := 2) rfl (i_inc (by omega)) (by decide) rfl (fun ls hl => ?_)
                                  refine lv_goto (tgt := 114) hx hb (dk_at dkX12_isWhole_8 5 rfl) (by decide) ?_
                                  exact ih31 _ (by omega) (z26 + 1) (z27 + z49 + 2) _ _ _ (by omega) (by omega) (by omega) (by exact Hd.mk (wgI (by omega) f36.out gg)) (by exact Hd.mk (by omega)) (fun zq ⟨mm1, mm2, mm3, hq⟩ => hk3 _ ⟨mm1, mm2, mm3 + 1, (u_d_X12_isWhole_3 ⟨f34, ⟨f35, ⟨z38, gz38.out, (Or.inr ⟨c39, (Or.inr ⟨c41, ⟨z42, gz42.out, ⟨z43, ghw45, (Or.inr ⟨c46, ⟨z47, gz47.out, (Or.inl ⟨c48, ⟨z49, gz49.out, (Or.inr ⟨c50, ⟨z51, ghw53, (Or.inl ⟨c54, hq⟩)⟩⟩)⟩⟩)⟩⟩)⟩⟩⟩)⟩)⟩⟩⟩)⟩) rfl hP hS (lv_sub hl [0, 1, 3, 4, 5] rfl)
                                · have c54 : z51 = 0 := (i_eq0 (rb rz51 (by decide) (by decide))).mp c54
                                  refine lv_iconst (v := iI 0) hx hb (dk_at dkX12_isWhole_7 12 rfl) (by decide +kernel) ?_
                                  exact RET 0 _ _ _ _ _ ⟨rfl, hk3 _ ⟨0, 0, 0 + 1, (u_d_X12_isWhole_3 ⟨f34, ⟨f35, ⟨z38, gz38.out, (Or.inr ⟨c39, (Or.inr ⟨c41, ⟨z42, gz42.out, ⟨z43, ghw45, (Or.inr ⟨c46, ⟨z47, gz47.out, (Or.inl ⟨c48, ⟨z49, gz49.out, (Or.inr ⟨c50, ⟨z51, ghw53, (Or.inr ⟨c54, rfl⟩)⟩⟩)⟩⟩)⟩⟩)⟩⟩⟩)⟩)⟩⟩⟩)⟩, ⟨by decide, Hd.mk (fun h => absurd h (by decide))⟩⟩ hP hS (dk_at dkX12_isWhole_7 13 rfl)
                            · have c48 : ¬ z47 ≤ 6 := mt (i_le (rb rz47 (by decide) (by decide)) ⟨by decide, by decide⟩).mpr c48
                              refine lv_iconst (v := iI 0) hx hb (dk_at dkX12_isWhole_6 3 rfl) (by decide +kernel) ?_
                              exact RET 0 _ _ _ _ _ ⟨rfl, hk3 _ ⟨0, 0, 0 + 1, (u_d_X12_isWhole_3 ⟨f34, ⟨f35, ⟨z38, gz38.out, (Or.inr ⟨c39, (Or.inr ⟨c41, ⟨z42, gz42.out, ⟨z43, ghw45, (Or.inr ⟨c46, ⟨z47, gz47.out, (Or.inr ⟨c48, rfl⟩)⟩⟩)⟩⟩⟩)⟩)⟩⟩⟩)⟩, ⟨by decide, Hd.mk (fun h => absurd h (by decide))⟩⟩ hP hS (dk_at dkX12_isWhole_6 4 rfl)
                  exact L114_30 _ 0 z14 _ _ _ (by omega) (by omega) (by omega) (by exact Hd.mk (fun j hj => absurd (show (j : Int) < 0 from hj) (by omega))) (by exact Hd.mk (by show _ = A 16 (A 0 12).toNat; omega)) (fun zq ⟨mm1, mm2, mm3, hq⟩ => hk2 _ ⟨mm1, mm2 + 1, (u_d_X12_isWhole_2 ⟨f22, ⟨z24, gz24.out, (Or.inl ⟨c25, ⟨mm3, hq⟩⟩)⟩⟩)⟩) rfl hP hS (lv_sub hl [0, 1, 2, 3, 4] rfl)
                · have c25 : ¬ z24 ≤ z15 := mt (i_le (rb rz24 (by decide) (by decide)) (rb f22 (by decide) (by decide))).mpr c25
                  refine lv_iload hx hb (dk_at dkX12_isWhole_3 4 rfl) (lv_at hl 0 rfl) ?_
                  refine lv_iload_n hx hb (dk_at dkX12_isWhole_3 5 rfl) rfl (lv_at hl 4 rfl) ?_
                  refine lv_iconst (v := iI 1) hx hb (dk_at dkX12_isWhole_3 6 rfl) (by decide +kernel) ?_
                  refine x_subv (v := x1 - 1) hx hb (dk_at dkX12_isWhole_3 7 rfl) (by omega) ?_
                  refine lv_icmp_ge (tgt := 103) hx hb (dk_at dkX12_isWhole_3 8 rfl) (by decide) (fun c55 => ?_) (fun c55 => ?_)
                  · have c55 : x1 - 1 ≤ z15 := (i_le (by omega) (rb f22 (by decide) (by decide))).mp c55
                    refine lv_iconst (v := iI 0) hx hb (dk_at dkX12_isWhole_4 0 rfl) (by decide +kernel) ?_
                    exact RET 0 _ _ _ _ _ ⟨rfl, hk2 _ ⟨0, 0 + 1, (u_d_X12_isWhole_2 ⟨f22, ⟨z24, gz24.out, (Or.inr ⟨c25, (Or.inl ⟨c55, rfl⟩)⟩)⟩⟩)⟩, ⟨by decide, Hd.mk (fun h => absurd h (by decide))⟩⟩ hP hS (dk_at dkX12_isWhole_4 1 rfl)
                  · have c55 : ¬ x1 - 1 ≤ z15 := mt (i_le (by omega) (rb f22 (by decide) (by decide))).mpr c55
                    refine lv_aload_n hx hb (dk_at dkX12_isWhole_3 9 rfl) rfl (lv_at hl 3 rfl) ?_
                    refine lv_aload_n hx hb (dk_at dkX12_isWhole_3 10 rfl) rfl (lv_at hl 3 rfl) ?_
                    refine va_get (D := (dC, dI)) (ci := 12) (v := .ref (q 1)) (C := RX12) (T := TX12) (N := 85) hx hb hts hiX12 hown hK hP 0 wm0 rfl 0 (by decide) (hts _ (List.mem_cons_of_mem _ wlq_0_2)) (fun _ h9 => h9) rfl (dk_at dkX12_isWhole_3 11 rfl) ?_
                    refine lv_iload hx hb (dk_at dkX12_isWhole_3 12 rfl) (lv_at hl 0 rfl) ?_
                    refine x_iald hx hb hK hP 1 1 wm1 rfl (by omega) (by decide) (dk_at dkX12_isWhole_3 13 rfl) (fun z56 hz56 => ?_)
                    have rz56 : (0 : Int) ≤ z56 ∧ z56 ≤ 255 := by rw [hz56]; exact hI 1 _
                    have gz56 := Hd.mk hz56
                    have hz56 : z56 = A 1 (z15).toNat := hz56
                    refine x_calli (As := [.int (iI z56)]) (rest := []) ⟨hx, hb, hml, hown, hts⟩ (mc_X12_isPlaceB l dC dI cB cI cJ cZ cQ q _ z56 hI (rb rz56 (by decide) (by decide))) (cwV 1 hts (goodV wlq_7_27 wlq_7_28 wlq_7_29 wlq_0_8 wlq_4_37) rfl rfl rfl (by decide +kernel) ⟨Nat.le_of_ble_eq_true rfl, Nat.le_of_ble_eq_true rfl⟩) hK hDD hA0 hP hS 0 12 wm0 rfl rfl hl.1 (Nat.le_of_ble_eq_true rfl) (dk_at dkX12_isWhole_3 14 rfl) (fun z57 A58 H locs hw59 hP hS => ?_)
                    obtain ⟨rfl, hw59⟩ := hw59
                    have ghw59 : q_X12_isPlace z56 A z57 := hw59
                    have hw59 := hw59.2
                    have rz57 : 0 ≤ z57 ∧ z57 ≤ 1 := hw59.1
                    refine lv_if_ne (tgt := 105) hx hb (dk_at dkX12_isWhole_3 15 rfl) (by decide) (fun c60 => ?_) (fun c60 => ?_)
                    · have c60 : ¬ z57 = 0 := mt (i_eq0 (rb rz57 (by decide) (by decide))).mpr c60
                      have hw59b := hw59.2.mp (by omega)
                      clear hw59
                      refine lv_iinc (v := iI (z15 + 1)) (lv' := [(4, .int (iI (z15 + 1))), (3, .int (iI z14)), (2, .int (iI z3)), (0, .ref (q 0)), (1, .int (iI x1))]) hx hb (dk_at dkX12_isWhole_4 2 rfl) hl (k := 0) rfl (i_inc (by omega)) (by decide) rfl (fun ls hl => ?_)
                      refine lv_goto (tgt := 67) hx hb (dk_at dkX12_isWhole_4 3 rfl) (by decide) ?_
                      exact ih19 _ (by omega) (z15 + 1) _ _ _ (by omega) (by omega) (by exact Hd.mk (ofI (f := A 1) (P := fun y => 0 ≤ y ∧ y ≤ 7) (by omega) f23.out (by show 0 ≤ A 1 _ ∧ A 1 _ ≤ 7; rw [← hz56]; omega))) (fun zq ⟨mm1, mm2, hq⟩ => hk2 _ ⟨mm1, mm2 + 1, (u_d_X12_isWhole_2 ⟨f22, ⟨z24, gz24.out, (Or.inr ⟨c25, (Or.inr ⟨c55, ⟨z56, gz56.out, ⟨z57, ghw59, (Or.inl ⟨c60, hq⟩)⟩⟩⟩)⟩)⟩⟩)⟩) rfl hP hS (lv_sub hl [0, 1, 2, 3, 4] rfl)
                    · have c60 : z57 = 0 := (i_eq0 (rb rz57 (by decide) (by decide))).mp c60
                      clear hw59
                      refine lv_iconst (v := iI 0) hx hb (dk_at dkX12_isWhole_4 0 rfl) (by decide +kernel) ?_
                      exact RET 0 _ _ _ _ _ ⟨rfl, hk2 _ ⟨0, 0 + 1, (u_d_X12_isWhole_2 ⟨f22, ⟨z24, gz24.out, (Or.inr ⟨c25, (Or.inr ⟨c55, ⟨z56, gz56.out, ⟨z57, ghw59, (Or.inr ⟨c60, rfl⟩)⟩⟩⟩)⟩)⟩⟩)⟩, ⟨by decide, Hd.mk (fun h => absurd h (by decide))⟩⟩ hP hS (dk_at dkX12_isWhole_4 1 rfl)
            exact L67_18 _ 0 _ _ _ (by omega) (by omega) (by exact Hd.mk (fun j hj => absurd (show (j : Int) < 0 from hj) (by omega))) (fun zq ⟨mm1, mm2, hq⟩ => hk1 _ ⟨mm1 + 1, (u_d_X12_isWhole_1 ⟨f9, ⟨f10, (Or.inl ⟨c11, ⟨z12, gz12.out, (Or.inl ⟨c13, ⟨z14, gz14.out, ⟨mm2, hq⟩⟩⟩)⟩⟩)⟩⟩)⟩) rfl hP hS (lv_sub hl [0, 1, 2, 3, 4] rfl)
          · have c13 : ¬ z12 = z3 := mt (i_eq (rb rz12 (by decide) (by decide)) (rb f10 (by decide) (by decide))).mpr c13
            refine lv_iconst (v := iI 0) hx hb (dk_at dkX12_isWhole_2 3 rfl) (by decide +kernel) ?_
            exact RET 0 _ _ _ _ _ ⟨rfl, hk1 _ ⟨0 + 1, (u_d_X12_isWhole_1 ⟨f9, ⟨f10, (Or.inl ⟨c11, ⟨z12, gz12.out, (Or.inr ⟨c13, rfl⟩)⟩⟩)⟩⟩)⟩, ⟨by decide, Hd.mk (fun h => absurd h (by decide))⟩⟩ hP hS (dk_at dkX12_isWhole_2 4 rfl)
        · have c11 : ¬ x1 - 1 ≤ z2 := mt (i_le (by omega) (rb f9 (by decide) (by decide))).mpr c11
          refine lv_iconst (v := iI 3) hx hb (dk_at dkX12_isWhole_0 14 rfl) (by decide +kernel) ?_
          refine lv_iload_n hx hb (dk_at dkX12_isWhole_0 15 rfl) rfl (lv_at hl 1 rfl) ?_
          refine x_mulv (v := 3 * z3) hx hb (dk_at dkX12_isWhole_1 0 rfl) (by omega) ?_
          refine lv_aload_n hx hb (dk_at dkX12_isWhole_1 1 rfl) rfl (lv_at hl 2 rfl) ?_
          refine va_get (D := (dC, dI)) (ci := 12) (v := .ref (q 1)) (C := RX12) (T := TX12) (N := 85) hx hb hts hiX12 hown hK hP 0 wm0 rfl 0 (by decide) (hts _ (List.mem_cons_of_mem _ wlq_0_2)) (fun _ h9 => h9) rfl (dk_at dkX12_isWhole_1 2 rfl) ?_
          refine lv_iload_n hx hb (dk_at dkX12_isWhole_1 3 rfl) rfl (lv_at hl 0 rfl) ?_
          refine x_iald hx hb hK hP 1 1 wm1 rfl (by omega) (by decide) (dk_at dkX12_isWhole_1 4 rfl) (fun z61 hz61 => ?_)
          have rz61 : (0 : Int) ≤ z61 ∧ z61 ≤ 255 := by rw [hz61]; exact hI 1 _
          have gz61 := Hd.mk hz61
          have hz61 : z61 = A 1 (z2).toNat := hz61
          refine x_addv (v := 3 * z3 + z61) hx hb (dk_at dkX12_isWhole_1 5 rfl) (by omega) ?_
          refine lv_sipush (v := iI 233) hx hb (dk_at dkX12_isWhole_1 6 rfl) (by decide +kernel) ?_
          refine x_rem hx hb (dk_at dkX12_isWhole_1 7 rfl) (by omega) (by omega) (fun z62 hz62 hz62b => ?_)
          refine lv_istore_n (lv' := [(2, .int (iI z62)), (3, .int (iI z2)), (0, .ref (q 0)), (1, .int (iI x1))]) hx hb (dk_at dkX12_isWhole_1 8 rfl) rfl hl (by decide) rfl (fun ls hl => ?_)
          refine lv_iinc (v := iI (z2 + 1)) (lv' := [(3, .int (iI (z2 + 1))), (2, .int (iI z62)), (0, .ref (q 0)), (1, .int (iI x1))]) hx hb (dk_at dkX12_isWhole_1 9 rfl) hl (k := 1) rfl (i_inc (by omega)) (by decide) rfl (fun ls hl => ?_)
          refine lv_goto (tgt := 12) hx hb (dk_at dkX12_isWhole_1 10 rfl) (by decide) ?_
          exact ih6 _ (by omega) (z2 + 1) z62 _ _ _ (by omega) (by omega) (by omega) (fun zq ⟨mm1, hq⟩ => hk1 _ ⟨mm1 + 1, (u_d_X12_isWhole_1 ⟨f9, ⟨f10, (Or.inr ⟨c11, ⟨z61, gz61.out, ⟨z62, hz62, hq⟩⟩⟩)⟩⟩)⟩) rfl hP hS (lv_sub hl [0, 1, 2, 3] rfl)
    exact L12_5 _ 0 19 _ _ _ (by omega) (by omega) (by omega) (fun zq ⟨mm1, hq⟩ => (u_r_X12_isWhole (Or.inl ⟨c1, ⟨mm1, hq⟩⟩))) rfl hP hS (lv_sub hl [0, 1, 2, 3] rfl)
  · have c1 : ¬ 1 ≤ x1 := mt (i_le ⟨by decide, by decide⟩ (rb hx1 (by decide) (by decide))).mpr c1
    refine lv_iconst (v := iI 0) hx hb (dk_at dkX12_isWhole_0 3 rfl) (by decide +kernel) ?_
    exact RET 0 _ _ _ _ _ ⟨rfl, (u_r_X12_isWhole (Or.inr ⟨c1, rfl⟩)), ⟨by decide, Hd.mk (fun h => absurd h (by decide))⟩⟩ hP hS (dk_at dkX12_isWhole_0 4 rfl)
