abbrev tr_d_X12_on_3 (K2 : Int → Int → St → Prop) (z22 : Int) (z23 : Int) (A : St) (z : Int) (u : St) (K3 : Int → St → Prop) (z47 : Int) (A49 : St) : Prop := ((IM A49) ∧ ((0 ≤ z47 ∧ z47 ≤ 2147483647) ∧ (∃ z57 : Int, z57 = A49 1 (z23 + 1).toNat ∧ (((z57 ≤ z47) ∧ (∃ z59 : Int, z59 = A49 1 (z23 + 1).toNat ∧ (K2 (z22 + 1) (z23 + z59 + 2) A49))) ∨ ((¬ z57 ≤ z47) ∧ (∃ z60 : Int, q_X12_key4 z22 A49 z60 ∧ (∃ z63 : Int, z63 = A49 1 (z23 + z47 + 2).toNat ∧ (∃ A64 : St, A64 = (stA A49 15 (40 * (A 0 12) + 10 * z22 + z47).toNat z63) ∧ (K3 (z47 + 1) A64)))))))))
def d_X12_on_3 (K2 : Int → Int → St → Prop) (z22 : Int) (z23 : Int) (A : St) (z : Int) (u : St) : Nat → Int → St → Prop
  | 0, _, _ => False
  | nn9 + 1, z47, A49 => tr_d_X12_on_3 K2 z22 z23 A z u (fun z47 A49 => d_X12_on_3 K2 z22 z23 A z u nn9 z47 A49) z47 A49
theorem u_d_X12_on_3 {K2 : Int → Int → St → Prop} {z22 : Int} {z23 : Int} {A : St} {z : Int} {u : St} {nn9 : Nat} {z47 : Int} {A49 : St} (h : tr_d_X12_on_3 K2 z22 z23 A z u (fun z47 A49 => d_X12_on_3 K2 z22 z23 A z u nn9 z47 A49) z47 A49) : d_X12_on_3 K2 z22 z23 A z u (nn9 + 1) z47 A49 := h
abbrev tr_d_X12_on_2 (A : St) (z : Int) (u : St) (K2 : Int → Int → St → Prop) (z22 : Int) (z23 : Int) (A25 : St) : Prop := ((IM A25) ∧ ((0 ≤ z22 ∧ z22 ≤ 2147483647) ∧ ((0 ≤ z23 ∧ z23 ≤ 1600) ∧ (∃ z35 : Int, z35 = A25 11 ((A 0 12)).toNat ∧ (((z35 ≤ z22) ∧ (z = 1 ∧ u = A25)) ∨ ((¬ z35 ≤ z22) ∧ (∃ z37 : Int, q_X12_key4 z22 A25 z37 ∧ (∃ z40 : Int, z40 = A25 1 (z23).toNat ∧ (∃ A41 : St, A41 = (stA A25 13 (4 * (A 0 12) + z22).toNat z40) ∧ (∃ z42 : Int, q_X12_key4 z22 A41 z42 ∧ (∃ z45 : Int, z45 = A41 1 (z23 + 1).toNat ∧ (∃ A46 : St, A46 = (stA A41 14 (4 * (A 0 12) + z22).toNat z45) ∧ (∃ nn9 : Nat, d_X12_on_3 K2 z22 z23 A z u nn9 0 A46)))))))))))))
def d_X12_on_2 (A : St) (z : Int) (u : St) : Nat → Int → Int → St → Prop
  | 0, _, _, _ => False
  | nn9 + 1, z22, z23, A25 => tr_d_X12_on_2 A z u (fun z22 z23 A25 => d_X12_on_2 A z u nn9 z22 z23 A25) z22 z23 A25
theorem u_d_X12_on_2 {A : St} {z : Int} {u : St} {nn9 : Nat} {z22 : Int} {z23 : Int} {A25 : St} (h : tr_d_X12_on_2 A z u (fun z22 z23 A25 => d_X12_on_2 A z u nn9 z22 z23 A25) z22 z23 A25) : d_X12_on_2 A z u (nn9 + 1) z22 z23 A25 := h
abbrev tr_d_X12_on_1 (A : St) (z : Int) (u : St) (K1 : Int → St → Prop) (z9 : Int) (A11 : St) : Prop := ((IM A11) ∧ ((0 ≤ z9 ∧ z9 ≤ 2147483647) ∧ (∃ z19 : Int, z19 = A11 16 ((A 0 12)).toNat ∧ (((z19 ≤ z9) ∧ (∃ z21 : Int, z21 = A11 16 ((A 0 12)).toNat ∧ (∃ nn9 : Nat, d_X12_on_2 A z u nn9 0 z21 A11))) ∨ ((¬ z19 ≤ z9) ∧ (∃ z65 : Int, z65 = A11 1 (z9).toNat ∧ (∃ A66 : St, A66 = (stA A11 18 (3 * (A 0 12) + z9).toNat z65) ∧ (K1 (z9 + 1) A66))))))))
def d_X12_on_1 (A : St) (z : Int) (u : St) : Nat → Int → St → Prop
  | 0, _, _ => False
  | nn9 + 1, z9, A11 => tr_d_X12_on_1 A z u (fun z9 A11 => d_X12_on_1 A z u nn9 z9 A11) z9 A11
theorem u_d_X12_on_1 {A : St} {z : Int} {u : St} {nn9 : Nat} {z9 : Int} {A11 : St} (h : tr_d_X12_on_1 A z u (fun z9 A11 => d_X12_on_1 A z u nn9 z9 A11) z9 A11) : d_X12_on_1 A z u (nn9 + 1) z9 A11 := h
abbrev tr_r_X12_on (A : St) (z : Int) (u : St) : Prop := (∃ A1 : St, A1 = (stA A 0 1 0) ∧ (∃ z2 : Int, q_X12_isWhole (A 0 1) A1 z2 ∧ (((¬ z2 = 0) ∧ (∃ nn9 : Nat, d_X12_on_1 A z u nn9 0 A1)) ∨ ((z2 = 0) ∧ (∃ z67 : Int, ∃ A68 : St, q_X12_refuses 5 A1 z67 A68 ∧ (z = 0 ∧ u = A68))))))
def r_X12_on (A : St) (z : Int) (u : St) : Prop := tr_r_X12_on A z u
theorem u_r_X12_on {A : St} {z : Int} {u : St} (h : tr_r_X12_on A z u) : r_X12_on A z u := h
def ws_mb_X12_on : List Cond := .code yX12_on cX12_on 5 (some .boolean) :: WX
set_option maxHeartbeats 4000000 in
set_option maxRecDepth 100000 in
theorem mb_X12_on (l : Launch) (dC : Nat → ClassId) (dI : Nat → Nat → Nat) (cB cI cJ cZ cQ : ClassId) (q : Nat → Nat) (A : St) (hI : IM A) : XMi l yX12_on ws_mb_X12_on ({ frames := 4, cells := 0, slots := 0, locals := 92 } : Room) (dC, dI) (tyA cB cI cJ cZ cQ) (WM cI cJ cZ q) A [.ref (q 0)] (fun z u => r_X12_on A z u ∧ IM u ∧ fr [13, 14, 15, 18, 41] [1] A u ∧ ((0 ≤ z ∧ z ≤ 1) ∧ (u 0 1 = 0))) := by
  refine x_metz (cc := cX12_on) (maxL := 5) WM_adr (by decide +kernel) rfl (Nat.le_of_ble_eq_true rfl) (fun z u h => h.2.2.2.1) (fun p e s m below meth c Q AS ls hx hb hml hown hts hK hDD hA0 hP hS hl RET => ?_)
  have hown : s.vm.findClass RX12 = some m.cls := hown
  have hl : lv_has ls 5 [(0, .ref (q 0))] := hl
  have hiX12 : ∀ w ∈ u_ws RX12 TX12 85, w ∈ ws_mb_X12_on := fun w h => List.mem_cons_of_mem _ (wx_lay w h)
  obtain ⟨H, hHe⟩ : ∃ H : Heap, H = s.heap := ⟨_, rfl⟩
  rw [← hHe] at hP
  have hS : va_S AS s.heap H [] := by rw [hHe]; exact hS
  suffices hgo : ∀ locs : List Loc, va_S AS s.heap H locs → W p l e (headSpec ws_mb_X12_on ({ frames := 4, cells := 0, slots := 0, locals := 92 } : Room)).room s m [.ref (q 0)].toArray below meth c H locs 0 0 Q (F0 m 0 ls []) by
    have := hgo [] hS
    rw [hHe] at this
    exact this
  clear hS hHe
  intro locs hS
  refine lv_aload_n hx hb (dk_at dkX12_on_0 0 rfl) rfl (lv_at hl 0 rfl) ?_
  refine va_get (D := (dC, dI)) (ci := 12) (v := .int (iI (A 0 1))) (C := RX12) (T := TX12) (N := 85) hx hb hts hiX12 hown hK hP 0 wm0 rfl 1 (by decide) (hts _ (List.mem_cons_of_mem _ wlq_0_3)) (fun _ h9 => h9) rfl (dk_at dkX12_on_0 1 rfl) ?_
  have r_A_0_1 : (0 : Int) ≤ (A 0 1) ∧ (A 0 1) ≤ 1600 := hI 0 1
  refine lv_istore_n (lv' := [(1, .int (iI (A 0 1))), (0, .ref (q 0))]) hx hb (dk_at dkX12_on_0 2 rfl) rfl hl (by decide) rfl (fun ls hl => ?_)
  refine lv_aload_n hx hb (dk_at dkX12_on_0 3 rfl) rfl (lv_at hl 1 rfl) ?_
  refine lv_iconst (v := iI 0) hx hb (dk_at dkX12_on_0 4 rfl) (by decide +kernel) ?_
  refine x_put (D := (dC, dI)) (ci := 12) (v := .int (iI 0)) (ty := .int) (C := RX12) (T := TX12) (N := 85) hx hb hts hiX12 tyX12 tyX12_ok nmX12 hown hK hP hDD hS 0 wm0 rfl 1 (by decide) (hts _ (List.mem_cons_of_mem _ wlq_0_3)) (fun _ h9 => h9) rfl (by decide +kernel) rfl rfl (Nat.le_of_ble_eq_true rfl) (dk_at dkX12_on_0 5 rfl) (wf1 (v := 0)) (fun H locs hP hS => ?_)
  have hI := hI.st (j := 0) (i := 1) (v := 0) (show (0 : Int) ≤ 0 ∧ 0 ≤ 1600 from (by omega))
  refine lv_aload_n hx hb (dk_at dkX12_on_0 6 rfl) rfl (lv_at hl 1 rfl) ?_
  refine lv_iload_n hx hb (dk_at dkX12_on_0 7 rfl) rfl (lv_at hl 0 rfl) ?_
  obtain ⟨A1, hA1⟩ : ∃ A1 : St, A1 = (stA A 0 1 0) := ⟨_, rfl⟩
  rw [← hA1] at hP hI
  have e_A1_12 : A1 0 12 = (A 0 12) := by rw [hA1]; exact rfl
  have r_A_0_12 : (0 : Int) ≤ (A 0 12) ∧ (A 0 12) ≤ 1 := by rw [← e_A1_12]; exact hI 0 12
  refine x_calli (As := [.int (iI (A 0 1))]) (rest := []) ⟨hx, hb, hml, hown, hts⟩ (mb_X12_isWhole l dC dI cB cI cJ cZ cQ q _ (A 0 1) hI r_A_0_1) (cwV 1 hts (goodV wlq_8_54 wlq_8_55 wlq_8_56 wlq_0_8 wlq_8_46) rfl rfl rfl (by decide +kernel) ⟨Nat.le_of_ble_eq_true rfl, Nat.le_of_ble_eq_true rfl⟩) hK hDD hA0 hP hS 0 12 wm0 rfl rfl hl.1 (Nat.le_of_ble_eq_true rfl) (dk_at dkX12_on_0 8 rfl) (fun z2 A3 H locs hw4 hP hS => ?_)
  obtain ⟨rfl, hw4⟩ := hw4
  have ghw4 : q_X12_isWhole (A 0 1) A1 z2 := hw4
  have hw4 := hw4.2
  have rz2 : 0 ≤ z2 ∧ z2 ≤ 1 := hw4.1
  refine lv_if_ne (tgt := 32) hx hb (dk_at dkX12_on_0 9 rfl) (by decide) (fun c5 => ?_) (fun c5 => ?_)
  · have c5 : ¬ z2 = 0 := mt (i_eq0 (rb rz2 (by decide) (by decide))).mpr c5
    have gw := hw4.2.out (by omega)
    have ca6 : A1 1 = A 1 := by rw [hA1]; exact rfl
    have ca7 : A1 11 = A 11 := by rw [hA1]; exact rfl
    have ca8 : A1 16 = A 16 := by rw [hA1]; exact rfl
    rw [e_A1_12, ca6, ca7, ca8] at gw
    have gwp : ∀ j : Nat, (j : Int) < A 16 (A 0 12).toNat → 0 ≤ A 1 j ∧ A 1 j ≤ 7 := gw.1
    have gwk : ∀ j : Nat, (j : Int) < A 11 (A 0 12).toNat → wgd (A 1) (A 16 (A 0 12).toNat) ((A 0 1) - 1) j := gw.2
    clear gw
    refine lv_iconst (v := iI 0) hx hb (dk_at dkX12_on_1 0 rfl) (by decide +kernel) ?_
    refine lv_istore_n (lv' := [(2, .int (iI 0)), (1, .int (iI (A 0 1))), (0, .ref (q 0))]) hx hb (dk_at dkX12_on_1 1 rfl) rfl hl (by decide) rfl (fun ls hl => ?_)
    have L34_13 : ∀ (n15 : Nat) (z9 : Int) (A11 : St) (H : Heap) (locs : List Loc) (ls : Array Slot), (0 ≤ z9) → (0 ≤ z9 ∧ z9 ≤ 2147483647) → (∀ (z : Int) (u : St), (∃ mm1 : Nat, (d_X12_on_1 A z u mm1 z9 A11)) → r_X12_on A z u) → ((A 16 ((A 0 12)).toNat - z9 + 1).toNat = n15) → IM A11 → fr [18] [] A1 A11 → va_P (dC, dI) vwCl (WM cI cJ cZ q A11) H → va_S AS s.heap H locs → lv_has ls 5 [(2, .int (iI z9)), (1, .int (iI (A 0 1))), (0, .ref (q 0))] → W p l e (headSpec ws_mb_X12_on ({ frames := 4, cells := 0, slots := 0, locals := 92 } : Room)).room s m [.ref (q 0)].toArray below meth c H locs 0 0 Q (F0 m 34 ls []) := by
      intro n15
      induction n15 using Nat.strongRecOn with
      | ind n15 ih14 =>
        intro z9 A11 H locs ls f16 f17 hk1 hn15 hI hj10 hP hS hl
        have gI18 : Hd (IM A11) := Hd.mk hI
        refine lv_iload_n hx hb (dk_at dkX12_on_1 2 rfl) rfl (lv_at hl 0 rfl) ?_
        refine lv_aload_n hx hb (dk_at dkX12_on_1 3 rfl) rfl (lv_at hl 2 rfl) ?_
        refine va_get (D := (dC, dI)) (ci := 12) (v := .ref (q 16)) (C := RX12) (T := TX12) (N := 85) hx hb hts hiX12 hown hK hP 0 wm0 rfl 27 (by decide) (hts _ (List.mem_cons_of_mem _ wlq_1_15)) (fun _ h9 => h9) rfl (dk_at dkX12_on_1 4 rfl) ?_
        refine lv_aload_n hx hb (dk_at dkX12_on_1 5 rfl) rfl (lv_at hl 2 rfl) ?_
        have e_A11_12 : A11 0 12 = (A 0 12) := (hj10.2 12 rfl).trans e_A1_12
        refine va_get (D := (dC, dI)) (ci := 12) (v := .int (iI (A11 0 12))) (C := RX12) (T := TX12) (N := 85) hx hb hts hiX12 hown hK hP 0 wm0 rfl 12 (by decide) (hts _ (List.mem_cons_of_mem _ wlq_4_14)) (fun _ h9 => h9) rfl (dk_at dkX12_on_1 6 rfl) ?_
        refine tp_i (y := iI (A 0 12)) (congrArg iI e_A11_12) ?_
        have a_A1_16 : A1 16 = A 16 := by rw [hA1]; exact rfl
        have a_A11_16 : A11 16 = A 16 := (hj10.1 16 (by decide) rfl).trans a_A1_16
        refine x_iald hx hb hK hP 16 1 wm16 rfl (by omega) (by decide) (dk_at dkX12_on_1 7 rfl) (fun z19 hz19 => ?_)
        have rz19 : (0 : Int) ≤ z19 ∧ z19 ≤ 3 := by rw [hz19]; exact hI 16 _
        have gz19 := Hd.mk hz19
        have hz19 : z19 = A 16 ((A 0 12)).toNat := hz19.trans (congrFun a_A11_16 _)
        refine lv_icmp_ge (tgt := 72) hx hb (dk_at dkX12_on_1 8 rfl) (by decide) (fun c20 => ?_) (fun c20 => ?_)
        · have c20 : z19 ≤ z9 := (i_le (rb rz19 (by decide) (by decide)) (rb f17 (by decide) (by decide))).mp c20
          refine lv_aload_n hx hb (dk_at dkX12_on_2 8 rfl) rfl (lv_at hl 2 rfl) ?_
          refine va_get (D := (dC, dI)) (ci := 12) (v := .ref (q 16)) (C := RX12) (T := TX12) (N := 85) hx hb hts hiX12 hown hK hP 0 wm0 rfl 27 (by decide) (hts _ (List.mem_cons_of_mem _ wlq_1_15)) (fun _ h9 => h9) rfl (dk_at dkX12_on_2 9 rfl) ?_
          refine lv_aload_n hx hb (dk_at dkX12_on_2 10 rfl) rfl (lv_at hl 2 rfl) ?_
          refine va_get (D := (dC, dI)) (ci := 12) (v := .int (iI (A11 0 12))) (C := RX12) (T := TX12) (N := 85) hx hb hts hiX12 hown hK hP 0 wm0 rfl 12 (by decide) (hts _ (List.mem_cons_of_mem _ wlq_4_14)) (fun _ h9 => h9) rfl (dk_at dkX12_on_2 11 rfl) ?_
          refine tp_i (y := iI (A 0 12)) (congrArg iI e_A11_12) ?_
          refine x_iald hx hb hK hP 16 1 wm16 rfl (by omega) (by decide) (dk_at dkX12_on_2 12 rfl) (fun z21 hz21 => ?_)
          have rz21 : (0 : Int) ≤ z21 ∧ z21 ≤ 3 := by rw [hz21]; exact hI 16 _
          have gz21 := Hd.mk hz21
          have hz21 : z21 = A 16 ((A 0 12)).toNat := hz21.trans (congrFun a_A11_16 _)
          have ez21 : z21 = z19 := hz21.trans hz19.symm
          refine lv_istore_n (lv' := [(2, .int (iI z21)), (1, .int (iI (A 0 1))), (0, .ref (q 0))]) hx hb (dk_at dkX12_on_2 13 rfl) rfl hl (by decide) rfl (fun ls hl => ?_)
          refine lv_iconst (v := iI 0) hx hb (dk_at dkX12_on_2 14 rfl) (by decide +kernel) ?_
          refine lv_istore_n (lv' := [(3, .int (iI 0)), (2, .int (iI z21)), (1, .int (iI (A 0 1))), (0, .ref (q 0))]) hx hb (dk_at dkX12_on_2 15 rfl) rfl hl (by decide) rfl (fun ls hl => ?_)
          have L84_27 : ∀ (n29 : Nat) (z22 z23 : Int) (A25 : St) (H : Heap) (locs : List Loc) (ls : Array Slot), (0 ≤ z22) → (0 ≤ z22 ∧ z22 ≤ 2147483647) → (0 ≤ z23 ∧ z23 ≤ 1600) → (Hd (z23 = wlk (A 1) (A 16 (A 0 12).toNat) z22.toNat)) → (∀ (z : Int) (u : St), (∃ mm1 mm2 : Nat, (d_X12_on_2 A z u mm2 z22 z23 A25)) → r_X12_on A z u) → ((A 11 ((A 0 12)).toNat - z22 + 1).toNat = n29) → IM A25 → fr [13, 14, 15] [] A11 A25 → va_P (dC, dI) vwCl (WM cI cJ cZ q A25) H → va_S AS s.heap H locs → lv_has ls 5 [(3, .int (iI z22)), (2, .int (iI z23)), (1, .int (iI (A 0 1))), (0, .ref (q 0))] → W p l e (headSpec ws_mb_X12_on ({ frames := 4, cells := 0, slots := 0, locals := 92 } : Room)).room s m [.ref (q 0)].toArray below meth c H locs 0 0 Q (F0 m 84 ls []) := by
            intro n29
            induction n29 using Nat.strongRecOn with
            | ind n29 ih28 =>
              intro z22 z23 A25 H locs ls f30 f31 f32 f33 hk2 hn29 hI hj24 hP hS hl
              have gI34 : Hd (IM A25) := Hd.mk hI
              refine lv_iload_n hx hb (dk_at dkX12_on_3 0 rfl) rfl (lv_at hl 0 rfl) ?_
              refine lv_aload_n hx hb (dk_at dkX12_on_3 1 rfl) rfl (lv_at hl 3 rfl) ?_
              refine va_get (D := (dC, dI)) (ci := 12) (v := .ref (q 11)) (C := RX12) (T := TX12) (N := 85) hx hb hts hiX12 hown hK hP 0 wm0 rfl 22 (by decide) (hts _ (List.mem_cons_of_mem _ wlq_1_14)) (fun _ h9 => h9) rfl (dk_at dkX12_on_3 2 rfl) ?_
              refine lv_aload_n hx hb (dk_at dkX12_on_3 3 rfl) rfl (lv_at hl 3 rfl) ?_
              have e_A25_12 : A25 0 12 = (A 0 12) := (hj24.2 12 rfl).trans e_A11_12
              refine va_get (D := (dC, dI)) (ci := 12) (v := .int (iI (A25 0 12))) (C := RX12) (T := TX12) (N := 85) hx hb hts hiX12 hown hK hP 0 wm0 rfl 12 (by decide) (hts _ (List.mem_cons_of_mem _ wlq_4_14)) (fun _ h9 => h9) rfl (dk_at dkX12_on_3 4 rfl) ?_
              refine tp_i (y := iI (A 0 12)) (congrArg iI e_A25_12) ?_
              have a_A1_11 : A1 11 = A 11 := by rw [hA1]; exact rfl
              have a_A11_11 : A11 11 = A 11 := (hj10.1 11 (by decide) rfl).trans a_A1_11
              have a_A25_11 : A25 11 = A 11 := (hj24.1 11 (by decide) rfl).trans a_A11_11
              refine x_iald hx hb hK hP 11 1 wm11 rfl (by omega) (by decide) (dk_at dkX12_on_3 5 rfl) (fun z35 hz35 => ?_)
              have rz35 : (0 : Int) ≤ z35 ∧ z35 ≤ 4 := by rw [hz35]; exact hI 11 _
              have gz35 := Hd.mk hz35
              have hz35 : z35 = A 11 ((A 0 12)).toNat := hz35.trans (congrFun a_A25_11 _)
              refine lv_icmp_ge (tgt := 199) hx hb (dk_at dkX12_on_3 6 rfl) (by decide) (fun c36 => ?_) (fun c36 => ?_)
              · have c36 : z35 ≤ z22 := (i_le (rb rz35 (by decide) (by decide)) (rb f31 (by decide) (by decide))).mp c36
                refine lv_iconst (v := iI 1) hx hb (dk_at dkX12_on_7 8 rfl) (by decide +kernel) ?_
                have e_A1_1 : A1 0 1 = 0 := by rw [hA1]; rfl
                have e_A11_1 : A11 0 1 = 0 := (hj10.2 1 rfl).trans e_A1_1
                have e_A25_1 : A25 0 1 = 0 := (hj24.2 1 rfl).trans e_A11_1
                exact RET 1 _ _ _ _ _ ⟨hk2 _ _ ⟨0, 0 + 1, (u_d_X12_on_2 ⟨gI34.out, ⟨f31, ⟨f32, ⟨z35, gz35.out, (Or.inl ⟨c36, ⟨rfl, rfl⟩⟩)⟩⟩⟩⟩)⟩, hI, fr.trans (fr.trans (fr_def hA1 (fr.sf (fr.rf) rfl)) hj10 rfl rfl) hj24 rfl rfl, by omega⟩ hP hS (dk_at dkX12_on_7 9 rfl)
              · have c36 : ¬ z35 ≤ z22 := mt (i_le (rb rz35 (by decide) (by decide)) (rb f31 (by decide) (by decide))).mpr c36
                obtain ⟨gk1, gk2, gk3, gk4⟩ := wgd_at (gwk (z22).toNat (by omega)) f33.out
                refine lv_aload_n hx hb (dk_at dkX12_on_3 7 rfl) rfl (lv_at hl 3 rfl) ?_
                refine va_get (D := (dC, dI)) (ci := 12) (v := .ref (q 13)) (C := RX12) (T := TX12) (N := 85) hx hb hts hiX12 hown hK hP 0 wm0 rfl 24 (by decide) (hts _ (List.mem_cons_of_mem _ wlq_2_58)) (fun _ h9 => h9) rfl (dk_at dkX12_on_3 8 rfl) ?_
                refine lv_aload_n hx hb (dk_at dkX12_on_3 9 rfl) rfl (lv_at hl 3 rfl) ?_
                refine lv_iload_n hx hb (dk_at dkX12_on_3 10 rfl) rfl (lv_at hl 0 rfl) ?_
                refine x_calli (As := [.int (iI z22)]) (rest := [.ref (q 13)]) ⟨hx, hb, hml, hown, hts⟩ (mc_X12_key4 l dC dI cB cI cJ cZ cQ q _ z22 hI (by omega)) (cwV 1 hts (goodV wlq_4_44 wlq_4_45 wlq_4_46 wlq_0_8 wlq_4_41) rfl rfl rfl (by decide +kernel) ⟨Nat.le_of_ble_eq_true rfl, Nat.le_of_ble_eq_true rfl⟩) hK hDD hA0 hP hS 0 12 wm0 rfl rfl hl.1 (Nat.le_of_ble_eq_true rfl) (dk_at dkX12_on_3 11 rfl) (fun z37 A38 H locs hw39 hP hS => ?_)
                obtain ⟨rfl, hw39⟩ := hw39
                have ghw39 : q_X12_key4 z22 A25 z37 := hw39
                have hw39 := hw39.2
                refine tp_i (y := iI (4 * (A 0 12) + z22)) (congrArg iI (show z37 = 4 * (A 0 12) + z22 by omega)) ?_
                clear hw39
                refine lv_aload_n hx hb (dk_at dkX12_on_3 12 rfl) rfl (lv_at hl 3 rfl) ?_
                refine va_get (D := (dC, dI)) (ci := 12) (v := .ref (q 1)) (C := RX12) (T := TX12) (N := 85) hx hb hts hiX12 hown hK hP 0 wm0 rfl 0 (by decide) (hts _ (List.mem_cons_of_mem _ wlq_0_2)) (fun _ h9 => h9) rfl (dk_at dkX12_on_3 13 rfl) ?_
                refine lv_iload_n hx hb (dk_at dkX12_on_3 14 rfl) rfl (lv_at hl 1 rfl) ?_
                have a_A1_1 : A1 1 = A 1 := by rw [hA1]; exact rfl
                have a_A11_1 : A11 1 = A 1 := (hj10.1 1 (by decide) rfl).trans a_A1_1
                have a_A25_1 : A25 1 = A 1 := (hj24.1 1 (by decide) rfl).trans a_A11_1
                refine x_iald hx hb hK hP 1 1 wm1 rfl (by omega) (by decide) (dk_at dkX12_on_3 15 rfl) (fun z40 hz40 => ?_)
                have rz40 : (0 : Int) ≤ z40 ∧ z40 ≤ 255 := by rw [hz40]; exact hI 1 _
                have gz40 := Hd.mk hz40
                have hz40 : z40 = A 1 (z23).toNat := hz40.trans (congrFun a_A25_1 _)
                refine x_iast hx hb hK hP hDD hS 13 1 wm13 rfl (by omega) (by decide) (dk_at dkX12_on_4 0 rfl) ws13 (fun H locs hP hS => ?_)
                have hI := hI.st (j := 13) (i := (4 * (A 0 12) + z22).toNat) (v := z40) (show (0 : Int) ≤ z40 ∧ z40 ≤ 40 from (by omega))
                refine lv_aload_n hx hb (dk_at dkX12_on_4 1 rfl) rfl (lv_at hl 3 rfl) ?_
                refine va_get (D := (dC, dI)) (ci := 12) (v := .ref (q 14)) (C := RX12) (T := TX12) (N := 85) hx hb hts hiX12 hown hK hP 0 wm0 rfl 25 (by decide) (hts _ (List.mem_cons_of_mem _ wlq_2_59)) (fun _ h9 => h9) rfl (dk_at dkX12_on_4 2 rfl) ?_
                refine lv_aload_n hx hb (dk_at dkX12_on_4 3 rfl) rfl (lv_at hl 3 rfl) ?_
                refine lv_iload_n hx hb (dk_at dkX12_on_4 4 rfl) rfl (lv_at hl 0 rfl) ?_
                obtain ⟨A41, hA41⟩ : ∃ A41 : St, A41 = (stA A25 13 (4 * (A 0 12) + z22).toNat z40) := ⟨_, rfl⟩
                rw [← hA41] at hP hI
                have e_A41_12 : A41 0 12 = (A 0 12) := by rw [hA41]; exact e_A25_12
                refine x_calli (As := [.int (iI z22)]) (rest := [.ref (q 14)]) ⟨hx, hb, hml, hown, hts⟩ (mc_X12_key4 l dC dI cB cI cJ cZ cQ q _ z22 hI (by omega)) (cwV 1 hts (goodV wlq_4_44 wlq_4_45 wlq_4_46 wlq_0_8 wlq_4_41) rfl rfl rfl (by decide +kernel) ⟨Nat.le_of_ble_eq_true rfl, Nat.le_of_ble_eq_true rfl⟩) hK hDD hA0 hP hS 0 12 wm0 rfl rfl hl.1 (Nat.le_of_ble_eq_true rfl) (dk_at dkX12_on_4 5 rfl) (fun z42 A43 H locs hw44 hP hS => ?_)
                obtain ⟨rfl, hw44⟩ := hw44
                have ghw44 : q_X12_key4 z22 A41 z42 := hw44
                have hw44 := hw44.2
                refine tp_i (y := iI (4 * (A 0 12) + z22)) (congrArg iI (show z42 = 4 * (A 0 12) + z22 by omega)) ?_
                clear hw44
                refine lv_aload_n hx hb (dk_at dkX12_on_4 6 rfl) rfl (lv_at hl 3 rfl) ?_
                refine va_get (D := (dC, dI)) (ci := 12) (v := .ref (q 1)) (C := RX12) (T := TX12) (N := 85) hx hb hts hiX12 hown hK hP 0 wm0 rfl 0 (by decide) (hts _ (List.mem_cons_of_mem _ wlq_0_2)) (fun _ h9 => h9) rfl (dk_at dkX12_on_4 7 rfl) ?_
                refine lv_iload_n hx hb (dk_at dkX12_on_4 8 rfl) rfl (lv_at hl 1 rfl) ?_
                refine lv_iconst (v := iI 1) hx hb (dk_at dkX12_on_4 9 rfl) (by decide +kernel) ?_
                refine x_addv (v := z23 + 1) hx hb (dk_at dkX12_on_4 10 rfl) (by omega) ?_
                have a_A41_1 : A41 1 = A 1 := by rw [hA41]; exact a_A25_1
                refine x_iald hx hb hK hP 1 1 wm1 rfl (by omega) (by decide) (dk_at dkX12_on_4 11 rfl) (fun z45 hz45 => ?_)
                have rz45 : (0 : Int) ≤ z45 ∧ z45 ≤ 255 := by rw [hz45]; exact hI 1 _
                have gz45 := Hd.mk hz45
                have hz45 : z45 = A 1 (z23 + 1).toNat := hz45.trans (congrFun a_A41_1 _)
                refine x_iast hx hb hK hP hDD hS 14 1 wm14 rfl (by omega) (by decide) (dk_at dkX12_on_4 12 rfl) ws14 (fun H locs hP hS => ?_)
                have hI := hI.st (j := 14) (i := (4 * (A 0 12) + z22).toNat) (v := z45) (show (0 : Int) ≤ z45 ∧ z45 ≤ 6 from (by omega))
                refine lv_iconst (v := iI 0) hx hb (dk_at dkX12_on_4 13 rfl) (by decide +kernel) ?_
                refine lv_istore (lv' := [(4, .int (iI 0)), (3, .int (iI z22)), (2, .int (iI z23)), (1, .int (iI (A 0 1))), (0, .ref (q 0))]) hx hb (dk_at dkX12_on_4 14 rfl) hl (by decide) rfl (fun ls hl => ?_)
                obtain ⟨A46, hA46⟩ : ∃ A46 : St, A46 = (stA A41 14 (4 * (A 0 12) + z22).toNat z45) := ⟨_, rfl⟩
                rw [← hA46] at hP hI
                have L134_51 : ∀ (n53 : Nat) (z47 : Int) (A49 : St) (H : Heap) (locs : List Loc) (ls : Array Slot), (0 ≤ z47) → (0 ≤ z47 ∧ z47 ≤ 2147483647) → (∀ (z : Int) (u : St), (∃ mm1 mm2 mm3 : Nat, (d_X12_on_3 (fun z22' z23' A25' => d_X12_on_2 A z u mm2 z22' z23' A25') z22 z23 A z u mm3 z47 A49)) → r_X12_on A z u) → ((A 1 (z23 + 1).toNat - z47 + 1).toNat = n53) → IM A49 → fr [15] [] A46 A49 → va_P (dC, dI) vwCl (WM cI cJ cZ q A49) H → va_S AS s.heap H locs → lv_has ls 5 [(4, .int (iI z47)), (3, .int (iI z22)), (2, .int (iI z23)), (1, .int (iI (A 0 1))), (0, .ref (q 0))] → W p l e (headSpec ws_mb_X12_on ({ frames := 4, cells := 0, slots := 0, locals := 92 } : Room)).room s m [.ref (q 0)].toArray below meth c H locs 0 0 Q (F0 m 134 ls []) := by
                  intro n53
                  induction n53 using Nat.strongRecOn with
                  | ind n53 ih52 =>
                    intro z47 A49 H locs ls f54 f55 hk3 hn53 hI hj48 hP hS hl
                    have gI56 : Hd (IM A49) := Hd.mk hI
                    refine lv_iload hx hb (dk_at dkX12_on_4 15 rfl) (lv_at hl 0 rfl) ?_
                    refine lv_aload_n hx hb (dk_at dkX12_on_5 0 rfl) rfl (lv_at hl 4 rfl) ?_
                    refine va_get (D := (dC, dI)) (ci := 12) (v := .ref (q 1)) (C := RX12) (T := TX12) (N := 85) hx hb hts hiX12 hown hK hP 0 wm0 rfl 0 (by decide) (hts _ (List.mem_cons_of_mem _ wlq_0_2)) (fun _ h9 => h9) rfl (dk_at dkX12_on_5 1 rfl) ?_
                    refine lv_iload_n hx hb (dk_at dkX12_on_5 2 rfl) rfl (lv_at hl 2 rfl) ?_
                    refine lv_iconst (v := iI 1) hx hb (dk_at dkX12_on_5 3 rfl) (by decide +kernel) ?_
                    refine x_addv (v := z23 + 1) hx hb (dk_at dkX12_on_5 4 rfl) (by omega) ?_
                    have a_A46_1 : A46 1 = A 1 := by rw [hA46]; exact a_A41_1
                    have a_A49_1 : A49 1 = A 1 := (hj48.1 1 (by decide) rfl).trans a_A46_1
                    refine x_iald hx hb hK hP 1 1 wm1 rfl (by omega) (by decide) (dk_at dkX12_on_5 5 rfl) (fun z57 hz57 => ?_)
                    have rz57 : (0 : Int) ≤ z57 ∧ z57 ≤ 255 := by rw [hz57]; exact hI 1 _
                    have gz57 := Hd.mk hz57
                    have hz57 : z57 = A 1 (z23 + 1).toNat := hz57.trans (congrFun a_A49_1 _)
                    have ez57 : z57 = z45 := hz57.trans hz45.symm
                    refine lv_icmp_ge (tgt := 180) hx hb (dk_at dkX12_on_5 6 rfl) (by decide) (fun c58 => ?_) (fun c58 => ?_)
                    · have c58 : z57 ≤ z47 := (i_le (rb rz57 (by decide) (by decide)) (rb f55 (by decide) (by decide))).mp c58
                      have gs := wlk_s (t := A 1) (a := A 16 (A 0 12).toNat) (k := z22) (by omega) f33.out rfl
                      refine lv_iload_n hx hb (dk_at dkX12_on_6 11 rfl) rfl (lv_at hl 2 rfl) ?_
                      refine lv_iconst (v := iI 2) hx hb (dk_at dkX12_on_6 12 rfl) (by decide +kernel) ?_
                      refine lv_aload_n hx hb (dk_at dkX12_on_6 13 rfl) rfl (lv_at hl 4 rfl) ?_
                      refine va_get (D := (dC, dI)) (ci := 12) (v := .ref (q 1)) (C := RX12) (T := TX12) (N := 85) hx hb hts hiX12 hown hK hP 0 wm0 rfl 0 (by decide) (hts _ (List.mem_cons_of_mem _ wlq_0_2)) (fun _ h9 => h9) rfl (dk_at dkX12_on_6 14 rfl) ?_
                      refine lv_iload_n hx hb (dk_at dkX12_on_6 15 rfl) rfl (lv_at hl 2 rfl) ?_
                      refine lv_iconst (v := iI 1) hx hb (dk_at dkX12_on_7 0 rfl) (by decide +kernel) ?_
                      refine x_addv (v := z23 + 1) hx hb (dk_at dkX12_on_7 1 rfl) (by omega) ?_
                      refine x_iald hx hb hK hP 1 1 wm1 rfl (by omega) (by decide) (dk_at dkX12_on_7 2 rfl) (fun z59 hz59 => ?_)
                      have rz59 : (0 : Int) ≤ z59 ∧ z59 ≤ 255 := by rw [hz59]; exact hI 1 _
                      have gz59 := Hd.mk hz59
                      have hz59 : z59 = A 1 (z23 + 1).toNat := hz59.trans (congrFun a_A49_1 _)
                      have ez59 : z59 = z45 := hz59.trans hz45.symm
                      refine x_addv (v := z59 + 2) hx hb (dk_at dkX12_on_7 3 rfl) (by omega) ?_
                      refine x_addv (v := z23 + z59 + 2) hx hb (dk_at dkX12_on_7 4 rfl) (by omega) ?_
                      refine lv_istore_n (lv' := [(2, .int (iI (z23 + z59 + 2))), (4, .int (iI z47)), (3, .int (iI z22)), (1, .int (iI (A 0 1))), (0, .ref (q 0))]) hx hb (dk_at dkX12_on_7 5 rfl) rfl hl (by decide) rfl (fun ls hl => ?_)
                      refine lv_iinc (v := iI (z22 + 1)) (lv' := [(3, .int (iI (z22 + 1))), (2, .int (iI (z23 + z59 + 2))), (4, .int (iI z47)), (1, .int (iI (A 0 1))), (0, .ref (q 0))]) hx hb (dk_at dkX12_on_7 6 rfl) hl (k := 2) rfl (i_inc (by omega)) (by decide) rfl (fun ls hl => ?_)
                      refine lv_goto (tgt := 84) hx hb (dk_at dkX12_on_7 7 rfl) (by decide) ?_
                      exact ih28 _ (by omega) (z22 + 1) (z23 + z59 + 2) _ _ _ _ (by omega) (by omega) (by omega) (by exact Hd.mk (by omega)) (fun zq uq ⟨mm1, mm2, hq⟩ => hk3 _ _ ⟨mm1, mm2, 0 + 1, (u_d_X12_on_3 ⟨gI56.out, ⟨f55, ⟨z57, gz57.out, (Or.inl ⟨c58, ⟨z59, gz59.out, hq⟩⟩)⟩⟩⟩)⟩) rfl hI (fr.trans (fr_def hA46 (fr.st (fr_def hA41 (fr.st (fr.trans (fr.rf) hj24 rfl rfl) (by decide) rfl)) (by decide) rfl)) hj48 rfl rfl) hP hS (lv_sub hl [0, 1, 3, 4] rfl)
                    · have c58 : ¬ z57 ≤ z47 := mt (i_le (rb rz57 (by decide) (by decide)) (rb f55 (by decide) (by decide))).mpr c58
                      refine lv_aload_n hx hb (dk_at dkX12_on_5 7 rfl) rfl (lv_at hl 4 rfl) ?_
                      refine va_get (D := (dC, dI)) (ci := 12) (v := .ref (q 15)) (C := RX12) (T := TX12) (N := 85) hx hb hts hiX12 hown hK hP 0 wm0 rfl 26 (by decide) (hts _ (List.mem_cons_of_mem _ wlq_3_7)) (fun _ h9 => h9) rfl (dk_at dkX12_on_5 8 rfl) ?_
                      refine lv_bipush (v := iI 10) hx hb (dk_at dkX12_on_5 9 rfl) (by decide +kernel) ?_
                      refine lv_aload_n hx hb (dk_at dkX12_on_5 10 rfl) rfl (lv_at hl 4 rfl) ?_
                      refine lv_iload_n hx hb (dk_at dkX12_on_5 11 rfl) rfl (lv_at hl 1 rfl) ?_
                      have e_A46_12 : A46 0 12 = (A 0 12) := by rw [hA46]; exact e_A41_12
                      have e_A49_12 : A49 0 12 = (A 0 12) := (hj48.2 12 rfl).trans e_A46_12
                      refine x_calli (As := [.int (iI z22)]) (rest := [.int (iI 10), .ref (q 15)]) ⟨hx, hb, hml, hown, hts⟩ (mc_X12_key4 l dC dI cB cI cJ cZ cQ q _ z22 hI (by omega)) (cwV 1 hts (goodV wlq_4_44 wlq_4_45 wlq_4_46 wlq_0_8 wlq_4_41) rfl rfl rfl (by decide +kernel) ⟨Nat.le_of_ble_eq_true rfl, Nat.le_of_ble_eq_true rfl⟩) hK hDD hA0 hP hS 0 12 wm0 rfl rfl hl.1 (Nat.le_of_ble_eq_true rfl) (dk_at dkX12_on_5 12 rfl) (fun z60 A61 H locs hw62 hP hS => ?_)
                      obtain ⟨rfl, hw62⟩ := hw62
                      have ghw62 : q_X12_key4 z22 A49 z60 := hw62
                      have hw62 := hw62.2
                      refine tp_i (y := iI (4 * (A 0 12) + z22)) (congrArg iI (show z60 = 4 * (A 0 12) + z22 by omega)) ?_
                      clear hw62
                      refine x_mulv (v := 40 * (A 0 12) + 10 * z22) hx hb (dk_at dkX12_on_5 13 rfl) (by omega) ?_
                      refine lv_iload hx hb (dk_at dkX12_on_5 14 rfl) (lv_at hl 0 rfl) ?_
                      refine x_addv (v := 40 * (A 0 12) + 10 * z22 + z47) hx hb (dk_at dkX12_on_5 15 rfl) (by omega) ?_
                      refine lv_aload_n hx hb (dk_at dkX12_on_6 0 rfl) rfl (lv_at hl 4 rfl) ?_
                      refine va_get (D := (dC, dI)) (ci := 12) (v := .ref (q 1)) (C := RX12) (T := TX12) (N := 85) hx hb hts hiX12 hown hK hP 0 wm0 rfl 0 (by decide) (hts _ (List.mem_cons_of_mem _ wlq_0_2)) (fun _ h9 => h9) rfl (dk_at dkX12_on_6 1 rfl) ?_
                      refine lv_iload_n hx hb (dk_at dkX12_on_6 2 rfl) rfl (lv_at hl 2 rfl) ?_
                      refine lv_iconst (v := iI 2) hx hb (dk_at dkX12_on_6 3 rfl) (by decide +kernel) ?_
                      refine x_addv (v := z23 + 2) hx hb (dk_at dkX12_on_6 4 rfl) (by omega) ?_
                      refine lv_iload hx hb (dk_at dkX12_on_6 5 rfl) (lv_at hl 0 rfl) ?_
                      refine x_addv (v := z23 + z47 + 2) hx hb (dk_at dkX12_on_6 6 rfl) (by omega) ?_
                      refine x_iald hx hb hK hP 1 1 wm1 rfl (by omega) (by decide) (dk_at dkX12_on_6 7 rfl) (fun z63 hz63 => ?_)
                      have rz63 : (0 : Int) ≤ z63 ∧ z63 ≤ 255 := by rw [hz63]; exact hI 1 _
                      have gz63 := Hd.mk hz63
                      have hz63 : z63 = A 1 (z23 + z47 + 2).toNat := hz63.trans (congrFun a_A49_1 _)
                      have gr : 0 ≤ z63 ∧ z63 ≤ 9 := by have g := gk4 (z47).toNat (by omega); rw [hz63, show (z23 + z47 + 2).toNat = (z23 + 2 + (((z47).toNat : Nat) : Int)).toNat by omega]; exact g
                      refine x_iast hx hb hK hP hDD hS 15 1 wm15 rfl (by omega) (by decide) (dk_at dkX12_on_6 8 rfl) ws15 (fun H locs hP hS => ?_)
                      have hI := hI.st (j := 15) (i := (40 * (A 0 12) + 10 * z22 + z47).toNat) (v := z63) (show (0 : Int) ≤ z63 ∧ z63 ≤ 9 from (by omega))
                      refine lv_iinc (v := iI (z47 + 1)) (lv' := [(4, .int (iI (z47 + 1))), (3, .int (iI z22)), (2, .int (iI z23)), (1, .int (iI (A 0 1))), (0, .ref (q 0))]) hx hb (dk_at dkX12_on_6 9 rfl) hl (k := 0) rfl (i_inc (by omega)) (by decide) rfl (fun ls hl => ?_)
                      refine lv_goto (tgt := 134) hx hb (dk_at dkX12_on_6 10 rfl) (by decide) ?_
                      obtain ⟨A64, hA64⟩ : ∃ A64 : St, A64 = (stA A49 15 (40 * (A 0 12) + 10 * z22 + z47).toNat z63) := ⟨_, rfl⟩
                      rw [← hA64] at hP hI
                      exact ih52 _ (by omega) (z47 + 1) _ _ _ _ (by omega) (by omega) (fun zq uq ⟨mm1, mm2, mm3, hq⟩ => hk3 _ _ ⟨mm1, mm2, mm3 + 1, (u_d_X12_on_3 ⟨gI56.out, ⟨f55, ⟨z57, gz57.out, (Or.inr ⟨c58, ⟨z60, ghw62, ⟨z63, gz63.out, ⟨A64, hA64, hq⟩⟩⟩⟩)⟩⟩⟩)⟩) rfl hI (fr_def hA64 (fr.st (fr.trans (fr.rf) hj48 rfl rfl) (by decide) rfl)) hP hS (lv_sub hl [0, 1, 2, 3, 4] rfl)
                exact L134_51 _ 0 _ _ _ _ (by omega) (by omega) (fun zq uq ⟨mm1, mm2, mm3, hq⟩ => hk2 _ _ ⟨mm1, mm2 + 1, (u_d_X12_on_2 ⟨gI34.out, ⟨f31, ⟨f32, ⟨z35, gz35.out, (Or.inr ⟨c36, ⟨z37, ghw39, ⟨z40, gz40.out, ⟨A41, hA41, ⟨z42, ghw44, ⟨z45, gz45.out, ⟨A46, hA46, ⟨mm3, hq⟩⟩⟩⟩⟩⟩⟩⟩)⟩⟩⟩⟩)⟩) rfl hI (fr.rf) hP hS (lv_sub hl [0, 1, 2, 3, 4] rfl)
          exact L84_27 _ 0 z21 _ _ _ _ (by omega) (by omega) (by omega) (by exact Hd.mk (by show _ = A 16 (A 0 12).toNat; omega)) (fun zq uq ⟨mm1, mm2, hq⟩ => hk1 _ _ ⟨mm1 + 1, (u_d_X12_on_1 ⟨gI18.out, ⟨f17, ⟨z19, gz19.out, (Or.inl ⟨c20, ⟨z21, gz21.out, ⟨mm2, hq⟩⟩⟩)⟩⟩⟩)⟩) rfl hI (fr.rf) hP hS (lv_sub hl [0, 1, 2, 3] rfl)
        · have c20 : ¬ z19 ≤ z9 := mt (i_le (rb rz19 (by decide) (by decide)) (rb f17 (by decide) (by decide))).mpr c20
          refine lv_aload_n hx hb (dk_at dkX12_on_1 9 rfl) rfl (lv_at hl 2 rfl) ?_
          refine va_get (D := (dC, dI)) (ci := 12) (v := .ref (q 18)) (C := RX12) (T := TX12) (N := 85) hx hb hts hiX12 hown hK hP 0 wm0 rfl 29 (by decide) (hts _ (List.mem_cons_of_mem _ wlq_3_4)) (fun _ h9 => h9) rfl (dk_at dkX12_on_1 10 rfl) ?_
          refine lv_iconst (v := iI 3) hx hb (dk_at dkX12_on_1 11 rfl) (by decide +kernel) ?_
          refine lv_aload_n hx hb (dk_at dkX12_on_1 12 rfl) rfl (lv_at hl 2 rfl) ?_
          refine va_get (D := (dC, dI)) (ci := 12) (v := .int (iI (A11 0 12))) (C := RX12) (T := TX12) (N := 85) hx hb hts hiX12 hown hK hP 0 wm0 rfl 12 (by decide) (hts _ (List.mem_cons_of_mem _ wlq_4_14)) (fun _ h9 => h9) rfl (dk_at dkX12_on_1 13 rfl) ?_
          refine tp_i (y := iI (A 0 12)) (congrArg iI e_A11_12) ?_
          refine x_mulv (v := 3 * (A 0 12)) hx hb (dk_at dkX12_on_1 14 rfl) (by omega) ?_
          refine lv_iload_n hx hb (dk_at dkX12_on_1 15 rfl) rfl (lv_at hl 0 rfl) ?_
          refine x_addv (v := 3 * (A 0 12) + z9) hx hb (dk_at dkX12_on_2 0 rfl) (by omega) ?_
          refine lv_aload_n hx hb (dk_at dkX12_on_2 1 rfl) rfl (lv_at hl 2 rfl) ?_
          refine va_get (D := (dC, dI)) (ci := 12) (v := .ref (q 1)) (C := RX12) (T := TX12) (N := 85) hx hb hts hiX12 hown hK hP 0 wm0 rfl 0 (by decide) (hts _ (List.mem_cons_of_mem _ wlq_0_2)) (fun _ h9 => h9) rfl (dk_at dkX12_on_2 2 rfl) ?_
          refine lv_iload_n hx hb (dk_at dkX12_on_2 3 rfl) rfl (lv_at hl 0 rfl) ?_
          have a_A1_1 : A1 1 = A 1 := by rw [hA1]; exact rfl
          have a_A11_1 : A11 1 = A 1 := (hj10.1 1 (by decide) rfl).trans a_A1_1
          refine x_iald hx hb hK hP 1 1 wm1 rfl (by omega) (by decide) (dk_at dkX12_on_2 4 rfl) (fun z65 hz65 => ?_)
          have rz65 : (0 : Int) ≤ z65 ∧ z65 ≤ 255 := by rw [hz65]; exact hI 1 _
          have gz65 := Hd.mk hz65
          have hz65 : z65 = A 1 (z9).toNat := hz65.trans (congrFun a_A11_1 _)
          have gp : 0 ≤ z65 ∧ z65 ≤ 7 := by rw [hz65]; exact gwp (z9).toNat (by omega)
          refine x_iast hx hb hK hP hDD hS 18 1 wm18 rfl (by omega) (by decide) (dk_at dkX12_on_2 5 rfl) ws18 (fun H locs hP hS => ?_)
          have hI := hI.st (j := 18) (i := (3 * (A 0 12) + z9).toNat) (v := z65) (show (0 : Int) ≤ z65 ∧ z65 ≤ 7 from (by omega))
          refine lv_iinc (v := iI (z9 + 1)) (lv' := [(2, .int (iI (z9 + 1))), (1, .int (iI (A 0 1))), (0, .ref (q 0))]) hx hb (dk_at dkX12_on_2 6 rfl) hl (k := 0) rfl (i_inc (by omega)) (by decide) rfl (fun ls hl => ?_)
          refine lv_goto (tgt := 34) hx hb (dk_at dkX12_on_2 7 rfl) (by decide) ?_
          obtain ⟨A66, hA66⟩ : ∃ A66 : St, A66 = (stA A11 18 (3 * (A 0 12) + z9).toNat z65) := ⟨_, rfl⟩
          rw [← hA66] at hP hI
          exact ih14 _ (by omega) (z9 + 1) _ _ _ _ (by omega) (by omega) (fun zq uq ⟨mm1, hq⟩ => hk1 _ _ ⟨mm1 + 1, (u_d_X12_on_1 ⟨gI18.out, ⟨f17, ⟨z19, gz19.out, (Or.inr ⟨c20, ⟨z65, gz65.out, ⟨A66, hA66, hq⟩⟩⟩)⟩⟩⟩)⟩) rfl hI (fr_def hA66 (fr.st (fr.trans (fr.rf) hj10 rfl rfl) (by decide) rfl)) hP hS (lv_sub hl [0, 1, 2] rfl)
    exact L34_13 _ 0 _ _ _ _ (by omega) (by omega) (fun zq uq ⟨mm1, hq⟩ => (u_r_X12_on ⟨A1, hA1, ⟨z2, ghw4, (Or.inl ⟨c5, ⟨mm1, hq⟩⟩)⟩⟩)) rfl hI (fr.rf) hP hS (lv_sub hl [0, 1, 2] rfl)
  · have c5 : z2 = 0 := (i_eq0 (rb rz2 (by decide) (by decide))).mp c5
    refine lv_aload_n hx hb (dk_at dkX12_on_0 10 rfl) rfl (lv_at hl 1 rfl) ?_
    refine lv_iconst (v := iI 5) hx hb (dk_at dkX12_on_0 11 rfl) (by decide +kernel) ?_
    refine x_calli (As := [.int (iI 5)]) (rest := []) ⟨hx, hb, hml, hown, hts⟩ (mc_X12_refuses l dC dI cB cI cJ cZ cQ q _ 5 hI ⟨by decide, by decide⟩) (cwV 1 hts (goodV wlq_0_5 wlq_0_6 wlq_0_7 wlq_0_8 wlq_0_9) rfl rfl rfl (by decide +kernel) ⟨Nat.le_of_ble_eq_true rfl, Nat.le_of_ble_eq_true rfl⟩) hK hDD hA0 hP hS 0 12 wm0 rfl rfl hl.1 (Nat.le_of_ble_eq_true rfl) (dk_at dkX12_on_0 12 rfl) (fun z67 A68 H locs hw69 hP hS => ?_)
    have ghw69 : q_X12_refuses 5 A1 z67 A68 := hw69
    obtain ⟨_, hI, hf70, hw69⟩ := hw69
    refine lv_if_lt (tgt := 30) hx hb (dk_at dkX12_on_0 13 rfl) (by decide) (fun _ => ?_) (fun c71 => False.elim (by have c71 : ¬ z67 < 0 := mt (i_lt0 (by omega)).mpr c71; omega))
    refine lv_iconst (v := iI 0) hx hb (dk_at dkX12_on_0 14 rfl) (by decide +kernel) ?_
    have e_A1_1 : A1 0 1 = 0 := by rw [hA1]; rfl
    have e_A68_1 : A68 0 1 = 0 := (hf70.2 1 rfl).trans e_A1_1
    exact RET 0 _ _ _ _ _ ⟨(u_r_X12_on ⟨A1, hA1, ⟨z2, ghw4, (Or.inr ⟨c5, ⟨z67, A68, ghw69, ⟨rfl, rfl⟩⟩⟩)⟩⟩), hI, fr.trans (fr_def hA1 (fr.sf (fr.rf) rfl)) hf70 rfl rfl, by omega⟩ hP hS (dk_at dkX12_on_0 15 rfl)
