abbrev tr_r_X12_opened (x1 : Int) (x2 : Int) (A : St) (z : Int) (u : St) : Prop := (∃ z1 : Int, q_X12_topOf x2 A z1 ∧ (∃ z4 : Int, q_X12_key4 x2 A z4 ∧ (∃ z7 : Int, z7 = A 13 (4 * (A 0 12) + x2).toNat ∧ (((¬ z7 = x1) ∧ (z = (-1) ∧ u = A)) ∨ ((z7 = x1) ∧ (((z1 = (-1)) ∧ (z = (-1) ∧ u = A)) ∨ ((¬ z1 = (-1)) ∧ (∃ z10 : Int, q_X12_placeOf x1 A z10 ∧ (∃ z13 : Int, q_X12_isAt z10 z1 A z13 ∧ (((¬ z13 = 0) ∧ (∃ z17 : Int, q_X12_key4 x2 A z17 ∧ (∃ z20 : Int, z20 = A 14 (4 * (A 0 12) + x2).toNat ∧ (z = z1 ∧ u = (stA A 14 (4 * (A 0 12) + x2).toNat (z20 - 1)))))) ∨ ((z13 = 0) ∧ (z = (-1) ∧ u = A))))))))))))
def r_X12_opened (x1 : Int) (x2 : Int) (A : St) (z : Int) (u : St) : Prop := tr_r_X12_opened x1 x2 A z u
theorem u_r_X12_opened {x1 : Int} {x2 : Int} {A : St} {z : Int} {u : St} (h : tr_r_X12_opened x1 x2 A z u) : r_X12_opened x1 x2 A z u := h
def q_X12_opened (x1 : Int) (x2 : Int) (A : St) (z : Int) (u : St) : Prop := r_X12_opened x1 x2 A z u ∧ IM u ∧ fr [14] [] A u ∧ (-1 ≤ z ∧ z ≤ 9)
def ws_mc_X12_opened : List Cond := .code yX12_opened cX12_opened 4 (some .int) :: WX
set_option maxHeartbeats 4000000 in
set_option maxRecDepth 100000 in
theorem mc_X12_opened (l : Launch) (dC : Nat → ClassId) (dI : Nat → Nat → Nat) (cB cI cJ cZ cQ : ClassId) (q : Nat → Nat) (A : St) (x1 x2 : Int) (hI : IM A) (hx1 : (0 : Int) ≤ x1 ∧ x1 ≤ 2) (hx2 : (0 : Int) ≤ x2 ∧ x2 ≤ 3) : XMi l yX12_opened ws_mc_X12_opened ({ frames := 2, cells := 0, slots := 0, locals := 43 } : Room) (dC, dI) (tyA cB cI cJ cZ cQ) (WM cI cJ cZ q) A [.ref (q 0), .int (iI x1), .int (iI x2)] (fun z u => r_X12_opened x1 x2 A z u ∧ IM u ∧ fr [14] [] A u ∧ (-1 ≤ z ∧ z ≤ 9)) := by
  refine x_meti (cc := cX12_opened) (maxL := 4) WM_adr (by decide +kernel) rfl (Nat.le_of_ble_eq_true rfl) (fun p e s m below meth c Q AS ls hx hb hml hown hts hK hDD hA0 hP hS hl RET => ?_)
  have hown : s.vm.findClass RX12 = some m.cls := hown
  have hl : lv_has ls 4 [(0, .ref (q 0)), (1, .int (iI x1)), (2, .int (iI x2))] := hl
  have hiX12 : ∀ w ∈ u_ws RX12 TX12 85, w ∈ ws_mc_X12_opened := fun w h => List.mem_cons_of_mem _ (wx_lay w h)
  obtain ⟨H, hHe⟩ : ∃ H : Heap, H = s.heap := ⟨_, rfl⟩
  rw [← hHe] at hP
  have hS : va_S AS s.heap H [] := by rw [hHe]; exact hS
  suffices hgo : ∀ locs : List Loc, va_S AS s.heap H locs → W p l e (headSpec ws_mc_X12_opened ({ frames := 2, cells := 0, slots := 0, locals := 43 } : Room)).room s m [.ref (q 0), .int (iI x1), .int (iI x2)].toArray below meth c H locs 0 0 Q (F0 m 0 ls []) by
    have := hgo [] hS
    rw [hHe] at this
    exact this
  clear hS hHe
  intro locs hS
  refine lv_aload_n hx hb (dk_at dkX12_opened_0 0 rfl) rfl (lv_at hl 0 rfl) ?_
  refine lv_iload_n hx hb (dk_at dkX12_opened_0 1 rfl) rfl (lv_at hl 2 rfl) ?_
  have r_A_0_12 : (0 : Int) ≤ (A 0 12) ∧ (A 0 12) ≤ 1 := hI 0 12
  refine x_calli (As := [.int (iI x2)]) (rest := []) ⟨hx, hb, hml, hown, hts⟩ (mc_X12_topOf l dC dI cB cI cJ cZ cQ q _ x2 hI hx2) (cwV 1 hts (goodV wlq_5_21 wlq_5_22 wlq_5_23 wlq_0_8 wlq_4_47) rfl rfl rfl (by decide +kernel) ⟨Nat.le_of_ble_eq_true rfl, Nat.le_of_ble_eq_true rfl⟩) hK hDD hA0 hP hS 0 12 wm0 rfl rfl hl.1 (Nat.le_of_ble_eq_true rfl) (dk_at dkX12_opened_0 2 rfl) (fun z1 A2 H locs hw3 hP hS => ?_)
  obtain ⟨rfl, hw3⟩ := hw3
  have ghw3 : q_X12_topOf x2 A z1 := hw3
  have hw3 := hw3.2
  refine lv_istore_n (lv' := [(3, .int (iI z1)), (0, .ref (q 0)), (1, .int (iI x1)), (2, .int (iI x2))]) hx hb (dk_at dkX12_opened_0 3 rfl) rfl hl (by decide) rfl (fun ls hl => ?_)
  refine lv_aload_n hx hb (dk_at dkX12_opened_0 4 rfl) rfl (lv_at hl 1 rfl) ?_
  refine va_get (D := (dC, dI)) (ci := 12) (v := .ref (q 13)) (C := RX12) (T := TX12) (N := 85) hx hb hts hiX12 hown hK hP 0 wm0 rfl 24 (by decide) (hts _ (List.mem_cons_of_mem _ wlq_2_58)) (fun _ h9 => h9) rfl (dk_at dkX12_opened_0 5 rfl) ?_
  refine lv_aload_n hx hb (dk_at dkX12_opened_0 6 rfl) rfl (lv_at hl 1 rfl) ?_
  refine lv_iload_n hx hb (dk_at dkX12_opened_0 7 rfl) rfl (lv_at hl 3 rfl) ?_
  refine x_calli (As := [.int (iI x2)]) (rest := [.ref (q 13)]) ⟨hx, hb, hml, hown, hts⟩ (mc_X12_key4 l dC dI cB cI cJ cZ cQ q _ x2 hI hx2) (cwV 1 hts (goodV wlq_4_44 wlq_4_45 wlq_4_46 wlq_0_8 wlq_4_41) rfl rfl rfl (by decide +kernel) ⟨Nat.le_of_ble_eq_true rfl, Nat.le_of_ble_eq_true rfl⟩) hK hDD hA0 hP hS 0 12 wm0 rfl rfl hl.1 (Nat.le_of_ble_eq_true rfl) (dk_at dkX12_opened_0 8 rfl) (fun z4 A5 H locs hw6 hP hS => ?_)
  obtain ⟨rfl, hw6⟩ := hw6
  have ghw6 : q_X12_key4 x2 A z4 := hw6
  have hw6 := hw6.2
  refine tp_i (y := iI (4 * (A 0 12) + x2)) (congrArg iI (show z4 = 4 * (A 0 12) + x2 by omega)) ?_
  clear hw6
  refine x_iald hx hb hK hP 13 1 wm13 rfl (by omega) (by decide) (dk_at dkX12_opened_0 9 rfl) (fun z7 hz7 => ?_)
  have rz7 : (0 : Int) ≤ z7 ∧ z7 ≤ 40 := by rw [hz7]; exact hI 13 _
  have gz7 := Hd.mk hz7
  have hz7 : z7 = A 13 (4 * (A 0 12) + x2).toNat := hz7
  refine lv_iload_n hx hb (dk_at dkX12_opened_0 10 rfl) rfl (lv_at hl 2 rfl) ?_
  refine lv_icmp_ne (tgt := 38) hx hb (dk_at dkX12_opened_0 11 rfl) (by decide) (fun c8 => ?_) (fun c8 => ?_)
  · have c8 : ¬ z7 = x1 := mt (i_eq (rb rz7 (by decide) (by decide)) (rb hx1 (by decide) (by decide))).mpr c8
    refine lv_iconst (v := iI (-1)) hx hb (dk_at dkX12_opened_1 6 rfl) (by decide +kernel) ?_
    exact RET (-1) _ _ _ _ _ ⟨(u_r_X12_opened ⟨z1, ghw3, ⟨z4, ghw6, ⟨z7, gz7.out, (Or.inl ⟨c8, ⟨rfl, rfl⟩⟩)⟩⟩⟩), hI, fr.rf, by omega⟩ hP hS (dk_at dkX12_opened_1 7 rfl)
  · have c8 : z7 = x1 := (i_eq (rb rz7 (by decide) (by decide)) (rb hx1 (by decide) (by decide))).mp c8
    refine lv_iload_n hx hb (dk_at dkX12_opened_0 12 rfl) rfl (lv_at hl 0 rfl) ?_
    refine lv_iconst (v := iI (-1)) hx hb (dk_at dkX12_opened_0 13 rfl) (by decide +kernel) ?_
    refine lv_icmp_eq (tgt := 38) hx hb (dk_at dkX12_opened_0 14 rfl) (by decide) (fun c9 => ?_) (fun c9 => ?_)
    · have c9 : z1 = (-1) := (i_eq (by omega) ⟨by decide, by decide⟩).mp c9
      refine lv_iconst (v := iI (-1)) hx hb (dk_at dkX12_opened_1 6 rfl) (by decide +kernel) ?_
      exact RET (-1) _ _ _ _ _ ⟨(u_r_X12_opened ⟨z1, ghw3, ⟨z4, ghw6, ⟨z7, gz7.out, (Or.inr ⟨c8, (Or.inl ⟨c9, ⟨rfl, rfl⟩⟩)⟩)⟩⟩⟩), hI, fr.rf, by omega⟩ hP hS (dk_at dkX12_opened_1 7 rfl)
    · have c9 : ¬ z1 = (-1) := mt (i_eq (by omega) ⟨by decide, by decide⟩).mpr c9
      refine lv_aload_n hx hb (dk_at dkX12_opened_0 15 rfl) rfl (lv_at hl 1 rfl) ?_
      refine lv_aload_n hx hb (dk_at dkX12_opened_1 0 rfl) rfl (lv_at hl 1 rfl) ?_
      refine lv_iload_n hx hb (dk_at dkX12_opened_1 1 rfl) rfl (lv_at hl 2 rfl) ?_
      refine x_calli (As := [.int (iI x1)]) (rest := [.ref (q 0)]) ⟨hx, hb, hml, hown, hts⟩ (mc_X12_placeOf l dC dI cB cI cJ cZ cQ q _ x1 hI hx1) (cwV 1 hts (goodV wlq_5_35 wlq_5_36 wlq_5_37 wlq_0_8 wlq_5_25) rfl rfl rfl (by decide +kernel) ⟨Nat.le_of_ble_eq_true rfl, Nat.le_of_ble_eq_true rfl⟩) hK hDD hA0 hP hS 0 12 wm0 rfl rfl hl.1 (Nat.le_of_ble_eq_true rfl) (dk_at dkX12_opened_1 2 rfl) (fun z10 A11 H locs hw12 hP hS => ?_)
      obtain ⟨rfl, hw12⟩ := hw12
      have ghw12 : q_X12_placeOf x1 A z10 := hw12
      have hw12 := hw12.2
      refine lv_iload_n hx hb (dk_at dkX12_opened_1 3 rfl) rfl (lv_at hl 0 rfl) ?_
      refine x_calli (As := [.int (iI z10), .int (iI z1)]) (rest := []) ⟨hx, hb, hml, hown, hts⟩ (mc_X12_isAt l dC dI cB cI cJ cZ cQ q _ z10 z1 hI (rb hw12 (by decide) (by decide)) (by omega)) (cwV 2 hts (goodV wlq_5_38 wlq_5_39 wlq_5_40 wlq_0_8 wlq_5_28) rfl rfl rfl (by decide +kernel) ⟨Nat.le_of_ble_eq_true rfl, Nat.le_of_ble_eq_true rfl⟩) hK hDD hA0 hP hS 0 12 wm0 rfl rfl hl.1 (Nat.le_of_ble_eq_true rfl) (dk_at dkX12_opened_1 4 rfl) (fun z13 A14 H locs hw15 hP hS => ?_)
      obtain ⟨rfl, hw15⟩ := hw15
      have ghw15 : q_X12_isAt z10 z1 A z13 := hw15
      have hw15 := hw15.2
      refine lv_if_ne (tgt := 40) hx hb (dk_at dkX12_opened_1 5 rfl) (by decide) (fun c16 => ?_) (fun c16 => ?_)
      · have c16 : ¬ z13 = 0 := mt (i_eq0 (rb hw15 (by decide) (by decide))).mpr c16
        refine lv_aload_n hx hb (dk_at dkX12_opened_1 8 rfl) rfl (lv_at hl 1 rfl) ?_
        refine va_get (D := (dC, dI)) (ci := 12) (v := .ref (q 14)) (C := RX12) (T := TX12) (N := 85) hx hb hts hiX12 hown hK hP 0 wm0 rfl 25 (by decide) (hts _ (List.mem_cons_of_mem _ wlq_2_59)) (fun _ h9 => h9) rfl (dk_at dkX12_opened_1 9 rfl) ?_
        refine lv_aload_n hx hb (dk_at dkX12_opened_1 10 rfl) rfl (lv_at hl 1 rfl) ?_
        refine lv_iload_n hx hb (dk_at dkX12_opened_1 11 rfl) rfl (lv_at hl 3 rfl) ?_
        refine x_calli (As := [.int (iI x2)]) (rest := [.ref (q 14)]) ⟨hx, hb, hml, hown, hts⟩ (mc_X12_key4 l dC dI cB cI cJ cZ cQ q _ x2 hI hx2) (cwV 1 hts (goodV wlq_4_44 wlq_4_45 wlq_4_46 wlq_0_8 wlq_4_41) rfl rfl rfl (by decide +kernel) ⟨Nat.le_of_ble_eq_true rfl, Nat.le_of_ble_eq_true rfl⟩) hK hDD hA0 hP hS 0 12 wm0 rfl rfl hl.1 (Nat.le_of_ble_eq_true rfl) (dk_at dkX12_opened_1 12 rfl) (fun z17 A18 H locs hw19 hP hS => ?_)
        obtain ⟨rfl, hw19⟩ := hw19
        have ghw19 : q_X12_key4 x2 A z17 := hw19
        have hw19 := hw19.2
        refine tp_i (y := iI (4 * (A 0 12) + x2)) (congrArg iI (show z17 = 4 * (A 0 12) + x2 by omega)) ?_
        clear hw19
        refine lv_dup2_11 hx hb (dk_at dkX12_opened_1 13 rfl) rfl rfl ?_
        refine x_iald hx hb hK hP 14 1 wm14 rfl (by omega) (by decide) (dk_at dkX12_opened_1 14 rfl) (fun z20 hz20 => ?_)
        have rz20 : (0 : Int) ≤ z20 ∧ z20 ≤ 6 := by rw [hz20]; exact hI 14 _
        have gz20 := Hd.mk hz20
        have hz20 : z20 = A 14 (4 * (A 0 12) + x2).toNat := hz20
        refine lv_iconst (v := iI 1) hx hb (dk_at dkX12_opened_1 15 rfl) (by decide +kernel) ?_
        refine x_subv (v := z20 - 1) hx hb (dk_at dkX12_opened_2 0 rfl) (by omega) ?_
        refine x_iast hx hb hK hP hDD hS 14 1 wm14 rfl (by omega) (by decide) (dk_at dkX12_opened_2 1 rfl) ws14 (fun H locs hP hS => ?_)
        have hI := hI.st (j := 14) (i := (4 * (A 0 12) + x2).toNat) (v := z20 - 1) (show (0 : Int) ≤ z20 - 1 ∧ z20 - 1 ≤ 6 from (by omega))
        refine lv_iload_n hx hb (dk_at dkX12_opened_2 2 rfl) rfl (lv_at hl 0 rfl) ?_
        exact RET z1 _ _ _ _ _ ⟨(u_r_X12_opened ⟨z1, ghw3, ⟨z4, ghw6, ⟨z7, gz7.out, (Or.inr ⟨c8, (Or.inr ⟨c9, ⟨z10, ghw12, ⟨z13, ghw15, (Or.inl ⟨c16, ⟨z17, ghw19, ⟨z20, gz20.out, ⟨rfl, rfl⟩⟩⟩⟩)⟩⟩⟩)⟩)⟩⟩⟩), hI, fr.st (fr.rf) (by decide) rfl, by omega⟩ hP hS (dk_at dkX12_opened_2 3 rfl)
      · have c16 : z13 = 0 := (i_eq0 (rb hw15 (by decide) (by decide))).mp c16
        refine lv_iconst (v := iI (-1)) hx hb (dk_at dkX12_opened_1 6 rfl) (by decide +kernel) ?_
        exact RET (-1) _ _ _ _ _ ⟨(u_r_X12_opened ⟨z1, ghw3, ⟨z4, ghw6, ⟨z7, gz7.out, (Or.inr ⟨c8, (Or.inr ⟨c9, ⟨z10, ghw12, ⟨z13, ghw15, (Or.inr ⟨c16, ⟨rfl, rfl⟩⟩)⟩⟩⟩)⟩)⟩⟩⟩), hI, fr.rf, by omega⟩ hP hS (dk_at dkX12_opened_1 7 rfl)

abbrev tr_r_X12_closed (x1 : Int) (x2 : Int) (x3 : Int) (A : St) (z : Int) (u : St) : Prop := (∃ z1 : Int, q_X12_key4 x2 A z1 ∧ (∃ z4 : Int, z4 = A 13 (4 * (A 0 12) + x2).toNat ∧ (((¬ z4 = x1) ∧ (z = (-1) ∧ u = A)) ∨ ((z4 = x1) ∧ (∃ z6 : Int, q_X12_placeOf x1 A z6 ∧ (∃ z9 : Int, q_X12_isAt z6 x3 A z9 ∧ (((z9 = 0) ∧ (z = (-1) ∧ u = A)) ∨ ((¬ z9 = 0) ∧ (∃ z13 : Int, q_X12_inRow x2 x3 A z13 ∧ (((¬ z13 = 0) ∧ (z = (-1) ∧ u = A)) ∨ ((z13 = 0) ∧ (∃ z17 : Int, q_X12_key4 x2 A z17 ∧ (∃ z20 : Int, z20 = A 14 (4 * (A 0 12) + x2).toNat ∧ (((¬ z20 = 6) ∧ (∃ z22 : Int, q_X12_key4 x2 A z22 ∧ (∃ z25 : Int, q_X12_key4 x2 A z25 ∧ (∃ z28 : Int, z28 = A 14 (4 * (A 0 12) + x2).toNat ∧ (∃ A29 : St, A29 = (stA A 15 (40 * (A 0 12) + 10 * x2 + z28).toNat x3) ∧ (∃ z30 : Int, q_X12_key4 x2 A29 z30 ∧ (∃ z33 : Int, z33 = A29 14 (4 * (A 0 12) + x2).toNat ∧ (∃ A34 : St, A34 = (stA A29 14 (4 * (A 0 12) + x2).toNat (z33 + 1)) ∧ (∃ z35 : Int, q_X12_key4 x2 A34 z35 ∧ (∃ z38 : Int, z38 = A34 14 (4 * (A 0 12) + x2).toNat ∧ (z = z38 ∧ u = A34))))))))))) ∨ ((z20 = 6) ∧ (z = (-1) ∧ u = A))))))))))))))))
def r_X12_closed (x1 : Int) (x2 : Int) (x3 : Int) (A : St) (z : Int) (u : St) : Prop := tr_r_X12_closed x1 x2 x3 A z u
theorem u_r_X12_closed {x1 : Int} {x2 : Int} {x3 : Int} {A : St} {z : Int} {u : St} (h : tr_r_X12_closed x1 x2 x3 A z u) : r_X12_closed x1 x2 x3 A z u := h
def q_X12_closed (x1 : Int) (x2 : Int) (x3 : Int) (A : St) (z : Int) (u : St) : Prop := r_X12_closed x1 x2 x3 A z u ∧ IM u ∧ fr [14, 15] [] A u ∧ (-2147483648 ≤ z ∧ z ≤ 2147483647)
def ws_mc_X12_closed : List Cond := .code yX12_closed cX12_closed 4 (some .int) :: WX
set_option maxHeartbeats 4000000 in
set_option maxRecDepth 100000 in
theorem mc_X12_closed (l : Launch) (dC : Nat → ClassId) (dI : Nat → Nat → Nat) (cB cI cJ cZ cQ : ClassId) (q : Nat → Nat) (A : St) (x1 x2 x3 : Int) (hI : IM A) (hx1 : (0 : Int) ≤ x1 ∧ x1 ≤ 2) (hx2 : (0 : Int) ≤ x2 ∧ x2 ≤ 3) (hx3 : (0 : Int) ≤ x3 ∧ x3 ≤ 9) : XMi l yX12_closed ws_mc_X12_closed ({ frames := 2, cells := 0, slots := 0, locals := 45 } : Room) (dC, dI) (tyA cB cI cJ cZ cQ) (WM cI cJ cZ q) A [.ref (q 0), .int (iI x1), .int (iI x2), .int (iI x3)] (fun z u => r_X12_closed x1 x2 x3 A z u ∧ IM u ∧ fr [14, 15] [] A u ∧ (-2147483648 ≤ z ∧ z ≤ 2147483647)) := by
  refine x_meti (cc := cX12_closed) (maxL := 4) WM_adr (by decide +kernel) rfl (Nat.le_of_ble_eq_true rfl) (fun p e s m below meth c Q AS ls hx hb hml hown hts hK hDD hA0 hP hS hl RET => ?_)
  have hown : s.vm.findClass RX12 = some m.cls := hown
  have hl : lv_has ls 4 [(0, .ref (q 0)), (1, .int (iI x1)), (2, .int (iI x2)), (3, .int (iI x3))] := hl
  have hiX12 : ∀ w ∈ u_ws RX12 TX12 85, w ∈ ws_mc_X12_closed := fun w h => List.mem_cons_of_mem _ (wx_lay w h)
  obtain ⟨H, hHe⟩ : ∃ H : Heap, H = s.heap := ⟨_, rfl⟩
  rw [← hHe] at hP
  have hS : va_S AS s.heap H [] := by rw [hHe]; exact hS
  suffices hgo : ∀ locs : List Loc, va_S AS s.heap H locs → W p l e (headSpec ws_mc_X12_closed ({ frames := 2, cells := 0, slots := 0, locals := 45 } : Room)).room s m [.ref (q 0), .int (iI x1), .int (iI x2), .int (iI x3)].toArray below meth c H locs 0 0 Q (F0 m 0 ls []) by
    have := hgo [] hS
    rw [hHe] at this
    exact this
  clear hS hHe
  intro locs hS
  refine lv_aload_n hx hb (dk_at dkX12_closed_0 0 rfl) rfl (lv_at hl 0 rfl) ?_
  refine va_get (D := (dC, dI)) (ci := 12) (v := .ref (q 13)) (C := RX12) (T := TX12) (N := 85) hx hb hts hiX12 hown hK hP 0 wm0 rfl 24 (by decide) (hts _ (List.mem_cons_of_mem _ wlq_2_58)) (fun _ h9 => h9) rfl (dk_at dkX12_closed_0 1 rfl) ?_
  refine lv_aload_n hx hb (dk_at dkX12_closed_0 2 rfl) rfl (lv_at hl 0 rfl) ?_
  refine lv_iload_n hx hb (dk_at dkX12_closed_0 3 rfl) rfl (lv_at hl 2 rfl) ?_
  have r_A_0_12 : (0 : Int) ≤ (A 0 12) ∧ (A 0 12) ≤ 1 := hI 0 12
  refine x_calli (As := [.int (iI x2)]) (rest := [.ref (q 13)]) ⟨hx, hb, hml, hown, hts⟩ (mc_X12_key4 l dC dI cB cI cJ cZ cQ q _ x2 hI hx2) (cwV 1 hts (goodV wlq_4_44 wlq_4_45 wlq_4_46 wlq_0_8 wlq_4_41) rfl rfl rfl (by decide +kernel) ⟨Nat.le_of_ble_eq_true rfl, Nat.le_of_ble_eq_true rfl⟩) hK hDD hA0 hP hS 0 12 wm0 rfl rfl hl.1 (Nat.le_of_ble_eq_true rfl) (dk_at dkX12_closed_0 4 rfl) (fun z1 A2 H locs hw3 hP hS => ?_)
  obtain ⟨rfl, hw3⟩ := hw3
  have ghw3 : q_X12_key4 x2 A z1 := hw3
  have hw3 := hw3.2
  refine tp_i (y := iI (4 * (A 0 12) + x2)) (congrArg iI (show z1 = 4 * (A 0 12) + x2 by omega)) ?_
  clear hw3
  refine x_iald hx hb hK hP 13 1 wm13 rfl (by omega) (by decide) (dk_at dkX12_closed_0 5 rfl) (fun z4 hz4 => ?_)
  have rz4 : (0 : Int) ≤ z4 ∧ z4 ≤ 40 := by rw [hz4]; exact hI 13 _
  have gz4 := Hd.mk hz4
  have hz4 : z4 = A 13 (4 * (A 0 12) + x2).toNat := hz4
  refine lv_iload_n hx hb (dk_at dkX12_closed_0 6 rfl) rfl (lv_at hl 1 rfl) ?_
  refine lv_icmp_ne (tgt := 51) hx hb (dk_at dkX12_closed_0 7 rfl) (by decide) (fun c5 => ?_) (fun c5 => ?_)
  · have c5 : ¬ z4 = x1 := mt (i_eq (rb rz4 (by decide) (by decide)) (rb hx1 (by decide) (by decide))).mpr c5
    refine lv_iconst (v := iI (-1)) hx hb (dk_at dkX12_closed_1 12 rfl) (by decide +kernel) ?_
    exact RET (-1) _ _ _ _ _ ⟨(u_r_X12_closed ⟨z1, ghw3, ⟨z4, gz4.out, (Or.inl ⟨c5, ⟨rfl, rfl⟩⟩)⟩⟩), hI, fr.rf, by omega⟩ hP hS (dk_at dkX12_closed_1 13 rfl)
  · have c5 : z4 = x1 := (i_eq (rb rz4 (by decide) (by decide)) (rb hx1 (by decide) (by decide))).mp c5
    refine lv_aload_n hx hb (dk_at dkX12_closed_0 8 rfl) rfl (lv_at hl 0 rfl) ?_
    refine lv_aload_n hx hb (dk_at dkX12_closed_0 9 rfl) rfl (lv_at hl 0 rfl) ?_
    refine lv_iload_n hx hb (dk_at dkX12_closed_0 10 rfl) rfl (lv_at hl 1 rfl) ?_
    refine x_calli (As := [.int (iI x1)]) (rest := [.ref (q 0)]) ⟨hx, hb, hml, hown, hts⟩ (mc_X12_placeOf l dC dI cB cI cJ cZ cQ q _ x1 hI hx1) (cwV 1 hts (goodV wlq_5_35 wlq_5_36 wlq_5_37 wlq_0_8 wlq_5_25) rfl rfl rfl (by decide +kernel) ⟨Nat.le_of_ble_eq_true rfl, Nat.le_of_ble_eq_true rfl⟩) hK hDD hA0 hP hS 0 12 wm0 rfl rfl hl.1 (Nat.le_of_ble_eq_true rfl) (dk_at dkX12_closed_0 11 rfl) (fun z6 A7 H locs hw8 hP hS => ?_)
    obtain ⟨rfl, hw8⟩ := hw8
    have ghw8 : q_X12_placeOf x1 A z6 := hw8
    have hw8 := hw8.2
    refine lv_iload_n hx hb (dk_at dkX12_closed_0 12 rfl) rfl (lv_at hl 3 rfl) ?_
    refine x_calli (As := [.int (iI z6), .int (iI x3)]) (rest := []) ⟨hx, hb, hml, hown, hts⟩ (mc_X12_isAt l dC dI cB cI cJ cZ cQ q _ z6 x3 hI (rb hw8 (by decide) (by decide)) hx3) (cwV 2 hts (goodV wlq_5_38 wlq_5_39 wlq_5_40 wlq_0_8 wlq_5_28) rfl rfl rfl (by decide +kernel) ⟨Nat.le_of_ble_eq_true rfl, Nat.le_of_ble_eq_true rfl⟩) hK hDD hA0 hP hS 0 12 wm0 rfl rfl hl.1 (Nat.le_of_ble_eq_true rfl) (dk_at dkX12_closed_0 13 rfl) (fun z9 A10 H locs hw11 hP hS => ?_)
    obtain ⟨rfl, hw11⟩ := hw11
    have ghw11 : q_X12_isAt z6 x3 A z9 := hw11
    have hw11 := hw11.2
    refine lv_if_eq (tgt := 51) hx hb (dk_at dkX12_closed_0 14 rfl) (by decide) (fun c12 => ?_) (fun c12 => ?_)
    · have c12 : z9 = 0 := (i_eq0 (rb hw11 (by decide) (by decide))).mp c12
      refine lv_iconst (v := iI (-1)) hx hb (dk_at dkX12_closed_1 12 rfl) (by decide +kernel) ?_
      exact RET (-1) _ _ _ _ _ ⟨(u_r_X12_closed ⟨z1, ghw3, ⟨z4, gz4.out, (Or.inr ⟨c5, ⟨z6, ghw8, ⟨z9, ghw11, (Or.inl ⟨c12, ⟨rfl, rfl⟩⟩)⟩⟩⟩)⟩⟩), hI, fr.rf, by omega⟩ hP hS (dk_at dkX12_closed_1 13 rfl)
    · have c12 : ¬ z9 = 0 := mt (i_eq0 (rb hw11 (by decide) (by decide))).mpr c12
      refine lv_aload_n hx hb (dk_at dkX12_closed_0 15 rfl) rfl (lv_at hl 0 rfl) ?_
      refine lv_iload_n hx hb (dk_at dkX12_closed_1 0 rfl) rfl (lv_at hl 2 rfl) ?_
      refine lv_iload_n hx hb (dk_at dkX12_closed_1 1 rfl) rfl (lv_at hl 3 rfl) ?_
      refine x_calli (As := [.int (iI x2), .int (iI x3)]) (rest := []) ⟨hx, hb, hml, hown, hts⟩ (mc_X12_inRow l dC dI cB cI cJ cZ cQ q _ x2 x3 hI hx2 (rb hx3 (by decide) (by decide))) (cwV 2 hts (goodV wlq_4_52 wlq_4_53 wlq_4_54 wlq_0_8 wlq_4_43) rfl rfl rfl (by decide +kernel) ⟨Nat.le_of_ble_eq_true rfl, Nat.le_of_ble_eq_true rfl⟩) hK hDD hA0 hP hS 0 12 wm0 rfl rfl hl.1 (Nat.le_of_ble_eq_true rfl) (dk_at dkX12_closed_1 2 rfl) (fun z13 A14 H locs hw15 hP hS => ?_)
      obtain ⟨rfl, hw15⟩ := hw15
      have ghw15 : q_X12_inRow x2 x3 A z13 := hw15
      have hw15 := hw15.2
      refine lv_if_ne (tgt := 51) hx hb (dk_at dkX12_closed_1 3 rfl) (by decide) (fun c16 => ?_) (fun c16 => ?_)
      · have c16 : ¬ z13 = 0 := mt (i_eq0 (rb hw15 (by decide) (by decide))).mpr c16
        refine lv_iconst (v := iI (-1)) hx hb (dk_at dkX12_closed_1 12 rfl) (by decide +kernel) ?_
        exact RET (-1) _ _ _ _ _ ⟨(u_r_X12_closed ⟨z1, ghw3, ⟨z4, gz4.out, (Or.inr ⟨c5, ⟨z6, ghw8, ⟨z9, ghw11, (Or.inr ⟨c12, ⟨z13, ghw15, (Or.inl ⟨c16, ⟨rfl, rfl⟩⟩)⟩⟩)⟩⟩⟩)⟩⟩), hI, fr.rf, by omega⟩ hP hS (dk_at dkX12_closed_1 13 rfl)
      · have c16 : z13 = 0 := (i_eq0 (rb hw15 (by decide) (by decide))).mp c16
        refine lv_aload_n hx hb (dk_at dkX12_closed_1 4 rfl) rfl (lv_at hl 0 rfl) ?_
        refine va_get (D := (dC, dI)) (ci := 12) (v := .ref (q 14)) (C := RX12) (T := TX12) (N := 85) hx hb hts hiX12 hown hK hP 0 wm0 rfl 25 (by decide) (hts _ (List.mem_cons_of_mem _ wlq_2_59)) (fun _ h9 => h9) rfl (dk_at dkX12_closed_1 5 rfl) ?_
        refine lv_aload_n hx hb (dk_at dkX12_closed_1 6 rfl) rfl (lv_at hl 0 rfl) ?_
        refine lv_iload_n hx hb (dk_at dkX12_closed_1 7 rfl) rfl (lv_at hl 2 rfl) ?_
        refine x_calli (As := [.int (iI x2)]) (rest := [.ref (q 14)]) ⟨hx, hb, hml, hown, hts⟩ (mc_X12_key4 l dC dI cB cI cJ cZ cQ q _ x2 hI hx2) (cwV 1 hts (goodV wlq_4_44 wlq_4_45 wlq_4_46 wlq_0_8 wlq_4_41) rfl rfl rfl (by decide +kernel) ⟨Nat.le_of_ble_eq_true rfl, Nat.le_of_ble_eq_true rfl⟩) hK hDD hA0 hP hS 0 12 wm0 rfl rfl hl.1 (Nat.le_of_ble_eq_true rfl) (dk_at dkX12_closed_1 8 rfl) (fun z17 A18 H locs hw19 hP hS => ?_)
        obtain ⟨rfl, hw19⟩ := hw19
        have ghw19 : q_X12_key4 x2 A z17 := hw19
        have hw19 := hw19.2
        refine tp_i (y := iI (4 * (A 0 12) + x2)) (congrArg iI (show z17 = 4 * (A 0 12) + x2 by omega)) ?_
        clear hw19
        refine x_iald hx hb hK hP 14 1 wm14 rfl (by omega) (by decide) (dk_at dkX12_closed_1 9 rfl) (fun z20 hz20 => ?_)
        have rz20 : (0 : Int) ≤ z20 ∧ z20 ≤ 6 := by rw [hz20]; exact hI 14 _
        have gz20 := Hd.mk hz20
        have hz20 : z20 = A 14 (4 * (A 0 12) + x2).toNat := hz20
        refine lv_bipush (v := iI 6) hx hb (dk_at dkX12_closed_1 10 rfl) (by decide +kernel) ?_
        refine lv_icmp_ne (tgt := 53) hx hb (dk_at dkX12_closed_1 11 rfl) (by decide) (fun c21 => ?_) (fun c21 => ?_)
        · have c21 : ¬ z20 = 6 := mt (i_eq (rb rz20 (by decide) (by decide)) ⟨by decide, by decide⟩).mpr c21
          refine lv_aload_n hx hb (dk_at dkX12_closed_1 14 rfl) rfl (lv_at hl 0 rfl) ?_
          refine va_get (D := (dC, dI)) (ci := 12) (v := .ref (q 15)) (C := RX12) (T := TX12) (N := 85) hx hb hts hiX12 hown hK hP 0 wm0 rfl 26 (by decide) (hts _ (List.mem_cons_of_mem _ wlq_3_7)) (fun _ h9 => h9) rfl (dk_at dkX12_closed_1 15 rfl) ?_
          refine lv_bipush (v := iI 10) hx hb (dk_at dkX12_closed_2 0 rfl) (by decide +kernel) ?_
          refine lv_aload_n hx hb (dk_at dkX12_closed_2 1 rfl) rfl (lv_at hl 0 rfl) ?_
          refine lv_iload_n hx hb (dk_at dkX12_closed_2 2 rfl) rfl (lv_at hl 2 rfl) ?_
          refine x_calli (As := [.int (iI x2)]) (rest := [.int (iI 10), .ref (q 15)]) ⟨hx, hb, hml, hown, hts⟩ (mc_X12_key4 l dC dI cB cI cJ cZ cQ q _ x2 hI hx2) (cwV 1 hts (goodV wlq_4_44 wlq_4_45 wlq_4_46 wlq_0_8 wlq_4_41) rfl rfl rfl (by decide +kernel) ⟨Nat.le_of_ble_eq_true rfl, Nat.le_of_ble_eq_true rfl⟩) hK hDD hA0 hP hS 0 12 wm0 rfl rfl hl.1 (Nat.le_of_ble_eq_true rfl) (dk_at dkX12_closed_2 3 rfl) (fun z22 A23 H locs hw24 hP hS => ?_)
          obtain ⟨rfl, hw24⟩ := hw24
          have ghw24 : q_X12_key4 x2 A z22 := hw24
          have hw24 := hw24.2
          refine tp_i (y := iI (4 * (A 0 12) + x2)) (congrArg iI (show z22 = 4 * (A 0 12) + x2 by omega)) ?_
          clear hw24
          refine x_mulv (v := 40 * (A 0 12) + 10 * x2) hx hb (dk_at dkX12_closed_2 4 rfl) (by omega) ?_
          refine lv_aload_n hx hb (dk_at dkX12_closed_2 5 rfl) rfl (lv_at hl 0 rfl) ?_
          refine va_get (D := (dC, dI)) (ci := 12) (v := .ref (q 14)) (C := RX12) (T := TX12) (N := 85) hx hb hts hiX12 hown hK hP 0 wm0 rfl 25 (by decide) (hts _ (List.mem_cons_of_mem _ wlq_2_59)) (fun _ h9 => h9) rfl (dk_at dkX12_closed_2 6 rfl) ?_
          refine lv_aload_n hx hb (dk_at dkX12_closed_2 7 rfl) rfl (lv_at hl 0 rfl) ?_
          refine lv_iload_n hx hb (dk_at dkX12_closed_2 8 rfl) rfl (lv_at hl 2 rfl) ?_
          refine x_calli (As := [.int (iI x2)]) (rest := [.ref (q 14), .int (iI (40 * (A 0 12) + 10 * x2)), .ref (q 15)]) ⟨hx, hb, hml, hown, hts⟩ (mc_X12_key4 l dC dI cB cI cJ cZ cQ q _ x2 hI hx2) (cwV 1 hts (goodV wlq_4_44 wlq_4_45 wlq_4_46 wlq_0_8 wlq_4_41) rfl rfl rfl (by decide +kernel) ⟨Nat.le_of_ble_eq_true rfl, Nat.le_of_ble_eq_true rfl⟩) hK hDD hA0 hP hS 0 12 wm0 rfl rfl hl.1 (Nat.le_of_ble_eq_true rfl) (dk_at dkX12_closed_2 9 rfl) (fun z25 A26 H locs hw27 hP hS => ?_)
          obtain ⟨rfl, hw27⟩ := hw27
          have ghw27 : q_X12_key4 x2 A z25 := hw27
          have hw27 := hw27.2
          refine tp_i (y := iI (4 * (A 0 12) + x2)) (congrArg iI (show z25 = 4 * (A 0 12) + x2 by omega)) ?_
          clear hw27
          refine x_iald hx hb hK hP 14 1 wm14 rfl (by omega) (by decide) (dk_at dkX12_closed_2 10 rfl) (fun z28 hz28 => ?_)
          have rz28 : (0 : Int) ≤ z28 ∧ z28 ≤ 6 := by rw [hz28]; exact hI 14 _
          have gz28 := Hd.mk hz28
          have hz28 : z28 = A 14 (4 * (A 0 12) + x2).toNat := hz28
          have ez28 : z28 = z20 := hz28.trans hz20.symm
          refine x_addv (v := 40 * (A 0 12) + 10 * x2 + z28) hx hb (dk_at dkX12_closed_2 11 rfl) (by omega) ?_
          refine lv_iload_n hx hb (dk_at dkX12_closed_2 12 rfl) rfl (lv_at hl 3 rfl) ?_
          refine x_iast hx hb hK hP hDD hS 15 1 wm15 rfl (by omega) (by decide) (dk_at dkX12_closed_2 13 rfl) ws15 (fun H locs hP hS => ?_)
          have hI := hI.st (j := 15) (i := (40 * (A 0 12) + 10 * x2 + z28).toNat) (v := x3) (show (0 : Int) ≤ x3 ∧ x3 ≤ 9 from (by omega))
          refine lv_aload_n hx hb (dk_at dkX12_closed_2 14 rfl) rfl (lv_at hl 0 rfl) ?_
          refine va_get (D := (dC, dI)) (ci := 12) (v := .ref (q 14)) (C := RX12) (T := TX12) (N := 85) hx hb hts hiX12 hown hK hP 0 wm0 rfl 25 (by decide) (hts _ (List.mem_cons_of_mem _ wlq_2_59)) (fun _ h9 => h9) rfl (dk_at dkX12_closed_2 15 rfl) ?_
          refine lv_aload_n hx hb (dk_at dkX12_closed_3 0 rfl) rfl (lv_at hl 0 rfl) ?_
          refine lv_iload_n hx hb (dk_at dkX12_closed_3 1 rfl) rfl (lv_at hl 2 rfl) ?_
          obtain ⟨A29, hA29⟩ : ∃ A29 : St, A29 = (stA A 15 (40 * (A 0 12) + 10 * x2 + z28).toNat x3) := ⟨_, rfl⟩
          rw [← hA29] at hP hI
          have e_A29_12 : A29 0 12 = (A 0 12) := by rw [hA29]; exact rfl
          refine x_calli (As := [.int (iI x2)]) (rest := [.ref (q 14)]) ⟨hx, hb, hml, hown, hts⟩ (mc_X12_key4 l dC dI cB cI cJ cZ cQ q _ x2 hI hx2) (cwV 1 hts (goodV wlq_4_44 wlq_4_45 wlq_4_46 wlq_0_8 wlq_4_41) rfl rfl rfl (by decide +kernel) ⟨Nat.le_of_ble_eq_true rfl, Nat.le_of_ble_eq_true rfl⟩) hK hDD hA0 hP hS 0 12 wm0 rfl rfl hl.1 (Nat.le_of_ble_eq_true rfl) (dk_at dkX12_closed_3 2 rfl) (fun z30 A31 H locs hw32 hP hS => ?_)
          obtain ⟨rfl, hw32⟩ := hw32
          have ghw32 : q_X12_key4 x2 A29 z30 := hw32
          have hw32 := hw32.2
          refine tp_i (y := iI (4 * (A 0 12) + x2)) (congrArg iI (show z30 = 4 * (A 0 12) + x2 by omega)) ?_
          clear hw32
          refine lv_dup2_11 hx hb (dk_at dkX12_closed_3 3 rfl) rfl rfl ?_
          have a_A29_14 : A29 14 = A 14 := by rw [hA29]; exact rfl
          refine x_iald hx hb hK hP 14 1 wm14 rfl (by omega) (by decide) (dk_at dkX12_closed_3 4 rfl) (fun z33 hz33 => ?_)
          have rz33 : (0 : Int) ≤ z33 ∧ z33 ≤ 6 := by rw [hz33]; exact hI 14 _
          have gz33 := Hd.mk hz33
          have hz33 : z33 = A 14 (4 * (A 0 12) + x2).toNat := hz33.trans (congrFun a_A29_14 _)
          have ez33 : z33 = z20 := hz33.trans hz20.symm
          refine lv_iconst (v := iI 1) hx hb (dk_at dkX12_closed_3 5 rfl) (by decide +kernel) ?_
          refine x_addv (v := z33 + 1) hx hb (dk_at dkX12_closed_3 6 rfl) (by omega) ?_
          refine x_iast hx hb hK hP hDD hS 14 1 wm14 rfl (by omega) (by decide) (dk_at dkX12_closed_3 7 rfl) ws14 (fun H locs hP hS => ?_)
          have hI := hI.st (j := 14) (i := (4 * (A 0 12) + x2).toNat) (v := z33 + 1) (show (0 : Int) ≤ z33 + 1 ∧ z33 + 1 ≤ 6 from (by omega))
          refine lv_aload_n hx hb (dk_at dkX12_closed_3 8 rfl) rfl (lv_at hl 0 rfl) ?_
          refine va_get (D := (dC, dI)) (ci := 12) (v := .ref (q 14)) (C := RX12) (T := TX12) (N := 85) hx hb hts hiX12 hown hK hP 0 wm0 rfl 25 (by decide) (hts _ (List.mem_cons_of_mem _ wlq_2_59)) (fun _ h9 => h9) rfl (dk_at dkX12_closed_3 9 rfl) ?_
          refine lv_aload_n hx hb (dk_at dkX12_closed_3 10 rfl) rfl (lv_at hl 0 rfl) ?_
          refine lv_iload_n hx hb (dk_at dkX12_closed_3 11 rfl) rfl (lv_at hl 2 rfl) ?_
          obtain ⟨A34, hA34⟩ : ∃ A34 : St, A34 = (stA A29 14 (4 * (A 0 12) + x2).toNat (z33 + 1)) := ⟨_, rfl⟩
          rw [← hA34] at hP hI
          have e_A34_12 : A34 0 12 = (A 0 12) := by rw [hA34]; exact e_A29_12
          refine x_calli (As := [.int (iI x2)]) (rest := [.ref (q 14)]) ⟨hx, hb, hml, hown, hts⟩ (mc_X12_key4 l dC dI cB cI cJ cZ cQ q _ x2 hI hx2) (cwV 1 hts (goodV wlq_4_44 wlq_4_45 wlq_4_46 wlq_0_8 wlq_4_41) rfl rfl rfl (by decide +kernel) ⟨Nat.le_of_ble_eq_true rfl, Nat.le_of_ble_eq_true rfl⟩) hK hDD hA0 hP hS 0 12 wm0 rfl rfl hl.1 (Nat.le_of_ble_eq_true rfl) (dk_at dkX12_closed_3 12 rfl) (fun z35 A36 H locs hw37 hP hS => ?_)
          obtain ⟨rfl, hw37⟩ := hw37
          have ghw37 : q_X12_key4 x2 A34 z35 := hw37
          have hw37 := hw37.2
          refine tp_i (y := iI (4 * (A 0 12) + x2)) (congrArg iI (show z35 = 4 * (A 0 12) + x2 by omega)) ?_
          clear hw37
          refine x_iald hx hb hK hP 14 1 wm14 rfl (by omega) (by decide) (dk_at dkX12_closed_3 13 rfl) (fun z38 hz38 => ?_)
          have rz38 : (0 : Int) ≤ z38 ∧ z38 ≤ 6 := by rw [hz38]; exact hI 14 _
          have gz38 := Hd.mk hz38
          clear hz38
          exact RET z38 _ _ _ _ _ ⟨(u_r_X12_closed ⟨z1, ghw3, ⟨z4, gz4.out, (Or.inr ⟨c5, ⟨z6, ghw8, ⟨z9, ghw11, (Or.inr ⟨c12, ⟨z13, ghw15, (Or.inr ⟨c16, ⟨z17, ghw19, ⟨z20, gz20.out, (Or.inl ⟨c21, ⟨z22, ghw24, ⟨z25, ghw27, ⟨z28, gz28.out, ⟨A29, hA29, ⟨z30, ghw32, ⟨z33, gz33.out, ⟨A34, hA34, ⟨z35, ghw37, ⟨z38, gz38.out, ⟨rfl, rfl⟩⟩⟩⟩⟩⟩⟩⟩⟩⟩⟩)⟩⟩⟩)⟩⟩)⟩⟩⟩)⟩⟩), hI, fr_def hA34 (fr.st (fr_def hA29 (fr.st (fr.rf) (by decide) rfl)) (by decide) rfl), by omega⟩ hP hS (dk_at dkX12_closed_3 14 rfl)
        · have c21 : z20 = 6 := (i_eq (rb rz20 (by decide) (by decide)) ⟨by decide, by decide⟩).mp c21
          refine lv_iconst (v := iI (-1)) hx hb (dk_at dkX12_closed_1 12 rfl) (by decide +kernel) ?_
          exact RET (-1) _ _ _ _ _ ⟨(u_r_X12_closed ⟨z1, ghw3, ⟨z4, gz4.out, (Or.inr ⟨c5, ⟨z6, ghw8, ⟨z9, ghw11, (Or.inr ⟨c12, ⟨z13, ghw15, (Or.inr ⟨c16, ⟨z17, ghw19, ⟨z20, gz20.out, (Or.inr ⟨c21, ⟨rfl, rfl⟩⟩)⟩⟩⟩)⟩⟩)⟩⟩⟩)⟩⟩), hI, fr.rf, by omega⟩ hP hS (dk_at dkX12_closed_1 13 rfl)

abbrev tr_d_X12_open_2 (z : Int) (u : St) (z16 : Int) (A18 : St) : Prop := ((IM A18) ∧ ((-1 ≤ z16 ∧ z16 ≤ 9) ∧ (((¬ z16 = (-1)) ∧ (z = z16 ∧ u = A18)) ∨ ((z16 = (-1)) ∧ (∃ z22 : Int, ∃ A23 : St, q_X12_refuses 2 A18 z22 A23 ∧ (z = z22 ∧ u = A23))))))
def d_X12_open_2 (z : Int) (u : St) (z16 : Int) (A18 : St) : Prop := tr_d_X12_open_2 z u z16 A18
theorem u_d_X12_open_2 {z : Int} {u : St} {z16 : Int} {A18 : St} (h : tr_d_X12_open_2 z u z16 A18) : d_X12_open_2 z u z16 A18 := h
abbrev tr_d_X12_open_1 (A : St) (z : Int) (u : St) : Prop := (d_X12_open_2 z u (-1) A)
def d_X12_open_1 (A : St) (z : Int) (u : St) : Prop := tr_d_X12_open_1 A z u
theorem u_d_X12_open_1 {A : St} {z : Int} {u : St} (h : tr_d_X12_open_1 A z u) : d_X12_open_1 A z u := h
abbrev tr_r_X12_open (x1 : Int) (x2 : Int) (A : St) (z : Int) (u : St) : Prop := (∃ z1 : Int, q_X12_isPerson x1 A z1 ∧ (((z1 = 0) ∧ (d_X12_open_1 A z u)) ∨ ((¬ z1 = 0) ∧ (∃ z7 : Int, q_X12_isKey x2 A z7 ∧ (((z7 = 0) ∧ (d_X12_open_1 A z u)) ∨ ((¬ z7 = 0) ∧ (∃ z11 : Int, ∃ A12 : St, q_X12_opened x1 x2 A z11 A12 ∧ (d_X12_open_2 z u z11 A12))))))))
def r_X12_open (x1 : Int) (x2 : Int) (A : St) (z : Int) (u : St) : Prop := tr_r_X12_open x1 x2 A z u
theorem u_r_X12_open {x1 : Int} {x2 : Int} {A : St} {z : Int} {u : St} (h : tr_r_X12_open x1 x2 A z u) : r_X12_open x1 x2 A z u := h
def ws_mc_X12_open : List Cond := .code yX12_open cX12_open 4 (some .int) :: WX
set_option maxHeartbeats 4000000 in
set_option maxRecDepth 100000 in
theorem mc_X12_open (l : Launch) (dC : Nat → ClassId) (dI : Nat → Nat → Nat) (cB cI cJ cZ cQ : ClassId) (q : Nat → Nat) (A : St) (x1 x2 : Int) (hI : IM A) (hx1 : (-2147483648 : Int) ≤ x1 ∧ x1 ≤ 2147483647) (hx2 : (-2147483648 : Int) ≤ x2 ∧ x2 ≤ 2147483647) : XMi l yX12_open ws_mc_X12_open ({ frames := 3, cells := 0, slots := 0, locals := 66 } : Room) (dC, dI) (tyA cB cI cJ cZ cQ) (WM cI cJ cZ q) A [.ref (q 0), .int (iI x1), .int (iI x2)] (fun z u => r_X12_open x1 x2 A z u ∧ IM u ∧ fr [14, 41] [] A u ∧ (-2147483648 ≤ z ∧ z ≤ 2147483647)) := by
  refine x_meti (cc := cX12_open) (maxL := 4) WM_adr (by decide +kernel) rfl (Nat.le_of_ble_eq_true rfl) (fun p e s m below meth c Q AS ls hx hb hml hown hts hK hDD hA0 hP hS hl RET => ?_)
  have hown : s.vm.findClass RX12 = some m.cls := hown
  have hl : lv_has ls 4 [(0, .ref (q 0)), (1, .int (iI x1)), (2, .int (iI x2))] := hl
  obtain ⟨H, hHe⟩ : ∃ H : Heap, H = s.heap := ⟨_, rfl⟩
  rw [← hHe] at hP
  have hS : va_S AS s.heap H [] := by rw [hHe]; exact hS
  suffices hgo : ∀ locs : List Loc, va_S AS s.heap H locs → W p l e (headSpec ws_mc_X12_open ({ frames := 3, cells := 0, slots := 0, locals := 66 } : Room)).room s m [.ref (q 0), .int (iI x1), .int (iI x2)].toArray below meth c H locs 0 0 Q (F0 m 0 ls []) by
    have := hgo [] hS
    rw [hHe] at this
    exact this
  clear hS hHe
  intro locs hS
  refine lv_aload_n hx hb (dk_at dkX12_open_0 0 rfl) rfl (lv_at hl 0 rfl) ?_
  refine lv_iload_n hx hb (dk_at dkX12_open_0 1 rfl) rfl (lv_at hl 1 rfl) ?_
  have r_A_0_12 : (0 : Int) ≤ (A 0 12) ∧ (A 0 12) ≤ 1 := hI 0 12
  refine x_calli (As := [.int (iI x1)]) (rest := []) ⟨hx, hb, hml, hown, hts⟩ (mc_X12_isPersonB l dC dI cB cI cJ cZ cQ q _ x1 hI hx1) (cwV 1 hts (goodV wlq_5_55 wlq_5_56 wlq_5_57 wlq_0_8 wlq_4_40) rfl rfl rfl (by decide +kernel) ⟨Nat.le_of_ble_eq_true rfl, Nat.le_of_ble_eq_true rfl⟩) hK hDD hA0 hP hS 0 12 wm0 rfl rfl hl.1 (Nat.le_of_ble_eq_true rfl) (dk_at dkX12_open_0 2 rfl) (fun z1 A2 H locs hw3 hP hS => ?_)
  obtain ⟨rfl, hw3⟩ := hw3
  have ghw3 : q_X12_isPerson x1 A z1 := hw3
  have hw3 := hw3.2
  have rz1 : 0 ≤ z1 ∧ z1 ≤ 1 := hw3.1
  have J26_6 : ∀ (z16 : Int) (A18 : St) (H : Heap) (locs : List Loc) (ls : Array Slot), (-1 ≤ z16 ∧ z16 ≤ 9) → (∀ (z : Int) (u : St), (d_X12_open_2 z u z16 A18) → r_X12_open x1 x2 A z u) → IM A18 → fr [14] [] A A18 → va_P (dC, dI) vwCl (WM cI cJ cZ q A18) H → va_S AS s.heap H locs → lv_has ls 4 [(0, .ref (q 0)), (1, .int (iI x1)), (2, .int (iI x2))] → W p l e (headSpec ws_mc_X12_open ({ frames := 3, cells := 0, slots := 0, locals := 66 } : Room)).room s m [.ref (q 0), .int (iI x1), .int (iI x2)].toArray below meth c H locs 0 0 Q (F0 m 26 ls [.int (iI z16)]) := by
    intro z16 A18 H locs ls f19 hk2 hI hj17 hP hS hl
    have gI20 : Hd (IM A18) := Hd.mk hI
    clear hw3
    refine lv_istore_n (lv' := [(3, .int (iI z16)), (0, .ref (q 0)), (1, .int (iI x1)), (2, .int (iI x2))]) hx hb (dk_at dkX12_open_0 14 rfl) rfl hl (by decide) rfl (fun ls hl => ?_)
    refine lv_iload_n hx hb (dk_at dkX12_open_0 15 rfl) rfl (lv_at hl 0 rfl) ?_
    refine lv_iconst (v := iI (-1)) hx hb (dk_at dkX12_open_1 0 rfl) (by decide +kernel) ?_
    refine lv_icmp_ne (tgt := 40) hx hb (dk_at dkX12_open_1 1 rfl) (by decide) (fun c21 => ?_) (fun c21 => ?_)
    · have c21 : ¬ z16 = (-1) := mt (i_eq (rb f19 (by decide) (by decide)) ⟨by decide, by decide⟩).mpr c21
      refine lv_iload_n hx hb (dk_at dkX12_open_1 6 rfl) rfl (lv_at hl 0 rfl) ?_
      exact RET z16 _ _ _ _ _ ⟨hk2 _ _ (u_d_X12_open_2 ⟨gI20.out, ⟨f19, (Or.inl ⟨c21, ⟨rfl, rfl⟩⟩)⟩⟩), hI, fr.trans (fr.rf) hj17 rfl rfl, by omega⟩ hP hS (dk_at dkX12_open_1 7 rfl)
    · have c21 : z16 = (-1) := (i_eq (rb f19 (by decide) (by decide)) ⟨by decide, by decide⟩).mp c21
      refine lv_aload_n hx hb (dk_at dkX12_open_1 2 rfl) rfl (lv_at hl 1 rfl) ?_
      refine lv_iconst (v := iI 2) hx hb (dk_at dkX12_open_1 3 rfl) (by decide +kernel) ?_
      refine x_calli (As := [.int (iI 2)]) (rest := []) ⟨hx, hb, hml, hown, hts⟩ (mc_X12_refuses l dC dI cB cI cJ cZ cQ q _ 2 hI ⟨by decide, by decide⟩) (cwV 1 hts (goodV wlq_0_5 wlq_0_6 wlq_0_7 wlq_0_8 wlq_0_9) rfl rfl rfl (by decide +kernel) ⟨Nat.le_of_ble_eq_true rfl, Nat.le_of_ble_eq_true rfl⟩) hK hDD hA0 hP hS 0 12 wm0 rfl rfl hl.1 (Nat.le_of_ble_eq_true rfl) (dk_at dkX12_open_1 4 rfl) (fun z22 A23 H locs hw24 hP hS => ?_)
      have ghw24 : q_X12_refuses 2 A18 z22 A23 := hw24
      obtain ⟨_, hI, hf25, hw24⟩ := hw24
      refine lv_goto (tgt := 41) hx hb (dk_at dkX12_open_1 5 rfl) (by decide) ?_
      exact RET z22 _ _ _ _ _ ⟨hk2 _ _ (u_d_X12_open_2 ⟨gI20.out, ⟨f19, (Or.inr ⟨c21, ⟨z22, A23, ghw24, ⟨rfl, rfl⟩⟩⟩)⟩⟩), hI, fr.trans (fr.trans (fr.rf) hj17 rfl rfl) hf25 rfl rfl, by omega⟩ hP hS (dk_at dkX12_open_1 7 rfl)
  have J25_5 : ∀ (H : Heap) (locs : List Loc) (ls : Array Slot), (∀ (z : Int) (u : St), (d_X12_open_1 A z u) → r_X12_open x1 x2 A z u) → va_P (dC, dI) vwCl (WM cI cJ cZ q A) H → va_S AS s.heap H locs → lv_has ls 4 [(0, .ref (q 0)), (1, .int (iI x1)), (2, .int (iI x2))] → W p l e (headSpec ws_mc_X12_open ({ frames := 3, cells := 0, slots := 0, locals := 66 } : Room)).room s m [.ref (q 0), .int (iI x1), .int (iI x2)].toArray below meth c H locs 0 0 Q (F0 m 25 ls []) := by
    intro H locs ls hk1 hP hS hl
    clear hw3
    refine lv_iconst (v := iI (-1)) hx hb (dk_at dkX12_open_0 13 rfl) (by decide +kernel) ?_
    exact J26_6 (-1) _ _ _ _ (by omega) (fun zq uq hq => hk1 _ _ (u_d_X12_open_1 hq)) hI (fr.rf) hP hS (lv_sub hl [0, 1, 2] rfl)
  refine lv_if_eq (tgt := 25) hx hb (dk_at dkX12_open_0 3 rfl) (by decide) (fun c4 => ?_) (fun c4 => ?_)
  · have c4 : z1 = 0 := (i_eq0 (rb rz1 (by decide) (by decide))).mp c4
    clear hw3
    exact J25_5 _ _ _ (fun zq uq hq => (u_r_X12_open ⟨z1, ghw3, (Or.inl ⟨c4, hq⟩)⟩)) hP hS (lv_sub hl [0, 1, 2] rfl)
  · have c4 : ¬ z1 = 0 := mt (i_eq0 (rb rz1 (by decide) (by decide))).mpr c4
    have hw3b := hw3.2.mp (by omega)
    clear hw3
    refine lv_aload_n hx hb (dk_at dkX12_open_0 4 rfl) rfl (lv_at hl 0 rfl) ?_
    refine lv_iload_n hx hb (dk_at dkX12_open_0 5 rfl) rfl (lv_at hl 2 rfl) ?_
    refine x_calli (As := [.int (iI x2)]) (rest := []) ⟨hx, hb, hml, hown, hts⟩ (mc_X12_isKeyB l dC dI cB cI cJ cZ cQ q _ x2 hI hx2) (cwV 1 hts (goodV wlq_5_18 wlq_5_19 wlq_5_20 wlq_0_8 wlq_4_39) rfl rfl rfl (by decide +kernel) ⟨Nat.le_of_ble_eq_true rfl, Nat.le_of_ble_eq_true rfl⟩) hK hDD hA0 hP hS 0 12 wm0 rfl rfl hl.1 (Nat.le_of_ble_eq_true rfl) (dk_at dkX12_open_0 6 rfl) (fun z7 A8 H locs hw9 hP hS => ?_)
    obtain ⟨rfl, hw9⟩ := hw9
    have ghw9 : q_X12_isKey x2 A z7 := hw9
    have hw9 := hw9.2
    have rz7 : 0 ≤ z7 ∧ z7 ≤ 1 := hw9.1
    refine lv_if_eq (tgt := 25) hx hb (dk_at dkX12_open_0 7 rfl) (by decide) (fun c10 => ?_) (fun c10 => ?_)
    · have c10 : z7 = 0 := (i_eq0 (rb rz7 (by decide) (by decide))).mp c10
      clear hw9
      exact J25_5 _ _ _ (fun zq uq hq => (u_r_X12_open ⟨z1, ghw3, (Or.inr ⟨c4, ⟨z7, ghw9, (Or.inl ⟨c10, hq⟩)⟩⟩)⟩)) hP hS (lv_sub hl [0, 1, 2] rfl)
    · have c10 : ¬ z7 = 0 := mt (i_eq0 (rb rz7 (by decide) (by decide))).mpr c10
      have hw9b := hw9.2.mp (by omega)
      clear hw9
      refine lv_aload_n hx hb (dk_at dkX12_open_0 8 rfl) rfl (lv_at hl 0 rfl) ?_
      refine lv_iload_n hx hb (dk_at dkX12_open_0 9 rfl) rfl (lv_at hl 1 rfl) ?_
      refine lv_iload_n hx hb (dk_at dkX12_open_0 10 rfl) rfl (lv_at hl 2 rfl) ?_
      refine x_calli (As := [.int (iI x1), .int (iI x2)]) (rest := []) ⟨hx, hb, hml, hown, hts⟩ (mc_X12_opened l dC dI cB cI cJ cZ cQ q _ x1 x2 hI (by omega) (by omega)) (cwV 2 hts (goodV wlq_6_2 wlq_6_3 wlq_6_4 wlq_0_8 wlq_5_52) rfl rfl rfl (by decide +kernel) ⟨Nat.le_of_ble_eq_true rfl, Nat.le_of_ble_eq_true rfl⟩) hK hDD hA0 hP hS 0 12 wm0 rfl rfl hl.1 (Nat.le_of_ble_eq_true rfl) (dk_at dkX12_open_0 11 rfl) (fun z11 A12 H locs hw13 hP hS => ?_)
      have ghw13 : q_X12_opened x1 x2 A z11 A12 := hw13
      obtain ⟨_, hI, hf14, hw13⟩ := hw13
      refine lv_goto (tgt := 26) hx hb (dk_at dkX12_open_0 12 rfl) (by decide) ?_
      exact J26_6 z11 _ _ _ _ (by omega) (fun zq uq hq => (u_r_X12_open ⟨z1, ghw3, (Or.inr ⟨c4, ⟨z7, ghw9, (Or.inr ⟨c10, ⟨z11, A12, ghw13, hq⟩⟩)⟩⟩)⟩)) hI (fr.trans (fr.rf) hf14 rfl rfl) hP hS (lv_sub hl [0, 1, 2] rfl)

abbrev tr_d_X12_shut_2 (z : Int) (u : St) (z20 : Int) (A22 : St) : Prop := ((IM A22) ∧ ((-2147483648 ≤ z20 ∧ z20 ≤ 2147483647) ∧ (((¬ z20 = (-1)) ∧ (z = z20 ∧ u = A22)) ∨ ((z20 = (-1)) ∧ (∃ z26 : Int, ∃ A27 : St, q_X12_refuses 2 A22 z26 A27 ∧ (z = z26 ∧ u = A27))))))
def d_X12_shut_2 (z : Int) (u : St) (z20 : Int) (A22 : St) : Prop := tr_d_X12_shut_2 z u z20 A22
theorem u_d_X12_shut_2 {z : Int} {u : St} {z20 : Int} {A22 : St} (h : tr_d_X12_shut_2 z u z20 A22) : d_X12_shut_2 z u z20 A22 := h
abbrev tr_d_X12_shut_1 (A : St) (z : Int) (u : St) : Prop := (d_X12_shut_2 z u (-1) A)
def d_X12_shut_1 (A : St) (z : Int) (u : St) : Prop := tr_d_X12_shut_1 A z u
theorem u_d_X12_shut_1 {A : St} {z : Int} {u : St} (h : tr_d_X12_shut_1 A z u) : d_X12_shut_1 A z u := h
abbrev tr_r_X12_shut (x1 : Int) (x2 : Int) (x3 : Int) (A : St) (z : Int) (u : St) : Prop := (∃ z1 : Int, q_X12_isPerson x1 A z1 ∧ (((z1 = 0) ∧ (d_X12_shut_1 A z u)) ∨ ((¬ z1 = 0) ∧ (∃ z7 : Int, q_X12_isKey x2 A z7 ∧ (((z7 = 0) ∧ (d_X12_shut_1 A z u)) ∨ ((¬ z7 = 0) ∧ (∃ z11 : Int, q_X12_isDoor x3 A z11 ∧ (((z11 = 0) ∧ (d_X12_shut_1 A z u)) ∨ ((¬ z11 = 0) ∧ (∃ z15 : Int, ∃ A16 : St, q_X12_closed x1 x2 x3 A z15 A16 ∧ (d_X12_shut_2 z u z15 A16)))))))))))
def r_X12_shut (x1 : Int) (x2 : Int) (x3 : Int) (A : St) (z : Int) (u : St) : Prop := tr_r_X12_shut x1 x2 x3 A z u
theorem u_r_X12_shut {x1 : Int} {x2 : Int} {x3 : Int} {A : St} {z : Int} {u : St} (h : tr_r_X12_shut x1 x2 x3 A z u) : r_X12_shut x1 x2 x3 A z u := h
def ws_mc_X12_shut : List Cond := .code yX12_shut cX12_shut 5 (some .int) :: WX
set_option maxHeartbeats 4000000 in
set_option maxRecDepth 100000 in
theorem mc_X12_shut (l : Launch) (dC : Nat → ClassId) (dI : Nat → Nat → Nat) (cB cI cJ cZ cQ : ClassId) (q : Nat → Nat) (A : St) (x1 x2 x3 : Int) (hI : IM A) (hx1 : (-2147483648 : Int) ≤ x1 ∧ x1 ≤ 2147483647) (hx2 : (-2147483648 : Int) ≤ x2 ∧ x2 ≤ 2147483647) (hx3 : (-2147483648 : Int) ≤ x3 ∧ x3 ≤ 2147483647) : XMi l yX12_shut ws_mc_X12_shut ({ frames := 3, cells := 0, slots := 0, locals := 68 } : Room) (dC, dI) (tyA cB cI cJ cZ cQ) (WM cI cJ cZ q) A [.ref (q 0), .int (iI x1), .int (iI x2), .int (iI x3)] (fun z u => r_X12_shut x1 x2 x3 A z u ∧ IM u ∧ fr [14, 15, 41] [] A u ∧ (-2147483648 ≤ z ∧ z ≤ 2147483647)) := by
  refine x_meti (cc := cX12_shut) (maxL := 5) WM_adr (by decide +kernel) rfl (Nat.le_of_ble_eq_true rfl) (fun p e s m below meth c Q AS ls hx hb hml hown hts hK hDD hA0 hP hS hl RET => ?_)
  have hown : s.vm.findClass RX12 = some m.cls := hown
  have hl : lv_has ls 5 [(0, .ref (q 0)), (1, .int (iI x1)), (2, .int (iI x2)), (3, .int (iI x3))] := hl
  obtain ⟨H, hHe⟩ : ∃ H : Heap, H = s.heap := ⟨_, rfl⟩
  rw [← hHe] at hP
  have hS : va_S AS s.heap H [] := by rw [hHe]; exact hS
  suffices hgo : ∀ locs : List Loc, va_S AS s.heap H locs → W p l e (headSpec ws_mc_X12_shut ({ frames := 3, cells := 0, slots := 0, locals := 68 } : Room)).room s m [.ref (q 0), .int (iI x1), .int (iI x2), .int (iI x3)].toArray below meth c H locs 0 0 Q (F0 m 0 ls []) by
    have := hgo [] hS
    rw [hHe] at this
    exact this
  clear hS hHe
  intro locs hS
  refine lv_aload_n hx hb (dk_at dkX12_shut_0 0 rfl) rfl (lv_at hl 0 rfl) ?_
  refine lv_iload_n hx hb (dk_at dkX12_shut_0 1 rfl) rfl (lv_at hl 1 rfl) ?_
  have r_A_0_12 : (0 : Int) ≤ (A 0 12) ∧ (A 0 12) ≤ 1 := hI 0 12
  refine x_calli (As := [.int (iI x1)]) (rest := []) ⟨hx, hb, hml, hown, hts⟩ (mc_X12_isPersonB l dC dI cB cI cJ cZ cQ q _ x1 hI hx1) (cwV 1 hts (goodV wlq_5_55 wlq_5_56 wlq_5_57 wlq_0_8 wlq_4_40) rfl rfl rfl (by decide +kernel) ⟨Nat.le_of_ble_eq_true rfl, Nat.le_of_ble_eq_true rfl⟩) hK hDD hA0 hP hS 0 12 wm0 rfl rfl hl.1 (Nat.le_of_ble_eq_true rfl) (dk_at dkX12_shut_0 2 rfl) (fun z1 A2 H locs hw3 hP hS => ?_)
  obtain ⟨rfl, hw3⟩ := hw3
  have ghw3 : q_X12_isPerson x1 A z1 := hw3
  have hw3 := hw3.2
  have rz1 : 0 ≤ z1 ∧ z1 ≤ 1 := hw3.1
  have J35_6 : ∀ (z20 : Int) (A22 : St) (H : Heap) (locs : List Loc) (ls : Array Slot), (-2147483648 ≤ z20 ∧ z20 ≤ 2147483647) → (∀ (z : Int) (u : St), (d_X12_shut_2 z u z20 A22) → r_X12_shut x1 x2 x3 A z u) → IM A22 → fr [14, 15] [] A A22 → va_P (dC, dI) vwCl (WM cI cJ cZ q A22) H → va_S AS s.heap H locs → lv_has ls 5 [(0, .ref (q 0)), (1, .int (iI x1)), (2, .int (iI x2)), (3, .int (iI x3))] → W p l e (headSpec ws_mc_X12_shut ({ frames := 3, cells := 0, slots := 0, locals := 68 } : Room)).room s m [.ref (q 0), .int (iI x1), .int (iI x2), .int (iI x3)].toArray below meth c H locs 0 0 Q (F0 m 35 ls [.int (iI z20)]) := by
    intro z20 A22 H locs ls f23 hk2 hI hj21 hP hS hl
    have gI24 : Hd (IM A22) := Hd.mk hI
    clear hw3
    refine lv_istore (lv' := [(4, .int (iI z20)), (0, .ref (q 0)), (1, .int (iI x1)), (2, .int (iI x2)), (3, .int (iI x3))]) hx hb (dk_at dkX12_shut_1 3 rfl) hl (by decide) rfl (fun ls hl => ?_)
    refine lv_iload hx hb (dk_at dkX12_shut_1 4 rfl) (lv_at hl 0 rfl) ?_
    refine lv_iconst (v := iI (-1)) hx hb (dk_at dkX12_shut_1 5 rfl) (by decide +kernel) ?_
    refine lv_icmp_ne (tgt := 51) hx hb (dk_at dkX12_shut_1 6 rfl) (by decide) (fun c25 => ?_) (fun c25 => ?_)
    · have c25 : ¬ z20 = (-1) := mt (i_eq f23 ⟨by decide, by decide⟩).mpr c25
      refine lv_iload hx hb (dk_at dkX12_shut_1 11 rfl) (lv_at hl 0 rfl) ?_
      exact RET z20 _ _ _ _ _ ⟨hk2 _ _ (u_d_X12_shut_2 ⟨gI24.out, ⟨f23, (Or.inl ⟨c25, ⟨rfl, rfl⟩⟩)⟩⟩), hI, fr.trans (fr.rf) hj21 rfl rfl, by omega⟩ hP hS (dk_at dkX12_shut_1 12 rfl)
    · have c25 : z20 = (-1) := (i_eq f23 ⟨by decide, by decide⟩).mp c25
      refine lv_aload_n hx hb (dk_at dkX12_shut_1 7 rfl) rfl (lv_at hl 1 rfl) ?_
      refine lv_iconst (v := iI 2) hx hb (dk_at dkX12_shut_1 8 rfl) (by decide +kernel) ?_
      refine x_calli (As := [.int (iI 2)]) (rest := []) ⟨hx, hb, hml, hown, hts⟩ (mc_X12_refuses l dC dI cB cI cJ cZ cQ q _ 2 hI ⟨by decide, by decide⟩) (cwV 1 hts (goodV wlq_0_5 wlq_0_6 wlq_0_7 wlq_0_8 wlq_0_9) rfl rfl rfl (by decide +kernel) ⟨Nat.le_of_ble_eq_true rfl, Nat.le_of_ble_eq_true rfl⟩) hK hDD hA0 hP hS 0 12 wm0 rfl rfl hl.1 (Nat.le_of_ble_eq_true rfl) (dk_at dkX12_shut_1 9 rfl) (fun z26 A27 H locs hw28 hP hS => ?_)
      have ghw28 : q_X12_refuses 2 A22 z26 A27 := hw28
      obtain ⟨_, hI, hf29, hw28⟩ := hw28
      refine lv_goto (tgt := 53) hx hb (dk_at dkX12_shut_1 10 rfl) (by decide) ?_
      exact RET z26 _ _ _ _ _ ⟨hk2 _ _ (u_d_X12_shut_2 ⟨gI24.out, ⟨f23, (Or.inr ⟨c25, ⟨z26, A27, ghw28, ⟨rfl, rfl⟩⟩⟩)⟩⟩), hI, fr.trans (fr.trans (fr.rf) hj21 rfl rfl) hf29 rfl rfl, by omega⟩ hP hS (dk_at dkX12_shut_1 12 rfl)
  have J34_5 : ∀ (H : Heap) (locs : List Loc) (ls : Array Slot), (∀ (z : Int) (u : St), (d_X12_shut_1 A z u) → r_X12_shut x1 x2 x3 A z u) → va_P (dC, dI) vwCl (WM cI cJ cZ q A) H → va_S AS s.heap H locs → lv_has ls 5 [(0, .ref (q 0)), (1, .int (iI x1)), (2, .int (iI x2)), (3, .int (iI x3))] → W p l e (headSpec ws_mc_X12_shut ({ frames := 3, cells := 0, slots := 0, locals := 68 } : Room)).room s m [.ref (q 0), .int (iI x1), .int (iI x2), .int (iI x3)].toArray below meth c H locs 0 0 Q (F0 m 34 ls []) := by
    intro H locs ls hk1 hP hS hl
    clear hw3
    refine lv_iconst (v := iI (-1)) hx hb (dk_at dkX12_shut_1 2 rfl) (by decide +kernel) ?_
    exact J35_6 (-1) _ _ _ _ (by omega) (fun zq uq hq => hk1 _ _ (u_d_X12_shut_1 hq)) hI (fr.rf) hP hS (lv_sub hl [0, 1, 2, 3] rfl)
  refine lv_if_eq (tgt := 34) hx hb (dk_at dkX12_shut_0 3 rfl) (by decide) (fun c4 => ?_) (fun c4 => ?_)
  · have c4 : z1 = 0 := (i_eq0 (rb rz1 (by decide) (by decide))).mp c4
    clear hw3
    exact J34_5 _ _ _ (fun zq uq hq => (u_r_X12_shut ⟨z1, ghw3, (Or.inl ⟨c4, hq⟩)⟩)) hP hS (lv_sub hl [0, 1, 2, 3] rfl)
  · have c4 : ¬ z1 = 0 := mt (i_eq0 (rb rz1 (by decide) (by decide))).mpr c4
    have hw3b := hw3.2.mp (by omega)
    clear hw3
    refine lv_aload_n hx hb (dk_at dkX12_shut_0 4 rfl) rfl (lv_at hl 0 rfl) ?_
    refine lv_iload_n hx hb (dk_at dkX12_shut_0 5 rfl) rfl (lv_at hl 2 rfl) ?_
    refine x_calli (As := [.int (iI x2)]) (rest := []) ⟨hx, hb, hml, hown, hts⟩ (mc_X12_isKeyB l dC dI cB cI cJ cZ cQ q _ x2 hI hx2) (cwV 1 hts (goodV wlq_5_18 wlq_5_19 wlq_5_20 wlq_0_8 wlq_4_39) rfl rfl rfl (by decide +kernel) ⟨Nat.le_of_ble_eq_true rfl, Nat.le_of_ble_eq_true rfl⟩) hK hDD hA0 hP hS 0 12 wm0 rfl rfl hl.1 (Nat.le_of_ble_eq_true rfl) (dk_at dkX12_shut_0 6 rfl) (fun z7 A8 H locs hw9 hP hS => ?_)
    obtain ⟨rfl, hw9⟩ := hw9
    have ghw9 : q_X12_isKey x2 A z7 := hw9
    have hw9 := hw9.2
    have rz7 : 0 ≤ z7 ∧ z7 ≤ 1 := hw9.1
    refine lv_if_eq (tgt := 34) hx hb (dk_at dkX12_shut_0 7 rfl) (by decide) (fun c10 => ?_) (fun c10 => ?_)
    · have c10 : z7 = 0 := (i_eq0 (rb rz7 (by decide) (by decide))).mp c10
      clear hw9
      exact J34_5 _ _ _ (fun zq uq hq => (u_r_X12_shut ⟨z1, ghw3, (Or.inr ⟨c4, ⟨z7, ghw9, (Or.inl ⟨c10, hq⟩)⟩⟩)⟩)) hP hS (lv_sub hl [0, 1, 2, 3] rfl)
    · have c10 : ¬ z7 = 0 := mt (i_eq0 (rb rz7 (by decide) (by decide))).mpr c10
      have hw9b := hw9.2.mp (by omega)
      clear hw9
      refine lv_aload_n hx hb (dk_at dkX12_shut_0 8 rfl) rfl (lv_at hl 0 rfl) ?_
      refine lv_iload_n hx hb (dk_at dkX12_shut_0 9 rfl) rfl (lv_at hl 3 rfl) ?_
      refine x_calli (As := [.int (iI x3)]) (rest := []) ⟨hx, hb, hml, hown, hts⟩ (mc_X12_isDoorB l dC dI cB cI cJ cZ cQ q _ x3 hI hx3) (cwV 1 hts (goodV wlq_5_14 wlq_5_15 wlq_5_16 wlq_0_8 wlq_4_38) rfl rfl rfl (by decide +kernel) ⟨Nat.le_of_ble_eq_true rfl, Nat.le_of_ble_eq_true rfl⟩) hK hDD hA0 hP hS 0 12 wm0 rfl rfl hl.1 (Nat.le_of_ble_eq_true rfl) (dk_at dkX12_shut_0 10 rfl) (fun z11 A12 H locs hw13 hP hS => ?_)
      obtain ⟨rfl, hw13⟩ := hw13
      have ghw13 : q_X12_isDoor x3 A z11 := hw13
      have hw13 := hw13.2
      have rz11 : 0 ≤ z11 ∧ z11 ≤ 1 := hw13.1
      refine lv_if_eq (tgt := 34) hx hb (dk_at dkX12_shut_0 11 rfl) (by decide) (fun c14 => ?_) (fun c14 => ?_)
      · have c14 : z11 = 0 := (i_eq0 (rb rz11 (by decide) (by decide))).mp c14
        clear hw13
        exact J34_5 _ _ _ (fun zq uq hq => (u_r_X12_shut ⟨z1, ghw3, (Or.inr ⟨c4, ⟨z7, ghw9, (Or.inr ⟨c10, ⟨z11, ghw13, (Or.inl ⟨c14, hq⟩)⟩⟩)⟩⟩)⟩)) hP hS (lv_sub hl [0, 1, 2, 3] rfl)
      · have c14 : ¬ z11 = 0 := mt (i_eq0 (rb rz11 (by decide) (by decide))).mpr c14
        have hw13b := hw13.2.mp (by omega)
        clear hw13
        refine lv_aload_n hx hb (dk_at dkX12_shut_0 12 rfl) rfl (lv_at hl 0 rfl) ?_
        refine lv_iload_n hx hb (dk_at dkX12_shut_0 13 rfl) rfl (lv_at hl 1 rfl) ?_
        refine lv_iload_n hx hb (dk_at dkX12_shut_0 14 rfl) rfl (lv_at hl 2 rfl) ?_
        refine lv_iload_n hx hb (dk_at dkX12_shut_0 15 rfl) rfl (lv_at hl 3 rfl) ?_
        refine x_calli (As := [.int (iI x1), .int (iI x2), .int (iI x3)]) (rest := []) ⟨hx, hb, hml, hown, hts⟩ (mc_X12_closed l dC dI cB cI cJ cZ cQ q _ x1 x2 x3 hI (by omega) (by omega) (by omega)) (cwV 3 hts (goodV wlq_6_6 wlq_6_7 wlq_6_8 wlq_0_8 wlq_5_53) rfl rfl rfl (by decide +kernel) ⟨Nat.le_of_ble_eq_true rfl, Nat.le_of_ble_eq_true rfl⟩) hK hDD hA0 hP hS 0 12 wm0 rfl rfl hl.1 (Nat.le_of_ble_eq_true rfl) (dk_at dkX12_shut_1 0 rfl) (fun z15 A16 H locs hw17 hP hS => ?_)
        have ghw17 : q_X12_closed x1 x2 x3 A z15 A16 := hw17
        obtain ⟨_, hI, hf18, hw17⟩ := hw17
        refine lv_goto (tgt := 35) hx hb (dk_at dkX12_shut_1 1 rfl) (by decide) ?_
        exact J35_6 z15 _ _ _ _ (by omega) (fun zq uq hq => (u_r_X12_shut ⟨z1, ghw3, (Or.inr ⟨c4, ⟨z7, ghw9, (Or.inr ⟨c10, ⟨z11, ghw13, (Or.inr ⟨c14, ⟨z15, A16, ghw17, hq⟩⟩)⟩⟩)⟩⟩)⟩)) hI (fr.trans (fr.rf) hf18 rfl rfl) hP hS (lv_sub hl [0, 1, 2, 3] rfl)

abbrev tr_d_X12_lend_3 (A : St) (z : Int) (u : St) : Prop := (∃ z40 : Int, ∃ A41 : St, q_X12_refuses 3 A z40 A41 ∧ (z = 0 ∧ u = A41))
def d_X12_lend_3 (A : St) (z : Int) (u : St) : Prop := tr_d_X12_lend_3 A z u
theorem u_d_X12_lend_3 {A : St} {z : Int} {u : St} (h : tr_d_X12_lend_3 A z u) : d_X12_lend_3 A z u := h
abbrev tr_d_X12_lend_2 (x1 : Int) (x2 : Int) (x3 : Int) (A : St) (z : Int) (u : St) (z17 : Int) : Prop := ((0 ≤ z17 ∧ z17 ≤ 1) ∧ (((z17 = 0) ∧ (d_X12_lend_3 A z u)) ∨ ((¬ z17 = 0) ∧ (∃ z24 : Int, q_X12_key4 x2 A z24 ∧ (∃ z27 : Int, z27 = A 13 (4 * (A 0 12) + x2).toNat ∧ (((¬ z27 = x1) ∧ (d_X12_lend_3 A z u)) ∨ ((z27 = x1) ∧ (∃ z29 : Int, q_X12_placeOf x1 A z29 ∧ (∃ z32 : Int, q_X12_placeOf x3 A z32 ∧ (((z29 = z32) ∧ (∃ z36 : Int, q_X12_key4 x2 A z36 ∧ (z = 1 ∧ u = (stA A 13 (4 * (A 0 12) + x2).toNat x3)))) ∨ ((¬ z29 = z32) ∧ (d_X12_lend_3 A z u))))))))))))
def d_X12_lend_2 (x1 : Int) (x2 : Int) (x3 : Int) (A : St) (z : Int) (u : St) (z17 : Int) : Prop := tr_d_X12_lend_2 x1 x2 x3 A z u z17
theorem u_d_X12_lend_2 {x1 : Int} {x2 : Int} {x3 : Int} {A : St} {z : Int} {u : St} {z17 : Int} (h : tr_d_X12_lend_2 x1 x2 x3 A z u z17) : d_X12_lend_2 x1 x2 x3 A z u z17 := h
abbrev tr_d_X12_lend_1 (x1 : Int) (x2 : Int) (x3 : Int) (A : St) (z : Int) (u : St) : Prop := (d_X12_lend_2 x1 x2 x3 A z u 0)
def d_X12_lend_1 (x1 : Int) (x2 : Int) (x3 : Int) (A : St) (z : Int) (u : St) : Prop := tr_d_X12_lend_1 x1 x2 x3 A z u
theorem u_d_X12_lend_1 {x1 : Int} {x2 : Int} {x3 : Int} {A : St} {z : Int} {u : St} (h : tr_d_X12_lend_1 x1 x2 x3 A z u) : d_X12_lend_1 x1 x2 x3 A z u := h
abbrev tr_r_X12_lend (x1 : Int) (x2 : Int) (x3 : Int) (A : St) (z : Int) (u : St) : Prop := (∃ z1 : Int, q_X12_isPerson x1 A z1 ∧ (((z1 = 0) ∧ (d_X12_lend_1 x1 x2 x3 A z u)) ∨ ((¬ z1 = 0) ∧ (∃ z7 : Int, q_X12_isKey x2 A z7 ∧ (((z7 = 0) ∧ (d_X12_lend_1 x1 x2 x3 A z u)) ∨ ((¬ z7 = 0) ∧ (∃ z11 : Int, q_X12_isPerson x3 A z11 ∧ (((z11 = 0) ∧ (d_X12_lend_1 x1 x2 x3 A z u)) ∨ ((¬ z11 = 0) ∧ (((x1 = x3) ∧ (d_X12_lend_1 x1 x2 x3 A z u)) ∨ ((¬ x1 = x3) ∧ (d_X12_lend_2 x1 x2 x3 A z u 1))))))))))))
def r_X12_lend (x1 : Int) (x2 : Int) (x3 : Int) (A : St) (z : Int) (u : St) : Prop := tr_r_X12_lend x1 x2 x3 A z u
theorem u_r_X12_lend {x1 : Int} {x2 : Int} {x3 : Int} {A : St} {z : Int} {u : St} (h : tr_r_X12_lend x1 x2 x3 A z u) : r_X12_lend x1 x2 x3 A z u := h
def ws_mc_X12_lend : List Cond := .code yX12_lend cX12_lend 5 (some .boolean) :: WX
set_option maxHeartbeats 4000000 in
set_option maxRecDepth 100000 in
theorem mc_X12_lend (l : Launch) (dC : Nat → ClassId) (dI : Nat → Nat → Nat) (cB cI cJ cZ cQ : ClassId) (q : Nat → Nat) (A : St) (x1 x2 x3 : Int) (hI : IM A) (hx1 : (-2147483648 : Int) ≤ x1 ∧ x1 ≤ 2147483647) (hx2 : (-2147483648 : Int) ≤ x2 ∧ x2 ≤ 2147483647) (hx3 : (-2147483648 : Int) ≤ x3 ∧ x3 ≤ 2147483647) : XMi l yX12_lend ws_mc_X12_lend ({ frames := 2, cells := 0, slots := 0, locals := 43 } : Room) (dC, dI) (tyA cB cI cJ cZ cQ) (WM cI cJ cZ q) A [.ref (q 0), .int (iI x1), .int (iI x2), .int (iI x3)] (fun z u => r_X12_lend x1 x2 x3 A z u ∧ IM u ∧ fr [13, 41] [] A u ∧ (0 ≤ z ∧ z ≤ 1)) := by
  refine x_metz (cc := cX12_lend) (maxL := 5) WM_adr (by decide +kernel) rfl (Nat.le_of_ble_eq_true rfl) (fun z u h => h.2.2.2) (fun p e s m below meth c Q AS ls hx hb hml hown hts hK hDD hA0 hP hS hl RET => ?_)
  have hown : s.vm.findClass RX12 = some m.cls := hown
  have hl : lv_has ls 5 [(0, .ref (q 0)), (1, .int (iI x1)), (2, .int (iI x2)), (3, .int (iI x3))] := hl
  have hiX12 : ∀ w ∈ u_ws RX12 TX12 85, w ∈ ws_mc_X12_lend := fun w h => List.mem_cons_of_mem _ (wx_lay w h)
  obtain ⟨H, hHe⟩ : ∃ H : Heap, H = s.heap := ⟨_, rfl⟩
  rw [← hHe] at hP
  have hS : va_S AS s.heap H [] := by rw [hHe]; exact hS
  suffices hgo : ∀ locs : List Loc, va_S AS s.heap H locs → W p l e (headSpec ws_mc_X12_lend ({ frames := 2, cells := 0, slots := 0, locals := 43 } : Room)).room s m [.ref (q 0), .int (iI x1), .int (iI x2), .int (iI x3)].toArray below meth c H locs 0 0 Q (F0 m 0 ls []) by
    have := hgo [] hS
    rw [hHe] at this
    exact this
  clear hS hHe
  intro locs hS
  refine lv_aload_n hx hb (dk_at dkX12_lend_0 0 rfl) rfl (lv_at hl 0 rfl) ?_
  refine lv_iload_n hx hb (dk_at dkX12_lend_0 1 rfl) rfl (lv_at hl 1 rfl) ?_
  have r_A_0_12 : (0 : Int) ≤ (A 0 12) ∧ (A 0 12) ≤ 1 := hI 0 12
  refine x_calli (As := [.int (iI x1)]) (rest := []) ⟨hx, hb, hml, hown, hts⟩ (mc_X12_isPersonB l dC dI cB cI cJ cZ cQ q _ x1 hI hx1) (cwV 1 hts (goodV wlq_5_55 wlq_5_56 wlq_5_57 wlq_0_8 wlq_4_40) rfl rfl rfl (by decide +kernel) ⟨Nat.le_of_ble_eq_true rfl, Nat.le_of_ble_eq_true rfl⟩) hK hDD hA0 hP hS 0 12 wm0 rfl rfl hl.1 (Nat.le_of_ble_eq_true rfl) (dk_at dkX12_lend_0 2 rfl) (fun z1 A2 H locs hw3 hP hS => ?_)
  obtain ⟨rfl, hw3⟩ := hw3
  have ghw3 : q_X12_isPerson x1 A z1 := hw3
  have hw3 := hw3.2
  have rz1 : 0 ≤ z1 ∧ z1 ≤ 1 := hw3.1
  have J34_6 : ∀ (z17 : Int) (H : Heap) (locs : List Loc) (ls : Array Slot), (0 ≤ z17 ∧ z17 ≤ 1) → ((z17 = 1 ∧ ¬ z1 = 0 ∧ ¬ x1 = x3) ∨ (z17 = 0)) → (z17 = 1 → 0 ≤ x1 ∧ x1 ≤ 2 ∧ 0 ≤ x2 ∧ x2 ≤ 3 ∧ 0 ≤ x3 ∧ x3 ≤ 2) → (∀ (z : Int) (u : St), (d_X12_lend_2 x1 x2 x3 A z u z17) → r_X12_lend x1 x2 x3 A z u) → va_P (dC, dI) vwCl (WM cI cJ cZ q A) H → va_S AS s.heap H locs → lv_has ls 5 [(0, .ref (q 0)), (1, .int (iI x1)), (2, .int (iI x2)), (3, .int (iI x3))] → W p l e (headSpec ws_mc_X12_lend ({ frames := 2, cells := 0, slots := 0, locals := 43 } : Room)).room s m [.ref (q 0), .int (iI x1), .int (iI x2), .int (iI x3)].toArray below meth c H locs 0 0 Q (F0 m 34 ls [.int (iI z17)]) := by
    intro z17 H locs ls f19 f20 f21 hk2 hP hS hl
    clear hw3
    refine lv_istore (lv' := [(4, .int (iI z17)), (0, .ref (q 0)), (1, .int (iI x1)), (2, .int (iI x2)), (3, .int (iI x3))]) hx hb (dk_at dkX12_lend_1 2 rfl) hl (by decide) rfl (fun ls hl => ?_)
    refine lv_iload hx hb (dk_at dkX12_lend_1 3 rfl) (lv_at hl 0 rfl) ?_
    have J68_23 : ∀ (H : Heap) (locs : List Loc) (ls : Array Slot), (∀ (z : Int) (u : St), (d_X12_lend_3 A z u) → r_X12_lend x1 x2 x3 A z u) → va_P (dC, dI) vwCl (WM cI cJ cZ q A) H → va_S AS s.heap H locs → lv_has ls 5 [(4, .int (iI z17)), (0, .ref (q 0)), (1, .int (iI x1)), (2, .int (iI x2)), (3, .int (iI x3))] → W p l e (headSpec ws_mc_X12_lend ({ frames := 2, cells := 0, slots := 0, locals := 43 } : Room)).room s m [.ref (q 0), .int (iI x1), .int (iI x2), .int (iI x3)].toArray below meth c H locs 0 0 Q (F0 m 68 ls []) := by
      intro H locs ls hk3 hP hS hl
      clear f21
      refine lv_aload_n hx hb (dk_at dkX12_lend_2 4 rfl) rfl (lv_at hl 1 rfl) ?_
      refine lv_iconst (v := iI 3) hx hb (dk_at dkX12_lend_2 5 rfl) (by decide +kernel) ?_
      refine x_calli (As := [.int (iI 3)]) (rest := []) ⟨hx, hb, hml, hown, hts⟩ (mc_X12_refuses l dC dI cB cI cJ cZ cQ q _ 3 hI ⟨by decide, by decide⟩) (cwV 1 hts (goodV wlq_0_5 wlq_0_6 wlq_0_7 wlq_0_8 wlq_0_9) rfl rfl rfl (by decide +kernel) ⟨Nat.le_of_ble_eq_true rfl, Nat.le_of_ble_eq_true rfl⟩) hK hDD hA0 hP hS 0 12 wm0 rfl rfl hl.1 (Nat.le_of_ble_eq_true rfl) (dk_at dkX12_lend_2 6 rfl) (fun z40 A41 H locs hw42 hP hS => ?_)
      have ghw42 : q_X12_refuses 3 A z40 A41 := hw42
      obtain ⟨_, hI, hf43, hw42⟩ := hw42
      refine lv_if_lt (tgt := 80) hx hb (dk_at dkX12_lend_2 7 rfl) (by decide) (fun _ => ?_) (fun c44 => False.elim (by have c44 : ¬ z40 < 0 := mt (i_lt0 (by omega)).mpr c44; omega))
      refine lv_iconst (v := iI 0) hx hb (dk_at dkX12_lend_2 8 rfl) (by decide +kernel) ?_
      exact RET 0 _ _ _ _ _ ⟨hk3 _ _ (u_d_X12_lend_3 ⟨z40, A41, ghw42, ⟨rfl, rfl⟩⟩), hI, fr.trans (fr.rf) hf43 rfl rfl, by omega⟩ hP hS (dk_at dkX12_lend_2 9 rfl)
    refine lv_if_eq (tgt := 68) hx hb (dk_at dkX12_lend_1 4 rfl) (by decide) (fun c22 => ?_) (fun c22 => ?_)
    · have c22 : z17 = 0 := (i_eq0 (rb f19 (by decide) (by decide))).mp c22
      clear f21
      exact J68_23 _ _ _ (fun zq uq hq => hk2 _ _ (u_d_X12_lend_2 ⟨f19, (Or.inl ⟨c22, hq⟩)⟩)) hP hS (lv_sub hl [0, 1, 2, 3, 4] rfl)
    · have c22 : ¬ z17 = 0 := mt (i_eq0 (rb f19 (by decide) (by decide))).mpr c22
      have f21b := f21 (by omega)
      clear f21
      refine lv_aload_n hx hb (dk_at dkX12_lend_1 5 rfl) rfl (lv_at hl 1 rfl) ?_
      refine va_get (D := (dC, dI)) (ci := 12) (v := .ref (q 13)) (C := RX12) (T := TX12) (N := 85) hx hb hts hiX12 hown hK hP 0 wm0 rfl 24 (by decide) (hts _ (List.mem_cons_of_mem _ wlq_2_58)) (fun _ h9 => h9) rfl (dk_at dkX12_lend_1 6 rfl) ?_
      refine lv_aload_n hx hb (dk_at dkX12_lend_1 7 rfl) rfl (lv_at hl 1 rfl) ?_
      refine lv_iload_n hx hb (dk_at dkX12_lend_1 8 rfl) rfl (lv_at hl 3 rfl) ?_
      refine x_calli (As := [.int (iI x2)]) (rest := [.ref (q 13)]) ⟨hx, hb, hml, hown, hts⟩ (mc_X12_key4 l dC dI cB cI cJ cZ cQ q _ x2 hI (by omega)) (cwV 1 hts (goodV wlq_4_44 wlq_4_45 wlq_4_46 wlq_0_8 wlq_4_41) rfl rfl rfl (by decide +kernel) ⟨Nat.le_of_ble_eq_true rfl, Nat.le_of_ble_eq_true rfl⟩) hK hDD hA0 hP hS 0 12 wm0 rfl rfl hl.1 (Nat.le_of_ble_eq_true rfl) (dk_at dkX12_lend_1 9 rfl) (fun z24 A25 H locs hw26 hP hS => ?_)
      obtain ⟨rfl, hw26⟩ := hw26
      have ghw26 : q_X12_key4 x2 A z24 := hw26
      have hw26 := hw26.2
      refine tp_i (y := iI (4 * (A 0 12) + x2)) (congrArg iI (show z24 = 4 * (A 0 12) + x2 by omega)) ?_
      clear hw26
      refine x_iald hx hb hK hP 13 1 wm13 rfl (by omega) (by decide) (dk_at dkX12_lend_1 10 rfl) (fun z27 hz27 => ?_)
      have rz27 : (0 : Int) ≤ z27 ∧ z27 ≤ 40 := by rw [hz27]; exact hI 13 _
      have gz27 := Hd.mk hz27
      have hz27 : z27 = A 13 (4 * (A 0 12) + x2).toNat := hz27
      refine lv_iload_n hx hb (dk_at dkX12_lend_1 11 rfl) rfl (lv_at hl 2 rfl) ?_
      refine lv_icmp_ne (tgt := 68) hx hb (dk_at dkX12_lend_1 12 rfl) (by decide) (fun c28 => ?_) (fun c28 => ?_)
      · have c28 : ¬ z27 = x1 := mt (i_eq (rb rz27 (by decide) (by decide)) hx1).mpr c28
        exact J68_23 _ _ _ (fun zq uq hq => hk2 _ _ (u_d_X12_lend_2 ⟨f19, (Or.inr ⟨c22, ⟨z24, ghw26, ⟨z27, gz27.out, (Or.inl ⟨c28, hq⟩)⟩⟩⟩)⟩)) hP hS (lv_sub hl [0, 1, 2, 3, 4] rfl)
      · have c28 : z27 = x1 := (i_eq (rb rz27 (by decide) (by decide)) hx1).mp c28
        refine lv_aload_n hx hb (dk_at dkX12_lend_1 13 rfl) rfl (lv_at hl 1 rfl) ?_
        refine lv_iload_n hx hb (dk_at dkX12_lend_1 14 rfl) rfl (lv_at hl 2 rfl) ?_
        refine x_calli (As := [.int (iI x1)]) (rest := []) ⟨hx, hb, hml, hown, hts⟩ (mc_X12_placeOf l dC dI cB cI cJ cZ cQ q _ x1 hI (by omega)) (cwV 1 hts (goodV wlq_5_35 wlq_5_36 wlq_5_37 wlq_0_8 wlq_5_25) rfl rfl rfl (by decide +kernel) ⟨Nat.le_of_ble_eq_true rfl, Nat.le_of_ble_eq_true rfl⟩) hK hDD hA0 hP hS 0 12 wm0 rfl rfl hl.1 (Nat.le_of_ble_eq_true rfl) (dk_at dkX12_lend_1 15 rfl) (fun z29 A30 H locs hw31 hP hS => ?_)
        obtain ⟨rfl, hw31⟩ := hw31
        have ghw31 : q_X12_placeOf x1 A z29 := hw31
        have hw31 := hw31.2
        refine lv_aload_n hx hb (dk_at dkX12_lend_2 0 rfl) rfl (lv_at hl 1 rfl) ?_
        refine lv_iload_n hx hb (dk_at dkX12_lend_2 1 rfl) rfl (lv_at hl 4 rfl) ?_
        refine x_calli (As := [.int (iI x3)]) (rest := [.int (iI z29)]) ⟨hx, hb, hml, hown, hts⟩ (mc_X12_placeOf l dC dI cB cI cJ cZ cQ q _ x3 hI (by omega)) (cwV 1 hts (goodV wlq_5_35 wlq_5_36 wlq_5_37 wlq_0_8 wlq_5_25) rfl rfl rfl (by decide +kernel) ⟨Nat.le_of_ble_eq_true rfl, Nat.le_of_ble_eq_true rfl⟩) hK hDD hA0 hP hS 0 12 wm0 rfl rfl hl.1 (Nat.le_of_ble_eq_true rfl) (dk_at dkX12_lend_2 2 rfl) (fun z32 A33 H locs hw34 hP hS => ?_)
        obtain ⟨rfl, hw34⟩ := hw34
        have ghw34 : q_X12_placeOf x3 A z32 := hw34
        have hw34 := hw34.2
        refine lv_icmp_eq (tgt := 82) hx hb (dk_at dkX12_lend_2 3 rfl) (by decide) (fun c35 => ?_) (fun c35 => ?_)
        · have c35 : z29 = z32 := (i_eq (rb hw31 (by decide) (by decide)) (rb hw34 (by decide) (by decide))).mp c35
          refine lv_aload_n hx hb (dk_at dkX12_lend_2 10 rfl) rfl (lv_at hl 1 rfl) ?_
          refine va_get (D := (dC, dI)) (ci := 12) (v := .ref (q 13)) (C := RX12) (T := TX12) (N := 85) hx hb hts hiX12 hown hK hP 0 wm0 rfl 24 (by decide) (hts _ (List.mem_cons_of_mem _ wlq_2_58)) (fun _ h9 => h9) rfl (dk_at dkX12_lend_2 11 rfl) ?_
          refine lv_aload_n hx hb (dk_at dkX12_lend_2 12 rfl) rfl (lv_at hl 1 rfl) ?_
          refine lv_iload_n hx hb (dk_at dkX12_lend_2 13 rfl) rfl (lv_at hl 3 rfl) ?_
          refine x_calli (As := [.int (iI x2)]) (rest := [.ref (q 13)]) ⟨hx, hb, hml, hown, hts⟩ (mc_X12_key4 l dC dI cB cI cJ cZ cQ q _ x2 hI (by omega)) (cwV 1 hts (goodV wlq_4_44 wlq_4_45 wlq_4_46 wlq_0_8 wlq_4_41) rfl rfl rfl (by decide +kernel) ⟨Nat.le_of_ble_eq_true rfl, Nat.le_of_ble_eq_true rfl⟩) hK hDD hA0 hP hS 0 12 wm0 rfl rfl hl.1 (Nat.le_of_ble_eq_true rfl) (dk_at dkX12_lend_2 14 rfl) (fun z36 A37 H locs hw38 hP hS => ?_)
          obtain ⟨rfl, hw38⟩ := hw38
          have ghw38 : q_X12_key4 x2 A z36 := hw38
          have hw38 := hw38.2
          refine tp_i (y := iI (4 * (A 0 12) + x2)) (congrArg iI (show z36 = 4 * (A 0 12) + x2 by omega)) ?_
          clear hw38
          refine lv_iload_n hx hb (dk_at dkX12_lend_2 15 rfl) rfl (lv_at hl 4 rfl) ?_
          refine x_iast hx hb hK hP hDD hS 13 1 wm13 rfl (by omega) (by decide) (dk_at dkX12_lend_3 0 rfl) ws13 (fun H locs hP hS => ?_)
          have hI := hI.st (j := 13) (i := (4 * (A 0 12) + x2).toNat) (v := x3) (show (0 : Int) ≤ x3 ∧ x3 ≤ 40 from (by omega))
          refine lv_iconst (v := iI 1) hx hb (dk_at dkX12_lend_3 1 rfl) (by decide +kernel) ?_
          exact RET 1 _ _ _ _ _ ⟨hk2 _ _ (u_d_X12_lend_2 ⟨f19, (Or.inr ⟨c22, ⟨z24, ghw26, ⟨z27, gz27.out, (Or.inr ⟨c28, ⟨z29, ghw31, ⟨z32, ghw34, (Or.inl ⟨c35, ⟨z36, ghw38, ⟨rfl, rfl⟩⟩⟩)⟩⟩⟩)⟩⟩⟩)⟩), hI, fr.st (fr.rf) (by decide) rfl, by omega⟩ hP hS (dk_at dkX12_lend_3 2 rfl)
        · have c35 : ¬ z29 = z32 := mt (i_eq (rb hw31 (by decide) (by decide)) (rb hw34 (by decide) (by decide))).mpr c35
          exact J68_23 _ _ _ (fun zq uq hq => hk2 _ _ (u_d_X12_lend_2 ⟨f19, (Or.inr ⟨c22, ⟨z24, ghw26, ⟨z27, gz27.out, (Or.inr ⟨c28, ⟨z29, ghw31, ⟨z32, ghw34, (Or.inr ⟨c35, hq⟩)⟩⟩⟩)⟩⟩⟩)⟩)) hP hS (lv_sub hl [0, 1, 2, 3, 4] rfl)
  have J33_5 : ∀ (H : Heap) (locs : List Loc) (ls : Array Slot), (∀ (z : Int) (u : St), (d_X12_lend_1 x1 x2 x3 A z u) → r_X12_lend x1 x2 x3 A z u) → va_P (dC, dI) vwCl (WM cI cJ cZ q A) H → va_S AS s.heap H locs → lv_has ls 5 [(0, .ref (q 0)), (1, .int (iI x1)), (2, .int (iI x2)), (3, .int (iI x3))] → W p l e (headSpec ws_mc_X12_lend ({ frames := 2, cells := 0, slots := 0, locals := 43 } : Room)).room s m [.ref (q 0), .int (iI x1), .int (iI x2), .int (iI x3)].toArray below meth c H locs 0 0 Q (F0 m 33 ls []) := by
    intro H locs ls hk1 hP hS hl
    clear hw3
    refine lv_iconst (v := iI 0) hx hb (dk_at dkX12_lend_1 1 rfl) (by decide +kernel) ?_
    exact J34_6 0 _ _ _ (by omega) (by omega) (by omega) (fun zq uq hq => hk1 _ _ (u_d_X12_lend_1 hq)) hP hS (lv_sub hl [0, 1, 2, 3] rfl)
  refine lv_if_eq (tgt := 33) hx hb (dk_at dkX12_lend_0 3 rfl) (by decide) (fun c4 => ?_) (fun c4 => ?_)
  · have c4 : z1 = 0 := (i_eq0 (rb rz1 (by decide) (by decide))).mp c4
    clear hw3
    exact J33_5 _ _ _ (fun zq uq hq => (u_r_X12_lend ⟨z1, ghw3, (Or.inl ⟨c4, hq⟩)⟩)) hP hS (lv_sub hl [0, 1, 2, 3] rfl)
  · have c4 : ¬ z1 = 0 := mt (i_eq0 (rb rz1 (by decide) (by decide))).mpr c4
    have hw3b := hw3.2.mp (by omega)
    clear hw3
    refine lv_aload_n hx hb (dk_at dkX12_lend_0 4 rfl) rfl (lv_at hl 0 rfl) ?_
    refine lv_iload_n hx hb (dk_at dkX12_lend_0 5 rfl) rfl (lv_at hl 2 rfl) ?_
    refine x_calli (As := [.int (iI x2)]) (rest := []) ⟨hx, hb, hml, hown, hts⟩ (mc_X12_isKeyB l dC dI cB cI cJ cZ cQ q _ x2 hI hx2) (cwV 1 hts (goodV wlq_5_18 wlq_5_19 wlq_5_20 wlq_0_8 wlq_4_39) rfl rfl rfl (by decide +kernel) ⟨Nat.le_of_ble_eq_true rfl, Nat.le_of_ble_eq_true rfl⟩) hK hDD hA0 hP hS 0 12 wm0 rfl rfl hl.1 (Nat.le_of_ble_eq_true rfl) (dk_at dkX12_lend_0 6 rfl) (fun z7 A8 H locs hw9 hP hS => ?_)
    obtain ⟨rfl, hw9⟩ := hw9
    have ghw9 : q_X12_isKey x2 A z7 := hw9
    have hw9 := hw9.2
    have rz7 : 0 ≤ z7 ∧ z7 ≤ 1 := hw9.1
    refine lv_if_eq (tgt := 33) hx hb (dk_at dkX12_lend_0 7 rfl) (by decide) (fun c10 => ?_) (fun c10 => ?_)
    · have c10 : z7 = 0 := (i_eq0 (rb rz7 (by decide) (by decide))).mp c10
      clear hw9
      exact J33_5 _ _ _ (fun zq uq hq => (u_r_X12_lend ⟨z1, ghw3, (Or.inr ⟨c4, ⟨z7, ghw9, (Or.inl ⟨c10, hq⟩)⟩⟩)⟩)) hP hS (lv_sub hl [0, 1, 2, 3] rfl)
    · have c10 : ¬ z7 = 0 := mt (i_eq0 (rb rz7 (by decide) (by decide))).mpr c10
      have hw9b := hw9.2.mp (by omega)
      clear hw9
      refine lv_aload_n hx hb (dk_at dkX12_lend_0 8 rfl) rfl (lv_at hl 0 rfl) ?_
      refine lv_iload_n hx hb (dk_at dkX12_lend_0 9 rfl) rfl (lv_at hl 3 rfl) ?_
      refine x_calli (As := [.int (iI x3)]) (rest := []) ⟨hx, hb, hml, hown, hts⟩ (mc_X12_isPersonB l dC dI cB cI cJ cZ cQ q _ x3 hI hx3) (cwV 1 hts (goodV wlq_5_55 wlq_5_56 wlq_5_57 wlq_0_8 wlq_4_40) rfl rfl rfl (by decide +kernel) ⟨Nat.le_of_ble_eq_true rfl, Nat.le_of_ble_eq_true rfl⟩) hK hDD hA0 hP hS 0 12 wm0 rfl rfl hl.1 (Nat.le_of_ble_eq_true rfl) (dk_at dkX12_lend_0 10 rfl) (fun z11 A12 H locs hw13 hP hS => ?_)
      obtain ⟨rfl, hw13⟩ := hw13
      have ghw13 : q_X12_isPerson x3 A z11 := hw13
      have hw13 := hw13.2
      have rz11 : 0 ≤ z11 ∧ z11 ≤ 1 := hw13.1
      refine lv_if_eq (tgt := 33) hx hb (dk_at dkX12_lend_0 11 rfl) (by decide) (fun c14 => ?_) (fun c14 => ?_)
      · have c14 : z11 = 0 := (i_eq0 (rb rz11 (by decide) (by decide))).mp c14
        clear hw13
        exact J33_5 _ _ _ (fun zq uq hq => (u_r_X12_lend ⟨z1, ghw3, (Or.inr ⟨c4, ⟨z7, ghw9, (Or.inr ⟨c10, ⟨z11, ghw13, (Or.inl ⟨c14, hq⟩)⟩⟩)⟩⟩)⟩)) hP hS (lv_sub hl [0, 1, 2, 3] rfl)
      · have c14 : ¬ z11 = 0 := mt (i_eq0 (rb rz11 (by decide) (by decide))).mpr c14
        have hw13b := hw13.2.mp (by omega)
        clear hw13
        refine lv_iload_n hx hb (dk_at dkX12_lend_0 12 rfl) rfl (lv_at hl 1 rfl) ?_
        refine lv_iload_n hx hb (dk_at dkX12_lend_0 13 rfl) rfl (lv_at hl 3 rfl) ?_
        refine lv_icmp_eq (tgt := 33) hx hb (dk_at dkX12_lend_0 14 rfl) (by decide) (fun c15 => ?_) (fun c15 => ?_)
        · have c15 : x1 = x3 := (i_eq hx1 hx3).mp c15
          exact J33_5 _ _ _ (fun zq uq hq => (u_r_X12_lend ⟨z1, ghw3, (Or.inr ⟨c4, ⟨z7, ghw9, (Or.inr ⟨c10, ⟨z11, ghw13, (Or.inr ⟨c14, (Or.inl ⟨c15, hq⟩)⟩)⟩⟩)⟩⟩)⟩)) hP hS (lv_sub hl [0, 1, 2, 3] rfl)
        · have c15 : ¬ x1 = x3 := mt (i_eq hx1 hx3).mpr c15
          refine lv_iconst (v := iI 1) hx hb (dk_at dkX12_lend_0 15 rfl) (by decide +kernel) ?_
          refine lv_goto (tgt := 34) hx hb (dk_at dkX12_lend_1 0 rfl) (by decide) ?_
          exact J34_6 1 _ _ _ (by omega) (by omega) (by omega) (fun zq uq hq => (u_r_X12_lend ⟨z1, ghw3, (Or.inr ⟨c4, ⟨z7, ghw9, (Or.inr ⟨c10, ⟨z11, ghw13, (Or.inr ⟨c14, (Or.inr ⟨c15, hq⟩)⟩)⟩⟩)⟩⟩)⟩)) hP hS (lv_sub hl [0, 1, 2, 3] rfl)

abbrev tr_r_X12_isOpenBox (x1 : Int) (x2 : Int) (A : St) (z : Int) : Prop := (∃ z1 : Int, q_X12_isDoor x2 A z1 ∧ (((z1 = 0) ∧ (z = 0)) ∨ ((¬ z1 = 0) ∧ (∃ z5 : Int, q_X12_door10 x2 A z5 ∧ (∃ z8 : Int, z8 = A 8 (10 * (A 0 12) + x2).toNat ∧ (((z8 = 0) ∧ (z = 0)) ∨ ((¬ z8 = 0) ∧ (∃ z10 : Int, q_X12_door10 x2 A z10 ∧ (∃ z13 : Int, z13 = A 6 (10 * (A 0 12) + x2).toNat ∧ (∃ z14 : Int, q_X12_placeOf x1 A z14 ∧ (((¬ z13 = z14) ∧ (z = 0)) ∨ ((z13 = z14) ∧ (∃ z18 : Int, q_X12_isShut x2 A z18 ∧ (((¬ z18 = 0) ∧ (z = 0)) ∨ ((z18 = 0) ∧ (z = 1))))))))))))))))
def r_X12_isOpenBox (x1 : Int) (x2 : Int) (A : St) (z : Int) : Prop := tr_r_X12_isOpenBox x1 x2 A z
theorem u_r_X12_isOpenBox {x1 : Int} {x2 : Int} {A : St} {z : Int} (h : tr_r_X12_isOpenBox x1 x2 A z) : r_X12_isOpenBox x1 x2 A z := h
def q_X12_isOpenBox (x1 : Int) (x2 : Int) (A : St) (z : Int) : Prop := r_X12_isOpenBox x1 x2 A z ∧ ((0 ≤ z ∧ z ≤ 1) ∧ (z = 1 → 0 ≤ x2 ∧ x2 ≤ 9))
def ws_mc_X12_isOpenBox : List Cond := .code yX12_isOpenBox cX12_isOpenBox 3 (some .boolean) :: WX
set_option maxHeartbeats 4000000 in
set_option maxRecDepth 100000 in
theorem mc_X12_isOpenBox (l : Launch) (dC : Nat → ClassId) (dI : Nat → Nat → Nat) (cB cI cJ cZ cQ : ClassId) (q : Nat → Nat) (A : St) (x1 x2 : Int) (hI : IM A) (hx1 : (0 : Int) ≤ x1 ∧ x1 ≤ 2) (hx2 : (-2147483648 : Int) ≤ x2 ∧ x2 ≤ 2147483647) : XMi l yX12_isOpenBox ws_mc_X12_isOpenBox ({ frames := 3, cells := 0, slots := 0, locals := 67 } : Room) (dC, dI) (tyA cB cI cJ cZ cQ) (WM cI cJ cZ q) A [.ref (q 0), .int (iI x1), .int (iI x2)] (fun z u => A = u ∧ r_X12_isOpenBox x1 x2 A z ∧ ((0 ≤ z ∧ z ≤ 1) ∧ (z = 1 → 0 ≤ x2 ∧ x2 ≤ 9))) := by
  refine x_metz (cc := cX12_isOpenBox) (maxL := 3) WM_adr (by decide +kernel) rfl (Nat.le_of_ble_eq_true rfl) (fun z u h => h.2.2.1) (fun p e s m below meth c Q AS ls hx hb hml hown hts hK hDD hA0 hP hS hl RET => ?_)
  have hown : s.vm.findClass RX12 = some m.cls := hown
  have hl : lv_has ls 3 [(0, .ref (q 0)), (1, .int (iI x1)), (2, .int (iI x2))] := hl
  have hiX12 : ∀ w ∈ u_ws RX12 TX12 85, w ∈ ws_mc_X12_isOpenBox := fun w h => List.mem_cons_of_mem _ (wx_lay w h)
  obtain ⟨H, hHe⟩ : ∃ H : Heap, H = s.heap := ⟨_, rfl⟩
  rw [← hHe] at hP
  have hS : va_S AS s.heap H [] := by rw [hHe]; exact hS
  suffices hgo : ∀ locs : List Loc, va_S AS s.heap H locs → W p l e (headSpec ws_mc_X12_isOpenBox ({ frames := 3, cells := 0, slots := 0, locals := 67 } : Room)).room s m [.ref (q 0), .int (iI x1), .int (iI x2)].toArray below meth c H locs 0 0 Q (F0 m 0 ls []) by
    have := hgo [] hS
    rw [hHe] at this
    exact this
  clear hS hHe
  intro locs hS
  refine lv_aload_n hx hb (dk_at dkX12_isOpenBox_0 0 rfl) rfl (lv_at hl 0 rfl) ?_
  refine lv_iload_n hx hb (dk_at dkX12_isOpenBox_0 1 rfl) rfl (lv_at hl 2 rfl) ?_
  have r_A_0_12 : (0 : Int) ≤ (A 0 12) ∧ (A 0 12) ≤ 1 := hI 0 12
  refine x_calli (As := [.int (iI x2)]) (rest := []) ⟨hx, hb, hml, hown, hts⟩ (mc_X12_isDoorB l dC dI cB cI cJ cZ cQ q _ x2 hI hx2) (cwV 1 hts (goodV wlq_5_14 wlq_5_15 wlq_5_16 wlq_0_8 wlq_4_38) rfl rfl rfl (by decide +kernel) ⟨Nat.le_of_ble_eq_true rfl, Nat.le_of_ble_eq_true rfl⟩) hK hDD hA0 hP hS 0 12 wm0 rfl rfl hl.1 (Nat.le_of_ble_eq_true rfl) (dk_at dkX12_isOpenBox_0 2 rfl) (fun z1 A2 H locs hw3 hP hS => ?_)
  obtain ⟨rfl, hw3⟩ := hw3
  have ghw3 : q_X12_isDoor x2 A z1 := hw3
  have hw3 := hw3.2
  have rz1 : 0 ≤ z1 ∧ z1 ≤ 1 := hw3.1
  refine lv_if_eq (tgt := 51) hx hb (dk_at dkX12_isOpenBox_0 3 rfl) (by decide) (fun c4 => ?_) (fun c4 => ?_)
  · have c4 : z1 = 0 := (i_eq0 (rb rz1 (by decide) (by decide))).mp c4
    clear hw3
    refine lv_iconst (v := iI 0) hx hb (dk_at dkX12_isOpenBox_1 11 rfl) (by decide +kernel) ?_
    exact RET 0 _ _ _ _ _ ⟨rfl, (u_r_X12_isOpenBox ⟨z1, ghw3, (Or.inl ⟨c4, rfl⟩)⟩), by omega⟩ hP hS (dk_at dkX12_isOpenBox_1 12 rfl)
  · have c4 : ¬ z1 = 0 := mt (i_eq0 (rb rz1 (by decide) (by decide))).mpr c4
    have hw3b := hw3.2.mp (by omega)
    clear hw3
    refine lv_aload_n hx hb (dk_at dkX12_isOpenBox_0 4 rfl) rfl (lv_at hl 0 rfl) ?_
    refine va_get (D := (dC, dI)) (ci := 12) (v := .ref (q 8)) (C := RX12) (T := TX12) (N := 85) hx hb hts hiX12 hown hK hP 0 wm0 rfl 19 (by decide) (hts _ (List.mem_cons_of_mem _ wlq_2_41)) (fun _ h9 => h9) rfl (dk_at dkX12_isOpenBox_0 5 rfl) ?_
    refine lv_aload_n hx hb (dk_at dkX12_isOpenBox_0 6 rfl) rfl (lv_at hl 0 rfl) ?_
    refine lv_iload_n hx hb (dk_at dkX12_isOpenBox_0 7 rfl) rfl (lv_at hl 2 rfl) ?_
    refine x_calli (As := [.int (iI x2)]) (rest := [.ref (q 8)]) ⟨hx, hb, hml, hown, hts⟩ (mc_X12_door10 l dC dI cB cI cJ cZ cQ q _ x2 hI (by omega)) (cwV 1 hts (goodV wlq_4_49 wlq_4_50 wlq_4_51 wlq_0_8 wlq_4_42) rfl rfl rfl (by decide +kernel) ⟨Nat.le_of_ble_eq_true rfl, Nat.le_of_ble_eq_true rfl⟩) hK hDD hA0 hP hS 0 12 wm0 rfl rfl hl.1 (Nat.le_of_ble_eq_true rfl) (dk_at dkX12_isOpenBox_0 8 rfl) (fun z5 A6 H locs hw7 hP hS => ?_)
    obtain ⟨rfl, hw7⟩ := hw7
    have ghw7 : q_X12_door10 x2 A z5 := hw7
    have hw7 := hw7.2
    refine tp_i (y := iI (10 * (A 0 12) + x2)) (congrArg iI (show z5 = 10 * (A 0 12) + x2 by omega)) ?_
    clear hw7
    refine x_zald hx hb hK hP 8 3 wm8 rfl (by omega) (by decide) (dk_at dkX12_isOpenBox_0 9 rfl) (fun z8 hz8 => ?_)
    have rz8 : (0 : Int) ≤ z8 ∧ z8 ≤ 1 := by rw [hz8]; exact hI 8 _
    have gz8 := Hd.mk hz8
    have hz8 : z8 = A 8 (10 * (A 0 12) + x2).toNat := hz8
    refine lv_if_eq (tgt := 51) hx hb (dk_at dkX12_isOpenBox_0 10 rfl) (by decide) (fun c9 => ?_) (fun c9 => ?_)
    · have c9 : z8 = 0 := (i_eq0 (rb rz8 (by decide) (by decide))).mp c9
      refine lv_iconst (v := iI 0) hx hb (dk_at dkX12_isOpenBox_1 11 rfl) (by decide +kernel) ?_
      exact RET 0 _ _ _ _ _ ⟨rfl, (u_r_X12_isOpenBox ⟨z1, ghw3, (Or.inr ⟨c4, ⟨z5, ghw7, ⟨z8, gz8.out, (Or.inl ⟨c9, rfl⟩)⟩⟩⟩)⟩), by omega⟩ hP hS (dk_at dkX12_isOpenBox_1 12 rfl)
    · have c9 : ¬ z8 = 0 := mt (i_eq0 (rb rz8 (by decide) (by decide))).mpr c9
      refine lv_aload_n hx hb (dk_at dkX12_isOpenBox_0 11 rfl) rfl (lv_at hl 0 rfl) ?_
      refine va_get (D := (dC, dI)) (ci := 12) (v := .ref (q 6)) (C := RX12) (T := TX12) (N := 85) hx hb hts hiX12 hown hK hP 0 wm0 rfl 17 (by decide) (hts _ (List.mem_cons_of_mem _ wlq_2_39)) (fun _ h9 => h9) rfl (dk_at dkX12_isOpenBox_0 12 rfl) ?_
      refine lv_aload_n hx hb (dk_at dkX12_isOpenBox_0 13 rfl) rfl (lv_at hl 0 rfl) ?_
      refine lv_iload_n hx hb (dk_at dkX12_isOpenBox_0 14 rfl) rfl (lv_at hl 2 rfl) ?_
      refine x_calli (As := [.int (iI x2)]) (rest := [.ref (q 6)]) ⟨hx, hb, hml, hown, hts⟩ (mc_X12_door10 l dC dI cB cI cJ cZ cQ q _ x2 hI (by omega)) (cwV 1 hts (goodV wlq_4_49 wlq_4_50 wlq_4_51 wlq_0_8 wlq_4_42) rfl rfl rfl (by decide +kernel) ⟨Nat.le_of_ble_eq_true rfl, Nat.le_of_ble_eq_true rfl⟩) hK hDD hA0 hP hS 0 12 wm0 rfl rfl hl.1 (Nat.le_of_ble_eq_true rfl) (dk_at dkX12_isOpenBox_0 15 rfl) (fun z10 A11 H locs hw12 hP hS => ?_)
      obtain ⟨rfl, hw12⟩ := hw12
      have ghw12 : q_X12_door10 x2 A z10 := hw12
      have hw12 := hw12.2
      refine tp_i (y := iI (10 * (A 0 12) + x2)) (congrArg iI (show z10 = 10 * (A 0 12) + x2 by omega)) ?_
      clear hw12
      refine x_iald hx hb hK hP 6 1 wm6 rfl (by omega) (by decide) (dk_at dkX12_isOpenBox_1 0 rfl) (fun z13 hz13 => ?_)
      have rz13 : (0 : Int) ≤ z13 ∧ z13 ≤ 7 := by rw [hz13]; exact hI 6 _
      have gz13 := Hd.mk hz13
      have hz13 : z13 = A 6 (10 * (A 0 12) + x2).toNat := hz13
      refine lv_aload_n hx hb (dk_at dkX12_isOpenBox_1 1 rfl) rfl (lv_at hl 0 rfl) ?_
      refine lv_iload_n hx hb (dk_at dkX12_isOpenBox_1 2 rfl) rfl (lv_at hl 1 rfl) ?_
      refine x_calli (As := [.int (iI x1)]) (rest := [.int (iI z13)]) ⟨hx, hb, hml, hown, hts⟩ (mc_X12_placeOf l dC dI cB cI cJ cZ cQ q _ x1 hI hx1) (cwV 1 hts (goodV wlq_5_35 wlq_5_36 wlq_5_37 wlq_0_8 wlq_5_25) rfl rfl rfl (by decide +kernel) ⟨Nat.le_of_ble_eq_true rfl, Nat.le_of_ble_eq_true rfl⟩) hK hDD hA0 hP hS 0 12 wm0 rfl rfl hl.1 (Nat.le_of_ble_eq_true rfl) (dk_at dkX12_isOpenBox_1 3 rfl) (fun z14 A15 H locs hw16 hP hS => ?_)
      obtain ⟨rfl, hw16⟩ := hw16
      have ghw16 : q_X12_placeOf x1 A z14 := hw16
      have hw16 := hw16.2
      refine lv_icmp_ne (tgt := 51) hx hb (dk_at dkX12_isOpenBox_1 4 rfl) (by decide) (fun c17 => ?_) (fun c17 => ?_)
      · have c17 : ¬ z13 = z14 := mt (i_eq (rb rz13 (by decide) (by decide)) (rb hw16 (by decide) (by decide))).mpr c17
        refine lv_iconst (v := iI 0) hx hb (dk_at dkX12_isOpenBox_1 11 rfl) (by decide +kernel) ?_
        exact RET 0 _ _ _ _ _ ⟨rfl, (u_r_X12_isOpenBox ⟨z1, ghw3, (Or.inr ⟨c4, ⟨z5, ghw7, ⟨z8, gz8.out, (Or.inr ⟨c9, ⟨z10, ghw12, ⟨z13, gz13.out, ⟨z14, ghw16, (Or.inl ⟨c17, rfl⟩)⟩⟩⟩⟩)⟩⟩⟩)⟩), by omega⟩ hP hS (dk_at dkX12_isOpenBox_1 12 rfl)
      · have c17 : z13 = z14 := (i_eq (rb rz13 (by decide) (by decide)) (rb hw16 (by decide) (by decide))).mp c17
        refine lv_aload_n hx hb (dk_at dkX12_isOpenBox_1 5 rfl) rfl (lv_at hl 0 rfl) ?_
        refine lv_iload_n hx hb (dk_at dkX12_isOpenBox_1 6 rfl) rfl (lv_at hl 2 rfl) ?_
        refine x_calli (As := [.int (iI x2)]) (rest := []) ⟨hx, hb, hml, hown, hts⟩ (mc_X12_isShut l dC dI cB cI cJ cZ cQ q _ x2 hI (by omega)) (cwV 1 hts (goodV wlq_4_57 wlq_4_58 wlq_4_59 wlq_0_8 wlq_4_48) rfl rfl rfl (by decide +kernel) ⟨Nat.le_of_ble_eq_true rfl, Nat.le_of_ble_eq_true rfl⟩) hK hDD hA0 hP hS 0 12 wm0 rfl rfl hl.1 (Nat.le_of_ble_eq_true rfl) (dk_at dkX12_isOpenBox_1 7 rfl) (fun z18 A19 H locs hw20 hP hS => ?_)
        obtain ⟨rfl, hw20⟩ := hw20
        have ghw20 : q_X12_isShut x2 A z18 := hw20
        have hw20 := hw20.2
        refine lv_if_ne (tgt := 51) hx hb (dk_at dkX12_isOpenBox_1 8 rfl) (by decide) (fun c21 => ?_) (fun c21 => ?_)
        · have c21 : ¬ z18 = 0 := mt (i_eq0 (rb hw20 (by decide) (by decide))).mpr c21
          refine lv_iconst (v := iI 0) hx hb (dk_at dkX12_isOpenBox_1 11 rfl) (by decide +kernel) ?_
          exact RET 0 _ _ _ _ _ ⟨rfl, (u_r_X12_isOpenBox ⟨z1, ghw3, (Or.inr ⟨c4, ⟨z5, ghw7, ⟨z8, gz8.out, (Or.inr ⟨c9, ⟨z10, ghw12, ⟨z13, gz13.out, ⟨z14, ghw16, (Or.inr ⟨c17, ⟨z18, ghw20, (Or.inl ⟨c21, rfl⟩)⟩⟩)⟩⟩⟩⟩)⟩⟩⟩)⟩), by omega⟩ hP hS (dk_at dkX12_isOpenBox_1 12 rfl)
        · have c21 : z18 = 0 := (i_eq0 (rb hw20 (by decide) (by decide))).mp c21
          refine lv_iconst (v := iI 1) hx hb (dk_at dkX12_isOpenBox_1 9 rfl) (by decide +kernel) ?_
          refine lv_goto (tgt := 52) hx hb (dk_at dkX12_isOpenBox_1 10 rfl) (by decide) ?_
          exact RET 1 _ _ _ _ _ ⟨rfl, (u_r_X12_isOpenBox ⟨z1, ghw3, (Or.inr ⟨c4, ⟨z5, ghw7, ⟨z8, gz8.out, (Or.inr ⟨c9, ⟨z10, ghw12, ⟨z13, gz13.out, ⟨z14, ghw16, (Or.inr ⟨c17, ⟨z18, ghw20, (Or.inr ⟨c21, rfl⟩)⟩⟩)⟩⟩⟩⟩)⟩⟩⟩)⟩), by omega⟩ hP hS (dk_at dkX12_isOpenBox_1 12 rfl)

abbrev tr_d_X12_take_4 (A : St) (z : Int) (u : St) : Prop := (∃ z43 : Int, ∃ A44 : St, q_X12_refuses 3 A z43 A44 ∧ (z = 0 ∧ u = A44))
def d_X12_take_4 (A : St) (z : Int) (u : St) : Prop := tr_d_X12_take_4 A z u
theorem u_d_X12_take_4 {A : St} {z : Int} {u : St} (h : tr_d_X12_take_4 A z u) : d_X12_take_4 A z u := h
abbrev tr_d_X12_take_3 (x1 : Int) (x2 : Int) (A : St) (z : Int) (u : St) (z29 : Int) : Prop := ((0 ≤ z29 ∧ z29 ≤ 1) ∧ (((¬ z29 = 0) ∧ (∃ z34 : Int, q_X12_key4 x2 A z34 ∧ (z = 1 ∧ u = (stA A 13 (4 * (A 0 12) + x2).toNat x1)))) ∨ ((z29 = 0) ∧ (∃ z37 : Int, ∃ A38 : St, q_X12_refuses 3 A z37 A38 ∧ (z = 0 ∧ u = A38)))))
def d_X12_take_3 (x1 : Int) (x2 : Int) (A : St) (z : Int) (u : St) (z29 : Int) : Prop := tr_d_X12_take_3 x1 x2 A z u z29
theorem u_d_X12_take_3 {x1 : Int} {x2 : Int} {A : St} {z : Int} {u : St} {z29 : Int} (h : tr_d_X12_take_3 x1 x2 A z u z29) : d_X12_take_3 x1 x2 A z u z29 := h
abbrev tr_d_X12_take_2 (x1 : Int) (x2 : Int) (A : St) (z : Int) (u : St) : Prop := (d_X12_take_3 x1 x2 A z u 1)
def d_X12_take_2 (x1 : Int) (x2 : Int) (A : St) (z : Int) (u : St) : Prop := tr_d_X12_take_2 x1 x2 A z u
theorem u_d_X12_take_2 {x1 : Int} {x2 : Int} {A : St} {z : Int} {u : St} (h : tr_d_X12_take_2 x1 x2 A z u) : d_X12_take_2 x1 x2 A z u := h
abbrev tr_d_X12_take_1 (x1 : Int) (x2 : Int) (A : St) (z : Int) (u : St) : Prop := (d_X12_take_3 x1 x2 A z u 0)
def d_X12_take_1 (x1 : Int) (x2 : Int) (A : St) (z : Int) (u : St) : Prop := tr_d_X12_take_1 x1 x2 A z u
theorem u_d_X12_take_1 {x1 : Int} {x2 : Int} {A : St} {z : Int} {u : St} (h : tr_d_X12_take_1 x1 x2 A z u) : d_X12_take_1 x1 x2 A z u := h
abbrev tr_r_X12_take (x1 : Int) (x2 : Int) (A : St) (z : Int) (u : St) : Prop := (∃ z1 : Int, q_X12_isPerson x1 A z1 ∧ (((z1 = 0) ∧ (d_X12_take_4 A z u)) ∨ ((¬ z1 = 0) ∧ (∃ z6 : Int, q_X12_isKey x2 A z6 ∧ (((¬ z6 = 0) ∧ (∃ z10 : Int, q_X12_key4 x2 A z10 ∧ (∃ z13 : Int, z13 = A 13 (4 * (A 0 12) + x2).toNat ∧ (∃ z14 : Int, q_X12_placeOf x1 A z14 ∧ (((z13 = z14 + 10) ∧ (d_X12_take_2 x1 x2 A z u)) ∨ ((¬ z13 = z14 + 10) ∧ (((z13 < 20) ∧ (d_X12_take_1 x1 x2 A z u)) ∨ ((¬ z13 < 20) ∧ (((40 ≤ z13) ∧ (d_X12_take_1 x1 x2 A z u)) ∨ ((¬ 40 ≤ z13) ∧ (∃ z23 : Int, q_X12_isOpenBox x1 (z13 - 20) A z23 ∧ (((z23 = 0) ∧ (d_X12_take_1 x1 x2 A z u)) ∨ ((¬ z23 = 0) ∧ (d_X12_take_2 x1 x2 A z u)))))))))))))) ∨ ((z6 = 0) ∧ (d_X12_take_4 A z u)))))))
def r_X12_take (x1 : Int) (x2 : Int) (A : St) (z : Int) (u : St) : Prop := tr_r_X12_take x1 x2 A z u
theorem u_r_X12_take {x1 : Int} {x2 : Int} {A : St} {z : Int} {u : St} (h : tr_r_X12_take x1 x2 A z u) : r_X12_take x1 x2 A z u := h
def ws_mc_X12_take : List Cond := .code yX12_take cX12_take 5 (some .boolean) :: WX
set_option maxHeartbeats 4000000 in
set_option maxRecDepth 100000 in
theorem mc_X12_take (l : Launch) (dC : Nat → ClassId) (dI : Nat → Nat → Nat) (cB cI cJ cZ cQ : ClassId) (q : Nat → Nat) (A : St) (x1 x2 : Int) (hI : IM A) (hx1 : (-2147483648 : Int) ≤ x1 ∧ x1 ≤ 2147483647) (hx2 : (-2147483648 : Int) ≤ x2 ∧ x2 ≤ 2147483647) : XMi l yX12_take ws_mc_X12_take ({ frames := 4, cells := 0, slots := 0, locals := 89 } : Room) (dC, dI) (tyA cB cI cJ cZ cQ) (WM cI cJ cZ q) A [.ref (q 0), .int (iI x1), .int (iI x2)] (fun z u => r_X12_take x1 x2 A z u ∧ IM u ∧ fr [13, 41] [] A u ∧ (0 ≤ z ∧ z ≤ 1)) := by
  refine x_metz (cc := cX12_take) (maxL := 5) WM_adr (by decide +kernel) rfl (Nat.le_of_ble_eq_true rfl) (fun z u h => h.2.2.2) (fun p e s m below meth c Q AS ls hx hb hml hown hts hK hDD hA0 hP hS hl RET => ?_)
  have hown : s.vm.findClass RX12 = some m.cls := hown
  have hl : lv_has ls 5 [(0, .ref (q 0)), (1, .int (iI x1)), (2, .int (iI x2))] := hl
  have hiX12 : ∀ w ∈ u_ws RX12 TX12 85, w ∈ ws_mc_X12_take := fun w h => List.mem_cons_of_mem _ (wx_lay w h)
  obtain ⟨H, hHe⟩ : ∃ H : Heap, H = s.heap := ⟨_, rfl⟩
  rw [← hHe] at hP
  have hS : va_S AS s.heap H [] := by rw [hHe]; exact hS
  suffices hgo : ∀ locs : List Loc, va_S AS s.heap H locs → W p l e (headSpec ws_mc_X12_take ({ frames := 4, cells := 0, slots := 0, locals := 89 } : Room)).room s m [.ref (q 0), .int (iI x1), .int (iI x2)].toArray below meth c H locs 0 0 Q (F0 m 0 ls []) by
    have := hgo [] hS
    rw [hHe] at this
    exact this
  clear hS hHe
  intro locs hS
  refine lv_aload_n hx hb (dk_at dkX12_take_0 0 rfl) rfl (lv_at hl 0 rfl) ?_
  refine lv_iload_n hx hb (dk_at dkX12_take_0 1 rfl) rfl (lv_at hl 1 rfl) ?_
  have r_A_0_12 : (0 : Int) ≤ (A 0 12) ∧ (A 0 12) ≤ 1 := hI 0 12
  refine x_calli (As := [.int (iI x1)]) (rest := []) ⟨hx, hb, hml, hown, hts⟩ (mc_X12_isPersonB l dC dI cB cI cJ cZ cQ q _ x1 hI hx1) (cwV 1 hts (goodV wlq_5_55 wlq_5_56 wlq_5_57 wlq_0_8 wlq_4_40) rfl rfl rfl (by decide +kernel) ⟨Nat.le_of_ble_eq_true rfl, Nat.le_of_ble_eq_true rfl⟩) hK hDD hA0 hP hS 0 12 wm0 rfl rfl hl.1 (Nat.le_of_ble_eq_true rfl) (dk_at dkX12_take_0 2 rfl) (fun z1 A2 H locs hw3 hP hS => ?_)
  obtain ⟨rfl, hw3⟩ := hw3
  have ghw3 : q_X12_isPerson x1 A z1 := hw3
  have hw3 := hw3.2
  have rz1 : 0 ≤ z1 ∧ z1 ≤ 1 := hw3.1
  have J16_5 : ∀ (H : Heap) (locs : List Loc) (ls : Array Slot), (∀ (z : Int) (u : St), (d_X12_take_4 A z u) → r_X12_take x1 x2 A z u) → va_P (dC, dI) vwCl (WM cI cJ cZ q A) H → va_S AS s.heap H locs → lv_has ls 5 [(0, .ref (q 0)), (1, .int (iI x1)), (2, .int (iI x2))] → W p l e (headSpec ws_mc_X12_take ({ frames := 4, cells := 0, slots := 0, locals := 89 } : Room)).room s m [.ref (q 0), .int (iI x1), .int (iI x2)].toArray below meth c H locs 0 0 Q (F0 m 16 ls []) := by
    intro H locs ls hk4 hP hS hl
    clear hw3
    refine lv_aload_n hx hb (dk_at dkX12_take_0 8 rfl) rfl (lv_at hl 0 rfl) ?_
    refine lv_iconst (v := iI 3) hx hb (dk_at dkX12_take_0 9 rfl) (by decide +kernel) ?_
    refine x_calli (As := [.int (iI 3)]) (rest := []) ⟨hx, hb, hml, hown, hts⟩ (mc_X12_refuses l dC dI cB cI cJ cZ cQ q _ 3 hI ⟨by decide, by decide⟩) (cwV 1 hts (goodV wlq_0_5 wlq_0_6 wlq_0_7 wlq_0_8 wlq_0_9) rfl rfl rfl (by decide +kernel) ⟨Nat.le_of_ble_eq_true rfl, Nat.le_of_ble_eq_true rfl⟩) hK hDD hA0 hP hS 0 12 wm0 rfl rfl hl.1 (Nat.le_of_ble_eq_true rfl) (dk_at dkX12_take_0 10 rfl) (fun z43 A44 H locs hw45 hP hS => ?_)
    have ghw45 : q_X12_refuses 3 A z43 A44 := hw45
    obtain ⟨_, hI, hf46, hw45⟩ := hw45
    refine lv_if_lt (tgt := 28) hx hb (dk_at dkX12_take_0 11 rfl) (by decide) (fun _ => ?_) (fun c47 => False.elim (by have c47 : ¬ z43 < 0 := mt (i_lt0 (by omega)).mpr c47; omega))
    refine lv_iconst (v := iI 0) hx hb (dk_at dkX12_take_0 12 rfl) (by decide +kernel) ?_
    exact RET 0 _ _ _ _ _ ⟨hk4 _ _ (u_d_X12_take_4 ⟨z43, A44, ghw45, ⟨rfl, rfl⟩⟩), hI, fr.trans (fr.rf) hf46 rfl rfl, by omega⟩ hP hS (dk_at dkX12_take_0 13 rfl)
  refine lv_if_eq (tgt := 16) hx hb (dk_at dkX12_take_0 3 rfl) (by decide) (fun c4 => ?_) (fun c4 => ?_)
  · have c4 : z1 = 0 := (i_eq0 (rb rz1 (by decide) (by decide))).mp c4
    clear hw3
    exact J16_5 _ _ _ (fun zq uq hq => (u_r_X12_take ⟨z1, ghw3, (Or.inl ⟨c4, hq⟩)⟩)) hP hS (lv_sub hl [0, 1, 2] rfl)
  · have c4 : ¬ z1 = 0 := mt (i_eq0 (rb rz1 (by decide) (by decide))).mpr c4
    have hw3b := hw3.2.mp (by omega)
    clear hw3
    refine lv_aload_n hx hb (dk_at dkX12_take_0 4 rfl) rfl (lv_at hl 0 rfl) ?_
    refine lv_iload_n hx hb (dk_at dkX12_take_0 5 rfl) rfl (lv_at hl 2 rfl) ?_
    refine x_calli (As := [.int (iI x2)]) (rest := []) ⟨hx, hb, hml, hown, hts⟩ (mc_X12_isKeyB l dC dI cB cI cJ cZ cQ q _ x2 hI hx2) (cwV 1 hts (goodV wlq_5_18 wlq_5_19 wlq_5_20 wlq_0_8 wlq_4_39) rfl rfl rfl (by decide +kernel) ⟨Nat.le_of_ble_eq_true rfl, Nat.le_of_ble_eq_true rfl⟩) hK hDD hA0 hP hS 0 12 wm0 rfl rfl hl.1 (Nat.le_of_ble_eq_true rfl) (dk_at dkX12_take_0 6 rfl) (fun z6 A7 H locs hw8 hP hS => ?_)
    obtain ⟨rfl, hw8⟩ := hw8
    have ghw8 : q_X12_isKey x2 A z6 := hw8
    have hw8 := hw8.2
    have rz6 : 0 ≤ z6 ∧ z6 ≤ 1 := hw8.1
    refine lv_if_ne (tgt := 30) hx hb (dk_at dkX12_take_0 7 rfl) (by decide) (fun c9 => ?_) (fun c9 => ?_)
    · have c9 : ¬ z6 = 0 := mt (i_eq0 (rb rz6 (by decide) (by decide))).mpr c9
      have hw8b := hw8.2.mp (by omega)
      clear hw8
      refine lv_aload_n hx hb (dk_at dkX12_take_0 14 rfl) rfl (lv_at hl 0 rfl) ?_
      refine va_get (D := (dC, dI)) (ci := 12) (v := .ref (q 13)) (C := RX12) (T := TX12) (N := 85) hx hb hts hiX12 hown hK hP 0 wm0 rfl 24 (by decide) (hts _ (List.mem_cons_of_mem _ wlq_2_58)) (fun _ h9 => h9) rfl (dk_at dkX12_take_0 15 rfl) ?_
      refine lv_aload_n hx hb (dk_at dkX12_take_1 0 rfl) rfl (lv_at hl 0 rfl) ?_
      refine lv_iload_n hx hb (dk_at dkX12_take_1 1 rfl) rfl (lv_at hl 2 rfl) ?_
      refine x_calli (As := [.int (iI x2)]) (rest := [.ref (q 13)]) ⟨hx, hb, hml, hown, hts⟩ (mc_X12_key4 l dC dI cB cI cJ cZ cQ q _ x2 hI (by omega)) (cwV 1 hts (goodV wlq_4_44 wlq_4_45 wlq_4_46 wlq_0_8 wlq_4_41) rfl rfl rfl (by decide +kernel) ⟨Nat.le_of_ble_eq_true rfl, Nat.le_of_ble_eq_true rfl⟩) hK hDD hA0 hP hS 0 12 wm0 rfl rfl hl.1 (Nat.le_of_ble_eq_true rfl) (dk_at dkX12_take_1 2 rfl) (fun z10 A11 H locs hw12 hP hS => ?_)
      obtain ⟨rfl, hw12⟩ := hw12
      have ghw12 : q_X12_key4 x2 A z10 := hw12
      have hw12 := hw12.2
      refine tp_i (y := iI (4 * (A 0 12) + x2)) (congrArg iI (show z10 = 4 * (A 0 12) + x2 by omega)) ?_
      clear hw12
      refine x_iald hx hb hK hP 13 1 wm13 rfl (by omega) (by decide) (dk_at dkX12_take_1 3 rfl) (fun z13 hz13 => ?_)
      have rz13 : (0 : Int) ≤ z13 ∧ z13 ≤ 40 := by rw [hz13]; exact hI 13 _
      have gz13 := Hd.mk hz13
      have hz13 : z13 = A 13 (4 * (A 0 12) + x2).toNat := hz13
      refine lv_istore_n (lv' := [(3, .int (iI z13)), (0, .ref (q 0)), (1, .int (iI x1)), (2, .int (iI x2))]) hx hb (dk_at dkX12_take_1 4 rfl) rfl hl (by decide) rfl (fun ls hl => ?_)
      refine lv_iload_n hx hb (dk_at dkX12_take_1 5 rfl) rfl (lv_at hl 0 rfl) ?_
      refine lv_bipush (v := iI 10) hx hb (dk_at dkX12_take_1 6 rfl) (by decide +kernel) ?_
      refine lv_aload_n hx hb (dk_at dkX12_take_1 7 rfl) rfl (lv_at hl 1 rfl) ?_
      refine lv_iload_n hx hb (dk_at dkX12_take_1 8 rfl) rfl (lv_at hl 2 rfl) ?_
      refine x_calli (As := [.int (iI x1)]) (rest := [.int (iI 10), .int (iI z13)]) ⟨hx, hb, hml, hown, hts⟩ (mc_X12_placeOf l dC dI cB cI cJ cZ cQ q _ x1 hI (by omega)) (cwV 1 hts (goodV wlq_5_35 wlq_5_36 wlq_5_37 wlq_0_8 wlq_5_25) rfl rfl rfl (by decide +kernel) ⟨Nat.le_of_ble_eq_true rfl, Nat.le_of_ble_eq_true rfl⟩) hK hDD hA0 hP hS 0 12 wm0 rfl rfl hl.1 (Nat.le_of_ble_eq_true rfl) (dk_at dkX12_take_1 9 rfl) (fun z14 A15 H locs hw16 hP hS => ?_)
      obtain ⟨rfl, hw16⟩ := hw16
      have ghw16 : q_X12_placeOf x1 A z14 := hw16
      have hw16 := hw16.2
      refine x_addv (v := z14 + 10) hx hb (dk_at dkX12_take_1 10 rfl) (by omega) ?_
      have J82_19 : ∀ (z29 : Int) (H : Heap) (locs : List Loc) (ls : Array Slot), (0 ≤ z29 ∧ z29 ≤ 1) → ((z29 = 0 ∧ ¬ z13 = z14 + 10) ∨ (z29 = 1)) → (∀ (z : Int) (u : St), (d_X12_take_3 x1 x2 A z u z29) → r_X12_take x1 x2 A z u) → va_P (dC, dI) vwCl (WM cI cJ cZ q A) H → va_S AS s.heap H locs → lv_has ls 5 [(3, .int (iI z13)), (0, .ref (q 0)), (1, .int (iI x1)), (2, .int (iI x2))] → W p l e (headSpec ws_mc_X12_take ({ frames := 4, cells := 0, slots := 0, locals := 89 } : Room)).room s m [.ref (q 0), .int (iI x1), .int (iI x2)].toArray below meth c H locs 0 0 Q (F0 m 82 ls [.int (iI z29)]) := by
        intro z29 H locs ls f31 f32 hk3 hP hS hl
        refine lv_istore (lv' := [(4, .int (iI z29)), (3, .int (iI z13)), (0, .ref (q 0)), (1, .int (iI x1)), (2, .int (iI x2))]) hx hb (dk_at dkX12_take_2 12 rfl) hl (by decide) rfl (fun ls hl => ?_)
        refine lv_iload hx hb (dk_at dkX12_take_2 13 rfl) (lv_at hl 0 rfl) ?_
        refine lv_if_ne (tgt := 103) hx hb (dk_at dkX12_take_2 14 rfl) (by decide) (fun c33 => ?_) (fun c33 => ?_)
        · have c33 : ¬ z29 = 0 := mt (i_eq0 (rb f31 (by decide) (by decide))).mpr c33
          refine lv_aload_n hx hb (dk_at dkX12_take_3 5 rfl) rfl (lv_at hl 2 rfl) ?_
          refine va_get (D := (dC, dI)) (ci := 12) (v := .ref (q 13)) (C := RX12) (T := TX12) (N := 85) hx hb hts hiX12 hown hK hP 0 wm0 rfl 24 (by decide) (hts _ (List.mem_cons_of_mem _ wlq_2_58)) (fun _ h9 => h9) rfl (dk_at dkX12_take_3 6 rfl) ?_
          refine lv_aload_n hx hb (dk_at dkX12_take_3 7 rfl) rfl (lv_at hl 2 rfl) ?_
          refine lv_iload_n hx hb (dk_at dkX12_take_3 8 rfl) rfl (lv_at hl 4 rfl) ?_
          refine x_calli (As := [.int (iI x2)]) (rest := [.ref (q 13)]) ⟨hx, hb, hml, hown, hts⟩ (mc_X12_key4 l dC dI cB cI cJ cZ cQ q _ x2 hI (by omega)) (cwV 1 hts (goodV wlq_4_44 wlq_4_45 wlq_4_46 wlq_0_8 wlq_4_41) rfl rfl rfl (by decide +kernel) ⟨Nat.le_of_ble_eq_true rfl, Nat.le_of_ble_eq_true rfl⟩) hK hDD hA0 hP hS 0 12 wm0 rfl rfl hl.1 (Nat.le_of_ble_eq_true rfl) (dk_at dkX12_take_3 9 rfl) (fun z34 A35 H locs hw36 hP hS => ?_)
          obtain ⟨rfl, hw36⟩ := hw36
          have ghw36 : q_X12_key4 x2 A z34 := hw36
          have hw36 := hw36.2
          refine tp_i (y := iI (4 * (A 0 12) + x2)) (congrArg iI (show z34 = 4 * (A 0 12) + x2 by omega)) ?_
          clear hw36
          refine lv_iload_n hx hb (dk_at dkX12_take_3 10 rfl) rfl (lv_at hl 3 rfl) ?_
          refine x_iast hx hb hK hP hDD hS 13 1 wm13 rfl (by omega) (by decide) (dk_at dkX12_take_3 11 rfl) ws13 (fun H locs hP hS => ?_)
          have hI := hI.st (j := 13) (i := (4 * (A 0 12) + x2).toNat) (v := x1) (show (0 : Int) ≤ x1 ∧ x1 ≤ 40 from (by omega))
          refine lv_iconst (v := iI 1) hx hb (dk_at dkX12_take_3 12 rfl) (by decide +kernel) ?_
          exact RET 1 _ _ _ _ _ ⟨hk3 _ _ (u_d_X12_take_3 ⟨f31, (Or.inl ⟨c33, ⟨z34, ghw36, ⟨rfl, rfl⟩⟩⟩)⟩), hI, fr.st (fr.rf) (by decide) rfl, by omega⟩ hP hS (dk_at dkX12_take_3 13 rfl)
        · have c33 : z29 = 0 := (i_eq0 (rb f31 (by decide) (by decide))).mp c33
          refine lv_aload_n hx hb (dk_at dkX12_take_2 15 rfl) rfl (lv_at hl 2 rfl) ?_
          refine lv_iconst (v := iI 3) hx hb (dk_at dkX12_take_3 0 rfl) (by decide +kernel) ?_
          refine x_calli (As := [.int (iI 3)]) (rest := []) ⟨hx, hb, hml, hown, hts⟩ (mc_X12_refuses l dC dI cB cI cJ cZ cQ q _ 3 hI ⟨by decide, by decide⟩) (cwV 1 hts (goodV wlq_0_5 wlq_0_6 wlq_0_7 wlq_0_8 wlq_0_9) rfl rfl rfl (by decide +kernel) ⟨Nat.le_of_ble_eq_true rfl, Nat.le_of_ble_eq_true rfl⟩) hK hDD hA0 hP hS 0 12 wm0 rfl rfl hl.1 (Nat.le_of_ble_eq_true rfl) (dk_at dkX12_take_3 1 rfl) (fun z37 A38 H locs hw39 hP hS => ?_)
          have ghw39 : q_X12_refuses 3 A z37 A38 := hw39
          obtain ⟨_, hI, hf40, hw39⟩ := hw39
          refine lv_if_lt (tgt := 101) hx hb (dk_at dkX12_take_3 2 rfl) (by decide) (fun _ => ?_) (fun c41 => False.elim (by have c41 : ¬ z37 < 0 := mt (i_lt0 (by omega)).mpr c41; omega))
          refine lv_iconst (v := iI 0) hx hb (dk_at dkX12_take_3 3 rfl) (by decide +kernel) ?_
          exact RET 0 _ _ _ _ _ ⟨hk3 _ _ (u_d_X12_take_3 ⟨f31, (Or.inr ⟨c33, ⟨z37, A38, ghw39, ⟨rfl, rfl⟩⟩⟩)⟩), hI, fr.trans (fr.rf) hf40 rfl rfl, by omega⟩ hP hS (dk_at dkX12_take_3 4 rfl)
      have J77_18 : ∀ (H : Heap) (locs : List Loc) (ls : Array Slot), (∀ (z : Int) (u : St), (d_X12_take_2 x1 x2 A z u) → r_X12_take x1 x2 A z u) → va_P (dC, dI) vwCl (WM cI cJ cZ q A) H → va_S AS s.heap H locs → lv_has ls 5 [(3, .int (iI z13)), (0, .ref (q 0)), (1, .int (iI x1)), (2, .int (iI x2))] → W p l e (headSpec ws_mc_X12_take ({ frames := 4, cells := 0, slots := 0, locals := 89 } : Room)).room s m [.ref (q 0), .int (iI x1), .int (iI x2)].toArray below meth c H locs 0 0 Q (F0 m 77 ls []) := by
        intro H locs ls hk2 hP hS hl
        refine lv_iconst (v := iI 1) hx hb (dk_at dkX12_take_2 9 rfl) (by decide +kernel) ?_
        refine lv_goto (tgt := 82) hx hb (dk_at dkX12_take_2 10 rfl) (by decide) ?_
        exact J82_19 1 _ _ _ (by omega) (by omega) (fun zq uq hq => hk2 _ _ (u_d_X12_take_2 hq)) hP hS (lv_sub hl [0, 1, 2, 3] rfl)
      refine lv_icmp_eq (tgt := 77) hx hb (dk_at dkX12_take_1 11 rfl) (by decide) (fun c17 => ?_) (fun c17 => ?_)
      · have c17 : z13 = z14 + 10 := (i_eq (rb rz13 (by decide) (by decide)) (by omega)).mp c17
        exact J77_18 _ _ _ (fun zq uq hq => (u_r_X12_take ⟨z1, ghw3, (Or.inr ⟨c4, ⟨z6, ghw8, (Or.inl ⟨c9, ⟨z10, ghw12, ⟨z13, gz13.out, ⟨z14, ghw16, (Or.inl ⟨c17, hq⟩)⟩⟩⟩⟩)⟩⟩)⟩)) hP hS (lv_sub hl [0, 1, 2, 3] rfl)
      · have c17 : ¬ z13 = z14 + 10 := mt (i_eq (rb rz13 (by decide) (by decide)) (by omega)).mpr c17
        refine lv_iload_n hx hb (dk_at dkX12_take_1 12 rfl) rfl (lv_at hl 0 rfl) ?_
        refine lv_bipush (v := iI 20) hx hb (dk_at dkX12_take_1 13 rfl) (by decide +kernel) ?_
        have J81_21 : ∀ (H : Heap) (locs : List Loc) (ls : Array Slot), (∀ (z : Int) (u : St), (d_X12_take_1 x1 x2 A z u) → r_X12_take x1 x2 A z u) → va_P (dC, dI) vwCl (WM cI cJ cZ q A) H → va_S AS s.heap H locs → lv_has ls 5 [(3, .int (iI z13)), (0, .ref (q 0)), (1, .int (iI x1)), (2, .int (iI x2))] → W p l e (headSpec ws_mc_X12_take ({ frames := 4, cells := 0, slots := 0, locals := 89 } : Room)).room s m [.ref (q 0), .int (iI x1), .int (iI x2)].toArray below meth c H locs 0 0 Q (F0 m 81 ls []) := by
          intro H locs ls hk1 hP hS hl
          refine lv_iconst (v := iI 0) hx hb (dk_at dkX12_take_2 11 rfl) (by decide +kernel) ?_
          exact J82_19 0 _ _ _ (by omega) (by omega) (fun zq uq hq => hk1 _ _ (u_d_X12_take_1 hq)) hP hS (lv_sub hl [0, 1, 2, 3] rfl)
        refine lv_icmp_lt (tgt := 81) hx hb (dk_at dkX12_take_1 14 rfl) (by decide) (fun c20 => ?_) (fun c20 => ?_)
        · have c20 : z13 < 20 := (i_lt (rb rz13 (by decide) (by decide)) ⟨by decide, by decide⟩).mp c20
          exact J81_21 _ _ _ (fun zq uq hq => (u_r_X12_take ⟨z1, ghw3, (Or.inr ⟨c4, ⟨z6, ghw8, (Or.inl ⟨c9, ⟨z10, ghw12, ⟨z13, gz13.out, ⟨z14, ghw16, (Or.inr ⟨c17, (Or.inl ⟨c20, hq⟩)⟩)⟩⟩⟩⟩)⟩⟩)⟩)) hP hS (lv_sub hl [0, 1, 2, 3] rfl)
        · have c20 : ¬ z13 < 20 := mt (i_lt (rb rz13 (by decide) (by decide)) ⟨by decide, by decide⟩).mpr c20
          refine lv_iload_n hx hb (dk_at dkX12_take_1 15 rfl) rfl (lv_at hl 0 rfl) ?_
          refine lv_bipush (v := iI 40) hx hb (dk_at dkX12_take_2 0 rfl) (by decide +kernel) ?_
          refine lv_icmp_ge (tgt := 81) hx hb (dk_at dkX12_take_2 1 rfl) (by decide) (fun c22 => ?_) (fun c22 => ?_)
          · have c22 : 40 ≤ z13 := (i_le ⟨by decide, by decide⟩ (rb rz13 (by decide) (by decide))).mp c22
            exact J81_21 _ _ _ (fun zq uq hq => (u_r_X12_take ⟨z1, ghw3, (Or.inr ⟨c4, ⟨z6, ghw8, (Or.inl ⟨c9, ⟨z10, ghw12, ⟨z13, gz13.out, ⟨z14, ghw16, (Or.inr ⟨c17, (Or.inr ⟨c20, (Or.inl ⟨c22, hq⟩)⟩)⟩)⟩⟩⟩⟩)⟩⟩)⟩)) hP hS (lv_sub hl [0, 1, 2, 3] rfl)
          · have c22 : ¬ 40 ≤ z13 := mt (i_le ⟨by decide, by decide⟩ (rb rz13 (by decide) (by decide))).mpr c22
            refine lv_aload_n hx hb (dk_at dkX12_take_2 2 rfl) rfl (lv_at hl 1 rfl) ?_
            refine lv_iload_n hx hb (dk_at dkX12_take_2 3 rfl) rfl (lv_at hl 2 rfl) ?_
            refine lv_iload_n hx hb (dk_at dkX12_take_2 4 rfl) rfl (lv_at hl 0 rfl) ?_
            refine lv_bipush (v := iI 20) hx hb (dk_at dkX12_take_2 5 rfl) (by decide +kernel) ?_
            refine x_subv (v := z13 - 20) hx hb (dk_at dkX12_take_2 6 rfl) (by omega) ?_
            refine x_calli (As := [.int (iI x1), .int (iI (z13 - 20))]) (rest := []) ⟨hx, hb, hml, hown, hts⟩ (mc_X12_isOpenBox l dC dI cB cI cJ cZ cQ q _ x1 (z13 - 20) hI (by omega) (by omega)) (cwV 2 hts (goodV wlq_6_12 wlq_6_13 wlq_6_14 wlq_0_8 wlq_6_10) rfl rfl rfl (by decide +kernel) ⟨Nat.le_of_ble_eq_true rfl, Nat.le_of_ble_eq_true rfl⟩) hK hDD hA0 hP hS 0 12 wm0 rfl rfl hl.1 (Nat.le_of_ble_eq_true rfl) (dk_at dkX12_take_2 7 rfl) (fun z23 A24 H locs hw25 hP hS => ?_)
            obtain ⟨rfl, hw25⟩ := hw25
            have ghw25 : q_X12_isOpenBox x1 (z13 - 20) A z23 := hw25
            have hw25 := hw25.2
            have rz23 : 0 ≤ z23 ∧ z23 ≤ 1 := hw25.1
            refine lv_if_eq (tgt := 81) hx hb (dk_at dkX12_take_2 8 rfl) (by decide) (fun c26 => ?_) (fun c26 => ?_)
            · have c26 : z23 = 0 := (i_eq0 (rb rz23 (by decide) (by decide))).mp c26
              exact J81_21 _ _ _ (fun zq uq hq => (u_r_X12_take ⟨z1, ghw3, (Or.inr ⟨c4, ⟨z6, ghw8, (Or.inl ⟨c9, ⟨z10, ghw12, ⟨z13, gz13.out, ⟨z14, ghw16, (Or.inr ⟨c17, (Or.inr ⟨c20, (Or.inr ⟨c22, ⟨z23, ghw25, (Or.inl ⟨c26, hq⟩)⟩⟩)⟩)⟩)⟩⟩⟩⟩)⟩⟩)⟩)) hP hS (lv_sub hl [0, 1, 2, 3] rfl)
            · have c26 : ¬ z23 = 0 := mt (i_eq0 (rb rz23 (by decide) (by decide))).mpr c26
              exact J77_18 _ _ _ (fun zq uq hq => (u_r_X12_take ⟨z1, ghw3, (Or.inr ⟨c4, ⟨z6, ghw8, (Or.inl ⟨c9, ⟨z10, ghw12, ⟨z13, gz13.out, ⟨z14, ghw16, (Or.inr ⟨c17, (Or.inr ⟨c20, (Or.inr ⟨c22, ⟨z23, ghw25, (Or.inr ⟨c26, hq⟩)⟩⟩)⟩)⟩)⟩⟩⟩⟩)⟩⟩)⟩)) hP hS (lv_sub hl [0, 1, 2, 3] rfl)
    · have c9 : z6 = 0 := (i_eq0 (rb rz6 (by decide) (by decide))).mp c9
      clear hw8
      exact J16_5 _ _ _ (fun zq uq hq => (u_r_X12_take ⟨z1, ghw3, (Or.inr ⟨c4, ⟨z6, ghw8, (Or.inr ⟨c9, hq⟩)⟩⟩)⟩)) hP hS (lv_sub hl [0, 1, 2] rfl)

abbrev tr_d_X12_lay_3 (x1 : Int) (x2 : Int) (x3 : Int) (A : St) (z : Int) (u : St) (z25 : Int) : Prop := ((0 ≤ z25 ∧ z25 ≤ 1) ∧ (((¬ z25 = 0) ∧ (∃ z31 : Int, q_X12_key4 x2 A z31 ∧ (((¬ x3 = (-1)) ∧ (z = 1 ∧ u = (stA A 13 (4 * (A 0 12) + x2).toNat (x3 + 20)))) ∨ ((x3 = (-1)) ∧ (∃ z35 : Int, q_X12_placeOf x1 A z35 ∧ (z = 1 ∧ u = (stA A 13 (4 * (A 0 12) + x2).toNat (z35 + 10)))))))) ∨ ((z25 = 0) ∧ (∃ z38 : Int, ∃ A39 : St, q_X12_refuses 3 A z38 A39 ∧ (z = 0 ∧ u = A39)))))
def d_X12_lay_3 (x1 : Int) (x2 : Int) (x3 : Int) (A : St) (z : Int) (u : St) (z25 : Int) : Prop := tr_d_X12_lay_3 x1 x2 x3 A z u z25
theorem u_d_X12_lay_3 {x1 : Int} {x2 : Int} {x3 : Int} {A : St} {z : Int} {u : St} {z25 : Int} (h : tr_d_X12_lay_3 x1 x2 x3 A z u z25) : d_X12_lay_3 x1 x2 x3 A z u z25 := h
abbrev tr_d_X12_lay_2 (x1 : Int) (x2 : Int) (x3 : Int) (A : St) (z : Int) (u : St) : Prop := (d_X12_lay_3 x1 x2 x3 A z u 0)
def d_X12_lay_2 (x1 : Int) (x2 : Int) (x3 : Int) (A : St) (z : Int) (u : St) : Prop := tr_d_X12_lay_2 x1 x2 x3 A z u
theorem u_d_X12_lay_2 {x1 : Int} {x2 : Int} {x3 : Int} {A : St} {z : Int} {u : St} (h : tr_d_X12_lay_2 x1 x2 x3 A z u) : d_X12_lay_2 x1 x2 x3 A z u := h
abbrev tr_d_X12_lay_1 (x1 : Int) (x2 : Int) (x3 : Int) (A : St) (z : Int) (u : St) : Prop := (d_X12_lay_3 x1 x2 x3 A z u 1)
def d_X12_lay_1 (x1 : Int) (x2 : Int) (x3 : Int) (A : St) (z : Int) (u : St) : Prop := tr_d_X12_lay_1 x1 x2 x3 A z u
theorem u_d_X12_lay_1 {x1 : Int} {x2 : Int} {x3 : Int} {A : St} {z : Int} {u : St} (h : tr_d_X12_lay_1 x1 x2 x3 A z u) : d_X12_lay_1 x1 x2 x3 A z u := h
abbrev tr_r_X12_lay (x1 : Int) (x2 : Int) (x3 : Int) (A : St) (z : Int) (u : St) : Prop := (∃ z1 : Int, q_X12_isPerson x1 A z1 ∧ (((z1 = 0) ∧ (d_X12_lay_2 x1 x2 x3 A z u)) ∨ ((¬ z1 = 0) ∧ (∃ z7 : Int, q_X12_isKey x2 A z7 ∧ (((z7 = 0) ∧ (d_X12_lay_2 x1 x2 x3 A z u)) ∨ ((¬ z7 = 0) ∧ (∃ z11 : Int, q_X12_key4 x2 A z11 ∧ (∃ z14 : Int, z14 = A 13 (4 * (A 0 12) + x2).toNat ∧ (((¬ z14 = x1) ∧ (d_X12_lay_2 x1 x2 x3 A z u)) ∨ ((z14 = x1) ∧ (((x3 = (-1)) ∧ (d_X12_lay_1 x1 x2 x3 A z u)) ∨ ((¬ x3 = (-1)) ∧ (∃ z18 : Int, q_X12_isOpenBox x1 x3 A z18 ∧ (((z18 = 0) ∧ (d_X12_lay_2 x1 x2 x3 A z u)) ∨ ((¬ z18 = 0) ∧ (d_X12_lay_1 x1 x2 x3 A z u))))))))))))))))
def r_X12_lay (x1 : Int) (x2 : Int) (x3 : Int) (A : St) (z : Int) (u : St) : Prop := tr_r_X12_lay x1 x2 x3 A z u
theorem u_r_X12_lay {x1 : Int} {x2 : Int} {x3 : Int} {A : St} {z : Int} {u : St} (h : tr_r_X12_lay x1 x2 x3 A z u) : r_X12_lay x1 x2 x3 A z u := h
def ws_mc_X12_lay : List Cond := .code yX12_lay cX12_lay 5 (some .boolean) :: WX
set_option maxHeartbeats 4000000 in
set_option maxRecDepth 100000 in
theorem mc_X12_lay (l : Launch) (dC : Nat → ClassId) (dI : Nat → Nat → Nat) (cB cI cJ cZ cQ : ClassId) (q : Nat → Nat) (A : St) (x1 x2 x3 : Int) (hI : IM A) (hx1 : (-2147483648 : Int) ≤ x1 ∧ x1 ≤ 2147483647) (hx2 : (-2147483648 : Int) ≤ x2 ∧ x2 ≤ 2147483647) (hx3 : (-2147483648 : Int) ≤ x3 ∧ x3 ≤ 2147483647) : XMi l yX12_lay ws_mc_X12_lay ({ frames := 4, cells := 0, slots := 0, locals := 89 } : Room) (dC, dI) (tyA cB cI cJ cZ cQ) (WM cI cJ cZ q) A [.ref (q 0), .int (iI x1), .int (iI x2), .int (iI x3)] (fun z u => r_X12_lay x1 x2 x3 A z u ∧ IM u ∧ fr [13, 41] [] A u ∧ (0 ≤ z ∧ z ≤ 1)) := by
  refine x_metz (cc := cX12_lay) (maxL := 5) WM_adr (by decide +kernel) rfl (Nat.le_of_ble_eq_true rfl) (fun z u h => h.2.2.2) (fun p e s m below meth c Q AS ls hx hb hml hown hts hK hDD hA0 hP hS hl RET => ?_)
  have hown : s.vm.findClass RX12 = some m.cls := hown
  have hl : lv_has ls 5 [(0, .ref (q 0)), (1, .int (iI x1)), (2, .int (iI x2)), (3, .int (iI x3))] := hl
  have hiX12 : ∀ w ∈ u_ws RX12 TX12 85, w ∈ ws_mc_X12_lay := fun w h => List.mem_cons_of_mem _ (wx_lay w h)
  obtain ⟨H, hHe⟩ : ∃ H : Heap, H = s.heap := ⟨_, rfl⟩
  rw [← hHe] at hP
  have hS : va_S AS s.heap H [] := by rw [hHe]; exact hS
  suffices hgo : ∀ locs : List Loc, va_S AS s.heap H locs → W p l e (headSpec ws_mc_X12_lay ({ frames := 4, cells := 0, slots := 0, locals := 89 } : Room)).room s m [.ref (q 0), .int (iI x1), .int (iI x2), .int (iI x3)].toArray below meth c H locs 0 0 Q (F0 m 0 ls []) by
    have := hgo [] hS
    rw [hHe] at this
    exact this
  clear hS hHe
  intro locs hS
  refine lv_aload_n hx hb (dk_at dkX12_lay_0 0 rfl) rfl (lv_at hl 0 rfl) ?_
  refine lv_iload_n hx hb (dk_at dkX12_lay_0 1 rfl) rfl (lv_at hl 1 rfl) ?_
  have r_A_0_12 : (0 : Int) ≤ (A 0 12) ∧ (A 0 12) ≤ 1 := hI 0 12
  refine x_calli (As := [.int (iI x1)]) (rest := []) ⟨hx, hb, hml, hown, hts⟩ (mc_X12_isPersonB l dC dI cB cI cJ cZ cQ q _ x1 hI hx1) (cwV 1 hts (goodV wlq_5_55 wlq_5_56 wlq_5_57 wlq_0_8 wlq_4_40) rfl rfl rfl (by decide +kernel) ⟨Nat.le_of_ble_eq_true rfl, Nat.le_of_ble_eq_true rfl⟩) hK hDD hA0 hP hS 0 12 wm0 rfl rfl hl.1 (Nat.le_of_ble_eq_true rfl) (dk_at dkX12_lay_0 2 rfl) (fun z1 A2 H locs hw3 hP hS => ?_)
  obtain ⟨rfl, hw3⟩ := hw3
  have ghw3 : q_X12_isPerson x1 A z1 := hw3
  have hw3 := hw3.2
  have rz1 : 0 ≤ z1 ∧ z1 ≤ 1 := hw3.1
  have J49_6 : ∀ (z25 : Int) (H : Heap) (locs : List Loc) (ls : Array Slot), (0 ≤ z25 ∧ z25 ≤ 1) → ((z25 = 1 ∧ ¬ z1 = 0) ∨ (z25 = 0)) → (z25 = 1 → 0 ≤ x1 ∧ x1 ≤ 2 ∧ 0 ≤ x2 ∧ x2 ≤ 3 ∧ -1 ≤ x3 ∧ x3 ≤ 9) → (∀ (z : Int) (u : St), (d_X12_lay_3 x1 x2 x3 A z u z25) → r_X12_lay x1 x2 x3 A z u) → va_P (dC, dI) vwCl (WM cI cJ cZ q A) H → va_S AS s.heap H locs → lv_has ls 5 [(0, .ref (q 0)), (1, .int (iI x1)), (2, .int (iI x2)), (3, .int (iI x3))] → W p l e (headSpec ws_mc_X12_lay ({ frames := 4, cells := 0, slots := 0, locals := 89 } : Room)).room s m [.ref (q 0), .int (iI x1), .int (iI x2), .int (iI x3)].toArray below meth c H locs 0 0 Q (F0 m 49 ls [.int (iI z25)]) := by
    intro z25 H locs ls f27 f28 f29 hk3 hP hS hl
    clear hw3
    refine lv_istore (lv' := [(4, .int (iI z25)), (0, .ref (q 0)), (1, .int (iI x1)), (2, .int (iI x2)), (3, .int (iI x3))]) hx hb (dk_at dkX12_lay_1 11 rfl) hl (by decide) rfl (fun ls hl => ?_)
    refine lv_iload hx hb (dk_at dkX12_lay_1 12 rfl) (lv_at hl 0 rfl) ?_
    refine lv_if_ne (tgt := 70) hx hb (dk_at dkX12_lay_1 13 rfl) (by decide) (fun c30 => ?_) (fun c30 => ?_)
    · have c30 : ¬ z25 = 0 := mt (i_eq0 (rb f27 (by decide) (by decide))).mpr c30
      have f29b := f29 (by omega)
      clear f29
      refine lv_aload_n hx hb (dk_at dkX12_lay_2 4 rfl) rfl (lv_at hl 1 rfl) ?_
      refine va_get (D := (dC, dI)) (ci := 12) (v := .ref (q 13)) (C := RX12) (T := TX12) (N := 85) hx hb hts hiX12 hown hK hP 0 wm0 rfl 24 (by decide) (hts _ (List.mem_cons_of_mem _ wlq_2_58)) (fun _ h9 => h9) rfl (dk_at dkX12_lay_2 5 rfl) ?_
      refine lv_aload_n hx hb (dk_at dkX12_lay_2 6 rfl) rfl (lv_at hl 1 rfl) ?_
      refine lv_iload_n hx hb (dk_at dkX12_lay_2 7 rfl) rfl (lv_at hl 3 rfl) ?_
      refine x_calli (As := [.int (iI x2)]) (rest := [.ref (q 13)]) ⟨hx, hb, hml, hown, hts⟩ (mc_X12_key4 l dC dI cB cI cJ cZ cQ q _ x2 hI (by omega)) (cwV 1 hts (goodV wlq_4_44 wlq_4_45 wlq_4_46 wlq_0_8 wlq_4_41) rfl rfl rfl (by decide +kernel) ⟨Nat.le_of_ble_eq_true rfl, Nat.le_of_ble_eq_true rfl⟩) hK hDD hA0 hP hS 0 12 wm0 rfl rfl hl.1 (Nat.le_of_ble_eq_true rfl) (dk_at dkX12_lay_2 8 rfl) (fun z31 A32 H locs hw33 hP hS => ?_)
      obtain ⟨rfl, hw33⟩ := hw33
      have ghw33 : q_X12_key4 x2 A z31 := hw33
      have hw33 := hw33.2
      refine tp_i (y := iI (4 * (A 0 12) + x2)) (congrArg iI (show z31 = 4 * (A 0 12) + x2 by omega)) ?_
      clear hw33
      refine lv_iload_n hx hb (dk_at dkX12_lay_2 9 rfl) rfl (lv_at hl 4 rfl) ?_
      refine lv_iconst (v := iI (-1)) hx hb (dk_at dkX12_lay_2 10 rfl) (by decide +kernel) ?_
      refine lv_icmp_ne (tgt := 95) hx hb (dk_at dkX12_lay_2 11 rfl) (by decide) (fun c34 => ?_) (fun c34 => ?_)
      · have c34 : ¬ x3 = (-1) := mt (i_eq hx3 ⟨by decide, by decide⟩).mpr c34
        refine lv_bipush (v := iI 20) hx hb (dk_at dkX12_lay_3 2 rfl) (by decide +kernel) ?_
        refine lv_iload_n hx hb (dk_at dkX12_lay_3 3 rfl) rfl (lv_at hl 4 rfl) ?_
        refine x_addv (v := x3 + 20) hx hb (dk_at dkX12_lay_3 4 rfl) (by omega) ?_
        refine x_iast hx hb hK hP hDD hS 13 1 wm13 rfl (by omega) (by decide) (dk_at dkX12_lay_3 5 rfl) ws13 (fun H locs hP hS => ?_)
        have hI := hI.st (j := 13) (i := (4 * (A 0 12) + x2).toNat) (v := x3 + 20) (show (0 : Int) ≤ x3 + 20 ∧ x3 + 20 ≤ 40 from (by omega))
        refine lv_iconst (v := iI 1) hx hb (dk_at dkX12_lay_3 6 rfl) (by decide +kernel) ?_
        exact RET 1 _ _ _ _ _ ⟨hk3 _ _ (u_d_X12_lay_3 ⟨f27, (Or.inl ⟨c30, ⟨z31, ghw33, (Or.inl ⟨c34, ⟨rfl, rfl⟩⟩)⟩⟩)⟩), hI, fr.st (fr.rf) (by decide) rfl, by omega⟩ hP hS (dk_at dkX12_lay_3 7 rfl)
      · have c34 : x3 = (-1) := (i_eq hx3 ⟨by decide, by decide⟩).mp c34
        refine lv_bipush (v := iI 10) hx hb (dk_at dkX12_lay_2 12 rfl) (by decide +kernel) ?_
        refine lv_aload_n hx hb (dk_at dkX12_lay_2 13 rfl) rfl (lv_at hl 1 rfl) ?_
        refine lv_iload_n hx hb (dk_at dkX12_lay_2 14 rfl) rfl (lv_at hl 2 rfl) ?_
        refine x_calli (As := [.int (iI x1)]) (rest := [.int (iI 10), .int (iI (4 * (A 0 12) + x2)), .ref (q 13)]) ⟨hx, hb, hml, hown, hts⟩ (mc_X12_placeOf l dC dI cB cI cJ cZ cQ q _ x1 hI (by omega)) (cwV 1 hts (goodV wlq_5_35 wlq_5_36 wlq_5_37 wlq_0_8 wlq_5_25) rfl rfl rfl (by decide +kernel) ⟨Nat.le_of_ble_eq_true rfl, Nat.le_of_ble_eq_true rfl⟩) hK hDD hA0 hP hS 0 12 wm0 rfl rfl hl.1 (Nat.le_of_ble_eq_true rfl) (dk_at dkX12_lay_2 15 rfl) (fun z35 A36 H locs hw37 hP hS => ?_)
        obtain ⟨rfl, hw37⟩ := hw37
        have ghw37 : q_X12_placeOf x1 A z35 := hw37
        have hw37 := hw37.2
        refine x_addv (v := z35 + 10) hx hb (dk_at dkX12_lay_3 0 rfl) (by omega) ?_
        refine lv_goto (tgt := 99) hx hb (dk_at dkX12_lay_3 1 rfl) (by decide) ?_
        refine x_iast hx hb hK hP hDD hS 13 1 wm13 rfl (by omega) (by decide) (dk_at dkX12_lay_3 5 rfl) ws13 (fun H locs hP hS => ?_)
        have hI := hI.st (j := 13) (i := (4 * (A 0 12) + x2).toNat) (v := z35 + 10) (show (0 : Int) ≤ z35 + 10 ∧ z35 + 10 ≤ 40 from (by omega))
        refine lv_iconst (v := iI 1) hx hb (dk_at dkX12_lay_3 6 rfl) (by decide +kernel) ?_
        exact RET 1 _ _ _ _ _ ⟨hk3 _ _ (u_d_X12_lay_3 ⟨f27, (Or.inl ⟨c30, ⟨z31, ghw33, (Or.inr ⟨c34, ⟨z35, ghw37, ⟨rfl, rfl⟩⟩⟩)⟩⟩)⟩), hI, fr.st (fr.rf) (by decide) rfl, by omega⟩ hP hS (dk_at dkX12_lay_3 7 rfl)
    · have c30 : z25 = 0 := (i_eq0 (rb f27 (by decide) (by decide))).mp c30
      clear f29
      refine lv_aload_n hx hb (dk_at dkX12_lay_1 14 rfl) rfl (lv_at hl 1 rfl) ?_
      refine lv_iconst (v := iI 3) hx hb (dk_at dkX12_lay_1 15 rfl) (by decide +kernel) ?_
      refine x_calli (As := [.int (iI 3)]) (rest := []) ⟨hx, hb, hml, hown, hts⟩ (mc_X12_refuses l dC dI cB cI cJ cZ cQ q _ 3 hI ⟨by decide, by decide⟩) (cwV 1 hts (goodV wlq_0_5 wlq_0_6 wlq_0_7 wlq_0_8 wlq_0_9) rfl rfl rfl (by decide +kernel) ⟨Nat.le_of_ble_eq_true rfl, Nat.le_of_ble_eq_true rfl⟩) hK hDD hA0 hP hS 0 12 wm0 rfl rfl hl.1 (Nat.le_of_ble_eq_true rfl) (dk_at dkX12_lay_2 0 rfl) (fun z38 A39 H locs hw40 hP hS => ?_)
      have ghw40 : q_X12_refuses 3 A z38 A39 := hw40
      obtain ⟨_, hI, hf41, hw40⟩ := hw40
      refine lv_if_lt (tgt := 68) hx hb (dk_at dkX12_lay_2 1 rfl) (by decide) (fun _ => ?_) (fun c42 => False.elim (by have c42 : ¬ z38 < 0 := mt (i_lt0 (by omega)).mpr c42; omega))
      refine lv_iconst (v := iI 0) hx hb (dk_at dkX12_lay_2 2 rfl) (by decide +kernel) ?_
      exact RET 0 _ _ _ _ _ ⟨hk3 _ _ (u_d_X12_lay_3 ⟨f27, (Or.inr ⟨c30, ⟨z38, A39, ghw40, ⟨rfl, rfl⟩⟩⟩)⟩), hI, fr.trans (fr.rf) hf41 rfl rfl, by omega⟩ hP hS (dk_at dkX12_lay_2 3 rfl)
  have J48_5 : ∀ (H : Heap) (locs : List Loc) (ls : Array Slot), (∀ (z : Int) (u : St), (d_X12_lay_2 x1 x2 x3 A z u) → r_X12_lay x1 x2 x3 A z u) → va_P (dC, dI) vwCl (WM cI cJ cZ q A) H → va_S AS s.heap H locs → lv_has ls 5 [(0, .ref (q 0)), (1, .int (iI x1)), (2, .int (iI x2)), (3, .int (iI x3))] → W p l e (headSpec ws_mc_X12_lay ({ frames := 4, cells := 0, slots := 0, locals := 89 } : Room)).room s m [.ref (q 0), .int (iI x1), .int (iI x2), .int (iI x3)].toArray below meth c H locs 0 0 Q (F0 m 48 ls []) := by
    intro H locs ls hk2 hP hS hl
    clear hw3
    refine lv_iconst (v := iI 0) hx hb (dk_at dkX12_lay_1 10 rfl) (by decide +kernel) ?_
    exact J49_6 0 _ _ _ (by omega) (by omega) (by omega) (fun zq uq hq => hk2 _ _ (u_d_X12_lay_2 hq)) hP hS (lv_sub hl [0, 1, 2, 3] rfl)
  refine lv_if_eq (tgt := 48) hx hb (dk_at dkX12_lay_0 3 rfl) (by decide) (fun c4 => ?_) (fun c4 => ?_)
  · have c4 : z1 = 0 := (i_eq0 (rb rz1 (by decide) (by decide))).mp c4
    clear hw3
    exact J48_5 _ _ _ (fun zq uq hq => (u_r_X12_lay ⟨z1, ghw3, (Or.inl ⟨c4, hq⟩)⟩)) hP hS (lv_sub hl [0, 1, 2, 3] rfl)
  · have c4 : ¬ z1 = 0 := mt (i_eq0 (rb rz1 (by decide) (by decide))).mpr c4
    have hw3b := hw3.2.mp (by omega)
    clear hw3
    refine lv_aload_n hx hb (dk_at dkX12_lay_0 4 rfl) rfl (lv_at hl 0 rfl) ?_
    refine lv_iload_n hx hb (dk_at dkX12_lay_0 5 rfl) rfl (lv_at hl 2 rfl) ?_
    refine x_calli (As := [.int (iI x2)]) (rest := []) ⟨hx, hb, hml, hown, hts⟩ (mc_X12_isKeyB l dC dI cB cI cJ cZ cQ q _ x2 hI hx2) (cwV 1 hts (goodV wlq_5_18 wlq_5_19 wlq_5_20 wlq_0_8 wlq_4_39) rfl rfl rfl (by decide +kernel) ⟨Nat.le_of_ble_eq_true rfl, Nat.le_of_ble_eq_true rfl⟩) hK hDD hA0 hP hS 0 12 wm0 rfl rfl hl.1 (Nat.le_of_ble_eq_true rfl) (dk_at dkX12_lay_0 6 rfl) (fun z7 A8 H locs hw9 hP hS => ?_)
    obtain ⟨rfl, hw9⟩ := hw9
    have ghw9 : q_X12_isKey x2 A z7 := hw9
    have hw9 := hw9.2
    have rz7 : 0 ≤ z7 ∧ z7 ≤ 1 := hw9.1
    refine lv_if_eq (tgt := 48) hx hb (dk_at dkX12_lay_0 7 rfl) (by decide) (fun c10 => ?_) (fun c10 => ?_)
    · have c10 : z7 = 0 := (i_eq0 (rb rz7 (by decide) (by decide))).mp c10
      clear hw9
      exact J48_5 _ _ _ (fun zq uq hq => (u_r_X12_lay ⟨z1, ghw3, (Or.inr ⟨c4, ⟨z7, ghw9, (Or.inl ⟨c10, hq⟩)⟩⟩)⟩)) hP hS (lv_sub hl [0, 1, 2, 3] rfl)
    · have c10 : ¬ z7 = 0 := mt (i_eq0 (rb rz7 (by decide) (by decide))).mpr c10
      have hw9b := hw9.2.mp (by omega)
      clear hw9
      refine lv_aload_n hx hb (dk_at dkX12_lay_0 8 rfl) rfl (lv_at hl 0 rfl) ?_
      refine va_get (D := (dC, dI)) (ci := 12) (v := .ref (q 13)) (C := RX12) (T := TX12) (N := 85) hx hb hts hiX12 hown hK hP 0 wm0 rfl 24 (by decide) (hts _ (List.mem_cons_of_mem _ wlq_2_58)) (fun _ h9 => h9) rfl (dk_at dkX12_lay_0 9 rfl) ?_
      refine lv_aload_n hx hb (dk_at dkX12_lay_0 10 rfl) rfl (lv_at hl 0 rfl) ?_
      refine lv_iload_n hx hb (dk_at dkX12_lay_0 11 rfl) rfl (lv_at hl 2 rfl) ?_
      refine x_calli (As := [.int (iI x2)]) (rest := [.ref (q 13)]) ⟨hx, hb, hml, hown, hts⟩ (mc_X12_key4 l dC dI cB cI cJ cZ cQ q _ x2 hI (by omega)) (cwV 1 hts (goodV wlq_4_44 wlq_4_45 wlq_4_46 wlq_0_8 wlq_4_41) rfl rfl rfl (by decide +kernel) ⟨Nat.le_of_ble_eq_true rfl, Nat.le_of_ble_eq_true rfl⟩) hK hDD hA0 hP hS 0 12 wm0 rfl rfl hl.1 (Nat.le_of_ble_eq_true rfl) (dk_at dkX12_lay_0 12 rfl) (fun z11 A12 H locs hw13 hP hS => ?_)
      obtain ⟨rfl, hw13⟩ := hw13
      have ghw13 : q_X12_key4 x2 A z11 := hw13
      have hw13 := hw13.2
      refine tp_i (y := iI (4 * (A 0 12) + x2)) (congrArg iI (show z11 = 4 * (A 0 12) + x2 by omega)) ?_
      clear hw13
      refine x_iald hx hb hK hP 13 1 wm13 rfl (by omega) (by decide) (dk_at dkX12_lay_0 13 rfl) (fun z14 hz14 => ?_)
      have rz14 : (0 : Int) ≤ z14 ∧ z14 ≤ 40 := by rw [hz14]; exact hI 13 _
      have gz14 := Hd.mk hz14
      have hz14 : z14 = A 13 (4 * (A 0 12) + x2).toNat := hz14
      refine lv_iload_n hx hb (dk_at dkX12_lay_0 14 rfl) rfl (lv_at hl 1 rfl) ?_
      refine lv_icmp_ne (tgt := 48) hx hb (dk_at dkX12_lay_0 15 rfl) (by decide) (fun c15 => ?_) (fun c15 => ?_)
      · have c15 : ¬ z14 = x1 := mt (i_eq (rb rz14 (by decide) (by decide)) hx1).mpr c15
        exact J48_5 _ _ _ (fun zq uq hq => (u_r_X12_lay ⟨z1, ghw3, (Or.inr ⟨c4, ⟨z7, ghw9, (Or.inr ⟨c10, ⟨z11, ghw13, ⟨z14, gz14.out, (Or.inl ⟨c15, hq⟩)⟩⟩⟩)⟩⟩)⟩)) hP hS (lv_sub hl [0, 1, 2, 3] rfl)
      · have c15 : z14 = x1 := (i_eq (rb rz14 (by decide) (by decide)) hx1).mp c15
        refine lv_iload_n hx hb (dk_at dkX12_lay_1 0 rfl) rfl (lv_at hl 3 rfl) ?_
        refine lv_iconst (v := iI (-1)) hx hb (dk_at dkX12_lay_1 1 rfl) (by decide +kernel) ?_
        have J44_17 : ∀ (H : Heap) (locs : List Loc) (ls : Array Slot), (-1 ≤ x3 ∧ x3 ≤ 9) → (∀ (z : Int) (u : St), (d_X12_lay_1 x1 x2 x3 A z u) → r_X12_lay x1 x2 x3 A z u) → va_P (dC, dI) vwCl (WM cI cJ cZ q A) H → va_S AS s.heap H locs → lv_has ls 5 [(0, .ref (q 0)), (1, .int (iI x1)), (2, .int (iI x2)), (3, .int (iI x3))] → W p l e (headSpec ws_mc_X12_lay ({ frames := 4, cells := 0, slots := 0, locals := 89 } : Room)).room s m [.ref (q 0), .int (iI x1), .int (iI x2), .int (iI x3)].toArray below meth c H locs 0 0 Q (F0 m 44 ls []) := by
          intro H locs ls f23 hk1 hP hS hl
          refine lv_iconst (v := iI 1) hx hb (dk_at dkX12_lay_1 8 rfl) (by decide +kernel) ?_
          refine lv_goto (tgt := 49) hx hb (dk_at dkX12_lay_1 9 rfl) (by decide) ?_
          exact J49_6 1 _ _ _ (by omega) (by omega) (by omega) (fun zq uq hq => hk1 _ _ (u_d_X12_lay_1 hq)) hP hS (lv_sub hl [0, 1, 2, 3] rfl)
        refine lv_icmp_eq (tgt := 44) hx hb (dk_at dkX12_lay_1 2 rfl) (by decide) (fun c16 => ?_) (fun c16 => ?_)
        · have c16 : x3 = (-1) := (i_eq hx3 ⟨by decide, by decide⟩).mp c16
          exact J44_17 _ _ _ (by omega) (fun zq uq hq => (u_r_X12_lay ⟨z1, ghw3, (Or.inr ⟨c4, ⟨z7, ghw9, (Or.inr ⟨c10, ⟨z11, ghw13, ⟨z14, gz14.out, (Or.inr ⟨c15, (Or.inl ⟨c16, hq⟩)⟩)⟩⟩⟩)⟩⟩)⟩)) hP hS (lv_sub hl [0, 1, 2, 3] rfl)
        · have c16 : ¬ x3 = (-1) := mt (i_eq hx3 ⟨by decide, by decide⟩).mpr c16
          refine lv_aload_n hx hb (dk_at dkX12_lay_1 3 rfl) rfl (lv_at hl 0 rfl) ?_
          refine lv_iload_n hx hb (dk_at dkX12_lay_1 4 rfl) rfl (lv_at hl 1 rfl) ?_
          refine lv_iload_n hx hb (dk_at dkX12_lay_1 5 rfl) rfl (lv_at hl 3 rfl) ?_
          refine x_calli (As := [.int (iI x1), .int (iI x3)]) (rest := []) ⟨hx, hb, hml, hown, hts⟩ (mc_X12_isOpenBox l dC dI cB cI cJ cZ cQ q _ x1 x3 hI (by omega) hx3) (cwV 2 hts (goodV wlq_6_12 wlq_6_13 wlq_6_14 wlq_0_8 wlq_6_10) rfl rfl rfl (by decide +kernel) ⟨Nat.le_of_ble_eq_true rfl, Nat.le_of_ble_eq_true rfl⟩) hK hDD hA0 hP hS 0 12 wm0 rfl rfl hl.1 (Nat.le_of_ble_eq_true rfl) (dk_at dkX12_lay_1 6 rfl) (fun z18 A19 H locs hw20 hP hS => ?_)
          obtain ⟨rfl, hw20⟩ := hw20
          have ghw20 : q_X12_isOpenBox x1 x3 A z18 := hw20
          have hw20 := hw20.2
          have rz18 : 0 ≤ z18 ∧ z18 ≤ 1 := hw20.1
          refine lv_if_eq (tgt := 48) hx hb (dk_at dkX12_lay_1 7 rfl) (by decide) (fun c21 => ?_) (fun c21 => ?_)
          · have c21 : z18 = 0 := (i_eq0 (rb rz18 (by decide) (by decide))).mp c21
            exact J48_5 _ _ _ (fun zq uq hq => (u_r_X12_lay ⟨z1, ghw3, (Or.inr ⟨c4, ⟨z7, ghw9, (Or.inr ⟨c10, ⟨z11, ghw13, ⟨z14, gz14.out, (Or.inr ⟨c15, (Or.inr ⟨c16, ⟨z18, ghw20, (Or.inl ⟨c21, hq⟩)⟩⟩)⟩)⟩⟩⟩)⟩⟩)⟩)) hP hS (lv_sub hl [0, 1, 2, 3] rfl)
          · have c21 : ¬ z18 = 0 := mt (i_eq0 (rb rz18 (by decide) (by decide))).mpr c21
            exact J44_17 _ _ _ (by omega) (fun zq uq hq => (u_r_X12_lay ⟨z1, ghw3, (Or.inr ⟨c4, ⟨z7, ghw9, (Or.inr ⟨c10, ⟨z11, ghw13, ⟨z14, gz14.out, (Or.inr ⟨c15, (Or.inr ⟨c16, ⟨z18, ghw20, (Or.inr ⟨c21, hq⟩)⟩⟩)⟩)⟩⟩⟩)⟩⟩)⟩)) hP hS (lv_sub hl [0, 1, 2, 3] rfl)

abbrev tr_r_X12_snap (x1 : Int) (A : St) (z : Int) (u : St) : Prop := (∃ z1 : Int, q_X12_isKey x1 A z1 ∧ (((z1 = 0) ∧ (∃ z5 : Int, ∃ A6 : St, q_X12_refuses 3 A z5 A6 ∧ (z = z5 ∧ u = A6))) ∨ ((¬ z1 = 0) ∧ (∃ z9 : Int, q_X12_key4 x1 A z9 ∧ (∃ z12 : Int, z12 = A 13 (4 * (A 0 12) + x1).toNat ∧ (((¬ z12 = 40) ∧ (∃ z14 : Int, q_X12_key4 x1 A z14 ∧ (∃ A17 : St, A17 = (stA A 13 (4 * (A 0 12) + x1).toNat 40) ∧ (∃ z18 : Int, q_X12_key4 x1 A17 z18 ∧ (∃ z21 : Int, z21 = A17 14 (4 * (A 0 12) + x1).toNat ∧ (z = z21 ∧ u = A17)))))) ∨ ((z12 = 40) ∧ (∃ z22 : Int, ∃ A23 : St, q_X12_refuses 3 A z22 A23 ∧ (z = z22 ∧ u = A23)))))))))
def r_X12_snap (x1 : Int) (A : St) (z : Int) (u : St) : Prop := tr_r_X12_snap x1 A z u
theorem u_r_X12_snap {x1 : Int} {A : St} {z : Int} {u : St} (h : tr_r_X12_snap x1 A z u) : r_X12_snap x1 A z u := h
def ws_mc_X12_snap : List Cond := .code yX12_snap cX12_snap 2 (some .int) :: WX
set_option maxHeartbeats 4000000 in
set_option maxRecDepth 100000 in
theorem mc_X12_snap (l : Launch) (dC : Nat → ClassId) (dI : Nat → Nat → Nat) (cB cI cJ cZ cQ : ClassId) (q : Nat → Nat) (A : St) (x1 : Int) (hI : IM A) (hx1 : (-2147483648 : Int) ≤ x1 ∧ x1 ≤ 2147483647) : XMi l yX12_snap ws_mc_X12_snap ({ frames := 2, cells := 0, slots := 0, locals := 43 } : Room) (dC, dI) (tyA cB cI cJ cZ cQ) (WM cI cJ cZ q) A [.ref (q 0), .int (iI x1)] (fun z u => r_X12_snap x1 A z u ∧ IM u ∧ fr [13, 41] [] A u ∧ (-2147483648 ≤ z ∧ z ≤ 2147483647)) := by
  refine x_meti (cc := cX12_snap) (maxL := 2) WM_adr (by decide +kernel) rfl (Nat.le_of_ble_eq_true rfl) (fun p e s m below meth c Q AS ls hx hb hml hown hts hK hDD hA0 hP hS hl RET => ?_)
  have hown : s.vm.findClass RX12 = some m.cls := hown
  have hl : lv_has ls 2 [(0, .ref (q 0)), (1, .int (iI x1))] := hl
  have hiX12 : ∀ w ∈ u_ws RX12 TX12 85, w ∈ ws_mc_X12_snap := fun w h => List.mem_cons_of_mem _ (wx_lay w h)
  obtain ⟨H, hHe⟩ : ∃ H : Heap, H = s.heap := ⟨_, rfl⟩
  rw [← hHe] at hP
  have hS : va_S AS s.heap H [] := by rw [hHe]; exact hS
  suffices hgo : ∀ locs : List Loc, va_S AS s.heap H locs → W p l e (headSpec ws_mc_X12_snap ({ frames := 2, cells := 0, slots := 0, locals := 43 } : Room)).room s m [.ref (q 0), .int (iI x1)].toArray below meth c H locs 0 0 Q (F0 m 0 ls []) by
    have := hgo [] hS
    rw [hHe] at this
    exact this
  clear hS hHe
  intro locs hS
  refine lv_aload_n hx hb (dk_at dkX12_snap_0 0 rfl) rfl (lv_at hl 0 rfl) ?_
  refine lv_iload_n hx hb (dk_at dkX12_snap_0 1 rfl) rfl (lv_at hl 1 rfl) ?_
  have r_A_0_12 : (0 : Int) ≤ (A 0 12) ∧ (A 0 12) ≤ 1 := hI 0 12
  refine x_calli (As := [.int (iI x1)]) (rest := []) ⟨hx, hb, hml, hown, hts⟩ (mc_X12_isKeyB l dC dI cB cI cJ cZ cQ q _ x1 hI hx1) (cwV 1 hts (goodV wlq_5_18 wlq_5_19 wlq_5_20 wlq_0_8 wlq_4_39) rfl rfl rfl (by decide +kernel) ⟨Nat.le_of_ble_eq_true rfl, Nat.le_of_ble_eq_true rfl⟩) hK hDD hA0 hP hS 0 12 wm0 rfl rfl hl.1 (Nat.le_of_ble_eq_true rfl) (dk_at dkX12_snap_0 2 rfl) (fun z1 A2 H locs hw3 hP hS => ?_)
  obtain ⟨rfl, hw3⟩ := hw3
  have ghw3 : q_X12_isKey x1 A z1 := hw3
  have hw3 := hw3.2
  have rz1 : 0 ≤ z1 ∧ z1 ≤ 1 := hw3.1
  refine lv_if_eq (tgt := 23) hx hb (dk_at dkX12_snap_0 3 rfl) (by decide) (fun c4 => ?_) (fun c4 => ?_)
  · have c4 : z1 = 0 := (i_eq0 (rb rz1 (by decide) (by decide))).mp c4
    clear hw3
    refine lv_aload_n hx hb (dk_at dkX12_snap_0 12 rfl) rfl (lv_at hl 0 rfl) ?_
    refine lv_iconst (v := iI 3) hx hb (dk_at dkX12_snap_0 13 rfl) (by decide +kernel) ?_
    refine x_calli (As := [.int (iI 3)]) (rest := []) ⟨hx, hb, hml, hown, hts⟩ (mc_X12_refuses l dC dI cB cI cJ cZ cQ q _ 3 hI ⟨by decide, by decide⟩) (cwV 1 hts (goodV wlq_0_5 wlq_0_6 wlq_0_7 wlq_0_8 wlq_0_9) rfl rfl rfl (by decide +kernel) ⟨Nat.le_of_ble_eq_true rfl, Nat.le_of_ble_eq_true rfl⟩) hK hDD hA0 hP hS 0 12 wm0 rfl rfl hl.1 (Nat.le_of_ble_eq_true rfl) (dk_at dkX12_snap_0 14 rfl) (fun z5 A6 H locs hw7 hP hS => ?_)
    have ghw7 : q_X12_refuses 3 A z5 A6 := hw7
    obtain ⟨_, hI, hf8, hw7⟩ := hw7
    exact RET z5 _ _ _ _ _ ⟨(u_r_X12_snap ⟨z1, ghw3, (Or.inl ⟨c4, ⟨z5, A6, ghw7, ⟨rfl, rfl⟩⟩⟩)⟩), hI, fr.trans (fr.rf) hf8 rfl rfl, by omega⟩ hP hS (dk_at dkX12_snap_0 15 rfl)
  · have c4 : ¬ z1 = 0 := mt (i_eq0 (rb rz1 (by decide) (by decide))).mpr c4
    have hw3b := hw3.2.mp (by omega)
    clear hw3
    refine lv_aload_n hx hb (dk_at dkX12_snap_0 4 rfl) rfl (lv_at hl 0 rfl) ?_
    refine va_get (D := (dC, dI)) (ci := 12) (v := .ref (q 13)) (C := RX12) (T := TX12) (N := 85) hx hb hts hiX12 hown hK hP 0 wm0 rfl 24 (by decide) (hts _ (List.mem_cons_of_mem _ wlq_2_58)) (fun _ h9 => h9) rfl (dk_at dkX12_snap_0 5 rfl) ?_
    refine lv_aload_n hx hb (dk_at dkX12_snap_0 6 rfl) rfl (lv_at hl 0 rfl) ?_
    refine lv_iload_n hx hb (dk_at dkX12_snap_0 7 rfl) rfl (lv_at hl 1 rfl) ?_
    refine x_calli (As := [.int (iI x1)]) (rest := [.ref (q 13)]) ⟨hx, hb, hml, hown, hts⟩ (mc_X12_key4 l dC dI cB cI cJ cZ cQ q _ x1 hI (by omega)) (cwV 1 hts (goodV wlq_4_44 wlq_4_45 wlq_4_46 wlq_0_8 wlq_4_41) rfl rfl rfl (by decide +kernel) ⟨Nat.le_of_ble_eq_true rfl, Nat.le_of_ble_eq_true rfl⟩) hK hDD hA0 hP hS 0 12 wm0 rfl rfl hl.1 (Nat.le_of_ble_eq_true rfl) (dk_at dkX12_snap_0 8 rfl) (fun z9 A10 H locs hw11 hP hS => ?_)
    obtain ⟨rfl, hw11⟩ := hw11
    have ghw11 : q_X12_key4 x1 A z9 := hw11
    have hw11 := hw11.2
    refine tp_i (y := iI (4 * (A 0 12) + x1)) (congrArg iI (show z9 = 4 * (A 0 12) + x1 by omega)) ?_
    clear hw11
    refine x_iald hx hb hK hP 13 1 wm13 rfl (by omega) (by decide) (dk_at dkX12_snap_0 9 rfl) (fun z12 hz12 => ?_)
    have rz12 : (0 : Int) ≤ z12 ∧ z12 ≤ 40 := by rw [hz12]; exact hI 13 _
    have gz12 := Hd.mk hz12
    have hz12 : z12 = A 13 (4 * (A 0 12) + x1).toNat := hz12
    refine lv_bipush (v := iI 40) hx hb (dk_at dkX12_snap_0 10 rfl) (by decide +kernel) ?_
    refine lv_icmp_ne (tgt := 29) hx hb (dk_at dkX12_snap_0 11 rfl) (by decide) (fun c13 => ?_) (fun c13 => ?_)
    · have c13 : ¬ z12 = 40 := mt (i_eq (rb rz12 (by decide) (by decide)) ⟨by decide, by decide⟩).mpr c13
      refine lv_aload_n hx hb (dk_at dkX12_snap_1 0 rfl) rfl (lv_at hl 0 rfl) ?_
      refine va_get (D := (dC, dI)) (ci := 12) (v := .ref (q 13)) (C := RX12) (T := TX12) (N := 85) hx hb hts hiX12 hown hK hP 0 wm0 rfl 24 (by decide) (hts _ (List.mem_cons_of_mem _ wlq_2_58)) (fun _ h9 => h9) rfl (dk_at dkX12_snap_1 1 rfl) ?_
      refine lv_aload_n hx hb (dk_at dkX12_snap_1 2 rfl) rfl (lv_at hl 0 rfl) ?_
      refine lv_iload_n hx hb (dk_at dkX12_snap_1 3 rfl) rfl (lv_at hl 1 rfl) ?_
      refine x_calli (As := [.int (iI x1)]) (rest := [.ref (q 13)]) ⟨hx, hb, hml, hown, hts⟩ (mc_X12_key4 l dC dI cB cI cJ cZ cQ q _ x1 hI (by omega)) (cwV 1 hts (goodV wlq_4_44 wlq_4_45 wlq_4_46 wlq_0_8 wlq_4_41) rfl rfl rfl (by decide +kernel) ⟨Nat.le_of_ble_eq_true rfl, Nat.le_of_ble_eq_true rfl⟩) hK hDD hA0 hP hS 0 12 wm0 rfl rfl hl.1 (Nat.le_of_ble_eq_true rfl) (dk_at dkX12_snap_1 4 rfl) (fun z14 A15 H locs hw16 hP hS => ?_)
      obtain ⟨rfl, hw16⟩ := hw16
      have ghw16 : q_X12_key4 x1 A z14 := hw16
      have hw16 := hw16.2
      refine tp_i (y := iI (4 * (A 0 12) + x1)) (congrArg iI (show z14 = 4 * (A 0 12) + x1 by omega)) ?_
      clear hw16
      refine lv_bipush (v := iI 40) hx hb (dk_at dkX12_snap_1 5 rfl) (by decide +kernel) ?_
      refine x_iast hx hb hK hP hDD hS 13 1 wm13 rfl (by omega) (by decide) (dk_at dkX12_snap_1 6 rfl) ws13 (fun H locs hP hS => ?_)
      have hI := hI.st (j := 13) (i := (4 * (A 0 12) + x1).toNat) (v := 40) (show (0 : Int) ≤ 40 ∧ 40 ≤ 40 from (by omega))
      refine lv_aload_n hx hb (dk_at dkX12_snap_1 7 rfl) rfl (lv_at hl 0 rfl) ?_
      refine va_get (D := (dC, dI)) (ci := 12) (v := .ref (q 14)) (C := RX12) (T := TX12) (N := 85) hx hb hts hiX12 hown hK hP 0 wm0 rfl 25 (by decide) (hts _ (List.mem_cons_of_mem _ wlq_2_59)) (fun _ h9 => h9) rfl (dk_at dkX12_snap_1 8 rfl) ?_
      refine lv_aload_n hx hb (dk_at dkX12_snap_1 9 rfl) rfl (lv_at hl 0 rfl) ?_
      refine lv_iload_n hx hb (dk_at dkX12_snap_1 10 rfl) rfl (lv_at hl 1 rfl) ?_
      obtain ⟨A17, hA17⟩ : ∃ A17 : St, A17 = (stA A 13 (4 * (A 0 12) + x1).toNat 40) := ⟨_, rfl⟩
      rw [← hA17] at hP hI
      have e_A17_12 : A17 0 12 = (A 0 12) := by rw [hA17]; exact rfl
      refine x_calli (As := [.int (iI x1)]) (rest := [.ref (q 14)]) ⟨hx, hb, hml, hown, hts⟩ (mc_X12_key4 l dC dI cB cI cJ cZ cQ q _ x1 hI (by omega)) (cwV 1 hts (goodV wlq_4_44 wlq_4_45 wlq_4_46 wlq_0_8 wlq_4_41) rfl rfl rfl (by decide +kernel) ⟨Nat.le_of_ble_eq_true rfl, Nat.le_of_ble_eq_true rfl⟩) hK hDD hA0 hP hS 0 12 wm0 rfl rfl hl.1 (Nat.le_of_ble_eq_true rfl) (dk_at dkX12_snap_1 11 rfl) (fun z18 A19 H locs hw20 hP hS => ?_)
      obtain ⟨rfl, hw20⟩ := hw20
      have ghw20 : q_X12_key4 x1 A17 z18 := hw20
      have hw20 := hw20.2
      refine tp_i (y := iI (4 * (A 0 12) + x1)) (congrArg iI (show z18 = 4 * (A 0 12) + x1 by omega)) ?_
      clear hw20
      have a_A17_14 : A17 14 = A 14 := by rw [hA17]; exact rfl
      refine x_iald hx hb hK hP 14 1 wm14 rfl (by omega) (by decide) (dk_at dkX12_snap_1 12 rfl) (fun z21 hz21 => ?_)
      have rz21 : (0 : Int) ≤ z21 ∧ z21 ≤ 6 := by rw [hz21]; exact hI 14 _
      have gz21 := Hd.mk hz21
      have hz21 : z21 = A 14 (4 * (A 0 12) + x1).toNat := hz21.trans (congrFun a_A17_14 _)
      exact RET z21 _ _ _ _ _ ⟨(u_r_X12_snap ⟨z1, ghw3, (Or.inr ⟨c4, ⟨z9, ghw11, ⟨z12, gz12.out, (Or.inl ⟨c13, ⟨z14, ghw16, ⟨A17, hA17, ⟨z18, ghw20, ⟨z21, gz21.out, ⟨rfl, rfl⟩⟩⟩⟩⟩⟩)⟩⟩⟩)⟩), hI, fr_def hA17 (fr.st (fr.rf) (by decide) rfl), by omega⟩ hP hS (dk_at dkX12_snap_1 13 rfl)
    · have c13 : z12 = 40 := (i_eq (rb rz12 (by decide) (by decide)) ⟨by decide, by decide⟩).mp c13
      refine lv_aload_n hx hb (dk_at dkX12_snap_0 12 rfl) rfl (lv_at hl 0 rfl) ?_
      refine lv_iconst (v := iI 3) hx hb (dk_at dkX12_snap_0 13 rfl) (by decide +kernel) ?_
      refine x_calli (As := [.int (iI 3)]) (rest := []) ⟨hx, hb, hml, hown, hts⟩ (mc_X12_refuses l dC dI cB cI cJ cZ cQ q _ 3 hI ⟨by decide, by decide⟩) (cwV 1 hts (goodV wlq_0_5 wlq_0_6 wlq_0_7 wlq_0_8 wlq_0_9) rfl rfl rfl (by decide +kernel) ⟨Nat.le_of_ble_eq_true rfl, Nat.le_of_ble_eq_true rfl⟩) hK hDD hA0 hP hS 0 12 wm0 rfl rfl hl.1 (Nat.le_of_ble_eq_true rfl) (dk_at dkX12_snap_0 14 rfl) (fun z22 A23 H locs hw24 hP hS => ?_)
      have ghw24 : q_X12_refuses 3 A z22 A23 := hw24
      obtain ⟨_, hI, hf25, hw24⟩ := hw24
      exact RET z22 _ _ _ _ _ ⟨(u_r_X12_snap ⟨z1, ghw3, (Or.inr ⟨c4, ⟨z9, ghw11, ⟨z12, gz12.out, (Or.inr ⟨c13, ⟨z22, A23, ghw24, ⟨rfl, rfl⟩⟩⟩)⟩⟩⟩)⟩), hI, fr.trans (fr.rf) hf25 rfl rfl, by omega⟩ hP hS (dk_at dkX12_snap_0 15 rfl)

abbrev tr_d_X12_notes_3 (A : St) (u : St) (K3 : Int → St → Prop) (z21 : Int) (A23 : St) : Prop := ((IM A23) ∧ ((0 ≤ z21 ∧ z21 ≤ 2147483647) ∧ (((40 ≤ z21) ∧ (u = A23)) ∨ ((¬ 40 ≤ z21) ∧ (∃ z31 : Int, z31 = A23 15 (40 * (A 0 12) + z21).toNat ∧ (∃ A32 : St, A32 = (stA A23 46 (z21).toNat z31) ∧ (K3 (z21 + 1) A32)))))))
def d_X12_notes_3 (A : St) (u : St) : Nat → Int → St → Prop
  | 0, _, _ => False
  | nn9 + 1, z21, A23 => tr_d_X12_notes_3 A u (fun z21 A23 => d_X12_notes_3 A u nn9 z21 A23) z21 A23
theorem u_d_X12_notes_3 {A : St} {u : St} {nn9 : Nat} {z21 : Int} {A23 : St} (h : tr_d_X12_notes_3 A u (fun z21 A23 => d_X12_notes_3 A u nn9 z21 A23) z21 A23) : d_X12_notes_3 A u (nn9 + 1) z21 A23 := h
abbrev tr_d_X12_notes_2 (A : St) (u : St) (K2 : Int → St → Prop) (z11 : Int) (A13 : St) : Prop := ((IM A13) ∧ ((0 ≤ z11 ∧ z11 ≤ 2147483647) ∧ (((4 ≤ z11) ∧ (∃ nn9 : Nat, d_X12_notes_3 A u nn9 0 A13)) ∨ ((¬ 4 ≤ z11) ∧ (∃ z33 : Int, q_X12_key4 z11 A13 z33 ∧ (∃ z36 : Int, z36 = A13 14 (4 * (A 0 12) + z11).toNat ∧ (∃ A37 : St, A37 = (stA A13 45 (z11).toNat z36) ∧ (K2 (z11 + 1) A37))))))))
def d_X12_notes_2 (A : St) (u : St) : Nat → Int → St → Prop
  | 0, _, _ => False
  | nn9 + 1, z11, A13 => tr_d_X12_notes_2 A u (fun z11 A13 => d_X12_notes_2 A u nn9 z11 A13) z11 A13
theorem u_d_X12_notes_2 {A : St} {u : St} {nn9 : Nat} {z11 : Int} {A13 : St} (h : tr_d_X12_notes_2 A u (fun z11 A13 => d_X12_notes_2 A u nn9 z11 A13) z11 A13) : d_X12_notes_2 A u (nn9 + 1) z11 A13 := h
abbrev tr_d_X12_notes_1 (A : St) (u : St) (K1 : Int → St → Prop) (z1 : Int) (A3 : St) : Prop := ((IM A3) ∧ ((0 ≤ z1 ∧ z1 ≤ 2147483647) ∧ (((3 ≤ z1) ∧ (∃ nn9 : Nat, d_X12_notes_2 A u nn9 0 A3)) ∨ ((¬ 3 ≤ z1) ∧ (∃ z38 : Int, z38 = A3 18 (3 * (A 0 12) + z1).toNat ∧ (∃ A39 : St, A39 = (stA A3 44 (z1).toNat z38) ∧ (K1 (z1 + 1) A39)))))))
def d_X12_notes_1 (A : St) (u : St) : Nat → Int → St → Prop
  | 0, _, _ => False
  | nn9 + 1, z1, A3 => tr_d_X12_notes_1 A u (fun z1 A3 => d_X12_notes_1 A u nn9 z1 A3) z1 A3
theorem u_d_X12_notes_1 {A : St} {u : St} {nn9 : Nat} {z1 : Int} {A3 : St} (h : tr_d_X12_notes_1 A u (fun z1 A3 => d_X12_notes_1 A u nn9 z1 A3) z1 A3) : d_X12_notes_1 A u (nn9 + 1) z1 A3 := h
abbrev tr_r_X12_notes (A : St) (u : St) : Prop := (∃ nn9 : Nat, d_X12_notes_1 A u nn9 0 A)
def r_X12_notes (A : St) (u : St) : Prop := tr_r_X12_notes A u
theorem u_r_X12_notes {A : St} {u : St} (h : tr_r_X12_notes A u) : r_X12_notes A u := h
def q_X12_notes (A : St) (u : St) : Prop := r_X12_notes A u ∧ IM u ∧ fr [44, 45, 46] [] A u ∧ (True)
def ws_mc_X12_notes : List Cond := .code yX12_notes cX12_notes 2 none :: WX
set_option maxHeartbeats 4000000 in
set_option maxRecDepth 100000 in
theorem mc_X12_notes (l : Launch) (dC : Nat → ClassId) (dI : Nat → Nat → Nat) (cB cI cJ cZ cQ : ClassId) (q : Nat → Nat) (A : St) (hI : IM A) : XMv l yX12_notes ws_mc_X12_notes ({ frames := 1, cells := 0, slots := 0, locals := 21 } : Room) (dC, dI) (tyA cB cI cJ cZ cQ) (WM cI cJ cZ q) A [.ref (q 0)] (fun u => r_X12_notes A u ∧ IM u ∧ fr [44, 45, 46] [] A u ∧ (True)) := by
  refine x_metv (cc := cX12_notes) (maxL := 2) WM_adr (by decide +kernel) rfl (Nat.le_of_ble_eq_true rfl) (fun p e s m below meth c Q AS ls hx hb hml hown hts hK hDD hA0 hP hS hl RET => ?_)
  have hown : s.vm.findClass RX12 = some m.cls := hown
  have hl : lv_has ls 2 [(0, .ref (q 0))] := hl
  have hiX12 : ∀ w ∈ u_ws RX12 TX12 85, w ∈ ws_mc_X12_notes := fun w h => List.mem_cons_of_mem _ (wx_lay w h)
  obtain ⟨H, hHe⟩ : ∃ H : Heap, H = s.heap := ⟨_, rfl⟩
  rw [← hHe] at hP
  have hS : va_S AS s.heap H [] := by rw [hHe]; exact hS
  suffices hgo : ∀ locs : List Loc, va_S AS s.heap H locs → W p l e (headSpec ws_mc_X12_notes ({ frames := 1, cells := 0, slots := 0, locals := 21 } : Room)).room s m [.ref (q 0)].toArray below meth c H locs 0 0 Q (F0 m 0 ls []) by
    have := hgo [] hS
    rw [hHe] at this
    exact this
  clear hS hHe
  intro locs hS
  refine lv_iconst (v := iI 0) hx hb (dk_at dkX12_notes_0 0 rfl) (by decide +kernel) ?_
  refine lv_istore_n (lv' := [(1, .int (iI 0)), (0, .ref (q 0))]) hx hb (dk_at dkX12_notes_0 1 rfl) rfl hl (by decide) rfl (fun ls hl => ?_)
  have L2_4 : ∀ (n6 : Nat) (z1 : Int) (A3 : St) (H : Heap) (locs : List Loc) (ls : Array Slot), (0 ≤ z1) → (0 ≤ z1 ∧ z1 ≤ 2147483647) → (∀ (u : St), (∃ mm1 : Nat, (d_X12_notes_1 A u mm1 z1 A3)) → r_X12_notes A u) → ((3 - z1 + 1).toNat = n6) → IM A3 → fr [44] [] A A3 → va_P (dC, dI) vwCl (WM cI cJ cZ q A3) H → va_S AS s.heap H locs → lv_has ls 2 [(1, .int (iI z1)), (0, .ref (q 0))] → W p l e (headSpec ws_mc_X12_notes ({ frames := 1, cells := 0, slots := 0, locals := 21 } : Room)).room s m [.ref (q 0)].toArray below meth c H locs 0 0 Q (F0 m 2 ls []) := by
    intro n6
    induction n6 using Nat.strongRecOn with
    | ind n6 ih5 =>
      intro z1 A3 H locs ls f7 f8 hk1 hn6 hI hj2 hP hS hl
      have gI9 : Hd (IM A3) := Hd.mk hI
      refine lv_iload_n hx hb (dk_at dkX12_notes_0 2 rfl) rfl (lv_at hl 0 rfl) ?_
      refine lv_iconst (v := iI 3) hx hb (dk_at dkX12_notes_0 3 rfl) (by decide +kernel) ?_
      refine lv_icmp_ge (tgt := 32) hx hb (dk_at dkX12_notes_0 4 rfl) (by decide) (fun c10 => ?_) (fun c10 => ?_)
      · have c10 : 3 ≤ z1 := (i_le ⟨by decide, by decide⟩ (rb f8 (by decide) (by decide))).mp c10
        refine lv_iconst (v := iI 0) hx hb (dk_at dkX12_notes_1 4 rfl) (by decide +kernel) ?_
        refine lv_istore_n (lv' := [(1, .int (iI 0)), (0, .ref (q 0))]) hx hb (dk_at dkX12_notes_1 5 rfl) rfl hl (by decide) rfl (fun ls hl => ?_)
        have L34_14 : ∀ (n16 : Nat) (z11 : Int) (A13 : St) (H : Heap) (locs : List Loc) (ls : Array Slot), (0 ≤ z11) → (0 ≤ z11 ∧ z11 ≤ 2147483647) → (∀ (u : St), (∃ mm1 mm2 : Nat, (d_X12_notes_2 A u mm2 z11 A13)) → r_X12_notes A u) → ((4 - z11 + 1).toNat = n16) → IM A13 → fr [45] [] A3 A13 → va_P (dC, dI) vwCl (WM cI cJ cZ q A13) H → va_S AS s.heap H locs → lv_has ls 2 [(1, .int (iI z11)), (0, .ref (q 0))] → W p l e (headSpec ws_mc_X12_notes ({ frames := 1, cells := 0, slots := 0, locals := 21 } : Room)).room s m [.ref (q 0)].toArray below meth c H locs 0 0 Q (F0 m 34 ls []) := by
          intro n16
          induction n16 using Nat.strongRecOn with
          | ind n16 ih15 =>
            intro z11 A13 H locs ls f17 f18 hk2 hn16 hI hj12 hP hS hl
            have gI19 : Hd (IM A13) := Hd.mk hI
            refine lv_iload_n hx hb (dk_at dkX12_notes_1 6 rfl) rfl (lv_at hl 0 rfl) ?_
            refine lv_iconst (v := iI 4) hx hb (dk_at dkX12_notes_1 7 rfl) (by decide +kernel) ?_
            refine lv_icmp_ge (tgt := 61) hx hb (dk_at dkX12_notes_1 8 rfl) (by decide) (fun c20 => ?_) (fun c20 => ?_)
            · have c20 : 4 ≤ z11 := (i_le ⟨by decide, by decide⟩ (rb f18 (by decide) (by decide))).mp c20
              refine lv_iconst (v := iI 0) hx hb (dk_at dkX12_notes_2 5 rfl) (by decide +kernel) ?_
              refine lv_istore_n (lv' := [(1, .int (iI 0)), (0, .ref (q 0))]) hx hb (dk_at dkX12_notes_2 6 rfl) rfl hl (by decide) rfl (fun ls hl => ?_)
              have L63_24 : ∀ (n26 : Nat) (z21 : Int) (A23 : St) (H : Heap) (locs : List Loc) (ls : Array Slot), (0 ≤ z21) → (0 ≤ z21 ∧ z21 ≤ 2147483647) → (∀ (u : St), (∃ mm1 mm2 mm3 : Nat, (d_X12_notes_3 A u mm3 z21 A23)) → r_X12_notes A u) → ((40 - z21 + 1).toNat = n26) → IM A23 → fr [46] [] A13 A23 → va_P (dC, dI) vwCl (WM cI cJ cZ q A23) H → va_S AS s.heap H locs → lv_has ls 2 [(1, .int (iI z21)), (0, .ref (q 0))] → W p l e (headSpec ws_mc_X12_notes ({ frames := 1, cells := 0, slots := 0, locals := 21 } : Room)).room s m [.ref (q 0)].toArray below meth c H locs 0 0 Q (F0 m 63 ls []) := by
                intro n26
                induction n26 using Nat.strongRecOn with
                | ind n26 ih25 =>
                  intro z21 A23 H locs ls f27 f28 hk3 hn26 hI hj22 hP hS hl
                  have gI29 : Hd (IM A23) := Hd.mk hI
                  refine lv_iload_n hx hb (dk_at dkX12_notes_2 7 rfl) rfl (lv_at hl 0 rfl) ?_
                  refine lv_bipush (v := iI 40) hx hb (dk_at dkX12_notes_2 8 rfl) (by decide +kernel) ?_
                  refine lv_icmp_ge (tgt := 95) hx hb (dk_at dkX12_notes_2 9 rfl) (by decide) (fun c30 => ?_) (fun c30 => ?_)
                  · have c30 : 40 ≤ z21 := (i_le ⟨by decide, by decide⟩ (rb f28 (by decide) (by decide))).mp c30
                    exact RET _ _ _ _ _ ⟨hk3 _ ⟨0, 0, 0 + 1, (u_d_X12_notes_3 ⟨gI29.out, ⟨f28, (Or.inl ⟨c30, rfl⟩)⟩⟩)⟩, hI, fr.trans (fr.trans (fr.trans (fr.rf) hj2 rfl rfl) hj12 rfl rfl) hj22 rfl rfl, trivial⟩ hP hS (dk_at dkX12_notes_3 9 rfl)
                  · have c30 : ¬ 40 ≤ z21 := mt (i_le ⟨by decide, by decide⟩ (rb f28 (by decide) (by decide))).mpr c30
                    refine lv_aload_n hx hb (dk_at dkX12_notes_2 10 rfl) rfl (lv_at hl 1 rfl) ?_
                    refine va_get (D := (dC, dI)) (ci := 12) (v := .ref (q 46)) (C := RX12) (T := TX12) (N := 85) hx hb hts hiX12 hown hK hP 0 wm0 rfl 63 (by decide) (hts _ (List.mem_cons_of_mem _ wlq_6_20)) (fun _ h9 => h9) rfl (dk_at dkX12_notes_2 11 rfl) ?_
                    refine lv_iload_n hx hb (dk_at dkX12_notes_2 12 rfl) rfl (lv_at hl 0 rfl) ?_
                    refine lv_aload_n hx hb (dk_at dkX12_notes_2 13 rfl) rfl (lv_at hl 1 rfl) ?_
                    refine va_get (D := (dC, dI)) (ci := 12) (v := .ref (q 15)) (C := RX12) (T := TX12) (N := 85) hx hb hts hiX12 hown hK hP 0 wm0 rfl 26 (by decide) (hts _ (List.mem_cons_of_mem _ wlq_3_7)) (fun _ h9 => h9) rfl (dk_at dkX12_notes_2 14 rfl) ?_
                    refine lv_bipush (v := iI 40) hx hb (dk_at dkX12_notes_2 15 rfl) (by decide +kernel) ?_
                    refine lv_aload_n hx hb (dk_at dkX12_notes_3 0 rfl) rfl (lv_at hl 1 rfl) ?_
                    have e_A3_12 : A3 0 12 = (A 0 12) := (hj2.2 12 rfl)
                    have e_A13_12 : A13 0 12 = (A 0 12) := (hj12.2 12 rfl).trans e_A3_12
                    have e_A23_12 : A23 0 12 = (A 0 12) := (hj22.2 12 rfl).trans e_A13_12
                    refine va_get (D := (dC, dI)) (ci := 12) (v := .int (iI (A23 0 12))) (C := RX12) (T := TX12) (N := 85) hx hb hts hiX12 hown hK hP 0 wm0 rfl 12 (by decide) (hts _ (List.mem_cons_of_mem _ wlq_4_14)) (fun _ h9 => h9) rfl (dk_at dkX12_notes_3 1 rfl) ?_
                    refine tp_i (y := iI (A 0 12)) (congrArg iI e_A23_12) ?_
                    have r_A_0_12 : (0 : Int) ≤ (A 0 12) ∧ (A 0 12) ≤ 1 := by rw [← e_A23_12]; exact hI 0 12
                    refine x_mulv (v := 40 * (A 0 12)) hx hb (dk_at dkX12_notes_3 2 rfl) (by omega) ?_
                    refine lv_iload_n hx hb (dk_at dkX12_notes_3 3 rfl) rfl (lv_at hl 0 rfl) ?_
                    refine x_addv (v := 40 * (A 0 12) + z21) hx hb (dk_at dkX12_notes_3 4 rfl) (by omega) ?_
                    have a_A3_15 : A3 15 = A 15 := (hj2.1 15 (by decide) rfl)
                    have a_A13_15 : A13 15 = A 15 := (hj12.1 15 (by decide) rfl).trans a_A3_15
                    have a_A23_15 : A23 15 = A 15 := (hj22.1 15 (by decide) rfl).trans a_A13_15
                    refine x_iald hx hb hK hP 15 1 wm15 rfl (by omega) (by decide) (dk_at dkX12_notes_3 5 rfl) (fun z31 hz31 => ?_)
                    have rz31 : (0 : Int) ≤ z31 ∧ z31 ≤ 9 := by rw [hz31]; exact hI 15 _
                    have gz31 := Hd.mk hz31
                    have hz31 : z31 = A 15 (40 * (A 0 12) + z21).toNat := hz31.trans (congrFun a_A23_15 _)
                    refine x_iast hx hb hK hP hDD hS 46 1 wm46 rfl (by omega) (by decide) (dk_at dkX12_notes_3 6 rfl) ws46 (fun H locs hP hS => ?_)
                    have hI := hI.st (j := 46) (i := (z21).toNat) (v := z31) (show (0 : Int) ≤ z31 ∧ z31 ≤ 9 from (by omega))
                    refine lv_iinc (v := iI (z21 + 1)) (lv' := [(1, .int (iI (z21 + 1))), (0, .ref (q 0))]) hx hb (dk_at dkX12_notes_3 7 rfl) hl (k := 0) rfl (i_inc (by omega)) (by decide) rfl (fun ls hl => ?_)
                    refine lv_goto (tgt := 63) hx hb (dk_at dkX12_notes_3 8 rfl) (by decide) ?_
                    obtain ⟨A32, hA32⟩ : ∃ A32 : St, A32 = (stA A23 46 (z21).toNat z31) := ⟨_, rfl⟩
                    rw [← hA32] at hP hI
                    exact ih25 _ (by omega) (z21 + 1) _ _ _ _ (by omega) (by omega) (fun uq ⟨mm1, mm2, mm3, hq⟩ => hk3 _ ⟨mm1, mm2, mm3 + 1, (u_d_X12_notes_3 ⟨gI29.out, ⟨f28, (Or.inr ⟨c30, ⟨z31, gz31.out, ⟨A32, hA32, hq⟩⟩⟩)⟩⟩)⟩) rfl hI (fr_def hA32 (fr.st (fr.trans (fr.rf) hj22 rfl rfl) (by decide) rfl)) hP hS (lv_sub hl [0, 1] rfl)
              exact L63_24 _ 0 _ _ _ _ (by omega) (by omega) (fun uq ⟨mm1, mm2, mm3, hq⟩ => hk2 _ ⟨mm1, mm2 + 1, (u_d_X12_notes_2 ⟨gI19.out, ⟨f18, (Or.inl ⟨c20, ⟨mm3, hq⟩⟩)⟩⟩)⟩) rfl hI (fr.rf) hP hS (lv_sub hl [0, 1] rfl)
            · have c20 : ¬ 4 ≤ z11 := mt (i_le ⟨by decide, by decide⟩ (rb f18 (by decide) (by decide))).mpr c20
              refine lv_aload_n hx hb (dk_at dkX12_notes_1 9 rfl) rfl (lv_at hl 1 rfl) ?_
              refine va_get (D := (dC, dI)) (ci := 12) (v := .ref (q 45)) (C := RX12) (T := TX12) (N := 85) hx hb hts hiX12 hown hK hP 0 wm0 rfl 62 (by decide) (hts _ (List.mem_cons_of_mem _ wlq_6_19)) (fun _ h9 => h9) rfl (dk_at dkX12_notes_1 10 rfl) ?_
              refine lv_iload_n hx hb (dk_at dkX12_notes_1 11 rfl) rfl (lv_at hl 0 rfl) ?_
              refine lv_aload_n hx hb (dk_at dkX12_notes_1 12 rfl) rfl (lv_at hl 1 rfl) ?_
              refine va_get (D := (dC, dI)) (ci := 12) (v := .ref (q 14)) (C := RX12) (T := TX12) (N := 85) hx hb hts hiX12 hown hK hP 0 wm0 rfl 25 (by decide) (hts _ (List.mem_cons_of_mem _ wlq_2_59)) (fun _ h9 => h9) rfl (dk_at dkX12_notes_1 13 rfl) ?_
              refine lv_aload_n hx hb (dk_at dkX12_notes_1 14 rfl) rfl (lv_at hl 1 rfl) ?_
              refine lv_iload_n hx hb (dk_at dkX12_notes_1 15 rfl) rfl (lv_at hl 0 rfl) ?_
              have e_A3_12 : A3 0 12 = (A 0 12) := (hj2.2 12 rfl)
              have e_A13_12 : A13 0 12 = (A 0 12) := (hj12.2 12 rfl).trans e_A3_12
              have r_A_0_12 : (0 : Int) ≤ (A 0 12) ∧ (A 0 12) ≤ 1 := by rw [← e_A13_12]; exact hI 0 12
              refine x_calli (As := [.int (iI z11)]) (rest := [.ref (q 14), .int (iI z11), .ref (q 45)]) ⟨hx, hb, hml, hown, hts⟩ (mc_X12_key4 l dC dI cB cI cJ cZ cQ q _ z11 hI (by omega)) (cwV 1 hts (goodV wlq_4_44 wlq_4_45 wlq_4_46 wlq_0_8 wlq_4_41) rfl rfl rfl (by decide +kernel) ⟨Nat.le_of_ble_eq_true rfl, Nat.le_of_ble_eq_true rfl⟩) hK hDD hA0 hP hS 0 12 wm0 rfl rfl hl.1 (Nat.le_of_ble_eq_true rfl) (dk_at dkX12_notes_2 0 rfl) (fun z33 A34 H locs hw35 hP hS => ?_)
              obtain ⟨rfl, hw35⟩ := hw35
              have ghw35 : q_X12_key4 z11 A13 z33 := hw35
              have hw35 := hw35.2
              refine tp_i (y := iI (4 * (A 0 12) + z11)) (congrArg iI (show z33 = 4 * (A 0 12) + z11 by omega)) ?_
              clear hw35
              have a_A3_14 : A3 14 = A 14 := (hj2.1 14 (by decide) rfl)
              have a_A13_14 : A13 14 = A 14 := (hj12.1 14 (by decide) rfl).trans a_A3_14
              refine x_iald hx hb hK hP 14 1 wm14 rfl (by omega) (by decide) (dk_at dkX12_notes_2 1 rfl) (fun z36 hz36 => ?_)
              have rz36 : (0 : Int) ≤ z36 ∧ z36 ≤ 6 := by rw [hz36]; exact hI 14 _
              have gz36 := Hd.mk hz36
              have hz36 : z36 = A 14 (4 * (A 0 12) + z11).toNat := hz36.trans (congrFun a_A13_14 _)
              refine x_iast hx hb hK hP hDD hS 45 1 wm45 rfl (by omega) (by decide) (dk_at dkX12_notes_2 2 rfl) ws45 (fun H locs hP hS => ?_)
              have hI := hI.st (j := 45) (i := (z11).toNat) (v := z36) (show (0 : Int) ≤ z36 ∧ z36 ≤ 6 from (by omega))
              refine lv_iinc (v := iI (z11 + 1)) (lv' := [(1, .int (iI (z11 + 1))), (0, .ref (q 0))]) hx hb (dk_at dkX12_notes_2 3 rfl) hl (k := 0) rfl (i_inc (by omega)) (by decide) rfl (fun ls hl => ?_)
              refine lv_goto (tgt := 34) hx hb (dk_at dkX12_notes_2 4 rfl) (by decide) ?_
              obtain ⟨A37, hA37⟩ : ∃ A37 : St, A37 = (stA A13 45 (z11).toNat z36) := ⟨_, rfl⟩
              rw [← hA37] at hP hI
              exact ih15 _ (by omega) (z11 + 1) _ _ _ _ (by omega) (by omega) (fun uq ⟨mm1, mm2, hq⟩ => hk2 _ ⟨mm1, mm2 + 1, (u_d_X12_notes_2 ⟨gI19.out, ⟨f18, (Or.inr ⟨c20, ⟨z33, ghw35, ⟨z36, gz36.out, ⟨A37, hA37, hq⟩⟩⟩⟩)⟩⟩)⟩) rfl hI (fr_def hA37 (fr.st (fr.trans (fr.rf) hj12 rfl rfl) (by decide) rfl)) hP hS (lv_sub hl [0, 1] rfl)
        exact L34_14 _ 0 _ _ _ _ (by omega) (by omega) (fun uq ⟨mm1, mm2, hq⟩ => hk1 _ ⟨mm1 + 1, (u_d_X12_notes_1 ⟨gI9.out, ⟨f8, (Or.inl ⟨c10, ⟨mm2, hq⟩⟩)⟩⟩)⟩) rfl hI (fr.rf) hP hS (lv_sub hl [0, 1] rfl)
      · have c10 : ¬ 3 ≤ z1 := mt (i_le ⟨by decide, by decide⟩ (rb f8 (by decide) (by decide))).mpr c10
        refine lv_aload_n hx hb (dk_at dkX12_notes_0 5 rfl) rfl (lv_at hl 1 rfl) ?_
        refine va_get (D := (dC, dI)) (ci := 12) (v := .ref (q 44)) (C := RX12) (T := TX12) (N := 85) hx hb hts hiX12 hown hK hP 0 wm0 rfl 61 (by decide) (hts _ (List.mem_cons_of_mem _ wlq_6_18)) (fun _ h9 => h9) rfl (dk_at dkX12_notes_0 6 rfl) ?_
        refine lv_iload_n hx hb (dk_at dkX12_notes_0 7 rfl) rfl (lv_at hl 0 rfl) ?_
        refine lv_aload_n hx hb (dk_at dkX12_notes_0 8 rfl) rfl (lv_at hl 1 rfl) ?_
        refine va_get (D := (dC, dI)) (ci := 12) (v := .ref (q 18)) (C := RX12) (T := TX12) (N := 85) hx hb hts hiX12 hown hK hP 0 wm0 rfl 29 (by decide) (hts _ (List.mem_cons_of_mem _ wlq_3_4)) (fun _ h9 => h9) rfl (dk_at dkX12_notes_0 9 rfl) ?_
        refine lv_iconst (v := iI 3) hx hb (dk_at dkX12_notes_0 10 rfl) (by decide +kernel) ?_
        refine lv_aload_n hx hb (dk_at dkX12_notes_0 11 rfl) rfl (lv_at hl 1 rfl) ?_
        have e_A3_12 : A3 0 12 = (A 0 12) := (hj2.2 12 rfl)
        refine va_get (D := (dC, dI)) (ci := 12) (v := .int (iI (A3 0 12))) (C := RX12) (T := TX12) (N := 85) hx hb hts hiX12 hown hK hP 0 wm0 rfl 12 (by decide) (hts _ (List.mem_cons_of_mem _ wlq_4_14)) (fun _ h9 => h9) rfl (dk_at dkX12_notes_0 12 rfl) ?_
        refine tp_i (y := iI (A 0 12)) (congrArg iI e_A3_12) ?_
        have r_A_0_12 : (0 : Int) ≤ (A 0 12) ∧ (A 0 12) ≤ 1 := by rw [← e_A3_12]; exact hI 0 12
        refine x_mulv (v := 3 * (A 0 12)) hx hb (dk_at dkX12_notes_0 13 rfl) (by omega) ?_
        refine lv_iload_n hx hb (dk_at dkX12_notes_0 14 rfl) rfl (lv_at hl 0 rfl) ?_
        refine x_addv (v := 3 * (A 0 12) + z1) hx hb (dk_at dkX12_notes_0 15 rfl) (by omega) ?_
        have a_A3_18 : A3 18 = A 18 := (hj2.1 18 (by decide) rfl)
        refine x_iald hx hb hK hP 18 1 wm18 rfl (by omega) (by decide) (dk_at dkX12_notes_1 0 rfl) (fun z38 hz38 => ?_)
        have rz38 : (0 : Int) ≤ z38 ∧ z38 ≤ 7 := by rw [hz38]; exact hI 18 _
        have gz38 := Hd.mk hz38
        have hz38 : z38 = A 18 (3 * (A 0 12) + z1).toNat := hz38.trans (congrFun a_A3_18 _)
        refine x_iast hx hb hK hP hDD hS 44 1 wm44 rfl (by omega) (by decide) (dk_at dkX12_notes_1 1 rfl) ws44 (fun H locs hP hS => ?_)
        have hI := hI.st (j := 44) (i := (z1).toNat) (v := z38) (show (0 : Int) ≤ z38 ∧ z38 ≤ 7 from (by omega))
        refine lv_iinc (v := iI (z1 + 1)) (lv' := [(1, .int (iI (z1 + 1))), (0, .ref (q 0))]) hx hb (dk_at dkX12_notes_1 2 rfl) hl (k := 0) rfl (i_inc (by omega)) (by decide) rfl (fun ls hl => ?_)
        refine lv_goto (tgt := 2) hx hb (dk_at dkX12_notes_1 3 rfl) (by decide) ?_
        obtain ⟨A39, hA39⟩ : ∃ A39 : St, A39 = (stA A3 44 (z1).toNat z38) := ⟨_, rfl⟩
        rw [← hA39] at hP hI
        exact ih5 _ (by omega) (z1 + 1) _ _ _ _ (by omega) (by omega) (fun uq ⟨mm1, hq⟩ => hk1 _ ⟨mm1 + 1, (u_d_X12_notes_1 ⟨gI9.out, ⟨f8, (Or.inr ⟨c10, ⟨z38, gz38.out, ⟨A39, hA39, hq⟩⟩⟩)⟩⟩)⟩) rfl hI (fr_def hA39 (fr.st (fr.trans (fr.rf) hj2 rfl rfl) (by decide) rfl)) hP hS (lv_sub hl [0, 1] rfl)
  exact L2_4 _ 0 _ _ _ _ (by omega) (by omega) (fun uq ⟨mm1, hq⟩ => (u_r_X12_notes ⟨mm1, hq⟩)) rfl hI (fr.rf) hP hS (lv_sub hl [0, 1] rfl)

abbrev tr_d_X12_back_3 (A : St) (u : St) (K3 : Int → St → Prop) (z21 : Int) (A23 : St) : Prop := ((IM A23) ∧ ((0 ≤ z21 ∧ z21 ≤ 2147483647) ∧ (((40 ≤ z21) ∧ (u = A23)) ∨ ((¬ 40 ≤ z21) ∧ (∃ z31 : Int, z31 = A23 46 (z21).toNat ∧ (∃ A32 : St, A32 = (stA A23 15 (40 * (A 0 12) + z21).toNat z31) ∧ (K3 (z21 + 1) A32)))))))
def d_X12_back_3 (A : St) (u : St) : Nat → Int → St → Prop
  | 0, _, _ => False
  | nn9 + 1, z21, A23 => tr_d_X12_back_3 A u (fun z21 A23 => d_X12_back_3 A u nn9 z21 A23) z21 A23
theorem u_d_X12_back_3 {A : St} {u : St} {nn9 : Nat} {z21 : Int} {A23 : St} (h : tr_d_X12_back_3 A u (fun z21 A23 => d_X12_back_3 A u nn9 z21 A23) z21 A23) : d_X12_back_3 A u (nn9 + 1) z21 A23 := h
abbrev tr_d_X12_back_2 (A : St) (u : St) (K2 : Int → St → Prop) (z11 : Int) (A13 : St) : Prop := ((IM A13) ∧ ((0 ≤ z11 ∧ z11 ≤ 2147483647) ∧ (((4 ≤ z11) ∧ (∃ nn9 : Nat, d_X12_back_3 A u nn9 0 A13)) ∨ ((¬ 4 ≤ z11) ∧ (∃ z33 : Int, q_X12_key4 z11 A13 z33 ∧ (∃ z36 : Int, z36 = A13 45 (z11).toNat ∧ (∃ A37 : St, A37 = (stA A13 14 (4 * (A 0 12) + z11).toNat z36) ∧ (K2 (z11 + 1) A37))))))))
def d_X12_back_2 (A : St) (u : St) : Nat → Int → St → Prop
  | 0, _, _ => False
  | nn9 + 1, z11, A13 => tr_d_X12_back_2 A u (fun z11 A13 => d_X12_back_2 A u nn9 z11 A13) z11 A13
theorem u_d_X12_back_2 {A : St} {u : St} {nn9 : Nat} {z11 : Int} {A13 : St} (h : tr_d_X12_back_2 A u (fun z11 A13 => d_X12_back_2 A u nn9 z11 A13) z11 A13) : d_X12_back_2 A u (nn9 + 1) z11 A13 := h
abbrev tr_d_X12_back_1 (A : St) (u : St) (K1 : Int → St → Prop) (z1 : Int) (A3 : St) : Prop := ((IM A3) ∧ ((0 ≤ z1 ∧ z1 ≤ 2147483647) ∧ (((3 ≤ z1) ∧ (∃ nn9 : Nat, d_X12_back_2 A u nn9 0 A3)) ∨ ((¬ 3 ≤ z1) ∧ (∃ z38 : Int, z38 = A3 44 (z1).toNat ∧ (∃ A39 : St, A39 = (stA A3 18 (3 * (A 0 12) + z1).toNat z38) ∧ (K1 (z1 + 1) A39)))))))
def d_X12_back_1 (A : St) (u : St) : Nat → Int → St → Prop
  | 0, _, _ => False
  | nn9 + 1, z1, A3 => tr_d_X12_back_1 A u (fun z1 A3 => d_X12_back_1 A u nn9 z1 A3) z1 A3
theorem u_d_X12_back_1 {A : St} {u : St} {nn9 : Nat} {z1 : Int} {A3 : St} (h : tr_d_X12_back_1 A u (fun z1 A3 => d_X12_back_1 A u nn9 z1 A3) z1 A3) : d_X12_back_1 A u (nn9 + 1) z1 A3 := h
abbrev tr_r_X12_back (A : St) (u : St) : Prop := (∃ nn9 : Nat, d_X12_back_1 A u nn9 0 A)
def r_X12_back (A : St) (u : St) : Prop := tr_r_X12_back A u
theorem u_r_X12_back {A : St} {u : St} (h : tr_r_X12_back A u) : r_X12_back A u := h
def q_X12_back (A : St) (u : St) : Prop := r_X12_back A u ∧ IM u ∧ fr [14, 15, 18] [] A u ∧ (True)
def ws_mc_X12_back : List Cond := .code yX12_back cX12_back 2 none :: WX
set_option maxHeartbeats 4000000 in
set_option maxRecDepth 100000 in
theorem mc_X12_back (l : Launch) (dC : Nat → ClassId) (dI : Nat → Nat → Nat) (cB cI cJ cZ cQ : ClassId) (q : Nat → Nat) (A : St) (hI : IM A) : XMv l yX12_back ws_mc_X12_back ({ frames := 1, cells := 0, slots := 0, locals := 21 } : Room) (dC, dI) (tyA cB cI cJ cZ cQ) (WM cI cJ cZ q) A [.ref (q 0)] (fun u => r_X12_back A u ∧ IM u ∧ fr [14, 15, 18] [] A u ∧ (True)) := by
  refine x_metv (cc := cX12_back) (maxL := 2) WM_adr (by decide +kernel) rfl (Nat.le_of_ble_eq_true rfl) (fun p e s m below meth c Q AS ls hx hb hml hown hts hK hDD hA0 hP hS hl RET => ?_)
  have hown : s.vm.findClass RX12 = some m.cls := hown
  have hl : lv_has ls 2 [(0, .ref (q 0))] := hl
  have hiX12 : ∀ w ∈ u_ws RX12 TX12 85, w ∈ ws_mc_X12_back := fun w h => List.mem_cons_of_mem _ (wx_lay w h)
  obtain ⟨H, hHe⟩ : ∃ H : Heap, H = s.heap := ⟨_, rfl⟩
  rw [← hHe] at hP
  have hS : va_S AS s.heap H [] := by rw [hHe]; exact hS
  suffices hgo : ∀ locs : List Loc, va_S AS s.heap H locs → W p l e (headSpec ws_mc_X12_back ({ frames := 1, cells := 0, slots := 0, locals := 21 } : Room)).room s m [.ref (q 0)].toArray below meth c H locs 0 0 Q (F0 m 0 ls []) by
    have := hgo [] hS
    rw [hHe] at this
    exact this
  clear hS hHe
  intro locs hS
  refine lv_iconst (v := iI 0) hx hb (dk_at dkX12_back_0 0 rfl) (by decide +kernel) ?_
  refine lv_istore_n (lv' := [(1, .int (iI 0)), (0, .ref (q 0))]) hx hb (dk_at dkX12_back_0 1 rfl) rfl hl (by decide) rfl (fun ls hl => ?_)
  have L2_4 : ∀ (n6 : Nat) (z1 : Int) (A3 : St) (H : Heap) (locs : List Loc) (ls : Array Slot), (0 ≤ z1) → (0 ≤ z1 ∧ z1 ≤ 2147483647) → (∀ (u : St), (∃ mm1 : Nat, (d_X12_back_1 A u mm1 z1 A3)) → r_X12_back A u) → ((3 - z1 + 1).toNat = n6) → IM A3 → fr [18] [] A A3 → va_P (dC, dI) vwCl (WM cI cJ cZ q A3) H → va_S AS s.heap H locs → lv_has ls 2 [(1, .int (iI z1)), (0, .ref (q 0))] → W p l e (headSpec ws_mc_X12_back ({ frames := 1, cells := 0, slots := 0, locals := 21 } : Room)).room s m [.ref (q 0)].toArray below meth c H locs 0 0 Q (F0 m 2 ls []) := by
    intro n6
    induction n6 using Nat.strongRecOn with
    | ind n6 ih5 =>
      intro z1 A3 H locs ls f7 f8 hk1 hn6 hI hj2 hP hS hl
      have gI9 : Hd (IM A3) := Hd.mk hI
      refine lv_iload_n hx hb (dk_at dkX12_back_0 2 rfl) rfl (lv_at hl 0 rfl) ?_
      refine lv_iconst (v := iI 3) hx hb (dk_at dkX12_back_0 3 rfl) (by decide +kernel) ?_
      refine lv_icmp_ge (tgt := 32) hx hb (dk_at dkX12_back_0 4 rfl) (by decide) (fun c10 => ?_) (fun c10 => ?_)
      · have c10 : 3 ≤ z1 := (i_le ⟨by decide, by decide⟩ (rb f8 (by decide) (by decide))).mp c10
        refine lv_iconst (v := iI 0) hx hb (dk_at dkX12_back_1 4 rfl) (by decide +kernel) ?_
        refine lv_istore_n (lv' := [(1, .int (iI 0)), (0, .ref (q 0))]) hx hb (dk_at dkX12_back_1 5 rfl) rfl hl (by decide) rfl (fun ls hl => ?_)
        have L34_14 : ∀ (n16 : Nat) (z11 : Int) (A13 : St) (H : Heap) (locs : List Loc) (ls : Array Slot), (0 ≤ z11) → (0 ≤ z11 ∧ z11 ≤ 2147483647) → (∀ (u : St), (∃ mm1 mm2 : Nat, (d_X12_back_2 A u mm2 z11 A13)) → r_X12_back A u) → ((4 - z11 + 1).toNat = n16) → IM A13 → fr [14] [] A3 A13 → va_P (dC, dI) vwCl (WM cI cJ cZ q A13) H → va_S AS s.heap H locs → lv_has ls 2 [(1, .int (iI z11)), (0, .ref (q 0))] → W p l e (headSpec ws_mc_X12_back ({ frames := 1, cells := 0, slots := 0, locals := 21 } : Room)).room s m [.ref (q 0)].toArray below meth c H locs 0 0 Q (F0 m 34 ls []) := by
          intro n16
          induction n16 using Nat.strongRecOn with
          | ind n16 ih15 =>
            intro z11 A13 H locs ls f17 f18 hk2 hn16 hI hj12 hP hS hl
            have gI19 : Hd (IM A13) := Hd.mk hI
            refine lv_iload_n hx hb (dk_at dkX12_back_1 6 rfl) rfl (lv_at hl 0 rfl) ?_
            refine lv_iconst (v := iI 4) hx hb (dk_at dkX12_back_1 7 rfl) (by decide +kernel) ?_
            refine lv_icmp_ge (tgt := 61) hx hb (dk_at dkX12_back_1 8 rfl) (by decide) (fun c20 => ?_) (fun c20 => ?_)
            · have c20 : 4 ≤ z11 := (i_le ⟨by decide, by decide⟩ (rb f18 (by decide) (by decide))).mp c20
              refine lv_iconst (v := iI 0) hx hb (dk_at dkX12_back_2 5 rfl) (by decide +kernel) ?_
              refine lv_istore_n (lv' := [(1, .int (iI 0)), (0, .ref (q 0))]) hx hb (dk_at dkX12_back_2 6 rfl) rfl hl (by decide) rfl (fun ls hl => ?_)
              have L63_24 : ∀ (n26 : Nat) (z21 : Int) (A23 : St) (H : Heap) (locs : List Loc) (ls : Array Slot), (0 ≤ z21) → (0 ≤ z21 ∧ z21 ≤ 2147483647) → (∀ (u : St), (∃ mm1 mm2 mm3 : Nat, (d_X12_back_3 A u mm3 z21 A23)) → r_X12_back A u) → ((40 - z21 + 1).toNat = n26) → IM A23 → fr [15] [] A13 A23 → va_P (dC, dI) vwCl (WM cI cJ cZ q A23) H → va_S AS s.heap H locs → lv_has ls 2 [(1, .int (iI z21)), (0, .ref (q 0))] → W p l e (headSpec ws_mc_X12_back ({ frames := 1, cells := 0, slots := 0, locals := 21 } : Room)).room s m [.ref (q 0)].toArray below meth c H locs 0 0 Q (F0 m 63 ls []) := by
                intro n26
                induction n26 using Nat.strongRecOn with
                | ind n26 ih25 =>
                  intro z21 A23 H locs ls f27 f28 hk3 hn26 hI hj22 hP hS hl
                  have gI29 : Hd (IM A23) := Hd.mk hI
                  refine lv_iload_n hx hb (dk_at dkX12_back_2 7 rfl) rfl (lv_at hl 0 rfl) ?_
                  refine lv_bipush (v := iI 40) hx hb (dk_at dkX12_back_2 8 rfl) (by decide +kernel) ?_
                  refine lv_icmp_ge (tgt := 95) hx hb (dk_at dkX12_back_2 9 rfl) (by decide) (fun c30 => ?_) (fun c30 => ?_)
                  · have c30 : 40 ≤ z21 := (i_le ⟨by decide, by decide⟩ (rb f28 (by decide) (by decide))).mp c30
                    exact RET _ _ _ _ _ ⟨hk3 _ ⟨0, 0, 0 + 1, (u_d_X12_back_3 ⟨gI29.out, ⟨f28, (Or.inl ⟨c30, rfl⟩)⟩⟩)⟩, hI, fr.trans (fr.trans (fr.trans (fr.rf) hj2 rfl rfl) hj12 rfl rfl) hj22 rfl rfl, trivial⟩ hP hS (dk_at dkX12_back_3 9 rfl)
                  · have c30 : ¬ 40 ≤ z21 := mt (i_le ⟨by decide, by decide⟩ (rb f28 (by decide) (by decide))).mpr c30
                    refine lv_aload_n hx hb (dk_at dkX12_back_2 10 rfl) rfl (lv_at hl 1 rfl) ?_
                    refine va_get (D := (dC, dI)) (ci := 12) (v := .ref (q 15)) (C := RX12) (T := TX12) (N := 85) hx hb hts hiX12 hown hK hP 0 wm0 rfl 26 (by decide) (hts _ (List.mem_cons_of_mem _ wlq_3_7)) (fun _ h9 => h9) rfl (dk_at dkX12_back_2 11 rfl) ?_
                    refine lv_bipush (v := iI 40) hx hb (dk_at dkX12_back_2 12 rfl) (by decide +kernel) ?_
                    refine lv_aload_n hx hb (dk_at dkX12_back_2 13 rfl) rfl (lv_at hl 1 rfl) ?_
                    have e_A3_12 : A3 0 12 = (A 0 12) := (hj2.2 12 rfl)
                    have e_A13_12 : A13 0 12 = (A 0 12) := (hj12.2 12 rfl).trans e_A3_12
                    have e_A23_12 : A23 0 12 = (A 0 12) := (hj22.2 12 rfl).trans e_A13_12
                    refine va_get (D := (dC, dI)) (ci := 12) (v := .int (iI (A23 0 12))) (C := RX12) (T := TX12) (N := 85) hx hb hts hiX12 hown hK hP 0 wm0 rfl 12 (by decide) (hts _ (List.mem_cons_of_mem _ wlq_4_14)) (fun _ h9 => h9) rfl (dk_at dkX12_back_2 14 rfl) ?_
                    refine tp_i (y := iI (A 0 12)) (congrArg iI e_A23_12) ?_
                    have r_A_0_12 : (0 : Int) ≤ (A 0 12) ∧ (A 0 12) ≤ 1 := by rw [← e_A23_12]; exact hI 0 12
                    refine x_mulv (v := 40 * (A 0 12)) hx hb (dk_at dkX12_back_2 15 rfl) (by omega) ?_
                    refine lv_iload_n hx hb (dk_at dkX12_back_3 0 rfl) rfl (lv_at hl 0 rfl) ?_
                    refine x_addv (v := 40 * (A 0 12) + z21) hx hb (dk_at dkX12_back_3 1 rfl) (by omega) ?_
                    refine lv_aload_n hx hb (dk_at dkX12_back_3 2 rfl) rfl (lv_at hl 1 rfl) ?_
                    refine va_get (D := (dC, dI)) (ci := 12) (v := .ref (q 46)) (C := RX12) (T := TX12) (N := 85) hx hb hts hiX12 hown hK hP 0 wm0 rfl 63 (by decide) (hts _ (List.mem_cons_of_mem _ wlq_6_20)) (fun _ h9 => h9) rfl (dk_at dkX12_back_3 3 rfl) ?_
                    refine lv_iload_n hx hb (dk_at dkX12_back_3 4 rfl) rfl (lv_at hl 0 rfl) ?_
                    have a_A3_46 : A3 46 = A 46 := (hj2.1 46 (by decide) rfl)
                    have a_A13_46 : A13 46 = A 46 := (hj12.1 46 (by decide) rfl).trans a_A3_46
                    have a_A23_46 : A23 46 = A 46 := (hj22.1 46 (by decide) rfl).trans a_A13_46
                    refine x_iald hx hb hK hP 46 1 wm46 rfl (by omega) (by decide) (dk_at dkX12_back_3 5 rfl) (fun z31 hz31 => ?_)
                    have rz31 : (0 : Int) ≤ z31 ∧ z31 ≤ 9 := by rw [hz31]; exact hI 46 _
                    have gz31 := Hd.mk hz31
                    have hz31 : z31 = A 46 (z21).toNat := hz31.trans (congrFun a_A23_46 _)
                    refine x_iast hx hb hK hP hDD hS 15 1 wm15 rfl (by omega) (by decide) (dk_at dkX12_back_3 6 rfl) ws15 (fun H locs hP hS => ?_)
                    have hI := hI.st (j := 15) (i := (40 * (A 0 12) + z21).toNat) (v := z31) (show (0 : Int) ≤ z31 ∧ z31 ≤ 9 from (by omega))
                    refine lv_iinc (v := iI (z21 + 1)) (lv' := [(1, .int (iI (z21 + 1))), (0, .ref (q 0))]) hx hb (dk_at dkX12_back_3 7 rfl) hl (k := 0) rfl (i_inc (by omega)) (by decide) rfl (fun ls hl => ?_)
                    refine lv_goto (tgt := 63) hx hb (dk_at dkX12_back_3 8 rfl) (by decide) ?_
                    obtain ⟨A32, hA32⟩ : ∃ A32 : St, A32 = (stA A23 15 (40 * (A 0 12) + z21).toNat z31) := ⟨_, rfl⟩
                    rw [← hA32] at hP hI
                    exact ih25 _ (by omega) (z21 + 1) _ _ _ _ (by omega) (by omega) (fun uq ⟨mm1, mm2, mm3, hq⟩ => hk3 _ ⟨mm1, mm2, mm3 + 1, (u_d_X12_back_3 ⟨gI29.out, ⟨f28, (Or.inr ⟨c30, ⟨z31, gz31.out, ⟨A32, hA32, hq⟩⟩⟩)⟩⟩)⟩) rfl hI (fr_def hA32 (fr.st (fr.trans (fr.rf) hj22 rfl rfl) (by decide) rfl)) hP hS (lv_sub hl [0, 1] rfl)
              exact L63_24 _ 0 _ _ _ _ (by omega) (by omega) (fun uq ⟨mm1, mm2, mm3, hq⟩ => hk2 _ ⟨mm1, mm2 + 1, (u_d_X12_back_2 ⟨gI19.out, ⟨f18, (Or.inl ⟨c20, ⟨mm3, hq⟩⟩)⟩⟩)⟩) rfl hI (fr.rf) hP hS (lv_sub hl [0, 1] rfl)
            · have c20 : ¬ 4 ≤ z11 := mt (i_le ⟨by decide, by decide⟩ (rb f18 (by decide) (by decide))).mpr c20
              refine lv_aload_n hx hb (dk_at dkX12_back_1 9 rfl) rfl (lv_at hl 1 rfl) ?_
              refine va_get (D := (dC, dI)) (ci := 12) (v := .ref (q 14)) (C := RX12) (T := TX12) (N := 85) hx hb hts hiX12 hown hK hP 0 wm0 rfl 25 (by decide) (hts _ (List.mem_cons_of_mem _ wlq_2_59)) (fun _ h9 => h9) rfl (dk_at dkX12_back_1 10 rfl) ?_
              refine lv_aload_n hx hb (dk_at dkX12_back_1 11 rfl) rfl (lv_at hl 1 rfl) ?_
              refine lv_iload_n hx hb (dk_at dkX12_back_1 12 rfl) rfl (lv_at hl 0 rfl) ?_
              have e_A3_12 : A3 0 12 = (A 0 12) := (hj2.2 12 rfl)
              have e_A13_12 : A13 0 12 = (A 0 12) := (hj12.2 12 rfl).trans e_A3_12
              have r_A_0_12 : (0 : Int) ≤ (A 0 12) ∧ (A 0 12) ≤ 1 := by rw [← e_A13_12]; exact hI 0 12
              refine x_calli (As := [.int (iI z11)]) (rest := [.ref (q 14)]) ⟨hx, hb, hml, hown, hts⟩ (mc_X12_key4 l dC dI cB cI cJ cZ cQ q _ z11 hI (by omega)) (cwV 1 hts (goodV wlq_4_44 wlq_4_45 wlq_4_46 wlq_0_8 wlq_4_41) rfl rfl rfl (by decide +kernel) ⟨Nat.le_of_ble_eq_true rfl, Nat.le_of_ble_eq_true rfl⟩) hK hDD hA0 hP hS 0 12 wm0 rfl rfl hl.1 (Nat.le_of_ble_eq_true rfl) (dk_at dkX12_back_1 13 rfl) (fun z33 A34 H locs hw35 hP hS => ?_)
              obtain ⟨rfl, hw35⟩ := hw35
              have ghw35 : q_X12_key4 z11 A13 z33 := hw35
              have hw35 := hw35.2
              refine tp_i (y := iI (4 * (A 0 12) + z11)) (congrArg iI (show z33 = 4 * (A 0 12) + z11 by omega)) ?_
              clear hw35
              refine lv_aload_n hx hb (dk_at dkX12_back_1 14 rfl) rfl (lv_at hl 1 rfl) ?_
              refine va_get (D := (dC, dI)) (ci := 12) (v := .ref (q 45)) (C := RX12) (T := TX12) (N := 85) hx hb hts hiX12 hown hK hP 0 wm0 rfl 62 (by decide) (hts _ (List.mem_cons_of_mem _ wlq_6_19)) (fun _ h9 => h9) rfl (dk_at dkX12_back_1 15 rfl) ?_
              refine lv_iload_n hx hb (dk_at dkX12_back_2 0 rfl) rfl (lv_at hl 0 rfl) ?_
              have a_A3_45 : A3 45 = A 45 := (hj2.1 45 (by decide) rfl)
              have a_A13_45 : A13 45 = A 45 := (hj12.1 45 (by decide) rfl).trans a_A3_45
              refine x_iald hx hb hK hP 45 1 wm45 rfl (by omega) (by decide) (dk_at dkX12_back_2 1 rfl) (fun z36 hz36 => ?_)
              have rz36 : (0 : Int) ≤ z36 ∧ z36 ≤ 6 := by rw [hz36]; exact hI 45 _
              have gz36 := Hd.mk hz36
              have hz36 : z36 = A 45 (z11).toNat := hz36.trans (congrFun a_A13_45 _)
              refine x_iast hx hb hK hP hDD hS 14 1 wm14 rfl (by omega) (by decide) (dk_at dkX12_back_2 2 rfl) ws14 (fun H locs hP hS => ?_)
              have hI := hI.st (j := 14) (i := (4 * (A 0 12) + z11).toNat) (v := z36) (show (0 : Int) ≤ z36 ∧ z36 ≤ 6 from (by omega))
              refine lv_iinc (v := iI (z11 + 1)) (lv' := [(1, .int (iI (z11 + 1))), (0, .ref (q 0))]) hx hb (dk_at dkX12_back_2 3 rfl) hl (k := 0) rfl (i_inc (by omega)) (by decide) rfl (fun ls hl => ?_)
              refine lv_goto (tgt := 34) hx hb (dk_at dkX12_back_2 4 rfl) (by decide) ?_
              obtain ⟨A37, hA37⟩ : ∃ A37 : St, A37 = (stA A13 14 (4 * (A 0 12) + z11).toNat z36) := ⟨_, rfl⟩
              rw [← hA37] at hP hI
              exact ih15 _ (by omega) (z11 + 1) _ _ _ _ (by omega) (by omega) (fun uq ⟨mm1, mm2, hq⟩ => hk2 _ ⟨mm1, mm2 + 1, (u_d_X12_back_2 ⟨gI19.out, ⟨f18, (Or.inr ⟨c20, ⟨z33, ghw35, ⟨z36, gz36.out, ⟨A37, hA37, hq⟩⟩⟩⟩)⟩⟩)⟩) rfl hI (fr_def hA37 (fr.st (fr.trans (fr.rf) hj12 rfl rfl) (by decide) rfl)) hP hS (lv_sub hl [0, 1] rfl)
        exact L34_14 _ 0 _ _ _ _ (by omega) (by omega) (fun uq ⟨mm1, mm2, hq⟩ => hk1 _ ⟨mm1 + 1, (u_d_X12_back_1 ⟨gI9.out, ⟨f8, (Or.inl ⟨c10, ⟨mm2, hq⟩⟩)⟩⟩)⟩) rfl hI (fr.rf) hP hS (lv_sub hl [0, 1] rfl)
      · have c10 : ¬ 3 ≤ z1 := mt (i_le ⟨by decide, by decide⟩ (rb f8 (by decide) (by decide))).mpr c10
        refine lv_aload_n hx hb (dk_at dkX12_back_0 5 rfl) rfl (lv_at hl 1 rfl) ?_
        refine va_get (D := (dC, dI)) (ci := 12) (v := .ref (q 18)) (C := RX12) (T := TX12) (N := 85) hx hb hts hiX12 hown hK hP 0 wm0 rfl 29 (by decide) (hts _ (List.mem_cons_of_mem _ wlq_3_4)) (fun _ h9 => h9) rfl (dk_at dkX12_back_0 6 rfl) ?_
        refine lv_iconst (v := iI 3) hx hb (dk_at dkX12_back_0 7 rfl) (by decide +kernel) ?_
        refine lv_aload_n hx hb (dk_at dkX12_back_0 8 rfl) rfl (lv_at hl 1 rfl) ?_
        have e_A3_12 : A3 0 12 = (A 0 12) := (hj2.2 12 rfl)
        refine va_get (D := (dC, dI)) (ci := 12) (v := .int (iI (A3 0 12))) (C := RX12) (T := TX12) (N := 85) hx hb hts hiX12 hown hK hP 0 wm0 rfl 12 (by decide) (hts _ (List.mem_cons_of_mem _ wlq_4_14)) (fun _ h9 => h9) rfl (dk_at dkX12_back_0 9 rfl) ?_
        refine tp_i (y := iI (A 0 12)) (congrArg iI e_A3_12) ?_
        have r_A_0_12 : (0 : Int) ≤ (A 0 12) ∧ (A 0 12) ≤ 1 := by rw [← e_A3_12]; exact hI 0 12
        refine x_mulv (v := 3 * (A 0 12)) hx hb (dk_at dkX12_back_0 10 rfl) (by omega) ?_
        refine lv_iload_n hx hb (dk_at dkX12_back_0 11 rfl) rfl (lv_at hl 0 rfl) ?_
        refine x_addv (v := 3 * (A 0 12) + z1) hx hb (dk_at dkX12_back_0 12 rfl) (by omega) ?_
        refine lv_aload_n hx hb (dk_at dkX12_back_0 13 rfl) rfl (lv_at hl 1 rfl) ?_
        refine va_get (D := (dC, dI)) (ci := 12) (v := .ref (q 44)) (C := RX12) (T := TX12) (N := 85) hx hb hts hiX12 hown hK hP 0 wm0 rfl 61 (by decide) (hts _ (List.mem_cons_of_mem _ wlq_6_18)) (fun _ h9 => h9) rfl (dk_at dkX12_back_0 14 rfl) ?_
        refine lv_iload_n hx hb (dk_at dkX12_back_0 15 rfl) rfl (lv_at hl 0 rfl) ?_
        have a_A3_44 : A3 44 = A 44 := (hj2.1 44 (by decide) rfl)
        refine x_iald hx hb hK hP 44 1 wm44 rfl (by omega) (by decide) (dk_at dkX12_back_1 0 rfl) (fun z38 hz38 => ?_)
        have rz38 : (0 : Int) ≤ z38 ∧ z38 ≤ 7 := by rw [hz38]; exact hI 44 _
        have gz38 := Hd.mk hz38
        have hz38 : z38 = A 44 (z1).toNat := hz38.trans (congrFun a_A3_44 _)
        refine x_iast hx hb hK hP hDD hS 18 1 wm18 rfl (by omega) (by decide) (dk_at dkX12_back_1 1 rfl) ws18 (fun H locs hP hS => ?_)
        have hI := hI.st (j := 18) (i := (3 * (A 0 12) + z1).toNat) (v := z38) (show (0 : Int) ≤ z38 ∧ z38 ≤ 7 from (by omega))
        refine lv_iinc (v := iI (z1 + 1)) (lv' := [(1, .int (iI (z1 + 1))), (0, .ref (q 0))]) hx hb (dk_at dkX12_back_1 2 rfl) hl (k := 0) rfl (i_inc (by omega)) (by decide) rfl (fun ls hl => ?_)
        refine lv_goto (tgt := 2) hx hb (dk_at dkX12_back_1 3 rfl) (by decide) ?_
        obtain ⟨A39, hA39⟩ : ∃ A39 : St, A39 = (stA A3 18 (3 * (A 0 12) + z1).toNat z38) := ⟨_, rfl⟩
        rw [← hA39] at hP hI
        exact ih5 _ (by omega) (z1 + 1) _ _ _ _ (by omega) (by omega) (fun uq ⟨mm1, hq⟩ => hk1 _ ⟨mm1 + 1, (u_d_X12_back_1 ⟨gI9.out, ⟨f8, (Or.inr ⟨c10, ⟨z38, gz38.out, ⟨A39, hA39, hq⟩⟩⟩)⟩⟩)⟩) rfl hI (fr_def hA39 (fr.st (fr.trans (fr.rf) hj2 rfl rfl) (by decide) rfl)) hP hS (lv_sub hl [0, 1] rfl)
  exact L2_4 _ 0 _ _ _ _ (by omega) (by omega) (fun uq ⟨mm1, hq⟩ => (u_r_X12_back ⟨mm1, hq⟩)) rfl hI (fr.rf) hP hS (lv_sub hl [0, 1] rfl)

abbrev tr_d_X12_firstKey_2 (K1 : Int → Prop) (z1 : Int) (z : Int) : Prop := (K1 (z1 + 1))
def d_X12_firstKey_2 (K1 : Int → Prop) (z1 : Int) (z : Int) : Prop := tr_d_X12_firstKey_2 K1 z1 z
theorem u_d_X12_firstKey_2 {K1 : Int → Prop} {z1 : Int} {z : Int} (h : tr_d_X12_firstKey_2 K1 z1 z) : d_X12_firstKey_2 K1 z1 z := h
abbrev tr_d_X12_firstKey_1 (x1 : Int) (x2 : Int) (A : St) (z : Int) (K1 : Int → Prop) (z1 : Int) : Prop := ((0 ≤ z1 ∧ z1 ≤ 2147483647) ∧ (∃ z9 : Int, z9 = A 11 ((A 0 12)).toNat ∧ (((z9 ≤ z1) ∧ (z = (-1))) ∨ ((¬ z9 ≤ z1) ∧ (∃ z11 : Int, q_X12_key4 z1 A z11 ∧ (∃ z14 : Int, z14 = A 13 (4 * (A 0 12) + z1).toNat ∧ (((¬ z14 = x1) ∧ (d_X12_firstKey_2 K1 z1 z)) ∨ ((z14 = x1) ∧ (∃ z17 : Int, q_X12_inRow z1 x2 A z17 ∧ (((¬ z17 = 0) ∧ (d_X12_firstKey_2 K1 z1 z)) ∨ ((z17 = 0) ∧ (z = z1))))))))))))
def d_X12_firstKey_1 (x1 : Int) (x2 : Int) (A : St) (z : Int) : Nat → Int → Prop
  | 0, _ => False
  | nn9 + 1, z1 => tr_d_X12_firstKey_1 x1 x2 A z (fun z1 => d_X12_firstKey_1 x1 x2 A z nn9 z1) z1
theorem u_d_X12_firstKey_1 {x1 : Int} {x2 : Int} {A : St} {z : Int} {nn9 : Nat} {z1 : Int} (h : tr_d_X12_firstKey_1 x1 x2 A z (fun z1 => d_X12_firstKey_1 x1 x2 A z nn9 z1) z1) : d_X12_firstKey_1 x1 x2 A z (nn9 + 1) z1 := h
abbrev tr_r_X12_firstKey (x1 : Int) (x2 : Int) (A : St) (z : Int) : Prop := (∃ nn9 : Nat, d_X12_firstKey_1 x1 x2 A z nn9 0)
def r_X12_firstKey (x1 : Int) (x2 : Int) (A : St) (z : Int) : Prop := tr_r_X12_firstKey x1 x2 A z
theorem u_r_X12_firstKey {x1 : Int} {x2 : Int} {A : St} {z : Int} (h : tr_r_X12_firstKey x1 x2 A z) : r_X12_firstKey x1 x2 A z := h
def q_X12_firstKey (x1 : Int) (x2 : Int) (A : St) (z : Int) : Prop := r_X12_firstKey x1 x2 A z ∧ (-1 ≤ z ∧ z ≤ 3)
def ws_mc_X12_firstKey : List Cond := .code yX12_firstKey cX12_firstKey 4 (some .int) :: WX
set_option maxHeartbeats 4000000 in
set_option maxRecDepth 100000 in
theorem mc_X12_firstKey (l : Launch) (dC : Nat → ClassId) (dI : Nat → Nat → Nat) (cB cI cJ cZ cQ : ClassId) (q : Nat → Nat) (A : St) (x1 x2 : Int) (hI : IM A) (hx1 : (0 : Int) ≤ x1 ∧ x1 ≤ 2) (hx2 : (0 : Int) ≤ x2 ∧ x2 ≤ 9) : XMi l yX12_firstKey ws_mc_X12_firstKey ({ frames := 2, cells := 0, slots := 0, locals := 45 } : Room) (dC, dI) (tyA cB cI cJ cZ cQ) (WM cI cJ cZ q) A [.ref (q 0), .int (iI x1), .int (iI x2)] (fun z u => A = u ∧ r_X12_firstKey x1 x2 A z ∧ (-1 ≤ z ∧ z ≤ 3)) := by
  refine x_meti (cc := cX12_firstKey) (maxL := 4) WM_adr (by decide +kernel) rfl (Nat.le_of_ble_eq_true rfl) (fun p e s m below meth c Q AS ls hx hb hml hown hts hK hDD hA0 hP hS hl RET => ?_)
  have hown : s.vm.findClass RX12 = some m.cls := hown
  have hl : lv_has ls 4 [(0, .ref (q 0)), (1, .int (iI x1)), (2, .int (iI x2))] := hl
  have hiX12 : ∀ w ∈ u_ws RX12 TX12 85, w ∈ ws_mc_X12_firstKey := fun w h => List.mem_cons_of_mem _ (wx_lay w h)
  obtain ⟨H, hHe⟩ : ∃ H : Heap, H = s.heap := ⟨_, rfl⟩
  rw [← hHe] at hP
  have hS : va_S AS s.heap H [] := by rw [hHe]; exact hS
  suffices hgo : ∀ locs : List Loc, va_S AS s.heap H locs → W p l e (headSpec ws_mc_X12_firstKey ({ frames := 2, cells := 0, slots := 0, locals := 45 } : Room)).room s m [.ref (q 0), .int (iI x1), .int (iI x2)].toArray below meth c H locs 0 0 Q (F0 m 0 ls []) by
    have := hgo [] hS
    rw [hHe] at this
    exact this
  clear hS hHe
  intro locs hS
  refine lv_iconst (v := iI 0) hx hb (dk_at dkX12_firstKey_0 0 rfl) (by decide +kernel) ?_
  refine lv_istore_n (lv' := [(3, .int (iI 0)), (0, .ref (q 0)), (1, .int (iI x1)), (2, .int (iI x2))]) hx hb (dk_at dkX12_firstKey_0 1 rfl) rfl hl (by decide) rfl (fun ls hl => ?_)
  have L2_4 : ∀ (n6 : Nat) (z1 : Int) (H : Heap) (locs : List Loc) (ls : Array Slot), (0 ≤ z1) → (0 ≤ z1 ∧ z1 ≤ 2147483647) → (∀ (z : Int), (∃ mm1 : Nat, (d_X12_firstKey_1 x1 x2 A z mm1 z1)) → r_X12_firstKey x1 x2 A z) → ((A 11 ((A 0 12)).toNat - z1 + 1).toNat = n6) → va_P (dC, dI) vwCl (WM cI cJ cZ q A) H → va_S AS s.heap H locs → lv_has ls 4 [(3, .int (iI z1)), (0, .ref (q 0)), (1, .int (iI x1)), (2, .int (iI x2))] → W p l e (headSpec ws_mc_X12_firstKey ({ frames := 2, cells := 0, slots := 0, locals := 45 } : Room)).room s m [.ref (q 0), .int (iI x1), .int (iI x2)].toArray below meth c H locs 0 0 Q (F0 m 2 ls []) := by
    intro n6
    induction n6 using Nat.strongRecOn with
    | ind n6 ih5 =>
      intro z1 H locs ls f7 f8 hk1 hn6 hP hS hl
      refine lv_iload_n hx hb (dk_at dkX12_firstKey_0 2 rfl) rfl (lv_at hl 0 rfl) ?_
      refine lv_aload_n hx hb (dk_at dkX12_firstKey_0 3 rfl) rfl (lv_at hl 1 rfl) ?_
      refine va_get (D := (dC, dI)) (ci := 12) (v := .ref (q 11)) (C := RX12) (T := TX12) (N := 85) hx hb hts hiX12 hown hK hP 0 wm0 rfl 22 (by decide) (hts _ (List.mem_cons_of_mem _ wlq_1_14)) (fun _ h9 => h9) rfl (dk_at dkX12_firstKey_0 4 rfl) ?_
      refine lv_aload_n hx hb (dk_at dkX12_firstKey_0 5 rfl) rfl (lv_at hl 1 rfl) ?_
      refine va_get (D := (dC, dI)) (ci := 12) (v := .int (iI (A 0 12))) (C := RX12) (T := TX12) (N := 85) hx hb hts hiX12 hown hK hP 0 wm0 rfl 12 (by decide) (hts _ (List.mem_cons_of_mem _ wlq_4_14)) (fun _ h9 => h9) rfl (dk_at dkX12_firstKey_0 6 rfl) ?_
      have r_A_0_12 : (0 : Int) ≤ (A 0 12) ∧ (A 0 12) ≤ 1 := hI 0 12
      refine x_iald hx hb hK hP 11 1 wm11 rfl (by omega) (by decide) (dk_at dkX12_firstKey_0 7 rfl) (fun z9 hz9 => ?_)
      have rz9 : (0 : Int) ≤ z9 ∧ z9 ≤ 4 := by rw [hz9]; exact hI 11 _
      have gz9 := Hd.mk hz9
      have hz9 : z9 = A 11 ((A 0 12)).toNat := hz9
      refine lv_icmp_ge (tgt := 46) hx hb (dk_at dkX12_firstKey_0 8 rfl) (by decide) (fun c10 => ?_) (fun c10 => ?_)
      · have c10 : z9 ≤ z1 := (i_le (rb rz9 (by decide) (by decide)) (rb f8 (by decide) (by decide))).mp c10
        refine lv_iconst (v := iI (-1)) hx hb (dk_at dkX12_firstKey_1 10 rfl) (by decide +kernel) ?_
        exact RET (-1) _ _ _ _ _ ⟨rfl, hk1 _ ⟨0 + 1, (u_d_X12_firstKey_1 ⟨f8, ⟨z9, gz9.out, (Or.inl ⟨c10, rfl⟩)⟩⟩)⟩, by omega⟩ hP hS (dk_at dkX12_firstKey_1 11 rfl)
      · have c10 : ¬ z9 ≤ z1 := mt (i_le (rb rz9 (by decide) (by decide)) (rb f8 (by decide) (by decide))).mpr c10
        refine lv_aload_n hx hb (dk_at dkX12_firstKey_0 9 rfl) rfl (lv_at hl 1 rfl) ?_
        refine va_get (D := (dC, dI)) (ci := 12) (v := .ref (q 13)) (C := RX12) (T := TX12) (N := 85) hx hb hts hiX12 hown hK hP 0 wm0 rfl 24 (by decide) (hts _ (List.mem_cons_of_mem _ wlq_2_58)) (fun _ h9 => h9) rfl (dk_at dkX12_firstKey_0 10 rfl) ?_
        refine lv_aload_n hx hb (dk_at dkX12_firstKey_0 11 rfl) rfl (lv_at hl 1 rfl) ?_
        refine lv_iload_n hx hb (dk_at dkX12_firstKey_0 12 rfl) rfl (lv_at hl 0 rfl) ?_
        refine x_calli (As := [.int (iI z1)]) (rest := [.ref (q 13)]) ⟨hx, hb, hml, hown, hts⟩ (mc_X12_key4 l dC dI cB cI cJ cZ cQ q _ z1 hI (by omega)) (cwV 1 hts (goodV wlq_4_44 wlq_4_45 wlq_4_46 wlq_0_8 wlq_4_41) rfl rfl rfl (by decide +kernel) ⟨Nat.le_of_ble_eq_true rfl, Nat.le_of_ble_eq_true rfl⟩) hK hDD hA0 hP hS 0 12 wm0 rfl rfl hl.1 (Nat.le_of_ble_eq_true rfl) (dk_at dkX12_firstKey_0 13 rfl) (fun z11 A12 H locs hw13 hP hS => ?_)
        obtain ⟨rfl, hw13⟩ := hw13
        have ghw13 : q_X12_key4 z1 A z11 := hw13
        have hw13 := hw13.2
        refine tp_i (y := iI (4 * (A 0 12) + z1)) (congrArg iI (show z11 = 4 * (A 0 12) + z1 by omega)) ?_
        clear hw13
        refine x_iald hx hb hK hP 13 1 wm13 rfl (by omega) (by decide) (dk_at dkX12_firstKey_0 14 rfl) (fun z14 hz14 => ?_)
        have rz14 : (0 : Int) ≤ z14 ∧ z14 ≤ 40 := by rw [hz14]; exact hI 13 _
        have gz14 := Hd.mk hz14
        have hz14 : z14 = A 13 (4 * (A 0 12) + z1).toNat := hz14
        refine lv_iload_n hx hb (dk_at dkX12_firstKey_0 15 rfl) rfl (lv_at hl 2 rfl) ?_
        have J40_16 : ∀ (H : Heap) (locs : List Loc) (ls : Array Slot), (∀ (z : Int), (∃ mm1 : Nat, (d_X12_firstKey_2 (fun z1' => d_X12_firstKey_1 x1 x2 A z mm1 z1') z1 z)) → r_X12_firstKey x1 x2 A z) → va_P (dC, dI) vwCl (WM cI cJ cZ q A) H → va_S AS s.heap H locs → lv_has ls 4 [(3, .int (iI z1)), (0, .ref (q 0)), (1, .int (iI x1)), (2, .int (iI x2))] → W p l e (headSpec ws_mc_X12_firstKey ({ frames := 2, cells := 0, slots := 0, locals := 45 } : Room)).room s m [.ref (q 0), .int (iI x1), .int (iI x2)].toArray below meth c H locs 0 0 Q (F0 m 40 ls []) := by
          intro H locs ls hk2 hP hS hl
          refine lv_iinc (v := iI (z1 + 1)) (lv' := [(3, .int (iI (z1 + 1))), (0, .ref (q 0)), (1, .int (iI x1)), (2, .int (iI x2))]) hx hb (dk_at dkX12_firstKey_1 8 rfl) hl (k := 0) rfl (i_inc (by omega)) (by decide) rfl (fun ls hl => ?_)
          refine lv_goto (tgt := 2) hx hb (dk_at dkX12_firstKey_1 9 rfl) (by decide) ?_
          exact ih5 _ (by omega) (z1 + 1) _ _ _ (by omega) (by omega) (fun zq ⟨mm1, hq⟩ => hk2 _ ⟨mm1, (u_d_X12_firstKey_2 hq)⟩) rfl hP hS (lv_sub hl [0, 1, 2, 3] rfl)
        refine lv_icmp_ne (tgt := 40) hx hb (dk_at dkX12_firstKey_1 0 rfl) (by decide) (fun c15 => ?_) (fun c15 => ?_)
        · have c15 : ¬ z14 = x1 := mt (i_eq (rb rz14 (by decide) (by decide)) (rb hx1 (by decide) (by decide))).mpr c15
          exact J40_16 _ _ _ (fun zq ⟨mm1, hq⟩ => hk1 _ ⟨mm1 + 1, (u_d_X12_firstKey_1 ⟨f8, ⟨z9, gz9.out, (Or.inr ⟨c10, ⟨z11, ghw13, ⟨z14, gz14.out, (Or.inl ⟨c15, hq⟩)⟩⟩⟩)⟩⟩)⟩) hP hS (lv_sub hl [0, 1, 2, 3] rfl)
        · have c15 : z14 = x1 := (i_eq (rb rz14 (by decide) (by decide)) (rb hx1 (by decide) (by decide))).mp c15
          refine lv_aload_n hx hb (dk_at dkX12_firstKey_1 1 rfl) rfl (lv_at hl 1 rfl) ?_
          refine lv_iload_n hx hb (dk_at dkX12_firstKey_1 2 rfl) rfl (lv_at hl 0 rfl) ?_
          refine lv_iload_n hx hb (dk_at dkX12_firstKey_1 3 rfl) rfl (lv_at hl 3 rfl) ?_
          refine x_calli (As := [.int (iI z1), .int (iI x2)]) (rest := []) ⟨hx, hb, hml, hown, hts⟩ (mc_X12_inRow l dC dI cB cI cJ cZ cQ q _ z1 x2 hI (by omega) (rb hx2 (by decide) (by decide))) (cwV 2 hts (goodV wlq_4_52 wlq_4_53 wlq_4_54 wlq_0_8 wlq_4_43) rfl rfl rfl (by decide +kernel) ⟨Nat.le_of_ble_eq_true rfl, Nat.le_of_ble_eq_true rfl⟩) hK hDD hA0 hP hS 0 12 wm0 rfl rfl hl.1 (Nat.le_of_ble_eq_true rfl) (dk_at dkX12_firstKey_1 4 rfl) (fun z17 A18 H locs hw19 hP hS => ?_)
          obtain ⟨rfl, hw19⟩ := hw19
          have ghw19 : q_X12_inRow z1 x2 A z17 := hw19
          have hw19 := hw19.2
          refine lv_if_ne (tgt := 40) hx hb (dk_at dkX12_firstKey_1 5 rfl) (by decide) (fun c20 => ?_) (fun c20 => ?_)
          · have c20 : ¬ z17 = 0 := mt (i_eq0 (rb hw19 (by decide) (by decide))).mpr c20
            exact J40_16 _ _ _ (fun zq ⟨mm1, hq⟩ => hk1 _ ⟨mm1 + 1, (u_d_X12_firstKey_1 ⟨f8, ⟨z9, gz9.out, (Or.inr ⟨c10, ⟨z11, ghw13, ⟨z14, gz14.out, (Or.inr ⟨c15, ⟨z17, ghw19, (Or.inl ⟨c20, hq⟩)⟩⟩)⟩⟩⟩)⟩⟩)⟩) hP hS (lv_sub hl [0, 1, 2, 3] rfl)
          · have c20 : z17 = 0 := (i_eq0 (rb hw19 (by decide) (by decide))).mp c20
            refine lv_iload_n hx hb (dk_at dkX12_firstKey_1 6 rfl) rfl (lv_at hl 0 rfl) ?_
            exact RET z1 _ _ _ _ _ ⟨rfl, hk1 _ ⟨0 + 1, (u_d_X12_firstKey_1 ⟨f8, ⟨z9, gz9.out, (Or.inr ⟨c10, ⟨z11, ghw13, ⟨z14, gz14.out, (Or.inr ⟨c15, ⟨z17, ghw19, (Or.inr ⟨c20, rfl⟩)⟩⟩)⟩⟩⟩)⟩⟩)⟩, by omega⟩ hP hS (dk_at dkX12_firstKey_1 7 rfl)
  exact L2_4 _ 0 _ _ _ (by omega) (by omega) (fun zq ⟨mm1, hq⟩ => (u_r_X12_firstKey ⟨mm1, hq⟩)) rfl hP hS (lv_sub hl [0, 1, 2, 3] rfl)
theorem dkX12_state_0 : dkq cX12_state [(0, .aload_n 0, 1), (1, .getfield 217, 3), (4, .bipush 7, 2), (6, .imul, 1), (7, .aload_n 0, 1), (8, .getfield 220, 3), (11, .iconst 0, 1), (12, .iaload, 1), (13, .iadd, 1), (14, .bipush 7, 2), (16, .imul, 1), (17, .aload_n 0, 1), (18, .getfield 220, 3), (21, .iconst 1, 1), (22, .iaload, 1), (23, .iadd, 1)] = true := by decide +kernel
theorem dkX12_state_1 : dkq cX12_state [(24, .bipush 7, 2), (26, .imul, 1), (27, .aload_n 0, 1), (28, .getfield 220, 3), (31, .iconst 2, 1), (32, .iaload, 1), (33, .iadd, 1), (34, .bipush 7, 2), (36, .imul, 1), (37, .aload_n 0, 1), (38, .getfield 220, 3), (41, .iconst 3, 1), (42, .iaload, 1), (43, .iadd, 1), (44, .iconst 4, 1), (45, .imul, 1)] = true := by decide +kernel
theorem dkX12_state_2 : dkq cX12_state [(46, .aload_n 0, 1), (47, .getfield 223, 3), (50, .iadd, 1), (51, .ireturn, 1)] = true := by decide +kernel
theorem dkX12_takes_0 : dkq cX12_takes [(0, .aload_n 0, 1), (1, .iload_n 1, 1), (2, .iconst 4, 1), (3, .irem, 1), (4, .putfield 223, 3), (7, .iload_n 1, 1), (8, .iconst 4, 1), (9, .idiv, 1), (10, .istore_n 2, 1), (11, .iconst 3, 1), (12, .istore_n 3, 1), (13, .iload_n 3, 1), (14, .ifCond .lt 24, 3), (17, .aload_n 0, 1), (18, .getfield 220, 3), (21, .iload_n 3, 1)] = true := by decide +kernel
theorem dkX12_takes_1 : dkq cX12_takes [(22, .iload_n 2, 1), (23, .bipush 7, 2), (25, .irem, 1), (26, .iastore, 1), (27, .iload_n 2, 1), (28, .bipush 7, 2), (30, .idiv, 1), (31, .istore_n 2, 1), (32, .iinc 3 (-1), 3), (35, .goto (-22), 3), (38, .aload_n 0, 1), (39, .iload_n 2, 1), (40, .putfield 217, 3), (43, .return_, 1)] = true := by decide +kernel
theorem dkX12_isClosed_0 : dkq cX12_isClosed [(0, .aload_n 0, 1), (1, .getfield 77, 3), (4, .aload_n 0, 1), (5, .iload_n 1, 1), (6, .invokevirtual 487, 3), (9, .baload, 1), (10, .ifCond .eq 5, 3), (13, .iconst 1, 1), (14, .ireturn, 1), (15, .iconst 0, 1), (16, .istore_n 2, 1), (17, .iload_n 2, 1), (18, .aload_n 0, 1), (19, .getfield 80, 3), (22, .aload_n 0, 1), (23, .getfield 48, 3)] = true := by decide +kernel
theorem dkX12_isClosed_1 : dkq cX12_isClosed [(26, .iaload, 1), (27, .if_icmp .ge 48, 3), (30, .iconst 0, 1), (31, .istore_n 3, 1), (32, .iload_n 3, 1), (33, .aload_n 0, 1), (34, .getfield 220, 3), (37, .iload_n 2, 1), (38, .iaload, 1), (39, .if_icmp .ge 30, 3), (42, .aload_n 0, 1), (43, .getfield 92, 3), (46, .bipush 10, 2), (48, .aload_n 0, 1), (49, .iload_n 2, 1), (50, .invokevirtual 484, 3)] = true := by decide +kernel
theorem dkX12_isClosed_2 : dkq cX12_isClosed [(53, .imul, 1), (54, .iload_n 3, 1), (55, .iadd, 1), (56, .iaload, 1), (57, .iload_n 1, 1), (58, .if_icmp .ne 5, 3), (61, .iconst 1, 1), (62, .ireturn, 1), (63, .iinc 3 1, 3), (66, .goto (-34), 3), (69, .iinc 2 1, 3), (72, .goto (-55), 3), (75, .iconst 0, 1), (76, .ireturn, 1)] = true := by decide +kernel
theorem dkX12_closedNow_0 : dkq cX12_closedNow [(0, .iconst 0, 1), (1, .istore_n 1, 1), (2, .iconst 0, 1), (3, .istore_n 2, 1), (4, .iload_n 2, 1), (5, .aload_n 0, 1), (6, .getfield 58, 3), (9, .aload_n 0, 1), (10, .getfield 48, 3), (13, .iaload, 1), (14, .if_icmp .ge 25, 3), (17, .iload_n 1, 1), (18, .aload_n 0, 1), (19, .iload_n 2, 1), (20, .invokevirtual 567, 3), (23, .ifCond .eq 7, 3)] = true := by decide +kernel
theorem dkX12_closedNow_1 : dkq cX12_closedNow [(26, .iconst 1, 1), (27, .goto 4, 3), (30, .iconst 0, 1), (31, .iadd, 1), (32, .istore_n 1, 1), (33, .iinc 2 1, 3), (36, .goto (-32), 3), (39, .iload_n 1, 1), (40, .ireturn, 1)] = true := by decide +kernel
theorem dkX12_haves_0 : dkq cX12_haves [(0, .iconst 0, 1), (1, .istore_n 1, 1), (2, .iload_n 1, 1), (3, .aload_n 0, 1), (4, .getfield 235, 3), (7, .if_icmp .ge 110, 3), (10, .aload_n 0, 1), (11, .getfield 110, 3), (14, .iconst 4, 1), (15, .aload_n 0, 1), (16, .getfield 48, 3), (19, .imul, 1), (20, .aload_n 0, 1), (21, .getfield 232, 3), (24, .iload_n 1, 1), (25, .iaload, 1)] = true := by decide +kernel
theorem dkX12_haves_1 : dkq cX12_haves [(26, .iadd, 1), (27, .iaload, 1), (28, .istore_n 2, 1), (29, .iload_n 2, 1), (30, .bipush 20, 2), (32, .if_icmp .ge 22, 3), (35, .iload_n 2, 1), (36, .bipush 10, 2), (38, .isub, 1), (39, .aload_n 0, 1), (40, .getfield 217, 3), (43, .if_icmp .ne 7, 3), (46, .iconst 1, 1), (47, .goto 43, 3), (50, .iconst 0, 1), (51, .goto 39, 3)] = true := by decide +kernel
theorem dkX12_haves_2 : dkq cX12_haves [(54, .aload_n 0, 1), (55, .getfield 64, 3), (58, .aload_n 0, 1), (59, .iload_n 2, 1), (60, .bipush 20, 2), (62, .isub, 1), (63, .invokevirtual 487, 3), (66, .iaload, 1), (67, .aload_n 0, 1), (68, .getfield 217, 3), (71, .if_icmp .ne 18, 3), (74, .aload_n 0, 1), (75, .iload_n 2, 1), (76, .bipush 20, 2), (78, .isub, 1), (79, .invokevirtual 567, 3)] = true := by decide +kernel
theorem dkX12_haves_3 : dkq cX12_haves [(82, .ifCond .ne 7, 3), (85, .iconst 1, 1), (86, .goto 4, 3), (89, .iconst 0, 1), (90, .istore_n 3, 1), (91, .aload_n 0, 1), (92, .dup, 1), (93, .getfield 223, 3), (96, .iload_n 3, 1), (97, .ifCond .eq 9, 3), (100, .iconst 1, 1), (101, .iload_n 1, 1), (102, .ishl, 1), (103, .goto 4, 3), (106, .iconst 0, 1), (107, .ior, 1)] = true := by decide +kernel
theorem dkX12_haves_4 : dkq cX12_haves [(108, .putfield 223, 3), (111, .iinc 1 1, 3), (114, .goto (-112), 3), (117, .return_, 1)] = true := by decide +kernel
theorem dkX12_actsTo_0 : dkq cX12_actsTo [(0, .iconst 0, 1), (1, .istore_n 2, 1), (2, .iload_n 2, 1), (3, .aload_n 0, 1), (4, .getfield 214, 3), (7, .if_icmp .ge 39, 3), (10, .aload_n 0, 1), (11, .aload_n 0, 1), (12, .getfield 211, 3), (15, .iload_n 2, 1), (16, .iaload, 1), (17, .invokevirtual 581, 3), (20, .aload_n 0, 1), (21, .getfield 217, 3), (24, .iload_n 1, 1), (25, .if_icmp .ne 15, 3)] = true := by decide +kernel
theorem dkX12_actsTo_1 : dkq cX12_actsTo [(28, .aload_n 0, 1), (29, .getfield 208, 3), (32, .aload_n 0, 1), (33, .getfield 211, 3), (36, .iload_n 2, 1), (37, .iaload, 1), (38, .iaload, 1), (39, .ireturn, 1), (40, .iinc 2 1, 3), (43, .goto (-41), 3), (46, .iconst (-1), 1), (47, .ireturn, 1)] = true := by decide +kernel
theorem dkX12_canOpen_0 : dkq cX12_canOpen [(0, .aload_n 0, 1), (1, .getfield 77, 3), (4, .aload_n 0, 1), (5, .iload_n 2, 1), (6, .invokevirtual 487, 3), (9, .baload, 1), (10, .ifCond .eq 5, 3), (13, .iconst 0, 1), (14, .ireturn, 1), (15, .iconst 0, 1), (16, .istore_n 3, 1), (17, .iload_n 3, 1), (18, .aload_n 0, 1), (19, .getfield 80, 3), (22, .aload_n 0, 1), (23, .getfield 48, 3)] = true := by decide +kernel
theorem dkX12_canOpen_1 : dkq cX12_canOpen [(26, .iaload, 1), (27, .if_icmp .ge 48, 3), (30, .aload_n 0, 1), (31, .getfield 86, 3), (34, .aload_n 0, 1), (35, .iload_n 3, 1), (36, .invokevirtual 484, 3), (39, .iaload, 1), (40, .istore 4, 2), (42, .aload_n 0, 1), (43, .iload_n 3, 1), (44, .iload_n 2, 1), (45, .invokevirtual 490, 3), (48, .ifCond .eq 21, 3), (51, .iload 4, 2), (53, .bipush 10, 2)] = true := by decide +kernel
theorem dkX12_canOpen_2 : dkq cX12_canOpen [(55, .if_icmp .ge 12, 3), (58, .iload_n 1, 1), (59, .iload 4, 2), (61, .ishr, 1), (62, .iconst 1, 1), (63, .iand, 1), (64, .ifCond .ne 5, 3), (67, .iconst 0, 1), (68, .ireturn, 1), (69, .iinc 3 1, 3), (72, .goto (-55), 3), (75, .iconst 1, 1), (76, .ireturn, 1)] = true := by decide +kernel
theorem dkX12_can_0 : dkq cX12_can [(0, .iload_n 1, 1), (1, .iconst 0, 1), (2, .iconst 1, 1), (3, .aload_n 0, 1), (4, .getfield 95, 3), (7, .aload_n 0, 1), (8, .getfield 48, 3), (11, .iaload, 1), (12, .ishl, 1), (13, .iconst 1, 1), (14, .isub, 1), (15, .invokestatic 352, 3), (18, .ifCond .eq 11, 3), (21, .aload_n 0, 1), (22, .iload_n 2, 1), (23, .invokevirtual 507, 3)] = true := by decide +kernel
theorem dkX12_can_1 : dkq cX12_can [(26, .ifCond .ne 7, 3), (29, .iconst (-1), 1), (30, .goto 17, 3), (33, .aload_n 0, 1), (34, .iload_n 1, 1), (35, .iload_n 2, 1), (36, .invokevirtual 603, 3), (39, .ifCond .eq 7, 3), (42, .iconst 1, 1), (43, .goto 4, 3), (46, .iconst 0, 1), (47, .ireturn, 1)] = true := by decide +kernel
theorem dkX12_needs_0 : dkq cX12_needs [(0, .aload_n 0, 1), (1, .iload_n 1, 1), (2, .invokevirtual 507, 3), (5, .ifCond .eq 33, 3), (8, .iload_n 2, 1), (9, .ifCond .eq 8, 3), (12, .iload_n 2, 1), (13, .iconst 1, 1), (14, .if_icmp .ne 24, 3), (17, .aload_n 0, 1), (18, .iconst 1, 1), (19, .aload_n 0, 1), (20, .getfield 95, 3), (23, .aload_n 0, 1), (24, .getfield 48, 3), (27, .iaload, 1)] = true := by decide +kernel
theorem dkX12_needs_1 : dkq cX12_needs [(28, .ishl, 1), (29, .iconst 1, 1), (30, .isub, 1), (31, .iload_n 1, 1), (32, .invokevirtual 603, 3), (35, .ifCond .ne 5, 3), (38, .iconst (-1), 1), (39, .ireturn, 1), (40, .iconst 0, 1), (41, .istore_n 3, 1), (42, .iconst 0, 1), (43, .istore 4, 2), (45, .iconst 0, 1), (46, .istore 5, 2), (48, .iload 5, 2), (50, .aload_n 0, 1)] = true := by decide +kernel
theorem dkX12_needs_2 : dkq cX12_needs [(51, .getfield 80, 3), (54, .aload_n 0, 1), (55, .getfield 48, 3), (58, .iaload, 1), (59, .if_icmp .ge 88, 3), (62, .aload_n 0, 1), (63, .getfield 89, 3), (66, .aload_n 0, 1), (67, .iload 5, 2), (69, .invokevirtual 484, 3), (72, .iaload, 1), (73, .istore 6, 2), (75, .iconst 0, 1), (76, .istore 7, 2), (78, .iload 7, 2), (80, .iload 6, 2)] = true := by decide +kernel
theorem dkX12_needs_3 : dkq cX12_needs [(82, .if_icmp .ge 59, 3), (85, .aload_n 0, 1), (86, .getfield 92, 3), (89, .bipush 10, 2), (91, .aload_n 0, 1), (92, .iload 5, 2), (94, .invokevirtual 484, 3), (97, .imul, 1), (98, .iload 7, 2), (100, .iadd, 1), (101, .iaload, 1), (102, .iload_n 1, 1), (103, .if_icmp .eq 6, 3), (106, .goto 29, 3), (109, .iload_n 3, 1), (110, .iconst 1, 1)] = true := by decide +kernel
theorem dkX12_needs_4 : dkq cX12_needs [(111, .aload_n 0, 1), (112, .getfield 86, 3), (115, .aload_n 0, 1), (116, .iload 5, 2), (118, .invokevirtual 484, 3), (121, .iaload, 1), (122, .ishl, 1), (123, .ior, 1), (124, .istore_n 3, 1), (125, .iload 4, 2), (127, .iload 6, 2), (129, .iload 7, 2), (131, .isub, 1), (132, .iadd, 1), (133, .istore 4, 2), (135, .iinc 7 1, 3)] = true := by decide +kernel
theorem dkX12_needs_5 : dkq cX12_needs [(138, .goto (-60), 3), (141, .iinc 5 1, 3), (144, .goto (-96), 3), (147, .iload_n 2, 1), (148, .ifCond .ne 10, 3), (151, .iload_n 3, 1), (152, .invokestatic 529, 3), (155, .goto 5, 3), (158, .iload 4, 2), (160, .ireturn, 1)] = true := by decide +kernel
theorem dkX12_crosses_0 : dkq cX12_crosses [(0, .bipush 6, 2), (2, .aload_n 0, 1), (3, .getfield 48, 3), (6, .imul, 1), (7, .iload_n 1, 1), (8, .iadd, 1), (9, .istore_n 3, 1), (10, .bipush 6, 2), (12, .aload_n 0, 1), (13, .getfield 48, 3), (16, .imul, 1), (17, .iload_n 2, 1), (18, .iadd, 1), (19, .istore 4, 2), (21, .aload_n 0, 1), (22, .getfield 128, 3)] = true := by decide +kernel
theorem dkX12_crosses_1 : dkq cX12_crosses [(25, .iload_n 3, 1), (26, .iaload, 1), (27, .aload_n 0, 1), (28, .getfield 128, 3), (31, .iload 4, 2), (33, .iaload, 1), (34, .if_icmp .ge 39, 3), (37, .aload_n 0, 1), (38, .getfield 128, 3), (41, .iload 4, 2), (43, .iaload, 1), (44, .aload_n 0, 1), (45, .getfield 131, 3), (48, .iload_n 3, 1), (49, .iaload, 1), (50, .if_icmp .ge 23, 3)] = true := by decide +kernel
theorem dkX12_crosses_2 : dkq cX12_crosses [(53, .aload_n 0, 1), (54, .getfield 131, 3), (57, .iload_n 3, 1), (58, .iaload, 1), (59, .aload_n 0, 1), (60, .getfield 131, 3), (63, .iload 4, 2), (65, .iaload, 1), (66, .if_icmp .ge 7, 3), (69, .iconst 1, 1), (70, .goto 4, 3), (73, .iconst 0, 1), (74, .istore 5, 2), (76, .aload_n 0, 1), (77, .getfield 128, 3), (80, .iload 4, 2)] = true := by decide +kernel
theorem dkX12_crosses_3 : dkq cX12_crosses [(82, .iaload, 1), (83, .aload_n 0, 1), (84, .getfield 128, 3), (87, .iload_n 3, 1), (88, .iaload, 1), (89, .if_icmp .ge 39, 3), (92, .aload_n 0, 1), (93, .getfield 128, 3), (96, .iload_n 3, 1), (97, .iaload, 1), (98, .aload_n 0, 1), (99, .getfield 131, 3), (102, .iload 4, 2), (104, .iaload, 1), (105, .if_icmp .ge 23, 3), (108, .aload_n 0, 1)] = true := by decide +kernel
theorem dkX12_crosses_4 : dkq cX12_crosses [(109, .getfield 131, 3), (112, .iload 4, 2), (114, .iaload, 1), (115, .aload_n 0, 1), (116, .getfield 131, 3), (119, .iload_n 3, 1), (120, .iaload, 1), (121, .if_icmp .ge 7, 3), (124, .iconst 1, 1), (125, .goto 4, 3), (128, .iconst 0, 1), (129, .istore 6, 2), (131, .iload_n 1, 1), (132, .iload_n 2, 1), (133, .if_icmp .eq 55, 3), (136, .aload_n 0, 1)] = true := by decide +kernel
theorem dkX12_crosses_5 : dkq cX12_crosses [(137, .getfield 125, 3), (140, .iload_n 3, 1), (141, .iaload, 1), (142, .aload_n 0, 1), (143, .getfield 125, 3), (146, .iload 4, 2), (148, .iaload, 1), (149, .if_icmp .ne 39, 3), (152, .aload_n 0, 1), (153, .getfield 128, 3), (156, .iload_n 3, 1), (157, .iaload, 1), (158, .aload_n 0, 1), (159, .getfield 131, 3), (162, .iload 4, 2), (164, .iaload, 1)] = true := by decide +kernel
theorem dkX12_crosses_6 : dkq cX12_crosses [(165, .if_icmp .ge 23, 3), (168, .aload_n 0, 1), (169, .getfield 128, 3), (172, .iload 4, 2), (174, .iaload, 1), (175, .aload_n 0, 1), (176, .getfield 131, 3), (179, .iload_n 3, 1), (180, .iaload, 1), (181, .if_icmp .ge 7, 3), (184, .iconst 1, 1), (185, .goto 4, 3), (188, .iconst 0, 1), (189, .istore 7, 2), (191, .iload 5, 2), (193, .ifCond .ne 13, 3)] = true := by decide +kernel
theorem dkX12_crosses_7 : dkq cX12_crosses [(196, .iload 6, 2), (198, .ifCond .ne 8, 3), (201, .iload 7, 2), (203, .ifCond .eq 7, 3), (206, .iconst 1, 1), (207, .goto 4, 3), (210, .iconst 0, 1), (211, .ireturn, 1)] = true := by decide +kernel
theorem dkX12_cross_0 : dkq cX12_cross [(0, .iload_n 1, 1), (1, .ifCond .eq 10, 3), (4, .iload_n 1, 1), (5, .iconst 1, 1), (6, .if_icmp .eq 5, 3), (9, .iconst (-1), 1), (10, .ireturn, 1), (11, .iconst 0, 1), (12, .istore_n 2, 1), (13, .iload_n 2, 1), (14, .aload_n 0, 1), (15, .getfield 122, 3), (18, .aload_n 0, 1), (19, .getfield 48, 3), (22, .iaload, 1), (23, .if_icmp .ge 49, 3)] = true := by decide +kernel
theorem dkX12_cross_1 : dkq cX12_cross [(26, .iconst 0, 1), (27, .istore_n 3, 1), (28, .iload_n 3, 1), (29, .aload_n 0, 1), (30, .getfield 122, 3), (33, .aload_n 0, 1), (34, .getfield 48, 3), (37, .iaload, 1), (38, .if_icmp .ge 28, 3), (41, .aload_n 0, 1), (42, .iload_n 2, 1), (43, .iload_n 3, 1), (44, .invokevirtual 606, 3), (47, .ifCond .eq 13, 3), (50, .iload_n 1, 1), (51, .ifCond .ne 7, 3)] = true := by decide +kernel
theorem dkX12_cross_2 : dkq cX12_cross [(54, .iload_n 2, 1), (55, .goto 4, 3), (58, .iload_n 3, 1), (59, .ireturn, 1), (60, .iinc 3 1, 3), (63, .goto (-35), 3), (66, .iinc 2 1, 3), (69, .goto (-56), 3), (72, .iconst (-1), 1), (73, .ireturn, 1)] = true := by decide +kernel
theorem dkX12_may_0 : dkq cX12_may [(0, .iconst 0, 1), (1, .istore_n 2, 1), (2, .iload_n 2, 1), (3, .iload_n 1, 1), (4, .if_icmp .ge 35, 3), (7, .aload_n 0, 1), (8, .getfield 238, 3), (11, .iload_n 2, 1), (12, .iaload, 1), (13, .aload_n 0, 1), (14, .getfield 238, 3), (17, .iload_n 1, 1), (18, .iaload, 1), (19, .if_icmp .ne 14, 3), (22, .aload_n 0, 1), (23, .iload_n 2, 1)] = true := by decide +kernel
theorem dkX12_may_1 : dkq cX12_may [(24, .iload_n 1, 1), (25, .invokevirtual 606, 3), (28, .ifCond .eq 5, 3), (31, .iconst 0, 1), (32, .ireturn, 1), (33, .iinc 2 1, 3), (36, .goto (-34), 3), (39, .iconst 1, 1), (40, .ireturn, 1)] = true := by decide +kernel
theorem dkX12_isAhead_0 : dkq cX12_isAhead [(0, .bipush 6, 2), (2, .aload_n 0, 1), (3, .getfield 48, 3), (6, .imul, 1), (7, .iload_n 1, 1), (8, .iadd, 1), (9, .istore_n 3, 1), (10, .bipush 6, 2), (12, .aload_n 0, 1), (13, .getfield 48, 3), (16, .imul, 1), (17, .iload_n 2, 1), (18, .iadd, 1), (19, .istore 4, 2), (21, .aload_n 0, 1), (22, .getfield 128, 3)] = true := by decide +kernel
theorem dkX12_isAhead_1 : dkq cX12_isAhead [(25, .iload_n 3, 1), (26, .iaload, 1), (27, .aload_n 0, 1), (28, .getfield 128, 3), (31, .iload 4, 2), (33, .iaload, 1), (34, .if_icmp .eq 25, 3), (37, .aload_n 0, 1), (38, .getfield 128, 3), (41, .iload_n 3, 1), (42, .iaload, 1), (43, .aload_n 0, 1), (44, .getfield 128, 3), (47, .iload 4, 2), (49, .iaload, 1), (50, .if_icmp .ge 7, 3)] = true := by decide +kernel
theorem dkX12_isAhead_2 : dkq cX12_isAhead [(53, .iconst 1, 1), (54, .goto 4, 3), (57, .iconst 0, 1), (58, .ireturn, 1), (59, .aload_n 0, 1), (60, .getfield 131, 3), (63, .iload_n 3, 1), (64, .iaload, 1), (65, .aload_n 0, 1), (66, .getfield 131, 3), (69, .iload 4, 2), (71, .iaload, 1), (72, .if_icmp .eq 27, 3), (75, .aload_n 0, 1), (76, .getfield 131, 3), (79, .iload_n 3, 1)] = true := by decide +kernel
theorem dkX12_isAhead_3 : dkq cX12_isAhead [(80, .iaload, 1), (81, .aload_n 0, 1), (82, .getfield 131, 3), (85, .iload 4, 2), (87, .iaload, 1), (88, .if_icmp .le 7, 3), (91, .iconst 1, 1), (92, .goto 17, 3), (95, .iconst 0, 1), (96, .goto 13, 3), (99, .iload_n 1, 1), (100, .iload_n 2, 1), (101, .if_icmp .ge 7, 3), (104, .iconst 1, 1), (105, .goto 4, 3), (108, .iconst 0, 1)] = true := by decide +kernel
theorem dkX12_isAhead_4 : dkq cX12_isAhead [(109, .ireturn, 1)] = true := by decide +kernel
theorem dkX12_order_0 : dkq cX12_order [(0, .iconst 0, 1), (1, .istore_n 2, 1), (2, .iload_n 2, 1), (3, .aload_n 0, 1), (4, .getfield 122, 3), (7, .aload_n 0, 1), (8, .getfield 48, 3), (11, .iaload, 1), (12, .if_icmp .ge 59, 3), (15, .iconst 0, 1), (16, .istore_n 3, 1), (17, .iconst 0, 1), (18, .istore 4, 2), (20, .iload 4, 2), (22, .aload_n 0, 1), (23, .getfield 122, 3)] = true := by decide +kernel
theorem dkX12_order_1 : dkq cX12_order [(26, .aload_n 0, 1), (27, .getfield 48, 3), (30, .iaload, 1), (31, .if_icmp .ge 27, 3), (34, .iload_n 3, 1), (35, .aload_n 0, 1), (36, .iload 4, 2), (38, .iload_n 2, 1), (39, .invokevirtual 615, 3), (42, .ifCond .eq 7, 3), (45, .iconst 1, 1), (46, .goto 4, 3), (49, .iconst 0, 1), (50, .iadd, 1), (51, .istore_n 3, 1), (52, .iinc 4 1, 3)] = true := by decide +kernel
theorem dkX12_order_2 : dkq cX12_order [(55, .goto (-35), 3), (58, .iload_n 3, 1), (59, .iload_n 1, 1), (60, .if_icmp .ne 5, 3), (63, .iload_n 2, 1), (64, .ireturn, 1), (65, .iinc 2 1, 3), (68, .goto (-66), 3), (71, .iconst (-1), 1), (72, .ireturn, 1)] = true := by decide +kernel
