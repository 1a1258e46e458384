abbrev tr_d_X12_placesOf_1 (A4 : St) (z : Int) (u : St) (K1 : Int → Int → St → Prop) (z9 : Int) (z10 : Int) (A12 : St) : Prop := ((IM A12) ∧ ((0 ≤ z9 ∧ z9 ≤ 2147483647) ∧ ((-2147483648 ≤ z10 ∧ z10 ≤ 2147483647) ∧ ((((A4 0 66) ≤ z9) ∧ (z = z10 ∧ u = A12)) ∨ ((¬ (A4 0 66) ≤ z9) ∧ (∃ z21 : Int, z21 = A12 48 (z9).toNat ∧ (∃ A22 : St, q_X12_takes z21 A12 A22 ∧ (∃ z25 : Int, z25 = oShl 1 (A22 0 67) ∧ (∃ z26 : Int, z26 = oOr z10 z25 ∧ (K1 (z9 + 1) z26 A22))))))))))
def d_X12_placesOf_1 (A4 : St) (z : Int) (u : St) : Nat → Int → Int → St → Prop
  | 0, _, _, _ => False
  | nn9 + 1, z9, z10, A12 => tr_d_X12_placesOf_1 A4 z u (fun z9 z10 A12 => d_X12_placesOf_1 A4 z u nn9 z9 z10 A12) z9 z10 A12
theorem u_d_X12_placesOf_1 {A4 : St} {z : Int} {u : St} {nn9 : Nat} {z9 : Int} {z10 : Int} {A12 : St} (h : tr_d_X12_placesOf_1 A4 z u (fun z9 z10 A12 => d_X12_placesOf_1 A4 z u nn9 z9 z10 A12) z9 z10 A12) : d_X12_placesOf_1 A4 z u (nn9 + 1) z9 z10 A12 := h
abbrev tr_r_X12_placesOf (x1 : Int) (A : St) (z : Int) (u : St) : Prop := (∃ z1 : Int, q_X12_keysOf x1 A z1 ∧ (∃ A4 : St, q_X12_searches x1 z1 0 A A4 ∧ (∃ nn9 : Nat, d_X12_placesOf_1 A4 z u nn9 0 0 A4)))
def r_X12_placesOf (x1 : Int) (A : St) (z : Int) (u : St) : Prop := tr_r_X12_placesOf x1 A z u
theorem u_r_X12_placesOf {x1 : Int} {A : St} {z : Int} {u : St} (h : tr_r_X12_placesOf x1 A z u) : r_X12_placesOf x1 A z u := h
def q_X12_placesOf (x1 : Int) (A : St) (z : Int) (u : St) : Prop := r_X12_placesOf x1 A z u ∧ IM u ∧ fr [42, 43, 47, 48, 49, 50] [66, 67, 69, 70, 71, 73] A u ∧ CI u ∧ WI u ∧ (-2147483648 ≤ z ∧ z ≤ 2147483647)
def ws_mb_X12_placesOf : List Cond := .code yX12_placesOf cX12_placesOf 4 (some .int) :: WX
set_option maxHeartbeats 4000000 in
set_option maxRecDepth 100000 in
theorem mb_X12_placesOf (l : Launch) (dC : Nat → ClassId) (dI : Nat → Nat → Nat) (cB cI cJ cZ cQ : ClassId) (q : Nat → Nat) (A : St) (x1 : Int) (hI : IM A) (hx1 : (0 : Int) ≤ x1 ∧ x1 ≤ 2) (hcCI : CI A) (hcWI : WI A) : XMi l yX12_placesOf ws_mb_X12_placesOf ({ frames := 6, cells := 0, slots := 0, locals := 148 } : Room) (dC, dI) (tyA cB cI cJ cZ cQ) (WM cI cJ cZ q) A [.ref (q 0), .int (iI x1)] (fun z u => r_X12_placesOf x1 A z u ∧ IM u ∧ fr [42, 43, 47, 48, 49, 50] [66, 67, 69, 70, 71, 73] A u ∧ CI u ∧ WI u ∧ (-2147483648 ≤ z ∧ z ≤ 2147483647)) := by
  refine x_meti (cc := cX12_placesOf) (maxL := 4) WM_adr (by decide +kernel) rfl (Nat.le_of_ble_eq_true rfl) (fun p e s m below meth c Q AS ls hx hb hml hown hts hK hDD hA0 hP hS hl RET => ?_)
  have hown : s.vm.findClass RX12 = some m.cls := hown
  have hl : lv_has ls 4 [(0, .ref (q 0)), (1, .int (iI x1))] := hl
  have hiX12 : ∀ w ∈ u_ws RX12 TX12 85, w ∈ ws_mb_X12_placesOf := fun w h => List.mem_cons_of_mem _ (wx_lay w h)
  obtain ⟨H, hHe⟩ : ∃ H : Heap, H = s.heap := ⟨_, rfl⟩
  rw [← hHe] at hP
  have hS : va_S AS s.heap H [] := by rw [hHe]; exact hS
  suffices hgo : ∀ locs : List Loc, va_S AS s.heap H locs → W p l e (headSpec ws_mb_X12_placesOf ({ frames := 6, cells := 0, slots := 0, locals := 148 } : Room)).room s m [.ref (q 0), .int (iI x1)].toArray below meth c H locs 0 0 Q (F0 m 0 ls []) by
    have := hgo [] hS
    rw [hHe] at this
    exact this
  clear hS hHe
  intro locs hS
  refine lv_aload_n hx hb (dk_at dkX12_placesOf_0 0 rfl) rfl (lv_at hl 0 rfl) ?_
  refine lv_iload_n hx hb (dk_at dkX12_placesOf_0 1 rfl) rfl (lv_at hl 1 rfl) ?_
  refine lv_aload_n hx hb (dk_at dkX12_placesOf_0 2 rfl) rfl (lv_at hl 0 rfl) ?_
  refine lv_iload_n hx hb (dk_at dkX12_placesOf_0 3 rfl) rfl (lv_at hl 1 rfl) ?_
  refine x_calli (As := [.int (iI x1)]) (rest := [.int (iI x1), .ref (q 0)]) ⟨hx, hb, hml, hown, hts⟩ (mc_X12_keysOf l dC dI cB cI cJ cZ cQ q _ x1 hI (rb hx1 (by decide) (by decide))) (cwV 1 hts (goodV wlq_5_41 wlq_5_42 wlq_5_43 wlq_0_8 wlq_5_26) rfl rfl rfl (by decide +kernel) ⟨Nat.le_of_ble_eq_true rfl, Nat.le_of_ble_eq_true rfl⟩) hK hDD hA0 hP hS 0 12 wm0 rfl rfl hl.1 (Nat.le_of_ble_eq_true rfl) (dk_at dkX12_placesOf_0 4 rfl) (fun z1 A2 H locs hw3 hP hS => ?_)
  obtain ⟨rfl, hw3⟩ := hw3
  have ghw3 : q_X12_keysOf x1 A z1 := hw3
  have hw3 := hw3.2
  refine lv_iconst (v := iI 0) hx hb (dk_at dkX12_placesOf_0 5 rfl) (by decide +kernel) ?_
  refine x_callv (As := [.int (iI x1), .int (iI z1), .int (iI 0)]) (rest := []) ⟨hx, hb, hml, hown, hts⟩ (mb_X12_searches l dC dI cB cI cJ cZ cQ q _ x1 z1 0 hI hx1 hw3 ⟨by decide, by decide⟩ hcCI hcWI) (cwV 3 hts (goodV wlq_7_19 wlq_7_20 wlq_7_21 wlq_0_8 wlq_7_0) rfl rfl rfl (by decide +kernel) ⟨Nat.le_of_ble_eq_true rfl, Nat.le_of_ble_eq_true rfl⟩) hK hDD hA0 hP hS 0 12 wm0 rfl rfl hl.1 (Nat.le_of_ble_eq_true rfl) (dk_at dkX12_placesOf_0 6 rfl) (fun A4 H locs hw5 hP hS => ?_)
  have ghw5 : q_X12_searches x1 z1 0 A A4 := hw5
  obtain ⟨_, hI, hf6, hw5⟩ := hw5
  obtain ⟨hc7, hw5⟩ := hw5
  obtain ⟨hc8, hw5⟩ := hw5
  refine lv_iconst (v := iI 0) hx hb (dk_at dkX12_placesOf_0 7 rfl) (by decide +kernel) ?_
  refine lv_istore_n (lv' := [(2, .int (iI 0)), (0, .ref (q 0)), (1, .int (iI x1))]) hx hb (dk_at dkX12_placesOf_0 8 rfl) rfl hl (by decide) rfl (fun ls hl => ?_)
  refine lv_iconst (v := iI 0) hx hb (dk_at dkX12_placesOf_0 9 rfl) (by decide +kernel) ?_
  refine lv_istore_n (lv' := [(3, .int (iI 0)), (2, .int (iI 0)), (0, .ref (q 0)), (1, .int (iI x1))]) hx hb (dk_at dkX12_placesOf_0 10 rfl) rfl hl (by decide) rfl (fun ls hl => ?_)
  have L15_13 : ∀ (n15 : Nat) (z9 z10 : Int) (A12 : St) (H : Heap) (locs : List Loc) (ls : Array Slot), (0 ≤ z9) → (0 ≤ z9 ∧ z9 ≤ 2147483647) → (-2147483648 ≤ z10 ∧ z10 ≤ 2147483647) → (∀ (z : Int) (u : St), (∃ mm1 : Nat, (d_X12_placesOf_1 A4 z u mm1 z9 z10 A12)) → r_X12_placesOf x1 A z u) → (((A4 0 66) - z9 + 1).toNat = n15) → IM A12 → fr [49] [67, 69] A4 A12 → va_P (dC, dI) vwCl (WM cI cJ cZ q A12) H → va_S AS s.heap H locs → lv_has ls 4 [(3, .int (iI z9)), (2, .int (iI z10)), (0, .ref (q 0)), (1, .int (iI x1))] → W p l e (headSpec ws_mb_X12_placesOf ({ frames := 6, cells := 0, slots := 0, locals := 148 } : Room)).room s m [.ref (q 0), .int (iI x1)].toArray below meth c H locs 0 0 Q (F0 m 15 ls []) := by
    intro n15
    induction n15 using Nat.strongRecOn with
    | ind n15 ih14 =>
      intro z9 z10 A12 H locs ls f16 f17 f18 hk1 hn15 hI hj11 hP hS hl
      have gI19 : Hd (IM A12) := Hd.mk hI
      refine lv_iload_n hx hb (dk_at dkX12_placesOf_0 11 rfl) rfl (lv_at hl 0 rfl) ?_
      refine lv_aload_n hx hb (dk_at dkX12_placesOf_0 12 rfl) rfl (lv_at hl 2 rfl) ?_
      have e_A12_66 : A12 0 66 = (A4 0 66) := (hj11.2 66 rfl)
      refine va_get (D := (dC, dI)) (ci := 12) (v := .int (iI (A12 0 66))) (C := RX12) (T := TX12) (N := 85) hx hb hts hiX12 hown hK hP 0 wm0 rfl 66 (by decide) (hts _ (List.mem_cons_of_mem _ wlq_6_53)) (fun _ h9 => h9) rfl (dk_at dkX12_placesOf_0 13 rfl) ?_
      refine tp_i (y := iI (A4 0 66)) (congrArg iI e_A12_66) ?_
      have r_A4_0_66 : (0 : Int) ≤ (A4 0 66) ∧ (A4 0 66) ≤ 76832 := by rw [← e_A12_66]; exact hI 0 66
      refine lv_icmp_ge (tgt := 48) hx hb (dk_at dkX12_placesOf_0 14 rfl) (by decide) (fun c20 => ?_) (fun c20 => ?_)
      · have c20 : (A4 0 66) ≤ z9 := (i_le (rb r_A4_0_66 (by decide) (by decide)) (rb f17 (by decide) (by decide))).mp c20
        refine lv_iload_n hx hb (dk_at dkX12_placesOf_1 14 rfl) rfl (lv_at hl 1 rfl) ?_
        exact RET z10 _ _ _ _ _ ⟨hk1 _ _ ⟨0 + 1, (u_d_X12_placesOf_1 ⟨gI19.out, ⟨f17, ⟨f18, (Or.inl ⟨c20, ⟨rfl, rfl⟩⟩)⟩⟩⟩)⟩, hI, fr.trans (fr.trans (fr.rf) hf6 rfl rfl) hj11 rfl rfl, (CI.fr hc7 hj11 rfl rfl), (WI.fr hc8 hj11 rfl rfl), by omega⟩ hP hS (dk_at dkX12_placesOf_1 15 rfl)
      · have c20 : ¬ (A4 0 66) ≤ z9 := mt (i_le (rb r_A4_0_66 (by decide) (by decide)) (rb f17 (by decide) (by decide))).mpr c20
        refine lv_aload_n hx hb (dk_at dkX12_placesOf_0 15 rfl) rfl (lv_at hl 2 rfl) ?_
        refine lv_aload_n hx hb (dk_at dkX12_placesOf_1 0 rfl) rfl (lv_at hl 2 rfl) ?_
        refine va_get (D := (dC, dI)) (ci := 12) (v := .ref (q 48)) (C := RX12) (T := TX12) (N := 85) hx hb hts hiX12 hown hK hP 0 wm0 rfl 65 (by decide) (hts _ (List.mem_cons_of_mem _ wlq_6_52)) (fun _ h9 => h9) rfl (dk_at dkX12_placesOf_1 1 rfl) ?_
        refine lv_iload_n hx hb (dk_at dkX12_placesOf_1 2 rfl) rfl (lv_at hl 0 rfl) ?_
        have a_A12_48 : A12 48 = A4 48 := (hj11.1 48 (by decide) rfl)
        refine x_iald hx hb hK hP 48 1 wm48 rfl (by omega) (by decide) (dk_at dkX12_placesOf_1 3 rfl) (fun z21 hz21 => ?_)
        have rz21 : (0 : Int) ≤ z21 ∧ z21 ≤ 76831 := by rw [hz21]; exact hI 48 _
        have gz21 := Hd.mk hz21
        have hz21 : z21 = A4 48 (z9).toNat := hz21.trans (congrFun a_A12_48 _)
        refine x_callv (As := [.int (iI z21)]) (rest := []) ⟨hx, hb, hml, hown, hts⟩ (mc_X12_takes l dC dI cB cI cJ cZ cQ q _ z21 hI rz21) (cwV 1 hts (goodV wlq_7_11 wlq_7_12 wlq_7_13 wlq_0_8 wlq_6_41) rfl rfl rfl (by decide +kernel) ⟨Nat.le_of_ble_eq_true rfl, Nat.le_of_ble_eq_true rfl⟩) hK hDD hA0 hP hS 0 12 wm0 rfl rfl hl.1 (Nat.le_of_ble_eq_true rfl) (dk_at dkX12_placesOf_1 4 rfl) (fun A22 H locs hw23 hP hS => ?_)
        have ghw23 : q_X12_takes z21 A12 A22 := hw23
        obtain ⟨_, hI, hf24, hw23⟩ := hw23
        clear hw23
        refine lv_iload_n hx hb (dk_at dkX12_placesOf_1 5 rfl) rfl (lv_at hl 1 rfl) ?_
        refine lv_iconst (v := iI 1) hx hb (dk_at dkX12_placesOf_1 6 rfl) (by decide +kernel) ?_
        refine lv_aload_n hx hb (dk_at dkX12_placesOf_1 7 rfl) rfl (lv_at hl 2 rfl) ?_
        refine va_get (D := (dC, dI)) (ci := 12) (v := .int (iI (A22 0 67))) (C := RX12) (T := TX12) (N := 85) hx hb hts hiX12 hown hK hP 0 wm0 rfl 67 (by decide) (hts _ (List.mem_cons_of_mem _ wlq_6_38)) (fun _ h9 => h9) rfl (dk_at dkX12_placesOf_1 8 rfl) ?_
        have r_A22_0_67 : (0 : Int) ≤ (A22 0 67) ∧ (A22 0 67) ≤ 7 := hI 0 67
        refine x_shl1E (M := 7) (t := 128) hx hb (dk_at dkX12_placesOf_1 9 rfl) (by omega) (by decide) (by decide) (fun z25 gz25 hz25 => ?_)
        refine lv_ior hx hb (dk_at dkX12_placesOf_1 10 rfl) ?_
        refine x_absE (fun z26 gz26 hz26 => ?_)
        refine lv_istore_n (lv' := [(2, .int (iI z26)), (3, .int (iI z9)), (0, .ref (q 0)), (1, .int (iI x1))]) hx hb (dk_at dkX12_placesOf_1 11 rfl) rfl hl (by decide) rfl (fun ls hl => ?_)
        refine lv_iinc (v := iI (z9 + 1)) (lv' := [(3, .int (iI (z9 + 1))), (2, .int (iI z26)), (0, .ref (q 0)), (1, .int (iI x1))]) hx hb (dk_at dkX12_placesOf_1 12 rfl) hl (k := 1) rfl (i_inc (by omega)) (by decide) rfl (fun ls hl => ?_)
        refine lv_goto (tgt := 15) hx hb (dk_at dkX12_placesOf_1 13 rfl) (by decide) ?_
        exact ih14 _ (by omega) (z9 + 1) z26 _ _ _ _ (by omega) (by omega) (by omega) (fun zq uq ⟨mm1, hq⟩ => hk1 _ _ ⟨mm1 + 1, (u_d_X12_placesOf_1 ⟨gI19.out, ⟨f17, ⟨f18, (Or.inr ⟨c20, ⟨z21, gz21.out, ⟨A22, ghw23, ⟨z25, gz25.out, ⟨z26, gz26.out, hq⟩⟩⟩⟩⟩)⟩⟩⟩)⟩) rfl hI (fr.trans (fr.trans (fr.rf) hj11 rfl rfl) hf24 rfl rfl) hP hS (lv_sub hl [0, 1, 2, 3] rfl)
  exact L15_13 _ 0 0 _ _ _ _ (by omega) (by omega) (by omega) (fun zq uq ⟨mm1, hq⟩ => (u_r_X12_placesOf ⟨z1, ghw3, ⟨A4, ghw5, ⟨mm1, hq⟩⟩⟩)) rfl hI (fr.rf) hP hS (lv_sub hl [0, 1, 2, 3] rfl)

abbrev tr_r_X12_person_ (x1 : Int) (x2 : Int) (A : St) (z : Int) (u : St) : Prop := (∃ z1 : Int, q_X12_isPerson x1 A z1 ∧ (((¬ z1 = 0) ∧ (((x2 < 0 ∨ 3 < x2) ∧ (z = (-1) ∧ u = A)) ∨ (x2 = 0 ∧ (∃ z6 : Int, q_X12_placeOf x1 A z6 ∧ (z = z6 ∧ u = A))) ∨ (x2 = 1 ∧ (∃ z9 : Int, q_X12_keysOf x1 A z9 ∧ (z = z9 ∧ u = A))) ∨ (x2 = 2 ∧ (∃ z12 : Int, ∃ A13 : St, q_X12_placesOf x1 A z12 A13 ∧ (∃ z18 : Int, q_X12_bitsOf z12 A13 z18 ∧ (z = z18 ∧ u = A13)))) ∨ (x2 = 3 ∧ (∃ z21 : Int, ∃ A22 : St, q_X12_placesOf x1 A z21 A22 ∧ (z = z21 ∧ u = A22))))) ∨ ((z1 = 0) ∧ (z = (-1) ∧ u = A))))
def r_X12_person_ (x1 : Int) (x2 : Int) (A : St) (z : Int) (u : St) : Prop := tr_r_X12_person_ x1 x2 A z u
theorem u_r_X12_person_ {x1 : Int} {x2 : Int} {A : St} {z : Int} {u : St} (h : tr_r_X12_person_ x1 x2 A z u) : r_X12_person_ x1 x2 A z u := h
def ws_mb_X12_person_ : List Cond := .code yX12_person_ cX12_person_ 3 (some .int) :: WX
set_option maxHeartbeats 4000000 in
set_option maxRecDepth 100000 in
theorem mb_X12_person_ (l : Launch) (dC : Nat → ClassId) (dI : Nat → Nat → Nat) (cB cI cJ cZ cQ : ClassId) (q : Nat → Nat) (A : St) (x1 x2 : Int) (hI : IM A) (hx1 : (-2147483648 : Int) ≤ x1 ∧ x1 ≤ 2147483647) (hx2 : (-2147483648 : Int) ≤ x2 ∧ x2 ≤ 2147483647) (hcCI : CI A) (hcWI : WI A) : XMi l yX12_person_ ws_mb_X12_person_ ({ frames := 7, cells := 0, slots := 0, locals := 171 } : Room) (dC, dI) (tyA cB cI cJ cZ cQ) (WM cI cJ cZ q) A [.ref (q 0), .int (iI x1), .int (iI x2)] (fun z u => r_X12_person_ x1 x2 A z u ∧ IM u ∧ fr [42, 43, 47, 48, 49, 50] [66, 67, 69, 70, 71, 73] A u ∧ CI u ∧ WI u ∧ (-2147483648 ≤ z ∧ z ≤ 2147483647)) := by
  refine x_meti (cc := cX12_person_) (maxL := 3) WM_adr (by decide +kernel) rfl (Nat.le_of_ble_eq_true rfl) (fun p e s m below meth c Q AS ls hx hb hml hown hts hK hDD hA0 hP hS hl RET => ?_)
  have hown : s.vm.findClass RX12 = some m.cls := hown
  have hl : lv_has ls 3 [(0, .ref (q 0)), (1, .int (iI x1)), (2, .int (iI x2))] := hl
  obtain ⟨H, hHe⟩ : ∃ H : Heap, H = s.heap := ⟨_, rfl⟩
  rw [← hHe] at hP
  have hS : va_S AS s.heap H [] := by rw [hHe]; exact hS
  suffices hgo : ∀ locs : List Loc, va_S AS s.heap H locs → W p l e (headSpec ws_mb_X12_person_ ({ frames := 7, cells := 0, slots := 0, locals := 171 } : Room)).room s m [.ref (q 0), .int (iI x1), .int (iI x2)].toArray below meth c H locs 0 0 Q (F0 m 0 ls []) by
    have := hgo [] hS
    rw [hHe] at this
    exact this
  clear hS hHe
  intro locs hS
  refine lv_aload_n hx hb (dk_at dkX12_person__0 0 rfl) rfl (lv_at hl 0 rfl) ?_
  refine lv_iload_n hx hb (dk_at dkX12_person__0 1 rfl) rfl (lv_at hl 1 rfl) ?_
  have r_A_0_12 : (0 : Int) ≤ (A 0 12) ∧ (A 0 12) ≤ 1 := hI 0 12
  refine x_calli (As := [.int (iI x1)]) (rest := []) ⟨hx, hb, hml, hown, hts⟩ (mc_X12_isPersonB l dC dI cB cI cJ cZ cQ q _ x1 hI hx1) (cwV 1 hts (goodV wlq_5_55 wlq_5_56 wlq_5_57 wlq_0_8 wlq_4_40) rfl rfl rfl (by decide +kernel) ⟨Nat.le_of_ble_eq_true rfl, Nat.le_of_ble_eq_true rfl⟩) hK hDD hA0 hP hS 0 12 wm0 rfl rfl hl.1 (Nat.le_of_ble_eq_true rfl) (dk_at dkX12_person__0 2 rfl) (fun z1 A2 H locs hw3 hP hS => ?_)
  obtain ⟨rfl, hw3⟩ := hw3
  have ghw3 : q_X12_isPerson x1 A z1 := hw3
  have hw3 := hw3.2
  have rz1 : 0 ≤ z1 ∧ z1 ≤ 1 := hw3.1
  refine lv_if_ne (tgt := 10) hx hb (dk_at dkX12_person__0 3 rfl) (by decide) (fun c4 => ?_) (fun c4 => ?_)
  · have c4 : ¬ z1 = 0 := mt (i_eq0 (rb rz1 (by decide) (by decide))).mpr c4
    have hw3b := hw3.2.mp (by omega)
    clear hw3
    refine lv_iload_n hx hb (dk_at dkX12_person__0 6 rfl) rfl (lv_at hl 2 rfl) ?_
    rcases (show (x2 < 0 ∨ 3 < x2) ∨ x2 = 0 ∨ x2 = 1 ∨ x2 = 2 ∨ x2 = 3 by omega) with c5 | c5 | c5 | c5 | c5
    · refine lv_tableOut (tgt := 67) hx hb (dk_at dkX12_person__0 7 rfl) (by rw [iI_toInt hx2]; exact c5) (by decide) ?_
      refine lv_iconst (v := iI (-1)) hx hb (dk_at dkX12_person__1 9 rfl) (by decide +kernel) ?_
      exact RET (-1) _ _ _ _ _ ⟨(u_r_X12_person_ ⟨z1, ghw3, (Or.inl ⟨c4, (Or.inl ⟨c5, ⟨rfl, rfl⟩⟩)⟩)⟩), hI, fr.rf, hcCI, hcWI, by omega⟩ hP hS (dk_at dkX12_person__1 10 rfl)
    · refine tp_i (y := iI 0) (congrArg iI c5) ?_
      refine lv_tableIn (off := 29) (tgt := 40) hx hb (dk_at dkX12_person__0 7 rfl) (by decide +kernel) (by decide +kernel) (by decide +kernel) (by decide) ?_
      refine lv_aload_n hx hb (dk_at dkX12_person__0 8 rfl) rfl (lv_at hl 0 rfl) ?_
      refine lv_iload_n hx hb (dk_at dkX12_person__0 9 rfl) rfl (lv_at hl 1 rfl) ?_
      refine x_calli (As := [.int (iI x1)]) (rest := []) ⟨hx, hb, hml, hown, hts⟩ (mc_X12_placeOf l dC dI cB cI cJ cZ cQ q _ x1 hI (by omega)) (cwV 1 hts (goodV wlq_5_35 wlq_5_36 wlq_5_37 wlq_0_8 wlq_5_25) rfl rfl rfl (by decide +kernel) ⟨Nat.le_of_ble_eq_true rfl, Nat.le_of_ble_eq_true rfl⟩) hK hDD hA0 hP hS 0 12 wm0 rfl rfl hl.1 (Nat.le_of_ble_eq_true rfl) (dk_at dkX12_person__0 10 rfl) (fun z6 A7 H locs hw8 hP hS => ?_)
      obtain ⟨rfl, hw8⟩ := hw8
      have ghw8 : q_X12_placeOf x1 A z6 := hw8
      have hw8 := hw8.2
      exact RET z6 _ _ _ _ _ ⟨(u_r_X12_person_ ⟨z1, ghw3, (Or.inl ⟨c4, (Or.inr (Or.inl ⟨c5, ⟨z6, ghw8, ⟨rfl, rfl⟩⟩⟩))⟩)⟩), hI, fr.rf, hcCI, hcWI, by omega⟩ hP hS (dk_at dkX12_person__0 11 rfl)
    · refine tp_i (y := iI 1) (congrArg iI c5) ?_
      refine lv_tableIn (off := 35) (tgt := 46) hx hb (dk_at dkX12_person__0 7 rfl) (by decide +kernel) (by decide +kernel) (by decide +kernel) (by decide) ?_
      refine lv_aload_n hx hb (dk_at dkX12_person__0 12 rfl) rfl (lv_at hl 0 rfl) ?_
      refine lv_iload_n hx hb (dk_at dkX12_person__0 13 rfl) rfl (lv_at hl 1 rfl) ?_
      refine x_calli (As := [.int (iI x1)]) (rest := []) ⟨hx, hb, hml, hown, hts⟩ (mc_X12_keysOf l dC dI cB cI cJ cZ cQ q _ x1 hI hx1) (cwV 1 hts (goodV wlq_5_41 wlq_5_42 wlq_5_43 wlq_0_8 wlq_5_26) rfl rfl rfl (by decide +kernel) ⟨Nat.le_of_ble_eq_true rfl, Nat.le_of_ble_eq_true rfl⟩) hK hDD hA0 hP hS 0 12 wm0 rfl rfl hl.1 (Nat.le_of_ble_eq_true rfl) (dk_at dkX12_person__0 14 rfl) (fun z9 A10 H locs hw11 hP hS => ?_)
      obtain ⟨rfl, hw11⟩ := hw11
      have ghw11 : q_X12_keysOf x1 A z9 := hw11
      have hw11 := hw11.2
      exact RET z9 _ _ _ _ _ ⟨(u_r_X12_person_ ⟨z1, ghw3, (Or.inl ⟨c4, (Or.inr (Or.inr (Or.inl ⟨c5, ⟨z9, ghw11, ⟨rfl, rfl⟩⟩⟩)))⟩)⟩), hI, fr.rf, hcCI, hcWI, by omega⟩ hP hS (dk_at dkX12_person__0 15 rfl)
    · refine tp_i (y := iI 2) (congrArg iI c5) ?_
      refine lv_tableIn (off := 41) (tgt := 52) hx hb (dk_at dkX12_person__0 7 rfl) (by decide +kernel) (by decide +kernel) (by decide +kernel) (by decide) ?_
      refine lv_aload_n hx hb (dk_at dkX12_person__1 0 rfl) rfl (lv_at hl 0 rfl) ?_
      refine lv_iload_n hx hb (dk_at dkX12_person__1 1 rfl) rfl (lv_at hl 1 rfl) ?_
      refine x_calli (As := [.int (iI x1)]) (rest := []) ⟨hx, hb, hml, hown, hts⟩ (mb_X12_placesOf l dC dI cB cI cJ cZ cQ q _ x1 hI (by omega) hcCI hcWI) (cwV 1 hts (goodV wlq_7_23 wlq_7_24 wlq_7_25 wlq_0_8 wlq_7_18) rfl rfl rfl (by decide +kernel) ⟨Nat.le_of_ble_eq_true rfl, Nat.le_of_ble_eq_true rfl⟩) hK hDD hA0 hP hS 0 12 wm0 rfl rfl hl.1 (Nat.le_of_ble_eq_true rfl) (dk_at dkX12_person__1 2 rfl) (fun z12 A13 H locs hw14 hP hS => ?_)
      have ghw14 : q_X12_placesOf x1 A z12 A13 := hw14
      obtain ⟨_, hI, hf15, hw14⟩ := hw14
      obtain ⟨hc16, hw14⟩ := hw14
      obtain ⟨hc17, hw14⟩ := hw14
      refine x_callSi (As := [.int (iI z12)]) (rest := []) ⟨hx, hb, hml, hown, hts⟩ (mc_X12_bitsOf l dC dI cB cI cJ cZ cQ q _ z12 hI hw14) (va_cwS 1 hts (goodS wlq_5_44 wlq_5_45 wlq_0_8 wlq_5_27) rfl rfl rfl (by decide +kernel) ⟨Nat.le_of_ble_eq_true rfl, Nat.le_of_ble_eq_true rfl⟩) hK hDD hA0 hP hS rfl hl.1 (Nat.le_of_ble_eq_true rfl) (dk_at dkX12_person__1 3 rfl) (fun z18 A19 H locs hw20 hP hS => ?_)
      obtain ⟨rfl, hw20⟩ := hw20
      have ghw20 : q_X12_bitsOf z12 A13 z18 := hw20
      have hw20 := hw20.2
      exact RET z18 _ _ _ _ _ ⟨(u_r_X12_person_ ⟨z1, ghw3, (Or.inl ⟨c4, (Or.inr (Or.inr (Or.inr (Or.inl ⟨c5, ⟨z12, A13, ghw14, ⟨z18, ghw20, ⟨rfl, rfl⟩⟩⟩⟩))))⟩)⟩), hI, fr.trans (fr.rf) hf15 rfl rfl, hc16, hc17, by omega⟩ hP hS (dk_at dkX12_person__1 4 rfl)
    · refine tp_i (y := iI 3) (congrArg iI c5) ?_
      refine lv_tableIn (off := 50) (tgt := 61) hx hb (dk_at dkX12_person__0 7 rfl) (by decide +kernel) (by decide +kernel) (by decide +kernel) (by decide) ?_
      refine lv_aload_n hx hb (dk_at dkX12_person__1 5 rfl) rfl (lv_at hl 0 rfl) ?_
      refine lv_iload_n hx hb (dk_at dkX12_person__1 6 rfl) rfl (lv_at hl 1 rfl) ?_
      refine x_calli (As := [.int (iI x1)]) (rest := []) ⟨hx, hb, hml, hown, hts⟩ (mb_X12_placesOf l dC dI cB cI cJ cZ cQ q _ x1 hI (by omega) hcCI hcWI) (cwV 1 hts (goodV wlq_7_23 wlq_7_24 wlq_7_25 wlq_0_8 wlq_7_18) rfl rfl rfl (by decide +kernel) ⟨Nat.le_of_ble_eq_true rfl, Nat.le_of_ble_eq_true rfl⟩) hK hDD hA0 hP hS 0 12 wm0 rfl rfl hl.1 (Nat.le_of_ble_eq_true rfl) (dk_at dkX12_person__1 7 rfl) (fun z21 A22 H locs hw23 hP hS => ?_)
      have ghw23 : q_X12_placesOf x1 A z21 A22 := hw23
      obtain ⟨_, hI, hf24, hw23⟩ := hw23
      obtain ⟨hc25, hw23⟩ := hw23
      obtain ⟨hc26, hw23⟩ := hw23
      exact RET z21 _ _ _ _ _ ⟨(u_r_X12_person_ ⟨z1, ghw3, (Or.inl ⟨c4, (Or.inr (Or.inr (Or.inr (Or.inr ⟨c5, ⟨z21, A22, ghw23, ⟨rfl, rfl⟩⟩⟩))))⟩)⟩), hI, fr.trans (fr.rf) hf24 rfl rfl, hc25, hc26, by omega⟩ hP hS (dk_at dkX12_person__1 8 rfl)
  · have c4 : z1 = 0 := (i_eq0 (rb rz1 (by decide) (by decide))).mp c4
    clear hw3
    refine lv_iconst (v := iI (-1)) hx hb (dk_at dkX12_person__0 4 rfl) (by decide +kernel) ?_
    exact RET (-1) _ _ _ _ _ ⟨(u_r_X12_person_ ⟨z1, ghw3, (Or.inr ⟨c4, ⟨rfl, rfl⟩⟩)⟩), hI, fr.rf, hcCI, hcWI, by omega⟩ hP hS (dk_at dkX12_person__0 5 rfl)

abbrev tr_r_X12_reach (x1 : Int) (x2 : Int) (A : St) (z : Int) (u : St) : Prop := (∃ z1 : Int, q_X12_isPerson x1 A z1 ∧ (((z1 = 0) ∧ (z = (-1) ∧ u = A)) ∨ ((¬ z1 = 0) ∧ (∃ z5 : Int, q_X12_isPlace x2 A z5 ∧ (((¬ z5 = 0) ∧ (∃ z9 : Int, q_X12_keysOf x1 A z9 ∧ (∃ A12 : St, q_X12_searches x1 z9 0 A A12 ∧ (∃ z17 : Int, ∃ A18 : St, q_X12_actsTo x2 A12 z17 A18 ∧ (z = z17 ∧ u = A18))))) ∨ ((z5 = 0) ∧ (z = (-1) ∧ u = A)))))))
def r_X12_reach (x1 : Int) (x2 : Int) (A : St) (z : Int) (u : St) : Prop := tr_r_X12_reach x1 x2 A z u
theorem u_r_X12_reach {x1 : Int} {x2 : Int} {A : St} {z : Int} {u : St} (h : tr_r_X12_reach x1 x2 A z u) : r_X12_reach x1 x2 A z u := h
def ws_mb_X12_reach : List Cond := .code yX12_reach cX12_reach 3 (some .int) :: WX
set_option maxHeartbeats 4000000 in
set_option maxRecDepth 100000 in
theorem mb_X12_reach (l : Launch) (dC : Nat → ClassId) (dI : Nat → Nat → Nat) (cB cI cJ cZ cQ : ClassId) (q : Nat → Nat) (A : St) (x1 x2 : Int) (hI : IM A) (hx1 : (-2147483648 : Int) ≤ x1 ∧ x1 ≤ 2147483647) (hx2 : (-2147483648 : Int) ≤ x2 ∧ x2 ≤ 2147483647) (hcCI : CI A) (hcWI : WI A) : XMi l yX12_reach ws_mb_X12_reach ({ frames := 6, cells := 0, slots := 0, locals := 148 } : Room) (dC, dI) (tyA cB cI cJ cZ cQ) (WM cI cJ cZ q) A [.ref (q 0), .int (iI x1), .int (iI x2)] (fun z u => r_X12_reach x1 x2 A z u ∧ IM u ∧ fr [42, 43, 47, 48, 49, 50] [66, 67, 69, 70, 71, 73] A u ∧ CI u ∧ WI u ∧ (-2147483648 ≤ z ∧ z ≤ 2147483647)) := by
  refine x_meti (cc := cX12_reach) (maxL := 3) WM_adr (by decide +kernel) rfl (Nat.le_of_ble_eq_true rfl) (fun p e s m below meth c Q AS ls hx hb hml hown hts hK hDD hA0 hP hS hl RET => ?_)
  have hown : s.vm.findClass RX12 = some m.cls := hown
  have hl : lv_has ls 3 [(0, .ref (q 0)), (1, .int (iI x1)), (2, .int (iI x2))] := hl
  obtain ⟨H, hHe⟩ : ∃ H : Heap, H = s.heap := ⟨_, rfl⟩
  rw [← hHe] at hP
  have hS : va_S AS s.heap H [] := by rw [hHe]; exact hS
  suffices hgo : ∀ locs : List Loc, va_S AS s.heap H locs → W p l e (headSpec ws_mb_X12_reach ({ frames := 6, cells := 0, slots := 0, locals := 148 } : Room)).room s m [.ref (q 0), .int (iI x1), .int (iI x2)].toArray below meth c H locs 0 0 Q (F0 m 0 ls []) by
    have := hgo [] hS
    rw [hHe] at this
    exact this
  clear hS hHe
  intro locs hS
  refine lv_aload_n hx hb (dk_at dkX12_reach_0 0 rfl) rfl (lv_at hl 0 rfl) ?_
  refine lv_iload_n hx hb (dk_at dkX12_reach_0 1 rfl) rfl (lv_at hl 1 rfl) ?_
  have r_A_0_12 : (0 : Int) ≤ (A 0 12) ∧ (A 0 12) ≤ 1 := hI 0 12
  refine x_calli (As := [.int (iI x1)]) (rest := []) ⟨hx, hb, hml, hown, hts⟩ (mc_X12_isPersonB l dC dI cB cI cJ cZ cQ q _ x1 hI hx1) (cwV 1 hts (goodV wlq_5_55 wlq_5_56 wlq_5_57 wlq_0_8 wlq_4_40) rfl rfl rfl (by decide +kernel) ⟨Nat.le_of_ble_eq_true rfl, Nat.le_of_ble_eq_true rfl⟩) hK hDD hA0 hP hS 0 12 wm0 rfl rfl hl.1 (Nat.le_of_ble_eq_true rfl) (dk_at dkX12_reach_0 2 rfl) (fun z1 A2 H locs hw3 hP hS => ?_)
  obtain ⟨rfl, hw3⟩ := hw3
  have ghw3 : q_X12_isPerson x1 A z1 := hw3
  have hw3 := hw3.2
  have rz1 : 0 ≤ z1 ∧ z1 ≤ 1 := hw3.1
  refine lv_if_eq (tgt := 16) hx hb (dk_at dkX12_reach_0 3 rfl) (by decide) (fun c4 => ?_) (fun c4 => ?_)
  · have c4 : z1 = 0 := (i_eq0 (rb rz1 (by decide) (by decide))).mp c4
    clear hw3
    refine lv_iconst (v := iI (-1)) hx hb (dk_at dkX12_reach_0 8 rfl) (by decide +kernel) ?_
    exact RET (-1) _ _ _ _ _ ⟨(u_r_X12_reach ⟨z1, ghw3, (Or.inl ⟨c4, ⟨rfl, rfl⟩⟩)⟩), hI, fr.rf, hcCI, hcWI, by omega⟩ hP hS (dk_at dkX12_reach_0 9 rfl)
  · have c4 : ¬ z1 = 0 := mt (i_eq0 (rb rz1 (by decide) (by decide))).mpr c4
    have hw3b := hw3.2.mp (by omega)
    clear hw3
    refine lv_aload_n hx hb (dk_at dkX12_reach_0 4 rfl) rfl (lv_at hl 0 rfl) ?_
    refine lv_iload_n hx hb (dk_at dkX12_reach_0 5 rfl) rfl (lv_at hl 2 rfl) ?_
    refine x_calli (As := [.int (iI x2)]) (rest := []) ⟨hx, hb, hml, hown, hts⟩ (mc_X12_isPlaceB l dC dI cB cI cJ cZ cQ q _ x2 hI hx2) (cwV 1 hts (goodV wlq_7_27 wlq_7_28 wlq_7_29 wlq_0_8 wlq_4_37) rfl rfl rfl (by decide +kernel) ⟨Nat.le_of_ble_eq_true rfl, Nat.le_of_ble_eq_true rfl⟩) hK hDD hA0 hP hS 0 12 wm0 rfl rfl hl.1 (Nat.le_of_ble_eq_true rfl) (dk_at dkX12_reach_0 6 rfl) (fun z5 A6 H locs hw7 hP hS => ?_)
    obtain ⟨rfl, hw7⟩ := hw7
    have ghw7 : q_X12_isPlace x2 A z5 := hw7
    have hw7 := hw7.2
    have rz5 : 0 ≤ z5 ∧ z5 ≤ 1 := hw7.1
    refine lv_if_ne (tgt := 18) hx hb (dk_at dkX12_reach_0 7 rfl) (by decide) (fun c8 => ?_) (fun c8 => ?_)
    · have c8 : ¬ z5 = 0 := mt (i_eq0 (rb rz5 (by decide) (by decide))).mpr c8
      have hw7b := hw7.2.mp (by omega)
      clear hw7
      refine lv_aload_n hx hb (dk_at dkX12_reach_0 10 rfl) rfl (lv_at hl 0 rfl) ?_
      refine lv_iload_n hx hb (dk_at dkX12_reach_0 11 rfl) rfl (lv_at hl 1 rfl) ?_
      refine lv_aload_n hx hb (dk_at dkX12_reach_0 12 rfl) rfl (lv_at hl 0 rfl) ?_
      refine lv_iload_n hx hb (dk_at dkX12_reach_0 13 rfl) rfl (lv_at hl 1 rfl) ?_
      refine x_calli (As := [.int (iI x1)]) (rest := [.int (iI x1), .ref (q 0)]) ⟨hx, hb, hml, hown, hts⟩ (mc_X12_keysOf l dC dI cB cI cJ cZ cQ q _ x1 hI hx1) (cwV 1 hts (goodV wlq_5_41 wlq_5_42 wlq_5_43 wlq_0_8 wlq_5_26) rfl rfl rfl (by decide +kernel) ⟨Nat.le_of_ble_eq_true rfl, Nat.le_of_ble_eq_true rfl⟩) hK hDD hA0 hP hS 0 12 wm0 rfl rfl hl.1 (Nat.le_of_ble_eq_true rfl) (dk_at dkX12_reach_0 14 rfl) (fun z9 A10 H locs hw11 hP hS => ?_)
      obtain ⟨rfl, hw11⟩ := hw11
      have ghw11 : q_X12_keysOf x1 A z9 := hw11
      have hw11 := hw11.2
      refine lv_iconst (v := iI 0) hx hb (dk_at dkX12_reach_0 15 rfl) (by decide +kernel) ?_
      refine x_callv (As := [.int (iI x1), .int (iI z9), .int (iI 0)]) (rest := []) ⟨hx, hb, hml, hown, hts⟩ (mb_X12_searches l dC dI cB cI cJ cZ cQ q _ x1 z9 0 hI (by omega) hw11 ⟨by decide, by decide⟩ hcCI hcWI) (cwV 3 hts (goodV wlq_7_19 wlq_7_20 wlq_7_21 wlq_0_8 wlq_7_0) rfl rfl rfl (by decide +kernel) ⟨Nat.le_of_ble_eq_true rfl, Nat.le_of_ble_eq_true rfl⟩) hK hDD hA0 hP hS 0 12 wm0 rfl rfl hl.1 (Nat.le_of_ble_eq_true rfl) (dk_at dkX12_reach_1 0 rfl) (fun A12 H locs hw13 hP hS => ?_)
      have ghw13 : q_X12_searches x1 z9 0 A A12 := hw13
      obtain ⟨_, hI, hf14, hw13⟩ := hw13
      obtain ⟨hc15, hw13⟩ := hw13
      obtain ⟨hc16, hw13⟩ := hw13
      refine lv_aload_n hx hb (dk_at dkX12_reach_1 1 rfl) rfl (lv_at hl 0 rfl) ?_
      refine lv_iload_n hx hb (dk_at dkX12_reach_1 2 rfl) rfl (lv_at hl 2 rfl) ?_
      refine x_calli (As := [.int (iI x2)]) (rest := []) ⟨hx, hb, hml, hown, hts⟩ (mc_X12_actsTo l dC dI cB cI cJ cZ cQ q _ x2 hI hx2) (cwV 1 hts (goodV wlq_7_30 wlq_7_31 wlq_7_32 wlq_0_8 wlq_7_17) rfl rfl rfl (by decide +kernel) ⟨Nat.le_of_ble_eq_true rfl, Nat.le_of_ble_eq_true rfl⟩) hK hDD hA0 hP hS 0 12 wm0 rfl rfl hl.1 (Nat.le_of_ble_eq_true rfl) (dk_at dkX12_reach_1 3 rfl) (fun z17 A18 H locs hw19 hP hS => ?_)
      have ghw19 : q_X12_actsTo x2 A12 z17 A18 := hw19
      obtain ⟨_, hI, hf20, hw19⟩ := hw19
      exact RET z17 _ _ _ _ _ ⟨(u_r_X12_reach ⟨z1, ghw3, (Or.inr ⟨c4, ⟨z5, ghw7, (Or.inl ⟨c8, ⟨z9, ghw11, ⟨A12, ghw13, ⟨z17, A18, ghw19, ⟨rfl, rfl⟩⟩⟩⟩⟩)⟩⟩)⟩), hI, fr.trans (fr.trans (fr.rf) hf14 rfl rfl) hf20 rfl rfl, (CI.fr hc15 hf20 rfl rfl), (WI.fr hc16 hf20 rfl rfl), by omega⟩ hP hS (dk_at dkX12_reach_1 4 rfl)
    · have c8 : z5 = 0 := (i_eq0 (rb rz5 (by decide) (by decide))).mp c8
      clear hw7
      refine lv_iconst (v := iI (-1)) hx hb (dk_at dkX12_reach_0 8 rfl) (by decide +kernel) ?_
      exact RET (-1) _ _ _ _ _ ⟨(u_r_X12_reach ⟨z1, ghw3, (Or.inr ⟨c4, ⟨z5, ghw7, (Or.inr ⟨c8, ⟨rfl, rfl⟩⟩)⟩⟩)⟩), hI, fr.rf, hcCI, hcWI, by omega⟩ hP hS (dk_at dkX12_reach_0 9 rfl)

abbrev tr_d_X12_opens__1 (x2 : Int) (A12 : St) (z : Int) (u : St) (K1 : Int → St → Prop) (z17 : Int) (A19 : St) : Prop := ((IM A19) ∧ ((0 ≤ z17 ∧ z17 ≤ 2147483647) ∧ ((((A12 0 66) ≤ z17) ∧ (z = (-1) ∧ u = A19)) ∨ ((¬ (A12 0 66) ≤ z17) ∧ (∃ z27 : Int, z27 = A19 48 (z17).toNat ∧ (∃ A28 : St, q_X12_takes z27 A19 A28 ∧ (∃ z31 : Int, q_X12_isClosed x2 A28 z31 ∧ (((¬ z31 = 0) ∧ (K1 (z17 + 1) A28)) ∨ ((z31 = 0) ∧ (∃ z35 : Int, z35 = A28 48 (z17).toNat ∧ (∃ z36 : Int, z36 = A28 47 (z35).toNat ∧ (z = z36 ∧ u = A28))))))))))))
def d_X12_opens__1 (x2 : Int) (A12 : St) (z : Int) (u : St) : Nat → Int → St → Prop
  | 0, _, _ => False
  | nn9 + 1, z17, A19 => tr_d_X12_opens__1 x2 A12 z u (fun z17 A19 => d_X12_opens__1 x2 A12 z u nn9 z17 A19) z17 A19
theorem u_d_X12_opens__1 {x2 : Int} {A12 : St} {z : Int} {u : St} {nn9 : Nat} {z17 : Int} {A19 : St} (h : tr_d_X12_opens__1 x2 A12 z u (fun z17 A19 => d_X12_opens__1 x2 A12 z u nn9 z17 A19) z17 A19) : d_X12_opens__1 x2 A12 z u (nn9 + 1) z17 A19 := h
abbrev tr_r_X12_opens_ (x1 : Int) (x2 : Int) (A : St) (z : Int) (u : St) : Prop := (∃ z1 : Int, q_X12_isPerson x1 A z1 ∧ (((z1 = 0) ∧ (z = (-1) ∧ u = A)) ∨ ((¬ z1 = 0) ∧ (∃ z5 : Int, q_X12_isDoor x2 A z5 ∧ (((¬ z5 = 0) ∧ (∃ z9 : Int, q_X12_keysOf x1 A z9 ∧ (∃ A12 : St, q_X12_searches x1 z9 0 A A12 ∧ (∃ nn9 : Nat, d_X12_opens__1 x2 A12 z u nn9 0 A12)))) ∨ ((z5 = 0) ∧ (z = (-1) ∧ u = A)))))))
def r_X12_opens_ (x1 : Int) (x2 : Int) (A : St) (z : Int) (u : St) : Prop := tr_r_X12_opens_ x1 x2 A z u
theorem u_r_X12_opens_ {x1 : Int} {x2 : Int} {A : St} {z : Int} {u : St} (h : tr_r_X12_opens_ x1 x2 A z u) : r_X12_opens_ x1 x2 A z u := h
def ws_mb_X12_opens_ : List Cond := .code yX12_opens_ cX12_opens_ 4 (some .int) :: WX
set_option maxHeartbeats 4000000 in
set_option maxRecDepth 100000 in
theorem mb_X12_opens_ (l : Launch) (dC : Nat → ClassId) (dI : Nat → Nat → Nat) (cB cI cJ cZ cQ : ClassId) (q : Nat → Nat) (A : St) (x1 x2 : Int) (hI : IM A) (hx1 : (-2147483648 : Int) ≤ x1 ∧ x1 ≤ 2147483647) (hx2 : (-2147483648 : Int) ≤ x2 ∧ x2 ≤ 2147483647) (hcCI : CI A) (hcWI : WI A) : XMi l yX12_opens_ ws_mb_X12_opens_ ({ frames := 6, cells := 0, slots := 0, locals := 148 } : Room) (dC, dI) (tyA cB cI cJ cZ cQ) (WM cI cJ cZ q) A [.ref (q 0), .int (iI x1), .int (iI x2)] (fun z u => r_X12_opens_ x1 x2 A z u ∧ IM u ∧ fr [42, 43, 47, 48, 49, 50] [66, 67, 69, 70, 71, 73] A u ∧ CI u ∧ WI u ∧ (-2147483648 ≤ z ∧ z ≤ 2147483647)) := by
  refine x_meti (cc := cX12_opens_) (maxL := 4) WM_adr (by decide +kernel) rfl (Nat.le_of_ble_eq_true rfl) (fun p e s m below meth c Q AS ls hx hb hml hown hts hK hDD hA0 hP hS hl RET => ?_)
  have hown : s.vm.findClass RX12 = some m.cls := hown
  have hl : lv_has ls 4 [(0, .ref (q 0)), (1, .int (iI x1)), (2, .int (iI x2))] := hl
  have hiX12 : ∀ w ∈ u_ws RX12 TX12 85, w ∈ ws_mb_X12_opens_ := fun w h => List.mem_cons_of_mem _ (wx_lay w h)
  obtain ⟨H, hHe⟩ : ∃ H : Heap, H = s.heap := ⟨_, rfl⟩
  rw [← hHe] at hP
  have hS : va_S AS s.heap H [] := by rw [hHe]; exact hS
  suffices hgo : ∀ locs : List Loc, va_S AS s.heap H locs → W p l e (headSpec ws_mb_X12_opens_ ({ frames := 6, cells := 0, slots := 0, locals := 148 } : Room)).room s m [.ref (q 0), .int (iI x1), .int (iI x2)].toArray below meth c H locs 0 0 Q (F0 m 0 ls []) by
    have := hgo [] hS
    rw [hHe] at this
    exact this
  clear hS hHe
  intro locs hS
  refine lv_aload_n hx hb (dk_at dkX12_opens__0 0 rfl) rfl (lv_at hl 0 rfl) ?_
  refine lv_iload_n hx hb (dk_at dkX12_opens__0 1 rfl) rfl (lv_at hl 1 rfl) ?_
  have r_A_0_12 : (0 : Int) ≤ (A 0 12) ∧ (A 0 12) ≤ 1 := hI 0 12
  refine x_calli (As := [.int (iI x1)]) (rest := []) ⟨hx, hb, hml, hown, hts⟩ (mc_X12_isPersonB l dC dI cB cI cJ cZ cQ q _ x1 hI hx1) (cwV 1 hts (goodV wlq_5_55 wlq_5_56 wlq_5_57 wlq_0_8 wlq_4_40) rfl rfl rfl (by decide +kernel) ⟨Nat.le_of_ble_eq_true rfl, Nat.le_of_ble_eq_true rfl⟩) hK hDD hA0 hP hS 0 12 wm0 rfl rfl hl.1 (Nat.le_of_ble_eq_true rfl) (dk_at dkX12_opens__0 2 rfl) (fun z1 A2 H locs hw3 hP hS => ?_)
  obtain ⟨rfl, hw3⟩ := hw3
  have ghw3 : q_X12_isPerson x1 A z1 := hw3
  have hw3 := hw3.2
  have rz1 : 0 ≤ z1 ∧ z1 ≤ 1 := hw3.1
  refine lv_if_eq (tgt := 16) hx hb (dk_at dkX12_opens__0 3 rfl) (by decide) (fun c4 => ?_) (fun c4 => ?_)
  · have c4 : z1 = 0 := (i_eq0 (rb rz1 (by decide) (by decide))).mp c4
    clear hw3
    refine lv_iconst (v := iI (-1)) hx hb (dk_at dkX12_opens__0 8 rfl) (by decide +kernel) ?_
    exact RET (-1) _ _ _ _ _ ⟨(u_r_X12_opens_ ⟨z1, ghw3, (Or.inl ⟨c4, ⟨rfl, rfl⟩⟩)⟩), hI, fr.rf, hcCI, hcWI, by omega⟩ hP hS (dk_at dkX12_opens__0 9 rfl)
  · have c4 : ¬ z1 = 0 := mt (i_eq0 (rb rz1 (by decide) (by decide))).mpr c4
    have hw3b := hw3.2.mp (by omega)
    clear hw3
    refine lv_aload_n hx hb (dk_at dkX12_opens__0 4 rfl) rfl (lv_at hl 0 rfl) ?_
    refine lv_iload_n hx hb (dk_at dkX12_opens__0 5 rfl) rfl (lv_at hl 2 rfl) ?_
    refine x_calli (As := [.int (iI x2)]) (rest := []) ⟨hx, hb, hml, hown, hts⟩ (mc_X12_isDoorB l dC dI cB cI cJ cZ cQ q _ x2 hI hx2) (cwV 1 hts (goodV wlq_5_14 wlq_5_15 wlq_5_16 wlq_0_8 wlq_4_38) rfl rfl rfl (by decide +kernel) ⟨Nat.le_of_ble_eq_true rfl, Nat.le_of_ble_eq_true rfl⟩) hK hDD hA0 hP hS 0 12 wm0 rfl rfl hl.1 (Nat.le_of_ble_eq_true rfl) (dk_at dkX12_opens__0 6 rfl) (fun z5 A6 H locs hw7 hP hS => ?_)
    obtain ⟨rfl, hw7⟩ := hw7
    have ghw7 : q_X12_isDoor x2 A z5 := hw7
    have hw7 := hw7.2
    have rz5 : 0 ≤ z5 ∧ z5 ≤ 1 := hw7.1
    refine lv_if_ne (tgt := 18) hx hb (dk_at dkX12_opens__0 7 rfl) (by decide) (fun c8 => ?_) (fun c8 => ?_)
    · have c8 : ¬ z5 = 0 := mt (i_eq0 (rb rz5 (by decide) (by decide))).mpr c8
      have hw7b := hw7.2.mp (by omega)
      clear hw7
      refine lv_aload_n hx hb (dk_at dkX12_opens__0 10 rfl) rfl (lv_at hl 0 rfl) ?_
      refine lv_iload_n hx hb (dk_at dkX12_opens__0 11 rfl) rfl (lv_at hl 1 rfl) ?_
      refine lv_aload_n hx hb (dk_at dkX12_opens__0 12 rfl) rfl (lv_at hl 0 rfl) ?_
      refine lv_iload_n hx hb (dk_at dkX12_opens__0 13 rfl) rfl (lv_at hl 1 rfl) ?_
      refine x_calli (As := [.int (iI x1)]) (rest := [.int (iI x1), .ref (q 0)]) ⟨hx, hb, hml, hown, hts⟩ (mc_X12_keysOf l dC dI cB cI cJ cZ cQ q _ x1 hI hx1) (cwV 1 hts (goodV wlq_5_41 wlq_5_42 wlq_5_43 wlq_0_8 wlq_5_26) rfl rfl rfl (by decide +kernel) ⟨Nat.le_of_ble_eq_true rfl, Nat.le_of_ble_eq_true rfl⟩) hK hDD hA0 hP hS 0 12 wm0 rfl rfl hl.1 (Nat.le_of_ble_eq_true rfl) (dk_at dkX12_opens__0 14 rfl) (fun z9 A10 H locs hw11 hP hS => ?_)
      obtain ⟨rfl, hw11⟩ := hw11
      have ghw11 : q_X12_keysOf x1 A z9 := hw11
      have hw11 := hw11.2
      refine lv_iconst (v := iI 0) hx hb (dk_at dkX12_opens__0 15 rfl) (by decide +kernel) ?_
      refine x_callv (As := [.int (iI x1), .int (iI z9), .int (iI 0)]) (rest := []) ⟨hx, hb, hml, hown, hts⟩ (mb_X12_searches l dC dI cB cI cJ cZ cQ q _ x1 z9 0 hI (by omega) hw11 ⟨by decide, by decide⟩ hcCI hcWI) (cwV 3 hts (goodV wlq_7_19 wlq_7_20 wlq_7_21 wlq_0_8 wlq_7_0) rfl rfl rfl (by decide +kernel) ⟨Nat.le_of_ble_eq_true rfl, Nat.le_of_ble_eq_true rfl⟩) hK hDD hA0 hP hS 0 12 wm0 rfl rfl hl.1 (Nat.le_of_ble_eq_true rfl) (dk_at dkX12_opens__1 0 rfl) (fun A12 H locs hw13 hP hS => ?_)
      have ghw13 : q_X12_searches x1 z9 0 A A12 := hw13
      obtain ⟨_, hI, hf14, hw13⟩ := hw13
      obtain ⟨hc15, hw13⟩ := hw13
      obtain ⟨hc16, hw13⟩ := hw13
      refine lv_iconst (v := iI 0) hx hb (dk_at dkX12_opens__1 1 rfl) (by decide +kernel) ?_
      refine lv_istore_n (lv' := [(3, .int (iI 0)), (0, .ref (q 0)), (1, .int (iI x1)), (2, .int (iI x2))]) hx hb (dk_at dkX12_opens__1 2 rfl) rfl hl (by decide) rfl (fun ls hl => ?_)
      have L31_20 : ∀ (n22 : Nat) (z17 : Int) (A19 : St) (H : Heap) (locs : List Loc) (ls : Array Slot), (0 ≤ z17) → (0 ≤ z17 ∧ z17 ≤ 2147483647) → (∀ (z : Int) (u : St), (∃ mm1 : Nat, (d_X12_opens__1 x2 A12 z u mm1 z17 A19)) → r_X12_opens_ x1 x2 A z u) → (((A12 0 66) - z17 + 1).toNat = n22) → IM A19 → fr [49] [67, 69] A12 A19 → va_P (dC, dI) vwCl (WM cI cJ cZ q A19) H → va_S AS s.heap H locs → lv_has ls 4 [(3, .int (iI z17)), (0, .ref (q 0)), (1, .int (iI x1)), (2, .int (iI x2))] → W p l e (headSpec ws_mb_X12_opens_ ({ frames := 6, cells := 0, slots := 0, locals := 148 } : Room)).room s m [.ref (q 0), .int (iI x1), .int (iI x2)].toArray below meth c H locs 0 0 Q (F0 m 31 ls []) := by
        intro n22
        induction n22 using Nat.strongRecOn with
        | ind n22 ih21 =>
          intro z17 A19 H locs ls f23 f24 hk1 hn22 hI hj18 hP hS hl
          have gI25 : Hd (IM A19) := Hd.mk hI
          refine lv_iload_n hx hb (dk_at dkX12_opens__1 3 rfl) rfl (lv_at hl 0 rfl) ?_
          refine lv_aload_n hx hb (dk_at dkX12_opens__1 4 rfl) rfl (lv_at hl 1 rfl) ?_
          have e_A19_66 : A19 0 66 = (A12 0 66) := (hj18.2 66 rfl)
          refine va_get (D := (dC, dI)) (ci := 12) (v := .int (iI (A19 0 66))) (C := RX12) (T := TX12) (N := 85) hx hb hts hiX12 hown hK hP 0 wm0 rfl 66 (by decide) (hts _ (List.mem_cons_of_mem _ wlq_6_53)) (fun _ h9 => h9) rfl (dk_at dkX12_opens__1 5 rfl) ?_
          refine tp_i (y := iI (A12 0 66)) (congrArg iI e_A19_66) ?_
          have r_A12_0_66 : (0 : Int) ≤ (A12 0 66) ∧ (A12 0 66) ≤ 76832 := by rw [← e_A19_66]; exact hI 0 66
          refine lv_icmp_ge (tgt := 75) hx hb (dk_at dkX12_opens__1 6 rfl) (by decide) (fun c26 => ?_) (fun c26 => ?_)
          · have c26 : (A12 0 66) ≤ z17 := (i_le (rb r_A12_0_66 (by decide) (by decide)) (rb f24 (by decide) (by decide))).mp c26
            refine lv_iconst (v := iI (-1)) hx hb (dk_at dkX12_opens__2 11 rfl) (by decide +kernel) ?_
            exact RET (-1) _ _ _ _ _ ⟨hk1 _ _ ⟨0 + 1, (u_d_X12_opens__1 ⟨gI25.out, ⟨f24, (Or.inl ⟨c26, ⟨rfl, rfl⟩⟩)⟩⟩)⟩, hI, fr.trans (fr.trans (fr.rf) hf14 rfl rfl) hj18 rfl rfl, (CI.fr hc15 hj18 rfl rfl), (WI.fr hc16 hj18 rfl rfl), by omega⟩ hP hS (dk_at dkX12_opens__2 12 rfl)
          · have c26 : ¬ (A12 0 66) ≤ z17 := mt (i_le (rb r_A12_0_66 (by decide) (by decide)) (rb f24 (by decide) (by decide))).mpr c26
            refine lv_aload_n hx hb (dk_at dkX12_opens__1 7 rfl) rfl (lv_at hl 1 rfl) ?_
            refine lv_aload_n hx hb (dk_at dkX12_opens__1 8 rfl) rfl (lv_at hl 1 rfl) ?_
            refine va_get (D := (dC, dI)) (ci := 12) (v := .ref (q 48)) (C := RX12) (T := TX12) (N := 85) hx hb hts hiX12 hown hK hP 0 wm0 rfl 65 (by decide) (hts _ (List.mem_cons_of_mem _ wlq_6_52)) (fun _ h9 => h9) rfl (dk_at dkX12_opens__1 9 rfl) ?_
            refine lv_iload_n hx hb (dk_at dkX12_opens__1 10 rfl) rfl (lv_at hl 0 rfl) ?_
            have a_A19_48 : A19 48 = A12 48 := (hj18.1 48 (by decide) rfl)
            refine x_iald hx hb hK hP 48 1 wm48 rfl (by omega) (by decide) (dk_at dkX12_opens__1 11 rfl) (fun z27 hz27 => ?_)
            have rz27 : (0 : Int) ≤ z27 ∧ z27 ≤ 76831 := by rw [hz27]; exact hI 48 _
            have gz27 := Hd.mk hz27
            have hz27 : z27 = A12 48 (z17).toNat := hz27.trans (congrFun a_A19_48 _)
            refine x_callv (As := [.int (iI z27)]) (rest := []) ⟨hx, hb, hml, hown, hts⟩ (mc_X12_takes l dC dI cB cI cJ cZ cQ q _ z27 hI rz27) (cwV 1 hts (goodV wlq_7_11 wlq_7_12 wlq_7_13 wlq_0_8 wlq_6_41) rfl rfl rfl (by decide +kernel) ⟨Nat.le_of_ble_eq_true rfl, Nat.le_of_ble_eq_true rfl⟩) hK hDD hA0 hP hS 0 12 wm0 rfl rfl hl.1 (Nat.le_of_ble_eq_true rfl) (dk_at dkX12_opens__1 12 rfl) (fun A28 H locs hw29 hP hS => ?_)
            have ghw29 : q_X12_takes z27 A19 A28 := hw29
            obtain ⟨_, hI, hf30, hw29⟩ := hw29
            clear hw29
            refine lv_aload_n hx hb (dk_at dkX12_opens__1 13 rfl) rfl (lv_at hl 1 rfl) ?_
            refine lv_iload_n hx hb (dk_at dkX12_opens__1 14 rfl) rfl (lv_at hl 3 rfl) ?_
            refine x_calli (As := [.int (iI x2)]) (rest := []) ⟨hx, hb, hml, hown, hts⟩ (mc_X12_isClosed l dC dI cB cI cJ cZ cQ q _ x2 hI (by omega)) (cwV 1 hts (goodV wlq_6_44 wlq_6_45 wlq_6_46 wlq_0_8 wlq_6_42) rfl rfl rfl (by decide +kernel) ⟨Nat.le_of_ble_eq_true rfl, Nat.le_of_ble_eq_true rfl⟩) hK hDD hA0 hP hS 0 12 wm0 rfl rfl hl.1 (Nat.le_of_ble_eq_true rfl) (dk_at dkX12_opens__1 15 rfl) (fun z31 A32 H locs hw33 hP hS => ?_)
            obtain ⟨rfl, hw33⟩ := hw33
            have ghw33 : q_X12_isClosed x2 A28 z31 := hw33
            have hw33 := hw33.2
            refine lv_if_ne (tgt := 69) hx hb (dk_at dkX12_opens__2 0 rfl) (by decide) (fun c34 => ?_) (fun c34 => ?_)
            · have c34 : ¬ z31 = 0 := mt (i_eq0 (rb hw33 (by decide) (by decide))).mpr c34
              refine lv_iinc (v := iI (z17 + 1)) (lv' := [(3, .int (iI (z17 + 1))), (0, .ref (q 0)), (1, .int (iI x1)), (2, .int (iI x2))]) hx hb (dk_at dkX12_opens__2 9 rfl) hl (k := 0) rfl (i_inc (by omega)) (by decide) rfl (fun ls hl => ?_)
              refine lv_goto (tgt := 31) hx hb (dk_at dkX12_opens__2 10 rfl) (by decide) ?_
              exact ih21 _ (by omega) (z17 + 1) _ _ _ _ (by omega) (by omega) (fun zq uq ⟨mm1, hq⟩ => hk1 _ _ ⟨mm1 + 1, (u_d_X12_opens__1 ⟨gI25.out, ⟨f24, (Or.inr ⟨c26, ⟨z27, gz27.out, ⟨A28, ghw29, ⟨z31, ghw33, (Or.inl ⟨c34, hq⟩)⟩⟩⟩⟩)⟩⟩)⟩) rfl hI (fr.trans (fr.trans (fr.rf) hj18 rfl rfl) hf30 rfl rfl) hP hS (lv_sub hl [0, 1, 2, 3] rfl)
            · have c34 : z31 = 0 := (i_eq0 (rb hw33 (by decide) (by decide))).mp c34
              refine lv_aload_n hx hb (dk_at dkX12_opens__2 1 rfl) rfl (lv_at hl 1 rfl) ?_
              refine va_get (D := (dC, dI)) (ci := 12) (v := .ref (q 47)) (C := RX12) (T := TX12) (N := 85) hx hb hts hiX12 hown hK hP 0 wm0 rfl 64 (by decide) (hts _ (List.mem_cons_of_mem _ wlq_6_51)) (fun _ h9 => h9) rfl (dk_at dkX12_opens__2 2 rfl) ?_
              refine lv_aload_n hx hb (dk_at dkX12_opens__2 3 rfl) rfl (lv_at hl 1 rfl) ?_
              refine va_get (D := (dC, dI)) (ci := 12) (v := .ref (q 48)) (C := RX12) (T := TX12) (N := 85) hx hb hts hiX12 hown hK hP 0 wm0 rfl 65 (by decide) (hts _ (List.mem_cons_of_mem _ wlq_6_52)) (fun _ h9 => h9) rfl (dk_at dkX12_opens__2 4 rfl) ?_
              refine lv_iload_n hx hb (dk_at dkX12_opens__2 5 rfl) rfl (lv_at hl 0 rfl) ?_
              have a_A28_48 : A28 48 = A12 48 := (hf30.1 48 (by decide) rfl).trans a_A19_48
              refine x_iald hx hb hK hP 48 1 wm48 rfl (by omega) (by decide) (dk_at dkX12_opens__2 6 rfl) (fun z35 hz35 => ?_)
              have rz35 : (0 : Int) ≤ z35 ∧ z35 ≤ 76831 := by rw [hz35]; exact hI 48 _
              have gz35 := Hd.mk hz35
              have hz35 : z35 = A12 48 (z17).toNat := hz35.trans (congrFun a_A28_48 _)
              have ez35 : z35 = z27 := hz35.trans hz27.symm
              have a_A19_47 : A19 47 = A12 47 := (hj18.1 47 (by decide) rfl)
              have a_A28_47 : A28 47 = A12 47 := (hf30.1 47 (by decide) rfl).trans a_A19_47
              refine x_iald hx hb hK hP 47 1 wm47 rfl (by omega) (by decide) (dk_at dkX12_opens__2 7 rfl) (fun z36 hz36 => ?_)
              have rz36 : (-1 : Int) ≤ z36 ∧ z36 ≤ 76832 := by rw [hz36]; exact hI 47 _
              have gz36 := Hd.mk hz36
              have hz36 : z36 = A12 47 (z35).toNat := hz36.trans (congrFun a_A28_47 _)
              exact RET z36 _ _ _ _ _ ⟨hk1 _ _ ⟨0 + 1, (u_d_X12_opens__1 ⟨gI25.out, ⟨f24, (Or.inr ⟨c26, ⟨z27, gz27.out, ⟨A28, ghw29, ⟨z31, ghw33, (Or.inr ⟨c34, ⟨z35, gz35.out, ⟨z36, gz36.out, ⟨rfl, rfl⟩⟩⟩⟩)⟩⟩⟩⟩)⟩⟩)⟩, hI, fr.trans (fr.trans (fr.trans (fr.rf) hf14 rfl rfl) hj18 rfl rfl) hf30 rfl rfl, (CI.fr (CI.fr hc15 hj18 rfl rfl) hf30 rfl rfl), (WI.fr (WI.fr hc16 hj18 rfl rfl) hf30 rfl rfl), by omega⟩ hP hS (dk_at dkX12_opens__2 8 rfl)
      exact L31_20 _ 0 _ _ _ _ (by omega) (by omega) (fun zq uq ⟨mm1, hq⟩ => (u_r_X12_opens_ ⟨z1, ghw3, (Or.inr ⟨c4, ⟨z5, ghw7, (Or.inl ⟨c8, ⟨z9, ghw11, ⟨A12, ghw13, ⟨mm1, hq⟩⟩⟩⟩)⟩⟩)⟩)) rfl hI (fr.rf) hP hS (lv_sub hl [0, 1, 2, 3] rfl)
    · have c8 : z5 = 0 := (i_eq0 (rb rz5 (by decide) (by decide))).mp c8
      clear hw7
      refine lv_iconst (v := iI (-1)) hx hb (dk_at dkX12_opens__0 8 rfl) (by decide +kernel) ?_
      exact RET (-1) _ _ _ _ _ ⟨(u_r_X12_opens_ ⟨z1, ghw3, (Or.inr ⟨c4, ⟨z5, ghw7, (Or.inr ⟨c8, ⟨rfl, rfl⟩⟩)⟩⟩)⟩), hI, fr.rf, hcCI, hcWI, by omega⟩ hP hS (dk_at dkX12_opens__0 9 rfl)

abbrev tr_d_X12_errands_1 (A8 : St) (z : Int) (u : St) (K1 : Int → St → Prop) (z13 : Int) (A15 : St) : Prop := ((IM A15) ∧ ((0 ≤ z13 ∧ z13 ≤ 2147483647) ∧ ((((A8 0 66) ≤ z13) ∧ (z = (-1) ∧ u = A15)) ∨ ((¬ (A8 0 66) ≤ z13) ∧ (∃ z23 : Int, z23 = A15 48 (z13).toNat ∧ (∃ A24 : St, q_X12_takes z23 A15 A24 ∧ (∃ z27 : Int, z27 = oShl 1 (A8 0 73) ∧ (((¬ (A24 0 69) = z27 - 1) ∧ (K1 (z13 + 1) A24)) ∨ (((A24 0 69) = z27 - 1) ∧ (∃ z29 : Int, z29 = A24 48 (z13).toNat ∧ (∃ z30 : Int, z30 = A24 47 (z29).toNat ∧ (z = z30 ∧ u = A24))))))))))))
def d_X12_errands_1 (A8 : St) (z : Int) (u : St) : Nat → Int → St → Prop
  | 0, _, _ => False
  | nn9 + 1, z13, A15 => tr_d_X12_errands_1 A8 z u (fun z13 A15 => d_X12_errands_1 A8 z u nn9 z13 A15) z13 A15
theorem u_d_X12_errands_1 {A8 : St} {z : Int} {u : St} {nn9 : Nat} {z13 : Int} {A15 : St} (h : tr_d_X12_errands_1 A8 z u (fun z13 A15 => d_X12_errands_1 A8 z u nn9 z13 A15) z13 A15) : d_X12_errands_1 A8 z u (nn9 + 1) z13 A15 := h
abbrev tr_r_X12_errands (x1 : Int) (A : St) (z : Int) (u : St) : Prop := (∃ z1 : Int, q_X12_isPerson x1 A z1 ∧ (((¬ z1 = 0) ∧ (∃ z5 : Int, q_X12_keysOf x1 A z5 ∧ (∃ A8 : St, q_X12_searches x1 z5 1 A A8 ∧ (∃ nn9 : Nat, d_X12_errands_1 A8 z u nn9 0 A8)))) ∨ ((z1 = 0) ∧ (z = (-1) ∧ u = A))))
def r_X12_errands (x1 : Int) (A : St) (z : Int) (u : St) : Prop := tr_r_X12_errands x1 A z u
theorem u_r_X12_errands {x1 : Int} {A : St} {z : Int} {u : St} (h : tr_r_X12_errands x1 A z u) : r_X12_errands x1 A z u := h
def ws_mb_X12_errands : List Cond := .code yX12_errands cX12_errands 3 (some .int) :: WX
set_option maxHeartbeats 4000000 in
set_option maxRecDepth 100000 in
theorem mb_X12_errands (l : Launch) (dC : Nat → ClassId) (dI : Nat → Nat → Nat) (cB cI cJ cZ cQ : ClassId) (q : Nat → Nat) (A : St) (x1 : Int) (hI : IM A) (hx1 : (-2147483648 : Int) ≤ x1 ∧ x1 ≤ 2147483647) (hcCI : CI A) (hcWI : WI A) : XMi l yX12_errands ws_mb_X12_errands ({ frames := 6, cells := 0, slots := 0, locals := 148 } : Room) (dC, dI) (tyA cB cI cJ cZ cQ) (WM cI cJ cZ q) A [.ref (q 0), .int (iI x1)] (fun z u => r_X12_errands x1 A z u ∧ IM u ∧ fr [42, 43, 47, 48, 49, 50] [66, 67, 69, 70, 71, 73] A u ∧ CI u ∧ WI u ∧ (-2147483648 ≤ z ∧ z ≤ 2147483647)) := by
  refine x_meti (cc := cX12_errands) (maxL := 3) WM_adr (by decide +kernel) rfl (Nat.le_of_ble_eq_true rfl) (fun p e s m below meth c Q AS ls hx hb hml hown hts hK hDD hA0 hP hS hl RET => ?_)
  have hown : s.vm.findClass RX12 = some m.cls := hown
  have hl : lv_has ls 3 [(0, .ref (q 0)), (1, .int (iI x1))] := hl
  have hiX12 : ∀ w ∈ u_ws RX12 TX12 85, w ∈ ws_mb_X12_errands := fun w h => List.mem_cons_of_mem _ (wx_lay w h)
  obtain ⟨H, hHe⟩ : ∃ H : Heap, H = s.heap := ⟨_, rfl⟩
  rw [← hHe] at hP
  have hS : va_S AS s.heap H [] := by rw [hHe]; exact hS
  suffices hgo : ∀ locs : List Loc, va_S AS s.heap H locs → W p l e (headSpec ws_mb_X12_errands ({ frames := 6, cells := 0, slots := 0, locals := 148 } : Room)).room s m [.ref (q 0), .int (iI x1)].toArray below meth c H locs 0 0 Q (F0 m 0 ls []) by
    have := hgo [] hS
    rw [hHe] at this
    exact this
  clear hS hHe
  intro locs hS
  refine lv_aload_n hx hb (dk_at dkX12_errands_0 0 rfl) rfl (lv_at hl 0 rfl) ?_
  refine lv_iload_n hx hb (dk_at dkX12_errands_0 1 rfl) rfl (lv_at hl 1 rfl) ?_
  have r_A_0_12 : (0 : Int) ≤ (A 0 12) ∧ (A 0 12) ≤ 1 := hI 0 12
  refine x_calli (As := [.int (iI x1)]) (rest := []) ⟨hx, hb, hml, hown, hts⟩ (mc_X12_isPersonB l dC dI cB cI cJ cZ cQ q _ x1 hI hx1) (cwV 1 hts (goodV wlq_5_55 wlq_5_56 wlq_5_57 wlq_0_8 wlq_4_40) rfl rfl rfl (by decide +kernel) ⟨Nat.le_of_ble_eq_true rfl, Nat.le_of_ble_eq_true rfl⟩) hK hDD hA0 hP hS 0 12 wm0 rfl rfl hl.1 (Nat.le_of_ble_eq_true rfl) (dk_at dkX12_errands_0 2 rfl) (fun z1 A2 H locs hw3 hP hS => ?_)
  obtain ⟨rfl, hw3⟩ := hw3
  have ghw3 : q_X12_isPerson x1 A z1 := hw3
  have hw3 := hw3.2
  have rz1 : 0 ≤ z1 ∧ z1 ≤ 1 := hw3.1
  refine lv_if_ne (tgt := 10) hx hb (dk_at dkX12_errands_0 3 rfl) (by decide) (fun c4 => ?_) (fun c4 => ?_)
  · have c4 : ¬ z1 = 0 := mt (i_eq0 (rb rz1 (by decide) (by decide))).mpr c4
    have hw3b := hw3.2.mp (by omega)
    clear hw3
    refine lv_aload_n hx hb (dk_at dkX12_errands_0 6 rfl) rfl (lv_at hl 0 rfl) ?_
    refine lv_iload_n hx hb (dk_at dkX12_errands_0 7 rfl) rfl (lv_at hl 1 rfl) ?_
    refine lv_aload_n hx hb (dk_at dkX12_errands_0 8 rfl) rfl (lv_at hl 0 rfl) ?_
    refine lv_iload_n hx hb (dk_at dkX12_errands_0 9 rfl) rfl (lv_at hl 1 rfl) ?_
    refine x_calli (As := [.int (iI x1)]) (rest := [.int (iI x1), .ref (q 0)]) ⟨hx, hb, hml, hown, hts⟩ (mc_X12_keysOf l dC dI cB cI cJ cZ cQ q _ x1 hI hx1) (cwV 1 hts (goodV wlq_5_41 wlq_5_42 wlq_5_43 wlq_0_8 wlq_5_26) rfl rfl rfl (by decide +kernel) ⟨Nat.le_of_ble_eq_true rfl, Nat.le_of_ble_eq_true rfl⟩) hK hDD hA0 hP hS 0 12 wm0 rfl rfl hl.1 (Nat.le_of_ble_eq_true rfl) (dk_at dkX12_errands_0 10 rfl) (fun z5 A6 H locs hw7 hP hS => ?_)
    obtain ⟨rfl, hw7⟩ := hw7
    have ghw7 : q_X12_keysOf x1 A z5 := hw7
    have hw7 := hw7.2
    refine lv_iconst (v := iI 1) hx hb (dk_at dkX12_errands_0 11 rfl) (by decide +kernel) ?_
    refine x_callv (As := [.int (iI x1), .int (iI z5), .int (iI 1)]) (rest := []) ⟨hx, hb, hml, hown, hts⟩ (mb_X12_searches l dC dI cB cI cJ cZ cQ q _ x1 z5 1 hI (by omega) hw7 ⟨by decide, by decide⟩ hcCI hcWI) (cwV 3 hts (goodV wlq_7_19 wlq_7_20 wlq_7_21 wlq_0_8 wlq_7_0) rfl rfl rfl (by decide +kernel) ⟨Nat.le_of_ble_eq_true rfl, Nat.le_of_ble_eq_true rfl⟩) hK hDD hA0 hP hS 0 12 wm0 rfl rfl hl.1 (Nat.le_of_ble_eq_true rfl) (dk_at dkX12_errands_0 12 rfl) (fun A8 H locs hw9 hP hS => ?_)
    have ghw9 : q_X12_searches x1 z5 1 A A8 := hw9
    obtain ⟨_, hI, hf10, hw9⟩ := hw9
    obtain ⟨hc11, hw9⟩ := hw9
    obtain ⟨hc12, hw9⟩ := hw9
    refine lv_iconst (v := iI 0) hx hb (dk_at dkX12_errands_0 13 rfl) (by decide +kernel) ?_
    refine lv_istore_n (lv' := [(2, .int (iI 0)), (0, .ref (q 0)), (1, .int (iI x1))]) hx hb (dk_at dkX12_errands_0 14 rfl) rfl hl (by decide) rfl (fun ls hl => ?_)
    have L23_16 : ∀ (n18 : Nat) (z13 : Int) (A15 : St) (H : Heap) (locs : List Loc) (ls : Array Slot), (0 ≤ z13) → (0 ≤ z13 ∧ z13 ≤ 2147483647) → (∀ (z : Int) (u : St), (∃ mm1 : Nat, (d_X12_errands_1 A8 z u mm1 z13 A15)) → r_X12_errands x1 A z u) → (((A8 0 66) - z13 + 1).toNat = n18) → IM A15 → fr [49] [67, 69] A8 A15 → va_P (dC, dI) vwCl (WM cI cJ cZ q A15) H → va_S AS s.heap H locs → lv_has ls 3 [(2, .int (iI z13)), (0, .ref (q 0)), (1, .int (iI x1))] → W p l e (headSpec ws_mb_X12_errands ({ frames := 6, cells := 0, slots := 0, locals := 148 } : Room)).room s m [.ref (q 0), .int (iI x1)].toArray below meth c H locs 0 0 Q (F0 m 23 ls []) := by
      intro n18
      induction n18 using Nat.strongRecOn with
      | ind n18 ih17 =>
        intro z13 A15 H locs ls f19 f20 hk1 hn18 hI hj14 hP hS hl
        have gI21 : Hd (IM A15) := Hd.mk hI
        refine lv_iload_n hx hb (dk_at dkX12_errands_0 15 rfl) rfl (lv_at hl 0 rfl) ?_
        refine lv_aload_n hx hb (dk_at dkX12_errands_1 0 rfl) rfl (lv_at hl 1 rfl) ?_
        have e_A15_66 : A15 0 66 = (A8 0 66) := (hj14.2 66 rfl)
        refine va_get (D := (dC, dI)) (ci := 12) (v := .int (iI (A15 0 66))) (C := RX12) (T := TX12) (N := 85) hx hb hts hiX12 hown hK hP 0 wm0 rfl 66 (by decide) (hts _ (List.mem_cons_of_mem _ wlq_6_53)) (fun _ h9 => h9) rfl (dk_at dkX12_errands_1 1 rfl) ?_
        refine tp_i (y := iI (A8 0 66)) (congrArg iI e_A15_66) ?_
        have r_A8_0_66 : (0 : Int) ≤ (A8 0 66) ∧ (A8 0 66) ≤ 76832 := by rw [← e_A15_66]; exact hI 0 66
        refine lv_icmp_ge (tgt := 74) hx hb (dk_at dkX12_errands_1 2 rfl) (by decide) (fun c22 => ?_) (fun c22 => ?_)
        · have c22 : (A8 0 66) ≤ z13 := (i_le (rb r_A8_0_66 (by decide) (by decide)) (rb f20 (by decide) (by decide))).mp c22
          refine lv_iconst (v := iI (-1)) hx hb (dk_at dkX12_errands_2 12 rfl) (by decide +kernel) ?_
          exact RET (-1) _ _ _ _ _ ⟨hk1 _ _ ⟨0 + 1, (u_d_X12_errands_1 ⟨gI21.out, ⟨f20, (Or.inl ⟨c22, ⟨rfl, rfl⟩⟩)⟩⟩)⟩, hI, fr.trans (fr.trans (fr.rf) hf10 rfl rfl) hj14 rfl rfl, (CI.fr hc11 hj14 rfl rfl), (WI.fr hc12 hj14 rfl rfl), by omega⟩ hP hS (dk_at dkX12_errands_2 13 rfl)
        · have c22 : ¬ (A8 0 66) ≤ z13 := mt (i_le (rb r_A8_0_66 (by decide) (by decide)) (rb f20 (by decide) (by decide))).mpr c22
          refine lv_aload_n hx hb (dk_at dkX12_errands_1 3 rfl) rfl (lv_at hl 1 rfl) ?_
          refine lv_aload_n hx hb (dk_at dkX12_errands_1 4 rfl) rfl (lv_at hl 1 rfl) ?_
          refine va_get (D := (dC, dI)) (ci := 12) (v := .ref (q 48)) (C := RX12) (T := TX12) (N := 85) hx hb hts hiX12 hown hK hP 0 wm0 rfl 65 (by decide) (hts _ (List.mem_cons_of_mem _ wlq_6_52)) (fun _ h9 => h9) rfl (dk_at dkX12_errands_1 5 rfl) ?_
          refine lv_iload_n hx hb (dk_at dkX12_errands_1 6 rfl) rfl (lv_at hl 0 rfl) ?_
          have a_A15_48 : A15 48 = A8 48 := (hj14.1 48 (by decide) rfl)
          refine x_iald hx hb hK hP 48 1 wm48 rfl (by omega) (by decide) (dk_at dkX12_errands_1 7 rfl) (fun z23 hz23 => ?_)
          have rz23 : (0 : Int) ≤ z23 ∧ z23 ≤ 76831 := by rw [hz23]; exact hI 48 _
          have gz23 := Hd.mk hz23
          have hz23 : z23 = A8 48 (z13).toNat := hz23.trans (congrFun a_A15_48 _)
          refine x_callv (As := [.int (iI z23)]) (rest := []) ⟨hx, hb, hml, hown, hts⟩ (mc_X12_takes l dC dI cB cI cJ cZ cQ q _ z23 hI rz23) (cwV 1 hts (goodV wlq_7_11 wlq_7_12 wlq_7_13 wlq_0_8 wlq_6_41) rfl rfl rfl (by decide +kernel) ⟨Nat.le_of_ble_eq_true rfl, Nat.le_of_ble_eq_true rfl⟩) hK hDD hA0 hP hS 0 12 wm0 rfl rfl hl.1 (Nat.le_of_ble_eq_true rfl) (dk_at dkX12_errands_1 8 rfl) (fun A24 H locs hw25 hP hS => ?_)
          have ghw25 : q_X12_takes z23 A15 A24 := hw25
          obtain ⟨_, hI, hf26, hw25⟩ := hw25
          clear hw25
          refine lv_aload_n hx hb (dk_at dkX12_errands_1 9 rfl) rfl (lv_at hl 1 rfl) ?_
          refine va_get (D := (dC, dI)) (ci := 12) (v := .int (iI (A24 0 69))) (C := RX12) (T := TX12) (N := 85) hx hb hts hiX12 hown hK hP 0 wm0 rfl 69 (by decide) (hts _ (List.mem_cons_of_mem _ wlq_6_40)) (fun _ h9 => h9) rfl (dk_at dkX12_errands_1 10 rfl) ?_
          have r_A24_0_69 : (0 : Int) ≤ (A24 0 69) ∧ (A24 0 69) ≤ 3 := hI 0 69
          refine lv_iconst (v := iI 1) hx hb (dk_at dkX12_errands_1 11 rfl) (by decide +kernel) ?_
          refine lv_aload_n hx hb (dk_at dkX12_errands_1 12 rfl) rfl (lv_at hl 1 rfl) ?_
          have e_A15_73 : A15 0 73 = (A8 0 73) := (hj14.2 73 rfl)
          have e_A24_73 : A24 0 73 = (A8 0 73) := (hf26.2 73 rfl).trans e_A15_73
          refine va_get (D := (dC, dI)) (ci := 12) (v := .int (iI (A24 0 73))) (C := RX12) (T := TX12) (N := 85) hx hb hts hiX12 hown hK hP 0 wm0 rfl 73 (by decide) (hts _ (List.mem_cons_of_mem _ wlq_6_48)) (fun _ h9 => h9) rfl (dk_at dkX12_errands_1 13 rfl) ?_
          refine tp_i (y := iI (A8 0 73)) (congrArg iI e_A24_73) ?_
          have r_A8_0_73 : (0 : Int) ≤ (A8 0 73) ∧ (A8 0 73) ≤ 2 := by rw [← e_A24_73]; exact hI 0 73
          refine x_shl1E (M := 2) (t := 4) hx hb (dk_at dkX12_errands_1 14 rfl) (by omega) (by decide) (by decide) (fun z27 gz27 hz27 => ?_)
          refine lv_iconst (v := iI 1) hx hb (dk_at dkX12_errands_1 15 rfl) (by decide +kernel) ?_
          refine x_subv (v := z27 - 1) hx hb (dk_at dkX12_errands_2 0 rfl) (by omega) ?_
          refine lv_icmp_ne (tgt := 68) hx hb (dk_at dkX12_errands_2 1 rfl) (by decide) (fun c28 => ?_) (fun c28 => ?_)
          · have c28 : ¬ (A24 0 69) = z27 - 1 := mt (i_eq (rb r_A24_0_69 (by decide) (by decide)) (by omega)).mpr c28
            refine lv_iinc (v := iI (z13 + 1)) (lv' := [(2, .int (iI (z13 + 1))), (0, .ref (q 0)), (1, .int (iI x1))]) hx hb (dk_at dkX12_errands_2 10 rfl) hl (k := 0) rfl (i_inc (by omega)) (by decide) rfl (fun ls hl => ?_)
            refine lv_goto (tgt := 23) hx hb (dk_at dkX12_errands_2 11 rfl) (by decide) ?_
            exact ih17 _ (by omega) (z13 + 1) _ _ _ _ (by omega) (by omega) (fun zq uq ⟨mm1, hq⟩ => hk1 _ _ ⟨mm1 + 1, (u_d_X12_errands_1 ⟨gI21.out, ⟨f20, (Or.inr ⟨c22, ⟨z23, gz23.out, ⟨A24, ghw25, ⟨z27, gz27.out, (Or.inl ⟨c28, hq⟩)⟩⟩⟩⟩)⟩⟩)⟩) rfl hI (fr.trans (fr.trans (fr.rf) hj14 rfl rfl) hf26 rfl rfl) hP hS (lv_sub hl [0, 1, 2] rfl)
          · have c28 : (A24 0 69) = z27 - 1 := (i_eq (rb r_A24_0_69 (by decide) (by decide)) (by omega)).mp c28
            refine lv_aload_n hx hb (dk_at dkX12_errands_2 2 rfl) rfl (lv_at hl 1 rfl) ?_
            refine va_get (D := (dC, dI)) (ci := 12) (v := .ref (q 47)) (C := RX12) (T := TX12) (N := 85) hx hb hts hiX12 hown hK hP 0 wm0 rfl 64 (by decide) (hts _ (List.mem_cons_of_mem _ wlq_6_51)) (fun _ h9 => h9) rfl (dk_at dkX12_errands_2 3 rfl) ?_
            refine lv_aload_n hx hb (dk_at dkX12_errands_2 4 rfl) rfl (lv_at hl 1 rfl) ?_
            refine va_get (D := (dC, dI)) (ci := 12) (v := .ref (q 48)) (C := RX12) (T := TX12) (N := 85) hx hb hts hiX12 hown hK hP 0 wm0 rfl 65 (by decide) (hts _ (List.mem_cons_of_mem _ wlq_6_52)) (fun _ h9 => h9) rfl (dk_at dkX12_errands_2 5 rfl) ?_
            refine lv_iload_n hx hb (dk_at dkX12_errands_2 6 rfl) rfl (lv_at hl 0 rfl) ?_
            have a_A24_48 : A24 48 = A8 48 := (hf26.1 48 (by decide) rfl).trans a_A15_48
            refine x_iald hx hb hK hP 48 1 wm48 rfl (by omega) (by decide) (dk_at dkX12_errands_2 7 rfl) (fun z29 hz29 => ?_)
            have rz29 : (0 : Int) ≤ z29 ∧ z29 ≤ 76831 := by rw [hz29]; exact hI 48 _
            have gz29 := Hd.mk hz29
            have hz29 : z29 = A8 48 (z13).toNat := hz29.trans (congrFun a_A24_48 _)
            have ez29 : z29 = z23 := hz29.trans hz23.symm
            have a_A15_47 : A15 47 = A8 47 := (hj14.1 47 (by decide) rfl)
            have a_A24_47 : A24 47 = A8 47 := (hf26.1 47 (by decide) rfl).trans a_A15_47
            refine x_iald hx hb hK hP 47 1 wm47 rfl (by omega) (by decide) (dk_at dkX12_errands_2 8 rfl) (fun z30 hz30 => ?_)
            have rz30 : (-1 : Int) ≤ z30 ∧ z30 ≤ 76832 := by rw [hz30]; exact hI 47 _
            have gz30 := Hd.mk hz30
            have hz30 : z30 = A8 47 (z29).toNat := hz30.trans (congrFun a_A24_47 _)
            exact RET z30 _ _ _ _ _ ⟨hk1 _ _ ⟨0 + 1, (u_d_X12_errands_1 ⟨gI21.out, ⟨f20, (Or.inr ⟨c22, ⟨z23, gz23.out, ⟨A24, ghw25, ⟨z27, gz27.out, (Or.inr ⟨c28, ⟨z29, gz29.out, ⟨z30, gz30.out, ⟨rfl, rfl⟩⟩⟩⟩)⟩⟩⟩⟩)⟩⟩)⟩, hI, fr.trans (fr.trans (fr.trans (fr.rf) hf10 rfl rfl) hj14 rfl rfl) hf26 rfl rfl, (CI.fr (CI.fr hc11 hj14 rfl rfl) hf26 rfl rfl), (WI.fr (WI.fr hc12 hj14 rfl rfl) hf26 rfl rfl), by omega⟩ hP hS (dk_at dkX12_errands_2 9 rfl)
    exact L23_16 _ 0 _ _ _ _ (by omega) (by omega) (fun zq uq ⟨mm1, hq⟩ => (u_r_X12_errands ⟨z1, ghw3, (Or.inl ⟨c4, ⟨z5, ghw7, ⟨A8, ghw9, ⟨mm1, hq⟩⟩⟩⟩)⟩)) rfl hI (fr.rf) hP hS (lv_sub hl [0, 1, 2] rfl)
  · have c4 : z1 = 0 := (i_eq0 (rb rz1 (by decide) (by decide))).mp c4
    clear hw3
    refine lv_iconst (v := iI (-1)) hx hb (dk_at dkX12_errands_0 4 rfl) (by decide +kernel) ?_
    exact RET (-1) _ _ _ _ _ ⟨(u_r_X12_errands ⟨z1, ghw3, (Or.inr ⟨c4, ⟨rfl, rfl⟩⟩)⟩), hI, fr.rf, hcCI, hcWI, by omega⟩ hP hS (dk_at dkX12_errands_0 5 rfl)

abbrev tr_d_X12_lent_3 (K1 : Int → Int → Int → St → Prop) (z25 : Int) (z : Int) (u : St) (z71 : Int) (z72 : Int) (A74 : St) : Prop := ((IM A74) ∧ ((-2147483648 ≤ z71 ∧ z71 ≤ 2147483647) ∧ ((-2147483648 ≤ z72 ∧ z72 ≤ 2147483647) ∧ (K1 (z25 + 1) z71 z72 A74))))
def d_X12_lent_3 (K1 : Int → Int → Int → St → Prop) (z25 : Int) (z : Int) (u : St) (z71 : Int) (z72 : Int) (A74 : St) : Prop := tr_d_X12_lent_3 K1 z25 z u z71 z72 A74
theorem u_d_X12_lent_3 {K1 : Int → Int → Int → St → Prop} {z25 : Int} {z : Int} {u : St} {z71 : Int} {z72 : Int} {A74 : St} (h : tr_d_X12_lent_3 K1 z25 z u z71 z72 A74) : d_X12_lent_3 K1 z25 z u z71 z72 A74 := h
abbrev tr_d_X12_lent_2 (K1 : Int → Int → Int → St → Prop) (z25 : Int) (z62 : Int) (A63 : St) (z : Int) (u : St) : Prop := (d_X12_lent_3 K1 z25 z u z62 z25 A63)
def d_X12_lent_2 (K1 : Int → Int → Int → St → Prop) (z25 : Int) (z62 : Int) (A63 : St) (z : Int) (u : St) : Prop := tr_d_X12_lent_2 K1 z25 z62 A63 z u
theorem u_d_X12_lent_2 {K1 : Int → Int → Int → St → Prop} {z25 : Int} {z62 : Int} {A63 : St} {z : Int} {u : St} (h : tr_d_X12_lent_2 K1 z25 z62 A63 z u) : d_X12_lent_2 K1 z25 z62 A63 z u := h
abbrev tr_d_X12_lent_1 (x1 : Int) (x2 : Int) (x3 : Int) (z13 : Int) (z21 : Int) (A : St) (z : Int) (u : St) (K1 : Int → Int → Int → St → Prop) (z25 : Int) (z26 : Int) (z27 : Int) (A29 : St) : Prop := ((IM A29) ∧ ((0 ≤ z25 ∧ z25 ≤ 2147483647) ∧ ((-2147483648 ≤ z26 ∧ z26 ≤ 2147483647) ∧ ((-2147483648 ≤ z27 ∧ z27 ≤ 2147483647) ∧ (∃ z39 : Int, z39 = A29 11 ((A 0 12)).toNat ∧ (((z39 ≤ z25) ∧ (((¬ z27 = (-1)) ∧ (((¬ x3 = 0) ∧ (((¬ x3 = 1) ∧ (((¬ z21 = (-1)) ∧ (∃ z45 : Int, z45 = oWrap (z21 - z26) ∧ (z = z45 ∧ u = A29))) ∨ ((z21 = (-1)) ∧ (z = (-1) ∧ u = A29)))) ∨ ((x3 = 1) ∧ (z = z26 ∧ u = A29)))) ∨ ((x3 = 0) ∧ (z = z27 ∧ u = A29)))) ∨ ((z27 = (-1)) ∧ (z = (-1) ∧ u = A29)))) ∨ ((¬ z39 ≤ z25) ∧ (∃ z46 : Int, z46 = oShr z13 z25 ∧ (∃ z47 : Int, z47 = oAnd z46 1 ∧ (((z47 = 1) ∧ (d_X12_lent_3 K1 z25 z u z26 z27 A29)) ∨ ((¬ z47 = 1) ∧ (∃ z50 : Int, q_X12_key4 z25 A29 z50 ∧ (∃ z53 : Int, z53 = A29 13 (4 * (A 0 12) + z25).toNat ∧ (((¬ z53 = 40) ∧ (∃ z55 : Int, z55 = oShl 1 z25 ∧ (∃ z56 : Int, z56 = oOr z13 z55 ∧ (∃ A57 : St, q_X12_searches x1 z56 0 A29 A57 ∧ (∃ z62 : Int, ∃ A63 : St, q_X12_actsTo x2 A57 z62 A63 ∧ (((z62 = (-1)) ∧ (d_X12_lent_3 K1 z25 z u z26 z27 A63)) ∨ ((¬ z62 = (-1)) ∧ (((z27 = (-1)) ∧ (d_X12_lent_2 K1 z25 z62 A63 z u)) ∨ ((¬ z27 = (-1)) ∧ (((z62 < z26) ∧ (d_X12_lent_2 K1 z25 z62 A63 z u)) ∨ ((¬ z62 < z26) ∧ (d_X12_lent_3 K1 z25 z u z26 z27 A63)))))))))))) ∨ ((z53 = 40) ∧ (d_X12_lent_3 K1 z25 z u z26 z27 A29))))))))))))))))
def d_X12_lent_1 (x1 : Int) (x2 : Int) (x3 : Int) (z13 : Int) (z21 : Int) (A : St) (z : Int) (u : St) : Nat → Int → Int → Int → St → Prop
  | 0, _, _, _, _ => False
  | nn9 + 1, z25, z26, z27, A29 => tr_d_X12_lent_1 x1 x2 x3 z13 z21 A z u (fun z25 z26 z27 A29 => d_X12_lent_1 x1 x2 x3 z13 z21 A z u nn9 z25 z26 z27 A29) z25 z26 z27 A29
theorem u_d_X12_lent_1 {x1 : Int} {x2 : Int} {x3 : Int} {z13 : Int} {z21 : Int} {A : St} {z : Int} {u : St} {nn9 : Nat} {z25 : Int} {z26 : Int} {z27 : Int} {A29 : St} (h : tr_d_X12_lent_1 x1 x2 x3 z13 z21 A z u (fun z25 z26 z27 A29 => d_X12_lent_1 x1 x2 x3 z13 z21 A z u nn9 z25 z26 z27 A29) z25 z26 z27 A29) : d_X12_lent_1 x1 x2 x3 z13 z21 A z u (nn9 + 1) z25 z26 z27 A29 := h
abbrev tr_r_X12_lent (x1 : Int) (x2 : Int) (x3 : Int) (A : St) (z : Int) (u : St) : Prop := (∃ z1 : Int, q_X12_isPerson x1 A z1 ∧ (((z1 = 0) ∧ (z = (-1) ∧ u = A)) ∨ ((¬ z1 = 0) ∧ (∃ z5 : Int, q_X12_isPlace x2 A z5 ∧ (((z5 = 0) ∧ (z = (-1) ∧ u = A)) ∨ ((¬ z5 = 0) ∧ (∃ z9 : Int, q_X12_is x3 0 2 A z9 ∧ (((¬ z9 = 0) ∧ (∃ z13 : Int, q_X12_keysOf x1 A z13 ∧ (∃ A16 : St, q_X12_searches x1 z13 0 A A16 ∧ (∃ z21 : Int, ∃ A22 : St, q_X12_actsTo x2 A16 z21 A22 ∧ (∃ nn9 : Nat, d_X12_lent_1 x1 x2 x3 z13 z21 A z u nn9 0 (-1) (-1) A22))))) ∨ ((z9 = 0) ∧ (z = (-1) ∧ u = A))))))))))
def r_X12_lent (x1 : Int) (x2 : Int) (x3 : Int) (A : St) (z : Int) (u : St) : Prop := tr_r_X12_lent x1 x2 x3 A z u
theorem u_r_X12_lent {x1 : Int} {x2 : Int} {x3 : Int} {A : St} {z : Int} {u : St} (h : tr_r_X12_lent x1 x2 x3 A z u) : r_X12_lent x1 x2 x3 A z u := h
def ws_mb_X12_lent : List Cond := .code yX12_lent cX12_lent 10 (some .int) :: WX
set_option maxHeartbeats 4000000 in
set_option maxRecDepth 100000 in
theorem mb_X12_lent (l : Launch) (dC : Nat → ClassId) (dI : Nat → Nat → Nat) (cB cI cJ cZ cQ : ClassId) (q : Nat → Nat) (A : St) (x1 x2 x3 : Int) (hI : IM A) (hx1 : (-2147483648 : Int) ≤ x1 ∧ x1 ≤ 2147483647) (hx2 : (-2147483648 : Int) ≤ x2 ∧ x2 ≤ 2147483647) (hx3 : (-2147483648 : Int) ≤ x3 ∧ x3 ≤ 2147483647) (hcCI : CI A) (hcWI : WI A) : XMi l yX12_lent ws_mb_X12_lent ({ frames := 6, cells := 0, slots := 0, locals := 148 } : Room) (dC, dI) (tyA cB cI cJ cZ cQ) (WM cI cJ cZ q) A [.ref (q 0), .int (iI x1), .int (iI x2), .int (iI x3)] (fun z u => r_X12_lent x1 x2 x3 A z u ∧ IM u ∧ fr [42, 43, 47, 48, 49, 50] [66, 67, 69, 70, 71, 73] A u ∧ CI u ∧ WI u ∧ (-2147483648 ≤ z ∧ z ≤ 2147483647)) := by
  refine x_meti (cc := cX12_lent) (maxL := 10) WM_adr (by decide +kernel) rfl (Nat.le_of_ble_eq_true rfl) (fun p e s m below meth c Q AS ls hx hb hml hown hts hK hDD hA0 hP hS hl RET => ?_)
  have hown : s.vm.findClass RX12 = some m.cls := hown
  have hl : lv_has ls 10 [(0, .ref (q 0)), (1, .int (iI x1)), (2, .int (iI x2)), (3, .int (iI x3))] := hl
  have hiX12 : ∀ w ∈ u_ws RX12 TX12 85, w ∈ ws_mb_X12_lent := fun w h => List.mem_cons_of_mem _ (wx_lay w h)
  obtain ⟨H, hHe⟩ : ∃ H : Heap, H = s.heap := ⟨_, rfl⟩
  rw [← hHe] at hP
  have hS : va_S AS s.heap H [] := by rw [hHe]; exact hS
  suffices hgo : ∀ locs : List Loc, va_S AS s.heap H locs → W p l e (headSpec ws_mb_X12_lent ({ frames := 6, cells := 0, slots := 0, locals := 148 } : Room)).room s m [.ref (q 0), .int (iI x1), .int (iI x2), .int (iI x3)].toArray below meth c H locs 0 0 Q (F0 m 0 ls []) by
    have := hgo [] hS
    rw [hHe] at this
    exact this
  clear hS hHe
  intro locs hS
  refine lv_aload_n hx hb (dk_at dkX12_lent_0 0 rfl) rfl (lv_at hl 0 rfl) ?_
  refine lv_iload_n hx hb (dk_at dkX12_lent_0 1 rfl) rfl (lv_at hl 1 rfl) ?_
  have r_A_0_12 : (0 : Int) ≤ (A 0 12) ∧ (A 0 12) ≤ 1 := hI 0 12
  refine x_calli (As := [.int (iI x1)]) (rest := []) ⟨hx, hb, hml, hown, hts⟩ (mc_X12_isPersonB l dC dI cB cI cJ cZ cQ q _ x1 hI hx1) (cwV 1 hts (goodV wlq_5_55 wlq_5_56 wlq_5_57 wlq_0_8 wlq_4_40) rfl rfl rfl (by decide +kernel) ⟨Nat.le_of_ble_eq_true rfl, Nat.le_of_ble_eq_true rfl⟩) hK hDD hA0 hP hS 0 12 wm0 rfl rfl hl.1 (Nat.le_of_ble_eq_true rfl) (dk_at dkX12_lent_0 2 rfl) (fun z1 A2 H locs hw3 hP hS => ?_)
  obtain ⟨rfl, hw3⟩ := hw3
  have ghw3 : q_X12_isPerson x1 A z1 := hw3
  have hw3 := hw3.2
  have rz1 : 0 ≤ z1 ∧ z1 ≤ 1 := hw3.1
  refine lv_if_eq (tgt := 25) hx hb (dk_at dkX12_lent_0 3 rfl) (by decide) (fun c4 => ?_) (fun c4 => ?_)
  · have c4 : z1 = 0 := (i_eq0 (rb rz1 (by decide) (by decide))).mp c4
    clear hw3
    refine lv_iconst (v := iI (-1)) hx hb (dk_at dkX12_lent_0 13 rfl) (by decide +kernel) ?_
    exact RET (-1) _ _ _ _ _ ⟨(u_r_X12_lent ⟨z1, ghw3, (Or.inl ⟨c4, ⟨rfl, rfl⟩⟩)⟩), hI, fr.rf, hcCI, hcWI, by omega⟩ hP hS (dk_at dkX12_lent_0 14 rfl)
  · have c4 : ¬ z1 = 0 := mt (i_eq0 (rb rz1 (by decide) (by decide))).mpr c4
    have hw3b := hw3.2.mp (by omega)
    clear hw3
    refine lv_aload_n hx hb (dk_at dkX12_lent_0 4 rfl) rfl (lv_at hl 0 rfl) ?_
    refine lv_iload_n hx hb (dk_at dkX12_lent_0 5 rfl) rfl (lv_at hl 2 rfl) ?_
    refine x_calli (As := [.int (iI x2)]) (rest := []) ⟨hx, hb, hml, hown, hts⟩ (mc_X12_isPlaceB l dC dI cB cI cJ cZ cQ q _ x2 hI hx2) (cwV 1 hts (goodV wlq_7_27 wlq_7_28 wlq_7_29 wlq_0_8 wlq_4_37) rfl rfl rfl (by decide +kernel) ⟨Nat.le_of_ble_eq_true rfl, Nat.le_of_ble_eq_true rfl⟩) hK hDD hA0 hP hS 0 12 wm0 rfl rfl hl.1 (Nat.le_of_ble_eq_true rfl) (dk_at dkX12_lent_0 6 rfl) (fun z5 A6 H locs hw7 hP hS => ?_)
    obtain ⟨rfl, hw7⟩ := hw7
    have ghw7 : q_X12_isPlace x2 A z5 := hw7
    have hw7 := hw7.2
    have rz5 : 0 ≤ z5 ∧ z5 ≤ 1 := hw7.1
    refine lv_if_eq (tgt := 25) hx hb (dk_at dkX12_lent_0 7 rfl) (by decide) (fun c8 => ?_) (fun c8 => ?_)
    · have c8 : z5 = 0 := (i_eq0 (rb rz5 (by decide) (by decide))).mp c8
      clear hw7
      refine lv_iconst (v := iI (-1)) hx hb (dk_at dkX12_lent_0 13 rfl) (by decide +kernel) ?_
      exact RET (-1) _ _ _ _ _ ⟨(u_r_X12_lent ⟨z1, ghw3, (Or.inr ⟨c4, ⟨z5, ghw7, (Or.inl ⟨c8, ⟨rfl, rfl⟩⟩)⟩⟩)⟩), hI, fr.rf, hcCI, hcWI, by omega⟩ hP hS (dk_at dkX12_lent_0 14 rfl)
    · have c8 : ¬ z5 = 0 := mt (i_eq0 (rb rz5 (by decide) (by decide))).mpr c8
      have hw7b := hw7.2.mp (by omega)
      clear hw7
      refine lv_iload_n hx hb (dk_at dkX12_lent_0 8 rfl) rfl (lv_at hl 3 rfl) ?_
      refine lv_iconst (v := iI 0) hx hb (dk_at dkX12_lent_0 9 rfl) (by decide +kernel) ?_
      refine lv_iconst (v := iI 2) hx hb (dk_at dkX12_lent_0 10 rfl) (by decide +kernel) ?_
      refine x_callSi (As := [.int (iI x3), .int (iI 0), .int (iI 2)]) (rest := []) ⟨hx, hb, hml, hown, hts⟩ (mc_X12_is l dC dI cB cI cJ cZ cQ q _ x3 0 2 hI hx3 ⟨by decide, by decide⟩ ⟨by decide, by decide⟩) (va_cwS 3 hts (goodS wlq_1_27 wlq_1_28 wlq_0_8 wlq_0_0) rfl rfl rfl (by decide +kernel) ⟨Nat.le_of_ble_eq_true rfl, Nat.le_of_ble_eq_true rfl⟩) hK hDD hA0 hP hS rfl hl.1 (Nat.le_of_ble_eq_true rfl) (dk_at dkX12_lent_0 11 rfl) (fun z9 A10 H locs hw11 hP hS => ?_)
      obtain ⟨rfl, hw11⟩ := hw11
      have ghw11 : q_X12_is x3 0 2 A z9 := hw11
      have hw11 := hw11.2
      have rz9 : 0 ≤ z9 ∧ z9 ≤ 1 := hw11.1
      refine lv_if_ne (tgt := 27) hx hb (dk_at dkX12_lent_0 12 rfl) (by decide) (fun c12 => ?_) (fun c12 => ?_)
      · have c12 : ¬ z9 = 0 := mt (i_eq0 (rb rz9 (by decide) (by decide))).mpr c12
        have hw11b := hw11.2.mp (by omega)
        clear hw11
        refine lv_aload_n hx hb (dk_at dkX12_lent_0 15 rfl) rfl (lv_at hl 0 rfl) ?_
        refine lv_iload_n hx hb (dk_at dkX12_lent_1 0 rfl) rfl (lv_at hl 1 rfl) ?_
        refine x_calli (As := [.int (iI x1)]) (rest := []) ⟨hx, hb, hml, hown, hts⟩ (mc_X12_keysOf l dC dI cB cI cJ cZ cQ q _ x1 hI hx1) (cwV 1 hts (goodV wlq_5_41 wlq_5_42 wlq_5_43 wlq_0_8 wlq_5_26) rfl rfl rfl (by decide +kernel) ⟨Nat.le_of_ble_eq_true rfl, Nat.le_of_ble_eq_true rfl⟩) hK hDD hA0 hP hS 0 12 wm0 rfl rfl hl.1 (Nat.le_of_ble_eq_true rfl) (dk_at dkX12_lent_1 1 rfl) (fun z13 A14 H locs hw15 hP hS => ?_)
        obtain ⟨rfl, hw15⟩ := hw15
        have ghw15 : q_X12_keysOf x1 A z13 := hw15
        have hw15 := hw15.2
        refine lv_istore (lv' := [(4, .int (iI z13)), (0, .ref (q 0)), (1, .int (iI x1)), (2, .int (iI x2)), (3, .int (iI x3))]) hx hb (dk_at dkX12_lent_1 2 rfl) hl (by decide) rfl (fun ls hl => ?_)
        refine lv_aload_n hx hb (dk_at dkX12_lent_1 3 rfl) rfl (lv_at hl 1 rfl) ?_
        refine lv_iload_n hx hb (dk_at dkX12_lent_1 4 rfl) rfl (lv_at hl 2 rfl) ?_
        refine lv_iload hx hb (dk_at dkX12_lent_1 5 rfl) (lv_at hl 0 rfl) ?_
        refine lv_iconst (v := iI 0) hx hb (dk_at dkX12_lent_1 6 rfl) (by decide +kernel) ?_
        refine x_callv (As := [.int (iI x1), .int (iI z13), .int (iI 0)]) (rest := []) ⟨hx, hb, hml, hown, hts⟩ (mb_X12_searches l dC dI cB cI cJ cZ cQ q _ x1 z13 0 hI (by omega) hw15 ⟨by decide, by decide⟩ hcCI hcWI) (cwV 3 hts (goodV wlq_7_19 wlq_7_20 wlq_7_21 wlq_0_8 wlq_7_0) rfl rfl rfl (by decide +kernel) ⟨Nat.le_of_ble_eq_true rfl, Nat.le_of_ble_eq_true rfl⟩) hK hDD hA0 hP hS 0 12 wm0 rfl rfl hl.1 (Nat.le_of_ble_eq_true rfl) (dk_at dkX12_lent_1 7 rfl) (fun A16 H locs hw17 hP hS => ?_)
        have ghw17 : q_X12_searches x1 z13 0 A A16 := hw17
        obtain ⟨_, hI, hf18, hw17⟩ := hw17
        obtain ⟨hc19, hw17⟩ := hw17
        obtain ⟨hc20, hw17⟩ := hw17
        refine lv_aload_n hx hb (dk_at dkX12_lent_1 8 rfl) rfl (lv_at hl 1 rfl) ?_
        refine lv_iload_n hx hb (dk_at dkX12_lent_1 9 rfl) rfl (lv_at hl 3 rfl) ?_
        refine x_calli (As := [.int (iI x2)]) (rest := []) ⟨hx, hb, hml, hown, hts⟩ (mc_X12_actsTo l dC dI cB cI cJ cZ cQ q _ x2 hI hx2) (cwV 1 hts (goodV wlq_7_30 wlq_7_31 wlq_7_32 wlq_0_8 wlq_7_17) rfl rfl rfl (by decide +kernel) ⟨Nat.le_of_ble_eq_true rfl, Nat.le_of_ble_eq_true rfl⟩) hK hDD hA0 hP hS 0 12 wm0 rfl rfl hl.1 (Nat.le_of_ble_eq_true rfl) (dk_at dkX12_lent_1 10 rfl) (fun z21 A22 H locs hw23 hP hS => ?_)
        have ghw23 : q_X12_actsTo x2 A16 z21 A22 := hw23
        obtain ⟨_, hI, hf24, hw23⟩ := hw23
        refine lv_istore (lv' := [(5, .int (iI z21)), (4, .int (iI z13)), (0, .ref (q 0)), (1, .int (iI x1)), (2, .int (iI x2)), (3, .int (iI x3))]) hx hb (dk_at dkX12_lent_1 11 rfl) hl (by decide) rfl (fun ls hl => ?_)
        refine lv_iconst (v := iI (-1)) hx hb (dk_at dkX12_lent_1 12 rfl) (by decide +kernel) ?_
        refine lv_istore (lv' := [(6, .int (iI (-1))), (5, .int (iI z21)), (4, .int (iI z13)), (0, .ref (q 0)), (1, .int (iI x1)), (2, .int (iI x2)), (3, .int (iI x3))]) hx hb (dk_at dkX12_lent_1 13 rfl) hl (by decide) rfl (fun ls hl => ?_)
        refine lv_iconst (v := iI (-1)) hx hb (dk_at dkX12_lent_1 14 rfl) (by decide +kernel) ?_
        refine lv_istore (lv' := [(7, .int (iI (-1))), (6, .int (iI (-1))), (5, .int (iI z21)), (4, .int (iI z13)), (0, .ref (q 0)), (1, .int (iI x1)), (2, .int (iI x2)), (3, .int (iI x3))]) hx hb (dk_at dkX12_lent_1 15 rfl) hl (by decide) rfl (fun ls hl => ?_)
        refine lv_iconst (v := iI 0) hx hb (dk_at dkX12_lent_2 0 rfl) (by decide +kernel) ?_
        refine lv_istore (lv' := [(8, .int (iI 0)), (7, .int (iI (-1))), (6, .int (iI (-1))), (5, .int (iI z21)), (4, .int (iI z13)), (0, .ref (q 0)), (1, .int (iI x1)), (2, .int (iI x2)), (3, .int (iI x3))]) hx hb (dk_at dkX12_lent_2 1 rfl) hl (by decide) rfl (fun ls hl => ?_)
        have L58_31 : ∀ (n33 : Nat) (z25 z26 z27 : Int) (A29 : St) (H : Heap) (locs : List Loc) (ls : Array Slot), (0 ≤ z25) → (0 ≤ z25 ∧ z25 ≤ 2147483647) → (-2147483648 ≤ z26 ∧ z26 ≤ 2147483647) → (-2147483648 ≤ z27 ∧ z27 ≤ 2147483647) → (∀ (z : Int) (u : St), (∃ mm1 : Nat, (d_X12_lent_1 x1 x2 x3 z13 z21 A z u mm1 z25 z26 z27 A29)) → r_X12_lent x1 x2 x3 A z u) → ((A 11 ((A 0 12)).toNat - z25 + 1).toNat = n33) → IM A29 → fr [42, 43, 47, 48, 49, 50] [66, 67, 69, 70, 71, 73] A22 A29 → va_P (dC, dI) vwCl (WM cI cJ cZ q A29) H → va_S AS s.heap H locs → lv_has ls 10 [(8, .int (iI z25)), (7, .int (iI z26)), (6, .int (iI z27)), (5, .int (iI z21)), (4, .int (iI z13)), (0, .ref (q 0)), (1, .int (iI x1)), (2, .int (iI x2)), (3, .int (iI x3))] → W p l e (headSpec ws_mb_X12_lent ({ frames := 6, cells := 0, slots := 0, locals := 148 } : Room)).room s m [.ref (q 0), .int (iI x1), .int (iI x2), .int (iI x3)].toArray below meth c H locs 0 0 Q (F0 m 58 ls []) := by
          intro n33
          induction n33 using Nat.strongRecOn with
          | ind n33 ih32 =>
            intro z25 z26 z27 A29 H locs ls f34 f35 f36 f37 hk1 hn33 hI hj28 hP hS hl
            have gI38 : Hd (IM A29) := Hd.mk hI
            refine lv_iload hx hb (dk_at dkX12_lent_2 2 rfl) (lv_at hl 0 rfl) ?_
            refine lv_aload_n hx hb (dk_at dkX12_lent_2 3 rfl) rfl (lv_at hl 5 rfl) ?_
            refine va_get (D := (dC, dI)) (ci := 12) (v := .ref (q 11)) (C := RX12) (T := TX12) (N := 85) hx hb hts hiX12 hown hK hP 0 wm0 rfl 22 (by decide) (hts _ (List.mem_cons_of_mem _ wlq_1_14)) (fun _ h9 => h9) rfl (dk_at dkX12_lent_2 4 rfl) ?_
            refine lv_aload_n hx hb (dk_at dkX12_lent_2 5 rfl) rfl (lv_at hl 5 rfl) ?_
            have e_A16_12 : A16 0 12 = (A 0 12) := (hf18.2 12 rfl)
            have e_A22_12 : A22 0 12 = (A 0 12) := (hf24.2 12 rfl).trans e_A16_12
            have e_A29_12 : A29 0 12 = (A 0 12) := (hj28.2 12 rfl).trans e_A22_12
            refine va_get (D := (dC, dI)) (ci := 12) (v := .int (iI (A29 0 12))) (C := RX12) (T := TX12) (N := 85) hx hb hts hiX12 hown hK hP 0 wm0 rfl 12 (by decide) (hts _ (List.mem_cons_of_mem _ wlq_4_14)) (fun _ h9 => h9) rfl (dk_at dkX12_lent_2 6 rfl) ?_
            refine tp_i (y := iI (A 0 12)) (congrArg iI e_A29_12) ?_
            have a_A16_11 : A16 11 = A 11 := (hf18.1 11 (by decide) rfl)
            have a_A22_11 : A22 11 = A 11 := (hf24.1 11 (by decide) rfl).trans a_A16_11
            have a_A29_11 : A29 11 = A 11 := (hj28.1 11 (by decide) rfl).trans a_A22_11
            refine x_iald hx hb hK hP 11 1 wm11 rfl (by omega) (by decide) (dk_at dkX12_lent_2 7 rfl) (fun z39 hz39 => ?_)
            have rz39 : (0 : Int) ≤ z39 ∧ z39 ≤ 4 := by rw [hz39]; exact hI 11 _
            have gz39 := Hd.mk hz39
            have hz39 : z39 = A 11 ((A 0 12)).toNat := hz39.trans (congrFun a_A29_11 _)
            refine lv_icmp_ge (tgt := 158) hx hb (dk_at dkX12_lent_2 8 rfl) (by decide) (fun c40 => ?_) (fun c40 => ?_)
            · have c40 : z39 ≤ z25 := (i_le (rb rz39 (by decide) (by decide)) (rb f35 (by decide) (by decide))).mp c40
              refine lv_iload hx hb (dk_at dkX12_lent_5 6 rfl) (lv_at hl 2 rfl) ?_
              refine lv_iconst (v := iI (-1)) hx hb (dk_at dkX12_lent_5 7 rfl) (by decide +kernel) ?_
              refine lv_icmp_ne (tgt := 166) hx hb (dk_at dkX12_lent_5 8 rfl) (by decide) (fun c41 => ?_) (fun c41 => ?_)
              · have c41 : ¬ z27 = (-1) := mt (i_eq f37 ⟨by decide, by decide⟩).mpr c41
                refine lv_iload_n hx hb (dk_at dkX12_lent_5 11 rfl) rfl (lv_at hl 8 rfl) ?_
                refine lv_if_ne (tgt := 175) hx hb (dk_at dkX12_lent_5 12 rfl) (by decide) (fun c42 => ?_) (fun c42 => ?_)
                · have c42 : ¬ x3 = 0 := mt (i_eq0 hx3).mpr c42
                  refine lv_iload_n hx hb (dk_at dkX12_lent_5 15 rfl) rfl (lv_at hl 8 rfl) ?_
                  refine lv_iconst (v := iI 1) hx hb (dk_at dkX12_lent_6 0 rfl) (by decide +kernel) ?_
                  refine lv_icmp_ne (tgt := 185) hx hb (dk_at dkX12_lent_6 1 rfl) (by decide) (fun c43 => ?_) (fun c43 => ?_)
                  · have c43 : ¬ x3 = 1 := mt (i_eq hx3 ⟨by decide, by decide⟩).mpr c43
                    refine lv_iload hx hb (dk_at dkX12_lent_6 4 rfl) (lv_at hl 3 rfl) ?_
                    refine lv_iconst (v := iI (-1)) hx hb (dk_at dkX12_lent_6 5 rfl) (by decide +kernel) ?_
                    refine lv_icmp_ne (tgt := 195) hx hb (dk_at dkX12_lent_6 6 rfl) (by decide) (fun c44 => ?_) (fun c44 => ?_)
                    · have c44 : ¬ z21 = (-1) := mt (i_eq hw23 ⟨by decide, by decide⟩).mpr c44
                      refine lv_iload hx hb (dk_at dkX12_lent_6 9 rfl) (lv_at hl 3 rfl) ?_
                      refine lv_iload hx hb (dk_at dkX12_lent_6 10 rfl) (lv_at hl 1 rfl) ?_
                      refine x_subv (v := z21 - z26) hx hb (dk_at dkX12_lent_6 11 rfl) (by omega) ?_
                      refine x_absE (fun z45 gz45 hz45 => ?_)
                      exact RET z45 _ _ _ _ _ ⟨hk1 _ _ ⟨0 + 1, (u_d_X12_lent_1 ⟨gI38.out, ⟨f35, ⟨f36, ⟨f37, ⟨z39, gz39.out, (Or.inl ⟨c40, (Or.inl ⟨c41, (Or.inl ⟨c42, (Or.inl ⟨c43, (Or.inl ⟨c44, ⟨z45, gz45.out, ⟨rfl, rfl⟩⟩⟩)⟩)⟩)⟩)⟩)⟩⟩⟩⟩⟩)⟩, hI, fr.trans (fr.trans (fr.trans (fr.rf) hf18 rfl rfl) hf24 rfl rfl) hj28 rfl rfl, (CI.fr (CI.fr hc19 hf24 rfl rfl) hj28 rfl rfl), (WI.fr (WI.fr hc20 hf24 rfl rfl) hj28 rfl rfl), by omega⟩ hP hS (dk_at dkX12_lent_6 12 rfl)
                    · have c44 : z21 = (-1) := (i_eq hw23 ⟨by decide, by decide⟩).mp c44
                      refine lv_iconst (v := iI (-1)) hx hb (dk_at dkX12_lent_6 7 rfl) (by decide +kernel) ?_
                      refine lv_goto (tgt := 200) hx hb (dk_at dkX12_lent_6 8 rfl) (by decide) ?_
                      exact RET (-1) _ _ _ _ _ ⟨hk1 _ _ ⟨0 + 1, (u_d_X12_lent_1 ⟨gI38.out, ⟨f35, ⟨f36, ⟨f37, ⟨z39, gz39.out, (Or.inl ⟨c40, (Or.inl ⟨c41, (Or.inl ⟨c42, (Or.inl ⟨c43, (Or.inr ⟨c44, ⟨rfl, rfl⟩⟩)⟩)⟩)⟩)⟩)⟩⟩⟩⟩⟩)⟩, hI, fr.trans (fr.trans (fr.trans (fr.rf) hf18 rfl rfl) hf24 rfl rfl) hj28 rfl rfl, (CI.fr (CI.fr hc19 hf24 rfl rfl) hj28 rfl rfl), (WI.fr (WI.fr hc20 hf24 rfl rfl) hj28 rfl rfl), by omega⟩ hP hS (dk_at dkX12_lent_6 12 rfl)
                  · have c43 : x3 = 1 := (i_eq hx3 ⟨by decide, by decide⟩).mp c43
                    refine lv_iload hx hb (dk_at dkX12_lent_6 2 rfl) (lv_at hl 1 rfl) ?_
                    refine lv_goto (tgt := 200) hx hb (dk_at dkX12_lent_6 3 rfl) (by decide) ?_
                    exact RET z26 _ _ _ _ _ ⟨hk1 _ _ ⟨0 + 1, (u_d_X12_lent_1 ⟨gI38.out, ⟨f35, ⟨f36, ⟨f37, ⟨z39, gz39.out, (Or.inl ⟨c40, (Or.inl ⟨c41, (Or.inl ⟨c42, (Or.inr ⟨c43, ⟨rfl, rfl⟩⟩)⟩)⟩)⟩)⟩⟩⟩⟩⟩)⟩, hI, fr.trans (fr.trans (fr.trans (fr.rf) hf18 rfl rfl) hf24 rfl rfl) hj28 rfl rfl, (CI.fr (CI.fr hc19 hf24 rfl rfl) hj28 rfl rfl), (WI.fr (WI.fr hc20 hf24 rfl rfl) hj28 rfl rfl), by omega⟩ hP hS (dk_at dkX12_lent_6 12 rfl)
                · have c42 : x3 = 0 := (i_eq0 hx3).mp c42
                  refine lv_iload hx hb (dk_at dkX12_lent_5 13 rfl) (lv_at hl 2 rfl) ?_
                  refine lv_goto (tgt := 200) hx hb (dk_at dkX12_lent_5 14 rfl) (by decide) ?_
                  exact RET z27 _ _ _ _ _ ⟨hk1 _ _ ⟨0 + 1, (u_d_X12_lent_1 ⟨gI38.out, ⟨f35, ⟨f36, ⟨f37, ⟨z39, gz39.out, (Or.inl ⟨c40, (Or.inl ⟨c41, (Or.inr ⟨c42, ⟨rfl, rfl⟩⟩)⟩)⟩)⟩⟩⟩⟩⟩)⟩, hI, fr.trans (fr.trans (fr.trans (fr.rf) hf18 rfl rfl) hf24 rfl rfl) hj28 rfl rfl, (CI.fr (CI.fr hc19 hf24 rfl rfl) hj28 rfl rfl), (WI.fr (WI.fr hc20 hf24 rfl rfl) hj28 rfl rfl), by omega⟩ hP hS (dk_at dkX12_lent_6 12 rfl)
              · have c41 : z27 = (-1) := (i_eq f37 ⟨by decide, by decide⟩).mp c41
                refine lv_iconst (v := iI (-1)) hx hb (dk_at dkX12_lent_5 9 rfl) (by decide +kernel) ?_
                exact RET (-1) _ _ _ _ _ ⟨hk1 _ _ ⟨0 + 1, (u_d_X12_lent_1 ⟨gI38.out, ⟨f35, ⟨f36, ⟨f37, ⟨z39, gz39.out, (Or.inl ⟨c40, (Or.inr ⟨c41, ⟨rfl, rfl⟩⟩)⟩)⟩⟩⟩⟩⟩)⟩, hI, fr.trans (fr.trans (fr.trans (fr.rf) hf18 rfl rfl) hf24 rfl rfl) hj28 rfl rfl, (CI.fr (CI.fr hc19 hf24 rfl rfl) hj28 rfl rfl), (WI.fr (WI.fr hc20 hf24 rfl rfl) hj28 rfl rfl), by omega⟩ hP hS (dk_at dkX12_lent_5 10 rfl)
            · have c40 : ¬ z39 ≤ z25 := mt (i_le (rb rz39 (by decide) (by decide)) (rb f35 (by decide) (by decide))).mpr c40
              refine lv_iload hx hb (dk_at dkX12_lent_2 9 rfl) (lv_at hl 4 rfl) ?_
              refine lv_iload hx hb (dk_at dkX12_lent_2 10 rfl) (lv_at hl 0 rfl) ?_
              refine lv_ishr hx hb (dk_at dkX12_lent_2 11 rfl) ?_
              refine x_absE (fun z46 gz46 hz46 => ?_)
              refine lv_iconst (v := iI 1) hx hb (dk_at dkX12_lent_2 12 rfl) (by decide +kernel) ?_
              refine lv_iand hx hb (dk_at dkX12_lent_2 13 rfl) ?_
              refine x_andE (b := 1) (by omega) (fun z47 gz47 hz47 => ?_)
              refine lv_iconst (v := iI 1) hx hb (dk_at dkX12_lent_2 14 rfl) (by decide +kernel) ?_
              have J152_49 : ∀ (z71 z72 : Int) (A74 : St) (H : Heap) (locs : List Loc) (ls : Array Slot), (-2147483648 ≤ z71 ∧ z71 ≤ 2147483647) → (-2147483648 ≤ z72 ∧ z72 ≤ 2147483647) → (∀ (z : Int) (u : St), (∃ mm1 : Nat, (d_X12_lent_3 (fun z25' z26' z27' A29' => d_X12_lent_1 x1 x2 x3 z13 z21 A z u mm1 z25' z26' z27' A29') z25 z u z71 z72 A74)) → r_X12_lent x1 x2 x3 A z u) → IM A74 → fr [42, 43, 47, 48, 49, 50] [66, 67, 69, 70, 71, 73] A29 A74 → va_P (dC, dI) vwCl (WM cI cJ cZ q A74) H → va_S AS s.heap H locs → lv_has ls 10 [(8, .int (iI z25)), (7, .int (iI z71)), (6, .int (iI z72)), (5, .int (iI z21)), (4, .int (iI z13)), (0, .ref (q 0)), (1, .int (iI x1)), (2, .int (iI x2)), (3, .int (iI x3))] → W p l e (headSpec ws_mb_X12_lent ({ frames := 6, cells := 0, slots := 0, locals := 148 } : Room)).room s m [.ref (q 0), .int (iI x1), .int (iI x2), .int (iI x3)].toArray below meth c H locs 0 0 Q (F0 m 152 ls []) := by
                intro z71 z72 A74 H locs ls f75 f76 hk3 hI hj73 hP hS hl
                have gI77 : Hd (IM A74) := Hd.mk hI
                refine lv_iinc (v := iI (z25 + 1)) (lv' := [(8, .int (iI (z25 + 1))), (7, .int (iI z71)), (6, .int (iI z72)), (5, .int (iI z21)), (4, .int (iI z13)), (0, .ref (q 0)), (1, .int (iI x1)), (2, .int (iI x2)), (3, .int (iI x3))]) hx hb (dk_at dkX12_lent_5 4 rfl) hl (k := 0) rfl (i_inc (by omega)) (by decide) rfl (fun ls hl => ?_)
                refine lv_goto (tgt := 58) hx hb (dk_at dkX12_lent_5 5 rfl) (by decide) ?_
                exact ih32 _ (by omega) (z25 + 1) z71 z72 _ _ _ _ (by omega) (by omega) (by omega) (by omega) (fun zq uq ⟨mm1, hq⟩ => hk3 _ _ ⟨mm1, (u_d_X12_lent_3 ⟨gI77.out, ⟨f75, ⟨f76, hq⟩⟩⟩)⟩) rfl hI (fr.trans (fr.trans (fr.rf) hj28 rfl rfl) hj73 rfl rfl) hP hS (lv_sub hl [0, 1, 2, 3, 4, 5, 6, 7, 8] rfl)
              refine lv_icmp_eq (tgt := 152) hx hb (dk_at dkX12_lent_2 15 rfl) (by decide) (fun c48 => ?_) (fun c48 => ?_)
              · have c48 : z47 = 1 := (i_eq (by omega) ⟨by decide, by decide⟩).mp c48
                exact J152_49 z26 z27 _ _ _ _ (by omega) (by omega) (fun zq uq ⟨mm1, hq⟩ => hk1 _ _ ⟨mm1 + 1, (u_d_X12_lent_1 ⟨gI38.out, ⟨f35, ⟨f36, ⟨f37, ⟨z39, gz39.out, (Or.inr ⟨c40, ⟨z46, gz46.out, ⟨z47, gz47.out, (Or.inl ⟨c48, hq⟩)⟩⟩⟩)⟩⟩⟩⟩⟩)⟩) hI (fr.rf) hP hS (lv_sub hl [0, 1, 2, 3, 4, 5, 6, 7, 8] rfl)
              · have c48 : ¬ z47 = 1 := mt (i_eq (by omega) ⟨by decide, by decide⟩).mpr c48
                refine lv_aload_n hx hb (dk_at dkX12_lent_3 0 rfl) rfl (lv_at hl 5 rfl) ?_
                refine va_get (D := (dC, dI)) (ci := 12) (v := .ref (q 13)) (C := RX12) (T := TX12) (N := 85) hx hb hts hiX12 hown hK hP 0 wm0 rfl 24 (by decide) (hts _ (List.mem_cons_of_mem _ wlq_2_58)) (fun _ h9 => h9) rfl (dk_at dkX12_lent_3 1 rfl) ?_
                refine lv_aload_n hx hb (dk_at dkX12_lent_3 2 rfl) rfl (lv_at hl 5 rfl) ?_
                refine lv_iload hx hb (dk_at dkX12_lent_3 3 rfl) (lv_at hl 0 rfl) ?_
                refine x_calli (As := [.int (iI z25)]) (rest := [.ref (q 13)]) ⟨hx, hb, hml, hown, hts⟩ (mc_X12_key4 l dC dI cB cI cJ cZ cQ q _ z25 hI (by omega)) (cwV 1 hts (goodV wlq_4_44 wlq_4_45 wlq_4_46 wlq_0_8 wlq_4_41) rfl rfl rfl (by decide +kernel) ⟨Nat.le_of_ble_eq_true rfl, Nat.le_of_ble_eq_true rfl⟩) hK hDD hA0 hP hS 0 12 wm0 rfl rfl hl.1 (Nat.le_of_ble_eq_true rfl) (dk_at dkX12_lent_3 4 rfl) (fun z50 A51 H locs hw52 hP hS => ?_)
                obtain ⟨rfl, hw52⟩ := hw52
                have ghw52 : q_X12_key4 z25 A29 z50 := hw52
                have hw52 := hw52.2
                refine tp_i (y := iI (4 * (A 0 12) + z25)) (congrArg iI (show z50 = 4 * (A 0 12) + z25 by omega)) ?_
                clear hw52
                have a_A16_13 : A16 13 = A 13 := (hf18.1 13 (by decide) rfl)
                have a_A22_13 : A22 13 = A 13 := (hf24.1 13 (by decide) rfl).trans a_A16_13
                have a_A29_13 : A29 13 = A 13 := (hj28.1 13 (by decide) rfl).trans a_A22_13
                refine x_iald hx hb hK hP 13 1 wm13 rfl (by omega) (by decide) (dk_at dkX12_lent_3 5 rfl) (fun z53 hz53 => ?_)
                have rz53 : (0 : Int) ≤ z53 ∧ z53 ≤ 40 := by rw [hz53]; exact hI 13 _
                have gz53 := Hd.mk hz53
                have hz53 : z53 = A 13 (4 * (A 0 12) + z25).toNat := hz53.trans (congrFun a_A29_13 _)
                refine lv_bipush (v := iI 40) hx hb (dk_at dkX12_lent_3 6 rfl) (by decide +kernel) ?_
                refine lv_icmp_ne (tgt := 102) hx hb (dk_at dkX12_lent_3 7 rfl) (by decide) (fun c54 => ?_) (fun c54 => ?_)
                · have c54 : ¬ z53 = 40 := mt (i_eq (rb rz53 (by decide) (by decide)) ⟨by decide, by decide⟩).mpr c54
                  refine lv_aload_n hx hb (dk_at dkX12_lent_3 9 rfl) rfl (lv_at hl 5 rfl) ?_
                  refine lv_iload_n hx hb (dk_at dkX12_lent_3 10 rfl) rfl (lv_at hl 6 rfl) ?_
                  refine lv_iload hx hb (dk_at dkX12_lent_3 11 rfl) (lv_at hl 4 rfl) ?_
                  refine lv_iconst (v := iI 1) hx hb (dk_at dkX12_lent_3 12 rfl) (by decide +kernel) ?_
                  refine lv_iload hx hb (dk_at dkX12_lent_3 13 rfl) (lv_at hl 0 rfl) ?_
                  refine x_shl1E (M := 3) (t := 8) hx hb (dk_at dkX12_lent_3 14 rfl) (by omega) (by decide) (by decide) (fun z55 gz55 hz55 => ?_)
                  refine lv_ior hx hb (dk_at dkX12_lent_3 15 rfl) ?_
                  refine x_absE (fun z56 gz56 hz56 => ?_)
                  refine lv_iconst (v := iI 0) hx hb (dk_at dkX12_lent_4 0 rfl) (by decide +kernel) ?_
                  refine x_callv (As := [.int (iI x1), .int (iI z56), .int (iI 0)]) (rest := []) ⟨hx, hb, hml, hown, hts⟩ (mb_X12_searches l dC dI cB cI cJ cZ cQ q _ x1 z56 0 hI (by omega) (by omega) ⟨by decide, by decide⟩ (CI.fr (CI.fr hc19 hf24 rfl rfl) hj28 rfl rfl) (WI.fr (WI.fr hc20 hf24 rfl rfl) hj28 rfl rfl)) (cwV 3 hts (goodV wlq_7_19 wlq_7_20 wlq_7_21 wlq_0_8 wlq_7_0) rfl rfl rfl (by decide +kernel) ⟨Nat.le_of_ble_eq_true rfl, Nat.le_of_ble_eq_true rfl⟩) hK hDD hA0 hP hS 0 12 wm0 rfl rfl hl.1 (Nat.le_of_ble_eq_true rfl) (dk_at dkX12_lent_4 1 rfl) (fun A57 H locs hw58 hP hS => ?_)
                  have ghw58 : q_X12_searches x1 z56 0 A29 A57 := hw58
                  obtain ⟨_, hI, hf59, hw58⟩ := hw58
                  obtain ⟨hc60, hw58⟩ := hw58
                  obtain ⟨hc61, hw58⟩ := hw58
                  refine lv_aload_n hx hb (dk_at dkX12_lent_4 2 rfl) rfl (lv_at hl 5 rfl) ?_
                  refine lv_iload_n hx hb (dk_at dkX12_lent_4 3 rfl) rfl (lv_at hl 7 rfl) ?_
                  refine x_calli (As := [.int (iI x2)]) (rest := []) ⟨hx, hb, hml, hown, hts⟩ (mc_X12_actsTo l dC dI cB cI cJ cZ cQ q _ x2 hI hx2) (cwV 1 hts (goodV wlq_7_30 wlq_7_31 wlq_7_32 wlq_0_8 wlq_7_17) rfl rfl rfl (by decide +kernel) ⟨Nat.le_of_ble_eq_true rfl, Nat.le_of_ble_eq_true rfl⟩) hK hDD hA0 hP hS 0 12 wm0 rfl rfl hl.1 (Nat.le_of_ble_eq_true rfl) (dk_at dkX12_lent_4 4 rfl) (fun z62 A63 H locs hw64 hP hS => ?_)
                  have ghw64 : q_X12_actsTo x2 A57 z62 A63 := hw64
                  obtain ⟨_, hI, hf65, hw64⟩ := hw64
                  refine lv_istore (lv' := [(9, .int (iI z62)), (8, .int (iI z25)), (7, .int (iI z26)), (6, .int (iI z27)), (5, .int (iI z21)), (4, .int (iI z13)), (0, .ref (q 0)), (1, .int (iI x1)), (2, .int (iI x2)), (3, .int (iI x3))]) hx hb (dk_at dkX12_lent_4 5 rfl) hl (by decide) rfl (fun ls hl => ?_)
                  refine lv_iload hx hb (dk_at dkX12_lent_4 6 rfl) (lv_at hl 0 rfl) ?_
                  refine lv_iconst (v := iI (-1)) hx hb (dk_at dkX12_lent_4 7 rfl) (by decide +kernel) ?_
                  refine lv_icmp_eq (tgt := 152) hx hb (dk_at dkX12_lent_4 8 rfl) (by decide) (fun c66 => ?_) (fun c66 => ?_)
                  · have c66 : z62 = (-1) := (i_eq hw64 ⟨by decide, by decide⟩).mp c66
                    exact J152_49 z26 z27 _ _ _ _ (by omega) (by omega) (fun zq uq ⟨mm1, hq⟩ => hk1 _ _ ⟨mm1 + 1, (u_d_X12_lent_1 ⟨gI38.out, ⟨f35, ⟨f36, ⟨f37, ⟨z39, gz39.out, (Or.inr ⟨c40, ⟨z46, gz46.out, ⟨z47, gz47.out, (Or.inr ⟨c48, ⟨z50, ghw52, ⟨z53, gz53.out, (Or.inl ⟨c54, ⟨z55, gz55.out, ⟨z56, gz56.out, ⟨A57, ghw58, ⟨z62, A63, ghw64, (Or.inl ⟨c66, hq⟩)⟩⟩⟩⟩⟩)⟩⟩⟩)⟩⟩⟩)⟩⟩⟩⟩⟩)⟩) hI (fr.trans (fr.trans (fr.rf) hf59 rfl rfl) hf65 rfl rfl) hP hS (lv_sub hl [1, 2, 3, 4, 5, 6, 7, 8, 9] rfl)
                  · have c66 : ¬ z62 = (-1) := mt (i_eq hw64 ⟨by decide, by decide⟩).mpr c66
                    refine lv_iload hx hb (dk_at dkX12_lent_4 9 rfl) (lv_at hl 3 rfl) ?_
                    refine lv_iconst (v := iI (-1)) hx hb (dk_at dkX12_lent_4 10 rfl) (by decide +kernel) ?_
                    have J144_68 : ∀ (H : Heap) (locs : List Loc) (ls : Array Slot), (∀ (z : Int) (u : St), (∃ mm1 : Nat, (d_X12_lent_2 (fun z25' z26' z27' A29' => d_X12_lent_1 x1 x2 x3 z13 z21 A z u mm1 z25' z26' z27' A29') z25 z62 A63 z u)) → r_X12_lent x1 x2 x3 A z u) → va_P (dC, dI) vwCl (WM cI cJ cZ q A63) H → va_S AS s.heap H locs → lv_has ls 10 [(9, .int (iI z62)), (8, .int (iI z25)), (7, .int (iI z26)), (6, .int (iI z27)), (5, .int (iI z21)), (4, .int (iI z13)), (0, .ref (q 0)), (1, .int (iI x1)), (2, .int (iI x2)), (3, .int (iI x3))] → W p l e (headSpec ws_mb_X12_lent ({ frames := 6, cells := 0, slots := 0, locals := 148 } : Room)).room s m [.ref (q 0), .int (iI x1), .int (iI x2), .int (iI x3)].toArray below meth c H locs 0 0 Q (F0 m 144 ls []) := by
                      intro H locs ls hk2 hP hS hl
                      refine lv_iload hx hb (dk_at dkX12_lent_5 0 rfl) (lv_at hl 1 rfl) ?_
                      refine lv_istore (lv' := [(6, .int (iI z25)), (9, .int (iI z62)), (8, .int (iI z25)), (7, .int (iI z26)), (5, .int (iI z21)), (4, .int (iI z13)), (0, .ref (q 0)), (1, .int (iI x1)), (2, .int (iI x2)), (3, .int (iI x3))]) hx hb (dk_at dkX12_lent_5 1 rfl) hl (by decide) rfl (fun ls hl => ?_)
                      refine lv_iload hx hb (dk_at dkX12_lent_5 2 rfl) (lv_at hl 1 rfl) ?_
                      refine lv_istore (lv' := [(7, .int (iI z62)), (6, .int (iI z25)), (9, .int (iI z62)), (8, .int (iI z25)), (5, .int (iI z21)), (4, .int (iI z13)), (0, .ref (q 0)), (1, .int (iI x1)), (2, .int (iI x2)), (3, .int (iI x3))]) hx hb (dk_at dkX12_lent_5 3 rfl) hl (by decide) rfl (fun ls hl => ?_)
                      exact J152_49 z62 z25 _ _ _ _ (by omega) (by omega) (fun zq uq ⟨mm1, hq⟩ => hk2 _ _ ⟨mm1, (u_d_X12_lent_2 hq)⟩) hI (fr.trans (fr.trans (fr.rf) hf59 rfl rfl) hf65 rfl rfl) hP hS (lv_sub hl [3, 0, 1, 4, 5, 6, 7, 8, 9] rfl)
                    refine lv_icmp_eq (tgt := 144) hx hb (dk_at dkX12_lent_4 11 rfl) (by decide) (fun c67 => ?_) (fun c67 => ?_)
                    · have c67 : z27 = (-1) := (i_eq f37 ⟨by decide, by decide⟩).mp c67
                      exact J144_68 _ _ _ (fun zq uq ⟨mm1, hq⟩ => hk1 _ _ ⟨mm1 + 1, (u_d_X12_lent_1 ⟨gI38.out, ⟨f35, ⟨f36, ⟨f37, ⟨z39, gz39.out, (Or.inr ⟨c40, ⟨z46, gz46.out, ⟨z47, gz47.out, (Or.inr ⟨c48, ⟨z50, ghw52, ⟨z53, gz53.out, (Or.inl ⟨c54, ⟨z55, gz55.out, ⟨z56, gz56.out, ⟨A57, ghw58, ⟨z62, A63, ghw64, (Or.inr ⟨c66, (Or.inl ⟨c67, hq⟩)⟩)⟩⟩⟩⟩⟩)⟩⟩⟩)⟩⟩⟩)⟩⟩⟩⟩⟩)⟩) hP hS (lv_sub hl [0, 1, 2, 3, 4, 5, 6, 7, 8, 9] rfl)
                    · have c67 : ¬ z27 = (-1) := mt (i_eq f37 ⟨by decide, by decide⟩).mpr c67
                      refine lv_iload hx hb (dk_at dkX12_lent_4 12 rfl) (lv_at hl 0 rfl) ?_
                      refine lv_iload hx hb (dk_at dkX12_lent_4 13 rfl) (lv_at hl 2 rfl) ?_
                      refine lv_icmp_lt (tgt := 144) hx hb (dk_at dkX12_lent_4 14 rfl) (by decide) (fun c69 => ?_) (fun c69 => ?_)
                      · have c69 : z62 < z26 := (i_lt hw64 f36).mp c69
                        exact J144_68 _ _ _ (fun zq uq ⟨mm1, hq⟩ => hk1 _ _ ⟨mm1 + 1, (u_d_X12_lent_1 ⟨gI38.out, ⟨f35, ⟨f36, ⟨f37, ⟨z39, gz39.out, (Or.inr ⟨c40, ⟨z46, gz46.out, ⟨z47, gz47.out, (Or.inr ⟨c48, ⟨z50, ghw52, ⟨z53, gz53.out, (Or.inl ⟨c54, ⟨z55, gz55.out, ⟨z56, gz56.out, ⟨A57, ghw58, ⟨z62, A63, ghw64, (Or.inr ⟨c66, (Or.inr ⟨c67, (Or.inl ⟨c69, hq⟩)⟩)⟩)⟩⟩⟩⟩⟩)⟩⟩⟩)⟩⟩⟩)⟩⟩⟩⟩⟩)⟩) hP hS (lv_sub hl [0, 1, 2, 3, 4, 5, 6, 7, 8, 9] rfl)
                      · have c69 : ¬ z62 < z26 := mt (i_lt hw64 f36).mpr c69
                        refine lv_goto (tgt := 152) hx hb (dk_at dkX12_lent_4 15 rfl) (by decide) ?_
                        exact J152_49 z26 z27 _ _ _ _ (by omega) (by omega) (fun zq uq ⟨mm1, hq⟩ => hk1 _ _ ⟨mm1 + 1, (u_d_X12_lent_1 ⟨gI38.out, ⟨f35, ⟨f36, ⟨f37, ⟨z39, gz39.out, (Or.inr ⟨c40, ⟨z46, gz46.out, ⟨z47, gz47.out, (Or.inr ⟨c48, ⟨z50, ghw52, ⟨z53, gz53.out, (Or.inl ⟨c54, ⟨z55, gz55.out, ⟨z56, gz56.out, ⟨A57, ghw58, ⟨z62, A63, ghw64, (Or.inr ⟨c66, (Or.inr ⟨c67, (Or.inr ⟨c69, hq⟩)⟩)⟩)⟩⟩⟩⟩⟩)⟩⟩⟩)⟩⟩⟩)⟩⟩⟩⟩⟩)⟩) hI (fr.trans (fr.trans (fr.rf) hf59 rfl rfl) hf65 rfl rfl) hP hS (lv_sub hl [1, 2, 3, 4, 5, 6, 7, 8, 9] rfl)
                · have c54 : z53 = 40 := (i_eq (rb rz53 (by decide) (by decide)) ⟨by decide, by decide⟩).mp c54
                  refine lv_goto (tgt := 152) hx hb (dk_at dkX12_lent_3 8 rfl) (by decide) ?_
                  exact J152_49 z26 z27 _ _ _ _ (by omega) (by omega) (fun zq uq ⟨mm1, hq⟩ => hk1 _ _ ⟨mm1 + 1, (u_d_X12_lent_1 ⟨gI38.out, ⟨f35, ⟨f36, ⟨f37, ⟨z39, gz39.out, (Or.inr ⟨c40, ⟨z46, gz46.out, ⟨z47, gz47.out, (Or.inr ⟨c48, ⟨z50, ghw52, ⟨z53, gz53.out, (Or.inr ⟨c54, hq⟩)⟩⟩⟩)⟩⟩⟩)⟩⟩⟩⟩⟩)⟩) hI (fr.rf) hP hS (lv_sub hl [0, 1, 2, 3, 4, 5, 6, 7, 8] rfl)
        exact L58_31 _ 0 (-1) (-1) _ _ _ _ (by omega) (by omega) (by omega) (by omega) (fun zq uq ⟨mm1, hq⟩ => (u_r_X12_lent ⟨z1, ghw3, (Or.inr ⟨c4, ⟨z5, ghw7, (Or.inr ⟨c8, ⟨z9, ghw11, (Or.inl ⟨c12, ⟨z13, ghw15, ⟨A16, ghw17, ⟨z21, A22, ghw23, ⟨mm1, hq⟩⟩⟩⟩⟩)⟩⟩)⟩⟩)⟩)) rfl hI (fr.rf) hP hS (lv_sub hl [0, 1, 2, 3, 4, 5, 6, 7, 8] rfl)
      · have c12 : z9 = 0 := (i_eq0 (rb rz9 (by decide) (by decide))).mp c12
        have hw11b := mt hw11.2.mpr (by omega)
        clear hw11
        refine lv_iconst (v := iI (-1)) hx hb (dk_at dkX12_lent_0 13 rfl) (by decide +kernel) ?_
        exact RET (-1) _ _ _ _ _ ⟨(u_r_X12_lent ⟨z1, ghw3, (Or.inr ⟨c4, ⟨z5, ghw7, (Or.inr ⟨c8, ⟨z9, ghw11, (Or.inr ⟨c12, ⟨rfl, rfl⟩⟩)⟩⟩)⟩⟩)⟩), hI, fr.rf, hcCI, hcWI, by omega⟩ hP hS (dk_at dkX12_lent_0 14 rfl)

abbrev tr_d_X12_isLockedIn_4 (K1 : Int → Int → Prop) (z1 : Int) (z : Int) (u : St) (z42 : Int) : Prop := ((0 ≤ z42 ∧ z42 ≤ 1) ∧ (K1 (z1 + 1) z42))
def d_X12_isLockedIn_4 (K1 : Int → Int → Prop) (z1 : Int) (z : Int) (u : St) (z42 : Int) : Prop := tr_d_X12_isLockedIn_4 K1 z1 z u z42
theorem u_d_X12_isLockedIn_4 {K1 : Int → Int → Prop} {z1 : Int} {z : Int} {u : St} {z42 : Int} (h : tr_d_X12_isLockedIn_4 K1 z1 z u z42) : d_X12_isLockedIn_4 K1 z1 z u z42 := h
abbrev tr_d_X12_isLockedIn_3 (K1 : Int → Int → Prop) (z1 : Int) (z : Int) (u : St) : Prop := (d_X12_isLockedIn_4 K1 z1 z u 1)
def d_X12_isLockedIn_3 (K1 : Int → Int → Prop) (z1 : Int) (z : Int) (u : St) : Prop := tr_d_X12_isLockedIn_3 K1 z1 z u
theorem u_d_X12_isLockedIn_3 {K1 : Int → Int → Prop} {z1 : Int} {z : Int} {u : St} (h : tr_d_X12_isLockedIn_3 K1 z1 z u) : d_X12_isLockedIn_3 K1 z1 z u := h
abbrev tr_d_X12_isLockedIn_2 (K1 : Int → Int → Prop) (z1 : Int) (z : Int) (u : St) : Prop := (d_X12_isLockedIn_4 K1 z1 z u 0)
def d_X12_isLockedIn_2 (K1 : Int → Int → Prop) (z1 : Int) (z : Int) (u : St) : Prop := tr_d_X12_isLockedIn_2 K1 z1 z u
theorem u_d_X12_isLockedIn_2 {K1 : Int → Int → Prop} {z1 : Int} {z : Int} {u : St} (h : tr_d_X12_isLockedIn_2 K1 z1 z u) : d_X12_isLockedIn_2 K1 z1 z u := h
abbrev tr_d_X12_isLockedIn_1 (x1 : Int) (A : St) (z : Int) (u : St) (K1 : Int → Int → Prop) (z1 : Int) (z2 : Int) : Prop := ((0 ≤ z1 ∧ z1 ≤ 2147483647) ∧ ((-2147483648 ≤ z2 ∧ z2 ≤ 2147483647) ∧ (∃ z11 : Int, z11 = A 4 ((A 0 12)).toNat ∧ (((z11 ≤ z1) ∧ (((z2 = 0) ∧ (z = 0 ∧ u = A)) ∨ ((¬ z2 = 0) ∧ (∃ z14 : Int, ∃ A15 : St, q_X12_placesOf x1 A z14 A15 ∧ (∃ z20 : Int, q_X12_bitsOf z14 A15 z20 ∧ (((¬ z20 = 1) ∧ (z = 0 ∧ u = A15)) ∨ ((z20 = 1) ∧ (z = 1 ∧ u = A15)))))))) ∨ ((¬ z11 ≤ z1) ∧ (((¬ z2 = 0) ∧ (d_X12_isLockedIn_3 K1 z1 z u)) ∨ ((z2 = 0) ∧ (∃ z27 : Int, q_X12_door10 z1 A z27 ∧ (∃ z30 : Int, z30 = A 8 (10 * (A 0 12) + z1).toNat ∧ (((¬ z30 = 0) ∧ (d_X12_isLockedIn_2 K1 z1 z u)) ∨ ((z30 = 0) ∧ (∃ z33 : Int, q_X12_placeOf x1 A z33 ∧ (∃ z36 : Int, q_X12_isAt z33 z1 A z36 ∧ (((z36 = 0) ∧ (d_X12_isLockedIn_2 K1 z1 z u)) ∨ ((¬ z36 = 0) ∧ (d_X12_isLockedIn_3 K1 z1 z u))))))))))))))))
def d_X12_isLockedIn_1 (x1 : Int) (A : St) (z : Int) (u : St) : Nat → Int → Int → Prop
  | 0, _, _ => False
  | nn9 + 1, z1, z2 => tr_d_X12_isLockedIn_1 x1 A z u (fun z1 z2 => d_X12_isLockedIn_1 x1 A z u nn9 z1 z2) z1 z2
theorem u_d_X12_isLockedIn_1 {x1 : Int} {A : St} {z : Int} {u : St} {nn9 : Nat} {z1 : Int} {z2 : Int} (h : tr_d_X12_isLockedIn_1 x1 A z u (fun z1 z2 => d_X12_isLockedIn_1 x1 A z u nn9 z1 z2) z1 z2) : d_X12_isLockedIn_1 x1 A z u (nn9 + 1) z1 z2 := h
abbrev tr_r_X12_isLockedIn (x1 : Int) (A : St) (z : Int) (u : St) : Prop := (∃ nn9 : Nat, d_X12_isLockedIn_1 x1 A z u nn9 0 0)
def r_X12_isLockedIn (x1 : Int) (A : St) (z : Int) (u : St) : Prop := tr_r_X12_isLockedIn x1 A z u
theorem u_r_X12_isLockedIn {x1 : Int} {A : St} {z : Int} {u : St} (h : tr_r_X12_isLockedIn x1 A z u) : r_X12_isLockedIn x1 A z u := h
def q_X12_isLockedIn (x1 : Int) (A : St) (z : Int) (u : St) : Prop := r_X12_isLockedIn x1 A z u ∧ IM u ∧ fr [42, 43, 47, 48, 49, 50] [66, 67, 69, 70, 71, 73] A u ∧ CI u ∧ WI u ∧ (0 ≤ z ∧ z ≤ 1)
def ws_mb_X12_isLockedIn : List Cond := .code yX12_isLockedIn cX12_isLockedIn 4 (some .boolean) :: WX
set_option maxHeartbeats 4000000 in
set_option maxRecDepth 100000 in
theorem mb_X12_isLockedIn (l : Launch) (dC : Nat → ClassId) (dI : Nat → Nat → Nat) (cB cI cJ cZ cQ : ClassId) (q : Nat → Nat) (A : St) (x1 : Int) (hI : IM A) (hx1 : (0 : Int) ≤ x1 ∧ x1 ≤ 2) (hcCI : CI A) (hcWI : WI A) : XMi l yX12_isLockedIn ws_mb_X12_isLockedIn ({ frames := 7, cells := 0, slots := 0, locals := 171 } : Room) (dC, dI) (tyA cB cI cJ cZ cQ) (WM cI cJ cZ q) A [.ref (q 0), .int (iI x1)] (fun z u => r_X12_isLockedIn x1 A z u ∧ IM u ∧ fr [42, 43, 47, 48, 49, 50] [66, 67, 69, 70, 71, 73] A u ∧ CI u ∧ WI u ∧ (0 ≤ z ∧ z ≤ 1)) := by
  refine x_metz (cc := cX12_isLockedIn) (maxL := 4) WM_adr (by decide +kernel) rfl (Nat.le_of_ble_eq_true rfl) (fun z u h => h.2.2.2.2.2) (fun p e s m below meth c Q AS ls hx hb hml hown hts hK hDD hA0 hP hS hl RET => ?_)
  have hown : s.vm.findClass RX12 = some m.cls := hown
  have hl : lv_has ls 4 [(0, .ref (q 0)), (1, .int (iI x1))] := hl
  have hiX12 : ∀ w ∈ u_ws RX12 TX12 85, w ∈ ws_mb_X12_isLockedIn := fun w h => List.mem_cons_of_mem _ (wx_lay w h)
  obtain ⟨H, hHe⟩ : ∃ H : Heap, H = s.heap := ⟨_, rfl⟩
  rw [← hHe] at hP
  have hS : va_S AS s.heap H [] := by rw [hHe]; exact hS
  suffices hgo : ∀ locs : List Loc, va_S AS s.heap H locs → W p l e (headSpec ws_mb_X12_isLockedIn ({ frames := 7, cells := 0, slots := 0, locals := 171 } : Room)).room s m [.ref (q 0), .int (iI x1)].toArray below meth c H locs 0 0 Q (F0 m 0 ls []) by
    have := hgo [] hS
    rw [hHe] at this
    exact this
  clear hS hHe
  intro locs hS
  refine lv_iconst (v := iI 0) hx hb (dk_at dkX12_isLockedIn_0 0 rfl) (by decide +kernel) ?_
  refine lv_istore_n (lv' := [(2, .int (iI 0)), (0, .ref (q 0)), (1, .int (iI x1))]) hx hb (dk_at dkX12_isLockedIn_0 1 rfl) rfl hl (by decide) rfl (fun ls hl => ?_)
  refine lv_iconst (v := iI 0) hx hb (dk_at dkX12_isLockedIn_0 2 rfl) (by decide +kernel) ?_
  refine lv_istore_n (lv' := [(3, .int (iI 0)), (2, .int (iI 0)), (0, .ref (q 0)), (1, .int (iI x1))]) hx hb (dk_at dkX12_isLockedIn_0 3 rfl) rfl hl (by decide) rfl (fun ls hl => ?_)
  have L4_5 : ∀ (n7 : Nat) (z1 z2 : Int) (H : Heap) (locs : List Loc) (ls : Array Slot), (0 ≤ z1) → (0 ≤ z1 ∧ z1 ≤ 2147483647) → (-2147483648 ≤ z2 ∧ z2 ≤ 2147483647) → (∀ (z : Int) (u : St), (∃ mm1 : Nat, (d_X12_isLockedIn_1 x1 A z u mm1 z1 z2)) → r_X12_isLockedIn x1 A z u) → ((A 4 ((A 0 12)).toNat - z1 + 1).toNat = n7) → va_P (dC, dI) vwCl (WM cI cJ cZ q A) H → va_S AS s.heap H locs → lv_has ls 4 [(3, .int (iI z1)), (2, .int (iI z2)), (0, .ref (q 0)), (1, .int (iI x1))] → W p l e (headSpec ws_mb_X12_isLockedIn ({ frames := 7, cells := 0, slots := 0, locals := 171 } : Room)).room s m [.ref (q 0), .int (iI x1)].toArray below meth c H locs 0 0 Q (F0 m 4 ls []) := by
    intro n7
    induction n7 using Nat.strongRecOn with
    | ind n7 ih6 =>
      intro z1 z2 H locs ls f8 f9 f10 hk1 hn7 hP hS hl
      refine lv_iload_n hx hb (dk_at dkX12_isLockedIn_0 4 rfl) rfl (lv_at hl 0 rfl) ?_
      refine lv_aload_n hx hb (dk_at dkX12_isLockedIn_0 5 rfl) rfl (lv_at hl 2 rfl) ?_
      refine va_get (D := (dC, dI)) (ci := 12) (v := .ref (q 4)) (C := RX12) (T := TX12) (N := 85) hx hb hts hiX12 hown hK hP 0 wm0 rfl 15 (by decide) (hts _ (List.mem_cons_of_mem _ wlq_1_13)) (fun _ h9 => h9) rfl (dk_at dkX12_isLockedIn_0 6 rfl) ?_
      refine lv_aload_n hx hb (dk_at dkX12_isLockedIn_0 7 rfl) rfl (lv_at hl 2 rfl) ?_
      refine va_get (D := (dC, dI)) (ci := 12) (v := .int (iI (A 0 12))) (C := RX12) (T := TX12) (N := 85) hx hb hts hiX12 hown hK hP 0 wm0 rfl 12 (by decide) (hts _ (List.mem_cons_of_mem _ wlq_4_14)) (fun _ h9 => h9) rfl (dk_at dkX12_isLockedIn_0 8 rfl) ?_
      have r_A_0_12 : (0 : Int) ≤ (A 0 12) ∧ (A 0 12) ≤ 1 := hI 0 12
      refine x_iald hx hb hK hP 4 1 wm4 rfl (by omega) (by decide) (dk_at dkX12_isLockedIn_0 9 rfl) (fun z11 hz11 => ?_)
      have rz11 : (0 : Int) ≤ z11 ∧ z11 ≤ 10 := by rw [hz11]; exact hI 4 _
      have gz11 := Hd.mk hz11
      have hz11 : z11 = A 4 ((A 0 12)).toNat := hz11
      refine lv_icmp_ge (tgt := 59) hx hb (dk_at dkX12_isLockedIn_0 10 rfl) (by decide) (fun c12 => ?_) (fun c12 => ?_)
      · have c12 : z11 ≤ z1 := (i_le (rb rz11 (by decide) (by decide)) (rb f9 (by decide) (by decide))).mp c12
        refine lv_iload_n hx hb (dk_at dkX12_isLockedIn_2 1 rfl) rfl (lv_at hl 1 rfl) ?_
        refine lv_if_eq (tgt := 79) hx hb (dk_at dkX12_isLockedIn_2 2 rfl) (by decide) (fun c13 => ?_) (fun c13 => ?_)
        · have c13 : z2 = 0 := (i_eq0 f10).mp c13
          refine lv_iconst (v := iI 0) hx hb (dk_at dkX12_isLockedIn_2 11 rfl) (by decide +kernel) ?_
          exact RET 0 _ _ _ _ _ ⟨hk1 _ _ ⟨0 + 1, (u_d_X12_isLockedIn_1 ⟨f9, ⟨f10, ⟨z11, gz11.out, (Or.inl ⟨c12, (Or.inl ⟨c13, ⟨rfl, rfl⟩⟩)⟩)⟩⟩⟩)⟩, hI, fr.rf, hcCI, hcWI, by omega⟩ hP hS (dk_at dkX12_isLockedIn_2 12 rfl)
        · have c13 : ¬ z2 = 0 := mt (i_eq0 f10).mpr c13
          refine lv_aload_n hx hb (dk_at dkX12_isLockedIn_2 3 rfl) rfl (lv_at hl 2 rfl) ?_
          refine lv_iload_n hx hb (dk_at dkX12_isLockedIn_2 4 rfl) rfl (lv_at hl 3 rfl) ?_
          refine x_calli (As := [.int (iI x1)]) (rest := []) ⟨hx, hb, hml, hown, hts⟩ (mb_X12_placesOf l dC dI cB cI cJ cZ cQ q _ x1 hI hx1 hcCI hcWI) (cwV 1 hts (goodV wlq_7_23 wlq_7_24 wlq_7_25 wlq_0_8 wlq_7_18) rfl rfl rfl (by decide +kernel) ⟨Nat.le_of_ble_eq_true rfl, Nat.le_of_ble_eq_true rfl⟩) hK hDD hA0 hP hS 0 12 wm0 rfl rfl hl.1 (Nat.le_of_ble_eq_true rfl) (dk_at dkX12_isLockedIn_2 5 rfl) (fun z14 A15 H locs hw16 hP hS => ?_)
          have ghw16 : q_X12_placesOf x1 A z14 A15 := hw16
          obtain ⟨_, hI, hf17, hw16⟩ := hw16
          obtain ⟨hc18, hw16⟩ := hw16
          obtain ⟨hc19, hw16⟩ := hw16
          refine x_callSi (As := [.int (iI z14)]) (rest := []) ⟨hx, hb, hml, hown, hts⟩ (mc_X12_bitsOf l dC dI cB cI cJ cZ cQ q _ z14 hI hw16) (va_cwS 1 hts (goodS wlq_5_44 wlq_5_45 wlq_0_8 wlq_5_27) rfl rfl rfl (by decide +kernel) ⟨Nat.le_of_ble_eq_true rfl, Nat.le_of_ble_eq_true rfl⟩) hK hDD hA0 hP hS rfl hl.1 (Nat.le_of_ble_eq_true rfl) (dk_at dkX12_isLockedIn_2 6 rfl) (fun z20 A21 H locs hw22 hP hS => ?_)
          obtain ⟨rfl, hw22⟩ := hw22
          have ghw22 : q_X12_bitsOf z14 A15 z20 := hw22
          have hw22 := hw22.2
          refine lv_iconst (v := iI 1) hx hb (dk_at dkX12_isLockedIn_2 7 rfl) (by decide +kernel) ?_
          refine lv_icmp_ne (tgt := 79) hx hb (dk_at dkX12_isLockedIn_2 8 rfl) (by decide) (fun c23 => ?_) (fun c23 => ?_)
          · have c23 : ¬ z20 = 1 := mt (i_eq hw22 ⟨by decide, by decide⟩).mpr c23
            refine lv_iconst (v := iI 0) hx hb (dk_at dkX12_isLockedIn_2 11 rfl) (by decide +kernel) ?_
            exact RET 0 _ _ _ _ _ ⟨hk1 _ _ ⟨0 + 1, (u_d_X12_isLockedIn_1 ⟨f9, ⟨f10, ⟨z11, gz11.out, (Or.inl ⟨c12, (Or.inr ⟨c13, ⟨z14, A15, ghw16, ⟨z20, ghw22, (Or.inl ⟨c23, ⟨rfl, rfl⟩⟩)⟩⟩⟩)⟩)⟩⟩⟩)⟩, hI, fr.trans (fr.rf) hf17 rfl rfl, hc18, hc19, by omega⟩ hP hS (dk_at dkX12_isLockedIn_2 12 rfl)
          · have c23 : z20 = 1 := (i_eq hw22 ⟨by decide, by decide⟩).mp c23
            refine lv_iconst (v := iI 1) hx hb (dk_at dkX12_isLockedIn_2 9 rfl) (by decide +kernel) ?_
            refine lv_goto (tgt := 80) hx hb (dk_at dkX12_isLockedIn_2 10 rfl) (by decide) ?_
            exact RET 1 _ _ _ _ _ ⟨hk1 _ _ ⟨0 + 1, (u_d_X12_isLockedIn_1 ⟨f9, ⟨f10, ⟨z11, gz11.out, (Or.inl ⟨c12, (Or.inr ⟨c13, ⟨z14, A15, ghw16, ⟨z20, ghw22, (Or.inr ⟨c23, ⟨rfl, rfl⟩⟩)⟩⟩⟩)⟩)⟩⟩⟩)⟩, hI, fr.trans (fr.rf) hf17 rfl rfl, hc18, hc19, by omega⟩ hP hS (dk_at dkX12_isLockedIn_2 12 rfl)
      · have c12 : ¬ z11 ≤ z1 := mt (i_le (rb rz11 (by decide) (by decide)) (rb f9 (by decide) (by decide))).mpr c12
        refine lv_iload_n hx hb (dk_at dkX12_isLockedIn_0 11 rfl) rfl (lv_at hl 1 rfl) ?_
        have J52_26 : ∀ (z42 : Int) (H : Heap) (locs : List Loc) (ls : Array Slot), (0 ≤ z42 ∧ z42 ≤ 1) → ((z42 = 0 ∧ z2 = 0) ∨ (z42 = 1)) → (∀ (z : Int) (u : St), (∃ mm1 : Nat, (d_X12_isLockedIn_4 (fun z1' z2' => d_X12_isLockedIn_1 x1 A z u mm1 z1' z2') z1 z u z42)) → r_X12_isLockedIn x1 A z u) → va_P (dC, dI) vwCl (WM cI cJ cZ q A) H → va_S AS s.heap H locs → lv_has ls 4 [(3, .int (iI z1)), (2, .int (iI z2)), (0, .ref (q 0)), (1, .int (iI x1))] → W p l e (headSpec ws_mb_X12_isLockedIn ({ frames := 7, cells := 0, slots := 0, locals := 171 } : Room)).room s m [.ref (q 0), .int (iI x1)].toArray below meth c H locs 0 0 Q (F0 m 52 ls [.int (iI z42)]) := by
          intro z42 H locs ls f44 f45 hk4 hP hS hl
          refine lv_istore_n (lv' := [(2, .int (iI z42)), (3, .int (iI z1)), (0, .ref (q 0)), (1, .int (iI x1))]) hx hb (dk_at dkX12_isLockedIn_1 14 rfl) rfl hl (by decide) rfl (fun ls hl => ?_)
          refine lv_iinc (v := iI (z1 + 1)) (lv' := [(3, .int (iI (z1 + 1))), (2, .int (iI z42)), (0, .ref (q 0)), (1, .int (iI x1))]) hx hb (dk_at dkX12_isLockedIn_1 15 rfl) hl (k := 1) rfl (i_inc (by omega)) (by decide) rfl (fun ls hl => ?_)
          refine lv_goto (tgt := 4) hx hb (dk_at dkX12_isLockedIn_2 0 rfl) (by decide) ?_
          exact ih6 _ (by omega) (z1 + 1) z42 _ _ _ (by omega) (by omega) (by omega) (fun zq uq ⟨mm1, hq⟩ => hk4 _ _ ⟨mm1, (u_d_X12_isLockedIn_4 ⟨f44, hq⟩)⟩) rfl hP hS (lv_sub hl [0, 1, 2, 3] rfl)
        have J47_25 : ∀ (H : Heap) (locs : List Loc) (ls : Array Slot), (∀ (z : Int) (u : St), (∃ mm1 : Nat, (d_X12_isLockedIn_3 (fun z1' z2' => d_X12_isLockedIn_1 x1 A z u mm1 z1' z2') z1 z u)) → r_X12_isLockedIn x1 A z u) → va_P (dC, dI) vwCl (WM cI cJ cZ q A) H → va_S AS s.heap H locs → lv_has ls 4 [(3, .int (iI z1)), (2, .int (iI z2)), (0, .ref (q 0)), (1, .int (iI x1))] → W p l e (headSpec ws_mb_X12_isLockedIn ({ frames := 7, cells := 0, slots := 0, locals := 171 } : Room)).room s m [.ref (q 0), .int (iI x1)].toArray below meth c H locs 0 0 Q (F0 m 47 ls []) := by
          intro H locs ls hk3 hP hS hl
          refine lv_iconst (v := iI 1) hx hb (dk_at dkX12_isLockedIn_1 11 rfl) (by decide +kernel) ?_
          refine lv_goto (tgt := 52) hx hb (dk_at dkX12_isLockedIn_1 12 rfl) (by decide) ?_
          exact J52_26 1 _ _ _ (by omega) (by omega) (fun zq uq ⟨mm1, hq⟩ => hk3 _ _ ⟨mm1, (u_d_X12_isLockedIn_3 hq)⟩) hP hS (lv_sub hl [0, 1, 2, 3] rfl)
        refine lv_if_ne (tgt := 47) hx hb (dk_at dkX12_isLockedIn_0 12 rfl) (by decide) (fun c24 => ?_) (fun c24 => ?_)
        · have c24 : ¬ z2 = 0 := mt (i_eq0 f10).mpr c24
          exact J47_25 _ _ _ (fun zq uq ⟨mm1, hq⟩ => hk1 _ _ ⟨mm1 + 1, (u_d_X12_isLockedIn_1 ⟨f9, ⟨f10, ⟨z11, gz11.out, (Or.inr ⟨c12, (Or.inl ⟨c24, hq⟩)⟩)⟩⟩⟩)⟩) hP hS (lv_sub hl [0, 1, 2, 3] rfl)
        · have c24 : z2 = 0 := (i_eq0 f10).mp c24
          refine lv_aload_n hx hb (dk_at dkX12_isLockedIn_0 13 rfl) rfl (lv_at hl 2 rfl) ?_
          refine va_get (D := (dC, dI)) (ci := 12) (v := .ref (q 8)) (C := RX12) (T := TX12) (N := 85) hx hb hts hiX12 hown hK hP 0 wm0 rfl 19 (by decide) (hts _ (List.mem_cons_of_mem _ wlq_2_41)) (fun _ h9 => h9) rfl (dk_at dkX12_isLockedIn_0 14 rfl) ?_
          refine lv_aload_n hx hb (dk_at dkX12_isLockedIn_0 15 rfl) rfl (lv_at hl 2 rfl) ?_
          refine lv_iload_n hx hb (dk_at dkX12_isLockedIn_1 0 rfl) rfl (lv_at hl 0 rfl) ?_
          refine x_calli (As := [.int (iI z1)]) (rest := [.ref (q 8)]) ⟨hx, hb, hml, hown, hts⟩ (mc_X12_door10 l dC dI cB cI cJ cZ cQ q _ z1 hI (by omega)) (cwV 1 hts (goodV wlq_4_49 wlq_4_50 wlq_4_51 wlq_0_8 wlq_4_42) rfl rfl rfl (by decide +kernel) ⟨Nat.le_of_ble_eq_true rfl, Nat.le_of_ble_eq_true rfl⟩) hK hDD hA0 hP hS 0 12 wm0 rfl rfl hl.1 (Nat.le_of_ble_eq_true rfl) (dk_at dkX12_isLockedIn_1 1 rfl) (fun z27 A28 H locs hw29 hP hS => ?_)
          obtain ⟨rfl, hw29⟩ := hw29
          have ghw29 : q_X12_door10 z1 A z27 := hw29
          have hw29 := hw29.2
          refine tp_i (y := iI (10 * (A 0 12) + z1)) (congrArg iI (show z27 = 10 * (A 0 12) + z1 by omega)) ?_
          clear hw29
          refine x_zald hx hb hK hP 8 3 wm8 rfl (by omega) (by decide) (dk_at dkX12_isLockedIn_1 2 rfl) (fun z30 hz30 => ?_)
          have rz30 : (0 : Int) ≤ z30 ∧ z30 ≤ 1 := by rw [hz30]; exact hI 8 _
          have gz30 := Hd.mk hz30
          have hz30 : z30 = A 8 (10 * (A 0 12) + z1).toNat := hz30
          have J51_32 : ∀ (H : Heap) (locs : List Loc) (ls : Array Slot), (∀ (z : Int) (u : St), (∃ mm1 : Nat, (d_X12_isLockedIn_2 (fun z1' z2' => d_X12_isLockedIn_1 x1 A z u mm1 z1' z2') z1 z u)) → r_X12_isLockedIn x1 A z u) → va_P (dC, dI) vwCl (WM cI cJ cZ q A) H → va_S AS s.heap H locs → lv_has ls 4 [(3, .int (iI z1)), (2, .int (iI z2)), (0, .ref (q 0)), (1, .int (iI x1))] → W p l e (headSpec ws_mb_X12_isLockedIn ({ frames := 7, cells := 0, slots := 0, locals := 171 } : Room)).room s m [.ref (q 0), .int (iI x1)].toArray below meth c H locs 0 0 Q (F0 m 51 ls []) := by
            intro H locs ls hk2 hP hS hl
            refine lv_iconst (v := iI 0) hx hb (dk_at dkX12_isLockedIn_1 13 rfl) (by decide +kernel) ?_
            exact J52_26 0 _ _ _ (by omega) (by omega) (fun zq uq ⟨mm1, hq⟩ => hk2 _ _ ⟨mm1, (u_d_X12_isLockedIn_2 hq)⟩) hP hS (lv_sub hl [0, 1, 2, 3] rfl)
          refine lv_if_ne (tgt := 51) hx hb (dk_at dkX12_isLockedIn_1 3 rfl) (by decide) (fun c31 => ?_) (fun c31 => ?_)
          · have c31 : ¬ z30 = 0 := mt (i_eq0 (rb rz30 (by decide) (by decide))).mpr c31
            exact J51_32 _ _ _ (fun zq uq ⟨mm1, hq⟩ => hk1 _ _ ⟨mm1 + 1, (u_d_X12_isLockedIn_1 ⟨f9, ⟨f10, ⟨z11, gz11.out, (Or.inr ⟨c12, (Or.inr ⟨c24, ⟨z27, ghw29, ⟨z30, gz30.out, (Or.inl ⟨c31, hq⟩)⟩⟩⟩)⟩)⟩⟩⟩)⟩) hP hS (lv_sub hl [0, 1, 2, 3] rfl)
          · have c31 : z30 = 0 := (i_eq0 (rb rz30 (by decide) (by decide))).mp c31
            refine lv_aload_n hx hb (dk_at dkX12_isLockedIn_1 4 rfl) rfl (lv_at hl 2 rfl) ?_
            refine lv_aload_n hx hb (dk_at dkX12_isLockedIn_1 5 rfl) rfl (lv_at hl 2 rfl) ?_
            refine lv_iload_n hx hb (dk_at dkX12_isLockedIn_1 6 rfl) rfl (lv_at hl 3 rfl) ?_
            refine x_calli (As := [.int (iI x1)]) (rest := [.ref (q 0)]) ⟨hx, hb, hml, hown, hts⟩ (mc_X12_placeOf l dC dI cB cI cJ cZ cQ q _ x1 hI hx1) (cwV 1 hts (goodV wlq_5_35 wlq_5_36 wlq_5_37 wlq_0_8 wlq_5_25) rfl rfl rfl (by decide +kernel) ⟨Nat.le_of_ble_eq_true rfl, Nat.le_of_ble_eq_true rfl⟩) hK hDD hA0 hP hS 0 12 wm0 rfl rfl hl.1 (Nat.le_of_ble_eq_true rfl) (dk_at dkX12_isLockedIn_1 7 rfl) (fun z33 A34 H locs hw35 hP hS => ?_)
            obtain ⟨rfl, hw35⟩ := hw35
            have ghw35 : q_X12_placeOf x1 A z33 := hw35
            have hw35 := hw35.2
            refine lv_iload_n hx hb (dk_at dkX12_isLockedIn_1 8 rfl) rfl (lv_at hl 0 rfl) ?_
            refine x_calli (As := [.int (iI z33), .int (iI z1)]) (rest := []) ⟨hx, hb, hml, hown, hts⟩ (mc_X12_isAt l dC dI cB cI cJ cZ cQ q _ z33 z1 hI (rb hw35 (by decide) (by decide)) (by omega)) (cwV 2 hts (goodV wlq_5_38 wlq_5_39 wlq_5_40 wlq_0_8 wlq_5_28) rfl rfl rfl (by decide +kernel) ⟨Nat.le_of_ble_eq_true rfl, Nat.le_of_ble_eq_true rfl⟩) hK hDD hA0 hP hS 0 12 wm0 rfl rfl hl.1 (Nat.le_of_ble_eq_true rfl) (dk_at dkX12_isLockedIn_1 9 rfl) (fun z36 A37 H locs hw38 hP hS => ?_)
            obtain ⟨rfl, hw38⟩ := hw38
            have ghw38 : q_X12_isAt z33 z1 A z36 := hw38
            have hw38 := hw38.2
            refine lv_if_eq (tgt := 51) hx hb (dk_at dkX12_isLockedIn_1 10 rfl) (by decide) (fun c39 => ?_) (fun c39 => ?_)
            · have c39 : z36 = 0 := (i_eq0 (rb hw38 (by decide) (by decide))).mp c39
              exact J51_32 _ _ _ (fun zq uq ⟨mm1, hq⟩ => hk1 _ _ ⟨mm1 + 1, (u_d_X12_isLockedIn_1 ⟨f9, ⟨f10, ⟨z11, gz11.out, (Or.inr ⟨c12, (Or.inr ⟨c24, ⟨z27, ghw29, ⟨z30, gz30.out, (Or.inr ⟨c31, ⟨z33, ghw35, ⟨z36, ghw38, (Or.inl ⟨c39, hq⟩)⟩⟩⟩)⟩⟩⟩)⟩)⟩⟩⟩)⟩) hP hS (lv_sub hl [0, 1, 2, 3] rfl)
            · have c39 : ¬ z36 = 0 := mt (i_eq0 (rb hw38 (by decide) (by decide))).mpr c39
              exact J47_25 _ _ _ (fun zq uq ⟨mm1, hq⟩ => hk1 _ _ ⟨mm1 + 1, (u_d_X12_isLockedIn_1 ⟨f9, ⟨f10, ⟨z11, gz11.out, (Or.inr ⟨c12, (Or.inr ⟨c24, ⟨z27, ghw29, ⟨z30, gz30.out, (Or.inr ⟨c31, ⟨z33, ghw35, ⟨z36, ghw38, (Or.inr ⟨c39, hq⟩)⟩⟩⟩)⟩⟩⟩)⟩)⟩⟩⟩)⟩) hP hS (lv_sub hl [0, 1, 2, 3] rfl)
  exact L4_5 _ 0 0 _ _ _ (by omega) (by omega) (by omega) (fun zq uq ⟨mm1, hq⟩ => (u_r_X12_isLockedIn ⟨mm1, hq⟩)) rfl hP hS (lv_sub hl [0, 1, 2, 3] rfl)

abbrev tr_d_X12_locked_2 (K1 : Int → Int → St → Prop) (z1 : Int) (z2 : Int) (A16 : St) (z : Int) (u : St) (z24 : Int) : Prop := ((0 ≤ z24 ∧ z24 ≤ 4) ∧ (∃ z27 : Int, z27 = oOr z2 z24 ∧ (K1 (z1 + 1) z27 A16)))
def d_X12_locked_2 (K1 : Int → Int → St → Prop) (z1 : Int) (z2 : Int) (A16 : St) (z : Int) (u : St) (z24 : Int) : Prop := tr_d_X12_locked_2 K1 z1 z2 A16 z u z24
theorem u_d_X12_locked_2 {K1 : Int → Int → St → Prop} {z1 : Int} {z2 : Int} {A16 : St} {z : Int} {u : St} {z24 : Int} (h : tr_d_X12_locked_2 K1 z1 z2 A16 z u z24) : d_X12_locked_2 K1 z1 z2 A16 z u z24 := h
abbrev tr_d_X12_locked_1 (A : St) (z : Int) (u : St) (K1 : Int → Int → St → Prop) (z1 : Int) (z2 : Int) (A4 : St) : Prop := ((IM A4) ∧ ((0 ≤ z1 ∧ z1 ≤ 2147483647) ∧ ((-2147483648 ≤ z2 ∧ z2 ≤ 2147483647) ∧ (∃ z13 : Int, z13 = A4 16 ((A 0 12)).toNat ∧ (((z13 ≤ z1) ∧ (z = z2 ∧ u = A4)) ∨ ((¬ z13 ≤ z1) ∧ (∃ z15 : Int, ∃ A16 : St, q_X12_isLockedIn z1 A4 z15 A16 ∧ (((z15 = 0) ∧ (d_X12_locked_2 K1 z1 z2 A16 z u 0)) ∨ ((¬ z15 = 0) ∧ (∃ z23 : Int, z23 = oShl 1 z1 ∧ (d_X12_locked_2 K1 z1 z2 A16 z u z23)))))))))))
def d_X12_locked_1 (A : St) (z : Int) (u : St) : Nat → Int → Int → St → Prop
  | 0, _, _, _ => False
  | nn9 + 1, z1, z2, A4 => tr_d_X12_locked_1 A z u (fun z1 z2 A4 => d_X12_locked_1 A z u nn9 z1 z2 A4) z1 z2 A4
theorem u_d_X12_locked_1 {A : St} {z : Int} {u : St} {nn9 : Nat} {z1 : Int} {z2 : Int} {A4 : St} (h : tr_d_X12_locked_1 A z u (fun z1 z2 A4 => d_X12_locked_1 A z u nn9 z1 z2 A4) z1 z2 A4) : d_X12_locked_1 A z u (nn9 + 1) z1 z2 A4 := h
abbrev tr_r_X12_locked (A : St) (z : Int) (u : St) : Prop := (∃ nn9 : Nat, d_X12_locked_1 A z u nn9 0 0 A)
def r_X12_locked (A : St) (z : Int) (u : St) : Prop := tr_r_X12_locked A z u
theorem u_r_X12_locked {A : St} {z : Int} {u : St} (h : tr_r_X12_locked A z u) : r_X12_locked A z u := h
def ws_mb_X12_locked : List Cond := .code yX12_locked cX12_locked 3 (some .int) :: WX
set_option maxHeartbeats 4000000 in
set_option maxRecDepth 100000 in
theorem mb_X12_locked (l : Launch) (dC : Nat → ClassId) (dI : Nat → Nat → Nat) (cB cI cJ cZ cQ : ClassId) (q : Nat → Nat) (A : St) (hI : IM A) (hcCI : CI A) (hcWI : WI A) : XMi l yX12_locked ws_mb_X12_locked ({ frames := 8, cells := 0, slots := 0, locals := 194 } : Room) (dC, dI) (tyA cB cI cJ cZ cQ) (WM cI cJ cZ q) A [.ref (q 0)] (fun z u => r_X12_locked A z u ∧ IM u ∧ fr [42, 43, 47, 48, 49, 50] [66, 67, 69, 70, 71, 73] A u ∧ CI u ∧ WI u ∧ (-2147483648 ≤ z ∧ z ≤ 2147483647)) := by
  refine x_meti (cc := cX12_locked) (maxL := 3) WM_adr (by decide +kernel) rfl (Nat.le_of_ble_eq_true rfl) (fun p e s m below meth c Q AS ls hx hb hml hown hts hK hDD hA0 hP hS hl RET => ?_)
  have hown : s.vm.findClass RX12 = some m.cls := hown
  have hl : lv_has ls 3 [(0, .ref (q 0))] := hl
  have hiX12 : ∀ w ∈ u_ws RX12 TX12 85, w ∈ ws_mb_X12_locked := fun w h => List.mem_cons_of_mem _ (wx_lay w h)
  obtain ⟨H, hHe⟩ : ∃ H : Heap, H = s.heap := ⟨_, rfl⟩
  rw [← hHe] at hP
  have hS : va_S AS s.heap H [] := by rw [hHe]; exact hS
  suffices hgo : ∀ locs : List Loc, va_S AS s.heap H locs → W p l e (headSpec ws_mb_X12_locked ({ frames := 8, cells := 0, slots := 0, locals := 194 } : Room)).room s m [.ref (q 0)].toArray below meth c H locs 0 0 Q (F0 m 0 ls []) by
    have := hgo [] hS
    rw [hHe] at this
    exact this
  clear hS hHe
  intro locs hS
  refine lv_iconst (v := iI 0) hx hb (dk_at dkX12_locked_0 0 rfl) (by decide +kernel) ?_
  refine lv_istore_n (lv' := [(1, .int (iI 0)), (0, .ref (q 0))]) hx hb (dk_at dkX12_locked_0 1 rfl) rfl hl (by decide) rfl (fun ls hl => ?_)
  refine lv_iconst (v := iI 0) hx hb (dk_at dkX12_locked_0 2 rfl) (by decide +kernel) ?_
  refine lv_istore_n (lv' := [(2, .int (iI 0)), (1, .int (iI 0)), (0, .ref (q 0))]) hx hb (dk_at dkX12_locked_0 3 rfl) rfl hl (by decide) rfl (fun ls hl => ?_)
  have L4_6 : ∀ (n8 : Nat) (z1 z2 : Int) (A4 : St) (H : Heap) (locs : List Loc) (ls : Array Slot), (0 ≤ z1) → (0 ≤ z1 ∧ z1 ≤ 2147483647) → (-2147483648 ≤ z2 ∧ z2 ≤ 2147483647) → (∀ (z : Int) (u : St), (∃ mm1 : Nat, (d_X12_locked_1 A z u mm1 z1 z2 A4)) → r_X12_locked A z u) → ((A 16 ((A 0 12)).toNat - z1 + 1).toNat = n8) → IM A4 → fr [42, 43, 47, 48, 49, 50] [66, 67, 69, 70, 71, 73] A A4 → va_P (dC, dI) vwCl (WM cI cJ cZ q A4) H → va_S AS s.heap H locs → lv_has ls 3 [(2, .int (iI z1)), (1, .int (iI z2)), (0, .ref (q 0))] → W p l e (headSpec ws_mb_X12_locked ({ frames := 8, cells := 0, slots := 0, locals := 194 } : Room)).room s m [.ref (q 0)].toArray below meth c H locs 0 0 Q (F0 m 4 ls []) := by
    intro n8
    induction n8 using Nat.strongRecOn with
    | ind n8 ih7 =>
      intro z1 z2 A4 H locs ls f9 f10 f11 hk1 hn8 hI hj3 hP hS hl
      have gI12 : Hd (IM A4) := Hd.mk hI
      refine lv_iload_n hx hb (dk_at dkX12_locked_0 4 rfl) rfl (lv_at hl 0 rfl) ?_
      refine lv_aload_n hx hb (dk_at dkX12_locked_0 5 rfl) rfl (lv_at hl 2 rfl) ?_
      refine va_get (D := (dC, dI)) (ci := 12) (v := .ref (q 16)) (C := RX12) (T := TX12) (N := 85) hx hb hts hiX12 hown hK hP 0 wm0 rfl 27 (by decide) (hts _ (List.mem_cons_of_mem _ wlq_1_15)) (fun _ h9 => h9) rfl (dk_at dkX12_locked_0 6 rfl) ?_
      refine lv_aload_n hx hb (dk_at dkX12_locked_0 7 rfl) rfl (lv_at hl 2 rfl) ?_
      have e_A4_12 : A4 0 12 = (A 0 12) := (hj3.2 12 rfl)
      refine va_get (D := (dC, dI)) (ci := 12) (v := .int (iI (A4 0 12))) (C := RX12) (T := TX12) (N := 85) hx hb hts hiX12 hown hK hP 0 wm0 rfl 12 (by decide) (hts _ (List.mem_cons_of_mem _ wlq_4_14)) (fun _ h9 => h9) rfl (dk_at dkX12_locked_0 8 rfl) ?_
      refine tp_i (y := iI (A 0 12)) (congrArg iI e_A4_12) ?_
      have r_A_0_12 : (0 : Int) ≤ (A 0 12) ∧ (A 0 12) ≤ 1 := by rw [← e_A4_12]; exact hI 0 12
      have a_A4_16 : A4 16 = A 16 := (hj3.1 16 (by decide) rfl)
      refine x_iald hx hb hK hP 16 1 wm16 rfl (by omega) (by decide) (dk_at dkX12_locked_0 9 rfl) (fun z13 hz13 => ?_)
      have rz13 : (0 : Int) ≤ z13 ∧ z13 ≤ 3 := by rw [hz13]; exact hI 16 _
      have gz13 := Hd.mk hz13
      have hz13 : z13 = A 16 ((A 0 12)).toNat := hz13.trans (congrFun a_A4_16 _)
      refine lv_icmp_ge (tgt := 41) hx hb (dk_at dkX12_locked_0 10 rfl) (by decide) (fun c14 => ?_) (fun c14 => ?_)
      · have c14 : z13 ≤ z1 := (i_le (rb rz13 (by decide) (by decide)) (rb f10 (by decide) (by decide))).mp c14
        refine lv_iload_n hx hb (dk_at dkX12_locked_1 9 rfl) rfl (lv_at hl 1 rfl) ?_
        exact RET z2 _ _ _ _ _ ⟨hk1 _ _ ⟨0 + 1, (u_d_X12_locked_1 ⟨gI12.out, ⟨f10, ⟨f11, ⟨z13, gz13.out, (Or.inl ⟨c14, ⟨rfl, rfl⟩⟩)⟩⟩⟩⟩)⟩, hI, fr.trans (fr.rf) hj3 rfl rfl, (CI.fr hcCI hj3 rfl rfl), (WI.fr hcWI hj3 rfl rfl), by omega⟩ hP hS (dk_at dkX12_locked_1 10 rfl)
      · have c14 : ¬ z13 ≤ z1 := mt (i_le (rb rz13 (by decide) (by decide)) (rb f10 (by decide) (by decide))).mpr c14
        refine lv_iload_n hx hb (dk_at dkX12_locked_0 11 rfl) rfl (lv_at hl 1 rfl) ?_
        refine lv_aload_n hx hb (dk_at dkX12_locked_0 12 rfl) rfl (lv_at hl 2 rfl) ?_
        refine lv_iload_n hx hb (dk_at dkX12_locked_0 13 rfl) rfl (lv_at hl 0 rfl) ?_
        refine x_calli (As := [.int (iI z1)]) (rest := [.int (iI z2)]) ⟨hx, hb, hml, hown, hts⟩ (mb_X12_isLockedIn l dC dI cB cI cJ cZ cQ q _ z1 hI (by omega) (CI.fr hcCI hj3 rfl rfl) (WI.fr hcWI hj3 rfl rfl)) (cwV 1 hts (goodV wlq_7_38 wlq_7_39 wlq_7_40 wlq_0_8 wlq_7_36) rfl rfl rfl (by decide +kernel) ⟨Nat.le_of_ble_eq_true rfl, Nat.le_of_ble_eq_true rfl⟩) hK hDD hA0 hP hS 0 12 wm0 rfl rfl hl.1 (Nat.le_of_ble_eq_true rfl) (dk_at dkX12_locked_0 14 rfl) (fun z15 A16 H locs hw17 hP hS => ?_)
        have ghw17 : q_X12_isLockedIn z1 A4 z15 A16 := hw17
        obtain ⟨_, hI, hf18, hw17⟩ := hw17
        obtain ⟨hc19, hw17⟩ := hw17
        obtain ⟨hc20, hw17⟩ := hw17
        have J33_22 : ∀ (z24 : Int) (H : Heap) (locs : List Loc) (ls : Array Slot), (0 ≤ z24 ∧ z24 ≤ 4) → (∀ (z : Int) (u : St), (∃ mm1 : Nat, (d_X12_locked_2 (fun z1' z2' A4' => d_X12_locked_1 A z u mm1 z1' z2' A4') z1 z2 A16 z u z24)) → r_X12_locked A z u) → va_P (dC, dI) vwCl (WM cI cJ cZ q A16) H → va_S AS s.heap H locs → lv_has ls 3 [(2, .int (iI z1)), (1, .int (iI z2)), (0, .ref (q 0))] → W p l e (headSpec ws_mb_X12_locked ({ frames := 8, cells := 0, slots := 0, locals := 194 } : Room)).room s m [.ref (q 0)].toArray below meth c H locs 0 0 Q (F0 m 33 ls [.int (iI z24), .int (iI z2)]) := by
          intro z24 H locs ls f26 hk2 hP hS hl
          refine lv_ior hx hb (dk_at dkX12_locked_1 5 rfl) ?_
          refine x_absE (fun z27 gz27 hz27 => ?_)
          refine lv_istore_n (lv' := [(1, .int (iI z27)), (2, .int (iI z1)), (0, .ref (q 0))]) hx hb (dk_at dkX12_locked_1 6 rfl) rfl hl (by decide) rfl (fun ls hl => ?_)
          refine lv_iinc (v := iI (z1 + 1)) (lv' := [(2, .int (iI (z1 + 1))), (1, .int (iI z27)), (0, .ref (q 0))]) hx hb (dk_at dkX12_locked_1 7 rfl) hl (k := 1) rfl (i_inc (by omega)) (by decide) rfl (fun ls hl => ?_)
          refine lv_goto (tgt := 4) hx hb (dk_at dkX12_locked_1 8 rfl) (by decide) ?_
          exact ih7 _ (by omega) (z1 + 1) z27 _ _ _ _ (by omega) (by omega) (by omega) (fun zq uq ⟨mm1, hq⟩ => hk2 _ _ ⟨mm1, (u_d_X12_locked_2 ⟨f26, ⟨z27, gz27.out, hq⟩⟩)⟩) rfl hI (fr.trans (fr.trans (fr.rf) hj3 rfl rfl) hf18 rfl rfl) hP hS (lv_sub hl [0, 1, 2] rfl)
        refine lv_if_eq (tgt := 32) hx hb (dk_at dkX12_locked_0 15 rfl) (by decide) (fun c21 => ?_) (fun c21 => ?_)
        · have c21 : z15 = 0 := (i_eq0 (rb hw17 (by decide) (by decide))).mp c21
          refine lv_iconst (v := iI 0) hx hb (dk_at dkX12_locked_1 4 rfl) (by decide +kernel) ?_
          exact J33_22 0 _ _ _ (by omega) (fun zq uq ⟨mm1, hq⟩ => hk1 _ _ ⟨mm1 + 1, (u_d_X12_locked_1 ⟨gI12.out, ⟨f10, ⟨f11, ⟨z13, gz13.out, (Or.inr ⟨c14, ⟨z15, A16, ghw17, (Or.inl ⟨c21, hq⟩)⟩⟩)⟩⟩⟩⟩)⟩) hP hS (lv_sub hl [0, 1, 2] rfl)
        · have c21 : ¬ z15 = 0 := mt (i_eq0 (rb hw17 (by decide) (by decide))).mpr c21
          refine lv_iconst (v := iI 1) hx hb (dk_at dkX12_locked_1 0 rfl) (by decide +kernel) ?_
          refine lv_iload_n hx hb (dk_at dkX12_locked_1 1 rfl) rfl (lv_at hl 0 rfl) ?_
          refine x_shl1E (M := 2) (t := 4) hx hb (dk_at dkX12_locked_1 2 rfl) (by omega) (by decide) (by decide) (fun z23 gz23 hz23 => ?_)
          refine lv_goto (tgt := 33) hx hb (dk_at dkX12_locked_1 3 rfl) (by decide) ?_
          exact J33_22 z23 _ _ _ (by omega) (fun zq uq ⟨mm1, hq⟩ => hk1 _ _ ⟨mm1 + 1, (u_d_X12_locked_1 ⟨gI12.out, ⟨f10, ⟨f11, ⟨z13, gz13.out, (Or.inr ⟨c14, ⟨z15, A16, ghw17, (Or.inr ⟨c21, ⟨z23, gz23.out, hq⟩⟩)⟩⟩)⟩⟩⟩⟩)⟩) hP hS (lv_sub hl [0, 1, 2] rfl)
  exact L4_6 _ 0 0 _ _ _ _ (by omega) (by omega) (by omega) (fun zq uq ⟨mm1, hq⟩ => (u_r_X12_locked ⟨mm1, hq⟩)) rfl hI (fr.rf) hP hS (lv_sub hl [0, 1, 2] rfl)
/-! fewest keys: a count that falls; a key is left; images: the walk over the tape -/
theorem php : ∀ (m N : Nat) (f : Nat → Int), (∀ c : Nat, c < N → ∃ o, o < m ∧ f o = (c : Int)) → N ≤ m
  | 0, N, f, h => by
    by_cases e : N = 0
    · omega
    · obtain ⟨o, ho, _⟩ := h 0 (by omega)
      omega
  | m + 1, N, f, h => by
    by_cases e : N = 0
    · omega
    · have ih := php m (N - 1) (fun o => if f o = ((N - 1 : Nat) : Int) then f m else f o) (fun c hc => by
        by_cases ec : f m = (c : Int)
        · obtain ⟨o, ho, hf⟩ := h (N - 1) (by omega)
          by_cases eo : o = m
          · subst eo
            omega
          · exact ⟨o, by omega, by show (if f o = ((N - 1 : Nat) : Int) then f m else f o) = _; rw [if_pos hf]; exact ec⟩
        · obtain ⟨o, ho, hf⟩ := h c (by omega)
          by_cases eo : o = m
          · subst eo
            exact absurd hf ec
          · exact ⟨o, by omega, by show (if f o = ((N - 1 : Nat) : Int) then f m else f o) = _; rw [if_neg (by omega)]; exact hf⟩)
      omega
def fv (f : Nat → Int) : Nat → Int
  | 0 => 0
  | m + 1 => fv f m + f m * 8 ^ (6 - m)
def fmz (f : Nat → Int) (m : Int) : Nat := if m < 0 then 0 else ((33554432 - (fv f m.toNat + (f m.toNat + 1) * 8 ^ (6 - m.toNat))) * 8 + (8 - m)).toNat
theorem p8_pos (k : Nat) : (1 : Int) ≤ 8 ^ k := by
  have h : 1 ≤ 8 ^ k := Nat.one_le_pow _ _ (by decide)
  have c : ((8 ^ k : Nat) : Int) = 8 ^ k := by simp
  rw [← c]
  omega
theorem p8_le {k : Nat} (hk : k ≤ 6) : (8 : Int) ^ k ≤ 262144 := by
  have h : 8 ^ k ≤ 8 ^ 6 := Nat.pow_le_pow_right (by decide) hk
  have c : ((8 ^ k : Nat) : Int) = 8 ^ k := by simp
  have d : (8 : Nat) ^ 6 = 262144 := by decide
  rw [← c]
  omega
theorem fv_out {f : Nat → Int} {i : Nat} {v : Int} : ∀ n, n ≤ i → fv (up f i v) n = fv f n
  | 0, _ => rfl
  | n + 1, h => by
    unfold fv
    rw [fv_out n (by omega), up_ne _ _ (show n ≠ i by omega)]
theorem fv_le {f : Nat → Int} : ∀ n : Nat, n ≤ 7 → (∀ i : Nat, i < n → f i ≤ 6) → fv f n ≤ n * 1572864
  | 0, _, _ => by show (0 : Int) ≤ _; omega
  | n + 1, hn, h => by
    have ih := fv_le n (by omega) (fun i hi => h i (by omega))
    have h6 := h n (by omega)
    have p1 := p8_pos (6 - n)
    have p2 := p8_le (k := 6 - n) (by omega)
    have m1 := Int.mul_le_mul_of_nonneg_right h6 (show (0 : Int) ≤ 8 ^ (6 - n) by omega)
    unfold fv
    omega
theorem fm_fwd {f g : Nat → Int} {m w : Int} (hm : 0 ≤ m ∧ m ≤ 5) (hf : ∀ i : Nat, (i : Int) < m → f i ≤ 6) (hw : f m.toNat + 1 ≤ w ∧ w ≤ 6) (hg : g = up (up f m.toNat w) (m + 1).toNat (-1)) : fmz g (m + 1) < fmz f m := by
  have e1 : (m + 1).toNat = m.toNat + 1 := by omega
  unfold fmz
  rw [if_neg (by omega), if_neg (by omega), hg, e1, up_same]
  have hv : fv (up (up f m.toNat w) (m.toNat + 1) (-1)) (m.toNat + 1) = fv f m.toNat + w * 8 ^ (6 - m.toNat) := by
    rw [fv_out _ (Nat.le_refl _)]
    show fv (up f m.toNat w) m.toNat + up f m.toNat w m.toNat * 8 ^ (6 - m.toNat) = _
    rw [fv_out _ (Nat.le_refl _), up_same]
  rw [hv]
  have hle := fv_le (f := f) m.toNat (by omega) (fun i hi => hf i (by omega))
  have p1 := p8_pos (6 - m.toNat)
  have p2 := p8_le (k := 6 - m.toNat) (by omega)
  have m1 := Int.mul_le_mul_of_nonneg_right hw.1 (show (0 : Int) ≤ 8 ^ (6 - m.toNat) by omega)
  have m2 := Int.mul_le_mul_of_nonneg_right hw.2 (show (0 : Int) ≤ 8 ^ (6 - m.toNat) by omega)
  have z0 : (-1 + 1 : Int) * 8 ^ (6 - (m.toNat + 1)) = 0 := by simp
  rw [z0]
  omega
theorem fm_bwd {f g : Nat → Int} {m w : Int} (hm : 0 ≤ m ∧ m ≤ 5) (hf : ∀ i : Nat, (i : Int) ≤ m → -1 ≤ f i ∧ f i ≤ 5) (hg : g = up f m.toNat w) : fmz g (m - 1) < fmz f m := by
  have hle := fv_le (f := f) m.toNat (by omega) (fun i hi => by have := hf i (by omega); omega)
  have p1 := p8_pos (6 - m.toNat)
  have p2 := p8_le (k := 6 - m.toNat) (by omega)
  have hfm := hf m.toNat (by omega)
  have m2 := Int.mul_le_mul_of_nonneg_right (show f m.toNat + 1 ≤ 6 by omega) (show (0 : Int) ≤ 8 ^ (6 - m.toNat) by omega)
  unfold fmz
  rw [if_neg (show ¬ m < 0 by omega)]
  by_cases e : m = 0
  · rw [if_pos (by omega)]
    omega
  · rw [if_neg (by omega), hg]
    have e1 : m.toNat = (m - 1).toNat + 1 := by omega
    have hv : fv f m.toNat = fv f (m - 1).toNat + f (m - 1).toNat * 8 ^ (6 - (m - 1).toNat) := by
      rw [e1]
      rfl
    have hp : (8 : Int) ^ (6 - (m - 1).toNat) = 8 * 8 ^ (6 - m.toNat) := by
      have e2 : 6 - (m - 1).toNat = (6 - m.toNat) + 1 := by omega
      rw [e2, Int.pow_succ, Int.mul_comm]
    rw [fv_out _ (by omega), up_ne _ _ (by omega)]
    have hd : (f (m - 1).toNat + 1) * 8 ^ (6 - (m - 1).toNat) = f (m - 1).toNat * 8 ^ (6 - (m - 1).toNat) + 8 * 8 ^ (6 - m.toNat) := by
      rw [Int.add_mul, Int.one_mul, hp]
    rw [hd]
    omega
theorem up_up {f : Nat → Int} {i : Nat} {a b : Int} : up (up f i a) i b = up f i b := by
  funext k
  by_cases e : k = i
  · rw [e, up_same, up_same]
  · rw [up_ne _ _ e, up_ne _ _ e, up_ne _ _ e]
/-- keys below w are all in use -/
def used (f : Nat → Int) (m w : Int) : Prop := ∀ c : Nat, (c : Int) < w → ∃ o : Nat, (o : Int) < m ∧ f o = (c : Int)
theorem used_step {f g : Nat → Int} {m w : Int} (hm : 0 ≤ m) (h : used f m w) (hw : ∃ o : Nat, (o : Int) < m ∧ f o = w) (hg : g = up f m.toNat (w + 1)) : used g m (w + 1) := by
  intro c hc
  have key : ∃ o : Nat, (o : Int) < m ∧ f o = (c : Int) := by
    by_cases e : (c : Int) < w
    · exact h c e
    · obtain ⟨o, h1, h2⟩ := hw
      exact ⟨o, h1, by omega⟩
  obtain ⟨o, h1, h2⟩ := key
  exact ⟨o, h1, by rw [hg, up_ne _ _ (by omega)]; exact h2⟩
theorem used_le {f : Nat → Int} {m w : Int} (hm : 0 ≤ m) (hw : 0 ≤ w) (h : used f m w) : w ≤ m := by
  have := php m.toNat w.toNat f (fun c hc => by
    obtain ⟨o, h1, h2⟩ := h c (by omega)
    exact ⟨o, by omega, h2⟩)
  omega
/-- where key k's bytes begin -/
def wlk (t : Nat → Int) (a : Int) : Nat → Int
  | 0 => a
  | k + 1 => wlk t a k + 2 + t (wlk t a k + 1).toNat
def wgd (t : Nat → Int) (a n : Int) (k : Nat) : Prop := (0 ≤ t (wlk t a k).toNat ∧ t (wlk t a k).toNat ≤ 40) ∧ (0 ≤ t (wlk t a k + 1).toNat ∧ t (wlk t a k + 1).toNat ≤ 6) ∧ wlk t a k + 2 + t (wlk t a k + 1).toNat ≤ n ∧ ∀ i : Nat, (i : Int) < t (wlk t a k + 1).toNat → 0 ≤ t (wlk t a k + 2 + i).toNat ∧ t (wlk t a k + 2 + i).toNat ≤ 9
theorem up_id {f : Nat → Int} {i : Nat} : f = up f i (f i) := by
  funext k
  by_cases e : k = i
  · rw [e, up_same]
  · rw [up_ne _ _ e]
theorem kr_fwd {f g : Nat → Int} {m w x : Int} (hm : 0 ≤ m) (h : ∀ i : Nat, (i : Int) ≤ m → f i < x) (hw : w < x) (hx : 0 ≤ x) (hg : g = up (up f m.toNat w) (m + 1).toNat (-1)) : ∀ i : Nat, (i : Int) ≤ m + 1 → g i < x := by
  intro i hi
  rw [hg]
  by_cases e : i = (m + 1).toNat
  · rw [e, up_same]
    omega
  · rw [up_ne _ _ e]
    by_cases e2 : i = m.toNat
    · rw [e2, up_same]
      exact hw
    · rw [up_ne _ _ e2]
      exact h i (by omega)
theorem kr_bwd {f g : Nat → Int} {m w x : Int} (h : ∀ i : Nat, (i : Int) ≤ m → f i < x) (hg : g = up f m.toNat w) (hm : 0 ≤ m) : ∀ i : Nat, (i : Int) ≤ m - 1 → g i < x := by
  intro i hi
  rw [hg, up_ne _ _ (by omega)]
  exact h i (by omega)
theorem ofI {f : Nat → Int} {P : Int → Prop} {k : Int} (hk : 0 ≤ k) (h : ∀ j : Nat, (j : Int) < k → P (f j)) (hn : P (f k.toNat)) : ∀ j : Nat, (j : Int) < k + 1 → P (f j) := by
  intro j hj
  by_cases e : j = k.toNat
  · rw [e]
    exact hn
  · exact h j (by omega)
theorem rowI {t : Nat → Int} {a k : Int} (hk : 0 ≤ k) (h : ∀ j : Nat, (j : Int) < k → 0 ≤ t (a + j).toNat ∧ t (a + j).toNat ≤ 9) (hn : 0 ≤ t (a + k).toNat ∧ t (a + k).toNat ≤ 9) : ∀ j : Nat, (j : Int) < k + 1 → 0 ≤ t (a + j).toNat ∧ t (a + j).toNat ≤ 9 := by
  intro j hj
  by_cases e : (j : Int) = k
  · rw [e]
    exact hn
  · exact h j (by omega)
theorem wgI {t : Nat → Int} {a n k : Int} (hk : 0 ≤ k) (h : ∀ j : Nat, (j : Int) < k → wgd t a n j) (hn : wgd t a n k.toNat) : ∀ j : Nat, (j : Int) < k + 1 → wgd t a n j := by
  intro j hj
  by_cases e : j = k.toNat
  · rw [e]
    exact hn
  · exact h j (by omega)
theorem wlk_s {t : Nat → Int} {a k x y : Int} (hk : 0 ≤ k) (hx : x = wlk t a k.toNat) (hy : y = t (x + 1).toNat) : x + (2 + y) = wlk t a (k + 1).toNat := by
  have e : (k + 1).toNat = k.toNat + 1 := by omega
  rw [e]
  show _ = wlk t a k.toNat + 2 + t (wlk t a k.toNat + 1).toNat
  rw [← hx, ← hy]
  omega
theorem wgd_mk {t : Nat → Int} {a n k x v y : Int} (hx : x = wlk t a k.toNat) (hv : v = t x.toNat) (hy : y = t (x + 1).toNat) (h1 : 0 ≤ v ∧ v ≤ 40) (h2 : 0 ≤ y ∧ y ≤ 6) (h3 : x + 2 + y ≤ n) (h4 : ∀ i : Nat, (i : Int) < y → 0 ≤ t (x + 2 + i).toNat ∧ t (x + 2 + i).toNat ≤ 9) : wgd t a n k.toNat := by
  unfold wgd
  rw [← hx, ← hv, ← hy]
  exact ⟨h1, h2, h3, h4⟩
theorem wgd_at {t : Nat → Int} {a n k x : Int} (h : wgd t a n k.toNat) (hx : x = wlk t a k.toNat) : (0 ≤ t x.toNat ∧ t x.toNat ≤ 40) ∧ (0 ≤ t (x + 1).toNat ∧ t (x + 1).toNat ≤ 6) ∧ x + 2 + t (x + 1).toNat ≤ n ∧ ∀ i : Nat, (i : Int) < t (x + 1).toNat → 0 ≤ t (x + 2 + i).toNat ∧ t (x + 2 + i).toNat ≤ 9 := by
  unfold wgd at h
  rw [← hx] at h
  exact h
theorem dkX12_fits8_0 : dkq cX12_fits8 [(0, .iconst 0, 1), (1, .istore_n 2, 1), (2, .aload_n 0, 1), (3, .getfield 238, 3), (6, .iconst 0, 1), (7, .iconst (-1), 1), (8, .iastore, 1), (9, .iload_n 2, 1), (10, .ifCond .lt 86, 3), (13, .iload_n 2, 1), (14, .aload_n 0, 1), (15, .getfield 122, 3), (18, .aload_n 0, 1), (19, .getfield 48, 3), (22, .iaload, 1), (23, .if_icmp .ge 73, 3)] = true := by decide +kernel
theorem dkX12_fits8_1 : dkq cX12_fits8 [(26, .aload_n 0, 1), (27, .getfield 238, 3), (30, .iload_n 2, 1), (31, .dup2, 1), (32, .iaload, 1), (33, .iconst 1, 1), (34, .iadd, 1), (35, .iastore, 1), (36, .aload_n 0, 1), (37, .getfield 238, 3), (40, .iload_n 2, 1), (41, .iaload, 1), (42, .iload_n 1, 1), (43, .if_icmp .ge 24, 3), (46, .aload_n 0, 1), (47, .iload_n 2, 1)] = true := by decide +kernel
theorem dkX12_fits8_2 : dkq cX12_fits8 [(48, .invokevirtual 609, 3), (51, .ifCond .ne 16, 3), (54, .aload_n 0, 1), (55, .getfield 238, 3), (58, .iload_n 2, 1), (59, .dup2, 1), (60, .iaload, 1), (61, .iconst 1, 1), (62, .iadd, 1), (63, .iastore, 1), (64, .goto (-28), 3), (67, .aload_n 0, 1), (68, .getfield 238, 3), (71, .iload_n 2, 1), (72, .iaload, 1), (73, .iload_n 1, 1)] = true := by decide +kernel
theorem dkX12_fits8_3 : dkq cX12_fits8 [(74, .if_icmp .ge 16, 3), (77, .iinc 2 1, 3), (80, .aload_n 0, 1), (81, .getfield 238, 3), (84, .iload_n 2, 1), (85, .iconst (-1), 1), (86, .iastore, 1), (87, .goto (-78), 3), (90, .iinc 2 (-1), 3), (93, .goto (-84), 3), (96, .iload_n 2, 1), (97, .ifCond .lt 7, 3), (100, .iconst 1, 1), (101, .goto 4, 3), (104, .iconst 0, 1), (105, .ireturn, 1)] = true := by decide +kernel
theorem dkX12_fewest_0 : dkq cX12_fewest [(0, .iload_n 1, 1), (1, .iconst (-1), 1), (2, .if_icmp .eq 24, 3), (5, .iload_n 1, 1), (6, .iconst 0, 1), (7, .aload_n 0, 1), (8, .getfield 122, 3), (11, .aload_n 0, 1), (12, .getfield 48, 3), (15, .iaload, 1), (16, .iconst 1, 1), (17, .isub, 1), (18, .invokestatic 352, 3), (21, .ifCond .ne 5, 3), (24, .iconst (-1), 1), (25, .ireturn, 1)] = true := by decide +kernel
theorem dkX12_fewest_1 : dkq cX12_fewest [(26, .iconst 0, 1), (27, .istore_n 2, 1), (28, .aload_n 0, 1), (29, .iload_n 2, 1), (30, .invokevirtual 612, 3), (33, .ifCond .ne 9, 3), (36, .iinc 2 1, 3), (39, .goto (-11), 3), (42, .iload_n 1, 1), (43, .iconst (-1), 1), (44, .if_icmp .ne 7, 3), (47, .iload_n 2, 1), (48, .goto 9, 3), (51, .aload_n 0, 1), (52, .getfield 238, 3), (55, .iload_n 1, 1)] = true := by decide +kernel
theorem dkX12_fewest_2 : dkq cX12_fewest [(56, .iaload, 1), (57, .ireturn, 1)] = true := by decide +kernel
